/-! A house's name and its two numbers. -/
noncomputable def hsX (sc : wb_X) (h2 : wb_H) (a1 : Int32) : Option wb_H := bif (decide (0 < h2.2.2 16 0 2)) then bif (decide ((h2.2.2 16 0 2 - 1) < 2)) then ((q_Reader_takeInt sc h2 (Int32.ofInt 10)).bind fun r3 => bif (decide ((h2.2.2 16 0 2 - 1) < 2) && wb_in a1 6) then bif (decide (0 < (wb_iu r3.2 49 (h2.2.2 16 0 2 - 1) (a1).toNatClampNeg r3.1).2.2 16 0 2)) then bif (decide (((wb_iu r3.2 49 (h2.2.2 16 0 2 - 1) (a1).toNatClampNeg r3.1).2.2 16 0 2 - 1) < 2)) then ((q_Reader_takeInt sc (wb_iu r3.2 49 (h2.2.2 16 0 2 - 1) (a1).toNatClampNeg r3.1) (Int32.ofInt 6)).bind fun r4 => bif (decide (((wb_iu r3.2 49 (h2.2.2 16 0 2 - 1) (a1).toNatClampNeg r3.1).2.2 16 0 2 - 1) < 2) && wb_in a1 6) then some (wb_iu r4.2 50 ((wb_iu r3.2 49 (h2.2.2 16 0 2 - 1) (a1).toNatClampNeg r3.1).2.2 16 0 2 - 1) (a1).toNatClampNeg r4.1) else none) else none else none else none) else none else none
noncomputable def finH (sc : wb_X) (h3 : wb_H) (v2 : Int32) : Option wb_H := bif (decide ((h3.1 21 0 13) ≤ (Int32.ofInt 0))) then bif (wb_in (h3.1 21 0 19) 2) then bif (wb_in v2 403) then bif (wb_in (h3.1 73 0 ((h3.1 21 0 19)).toNatClampNeg) 6) then bif (wb_in ((wb_lu h3 72 0 ((h3.1 73 0 ((h3.1 21 0 19)).toNatClampNeg)).toNatClampNeg (h3.2.1 70 0 (v2).toNatClampNeg)).1 21 0 19) 2) then bif (wb_in ((wb_lu h3 72 0 ((h3.1 73 0 ((h3.1 21 0 19)).toNatClampNeg)).toNatClampNeg (h3.2.1 70 0 (v2).toNatClampNeg)).1 21 0 19) 2) then (q_M_tellHouse_L125 sc (wb_iu (wb_lu h3 72 0 ((h3.1 73 0 ((h3.1 21 0 19)).toNatClampNeg)).toNatClampNeg (h3.2.1 70 0 (v2).toNatClampNeg)) 73 0 (((wb_lu h3 72 0 ((h3.1 73 0 ((h3.1 21 0 19)).toNatClampNeg)).toNatClampNeg (h3.2.1 70 0 (v2).toNatClampNeg)).1 21 0 19)).toNatClampNeg (((wb_lu h3 72 0 ((h3.1 73 0 ((h3.1 21 0 19)).toNatClampNeg)).toNatClampNeg (h3.2.1 70 0 (v2).toNatClampNeg)).1 73 0 (((wb_lu h3 72 0 ((h3.1 73 0 ((h3.1 21 0 19)).toNatClampNeg)).toNatClampNeg (h3.2.1 70 0 (v2).toNatClampNeg)).1 21 0 19)).toNatClampNeg) + (Int32.ofInt 1))) v2) else none else none else none else none else none else some h3
section
variable {sc : wb_X} {q s : Nat} {kd pl : Nat → Nat} {vl : Nat → Int} {w : Nat}
theorem L53_e (h : wb_H) (v1 v2 : Int32) : q_M_tellHouse_L53 sc h v1 v2 = ((q_M_bounded sc h (Int32.ofInt 0) (Int32.ofInt 10)).bind fun r1 => bif (wb_in v1 12) then ((q_M_bounded sc (wb_iu r1.2 74 0 (v1).toNatClampNeg r1.1) (Int32.ofInt 0) (Int32.ofInt 6)).bind fun r2 => bif (wb_in v1 12) then ((q_M_tellHabit sc (wb_iu r2.2 75 0 (v1).toNatClampNeg r2.1) v1).bind fun h3 => finH sc h3 v2) else none) else none) := q_M_tellHouse_L53_eq sc h v1 v2
theorem finH_live {m : wb_H} {n t : Nat} (h13 : m.1 21 0 13 = nN 0) (h19 : m.1 21 0 19 = nN s) (hs : s < 2) (h73 : m.1 73 0 s = nN n) (hn : n < 6) (ht : t < 403) : finH sc m (nN t) = some (wb_iu (wb_lu m 72 0 n (m.2.1 70 0 t)) 73 0 s (nN (n + 1))) := by
  unfold finH
  simp (disch := omega) only [L_0, L_1, L_2, L_3, L_4, L_5, L_6, L_7, L_8, L_9, L_10, L_11, L_12, L_13, L_14, L_15, L_16, L_17, L_18, L_19, L_20, L_21, L_22, L_23, L_24, L_25, L_26, L_27, L_28, L_29, L_30, L_31, L_32, L_33, L_34, L_35, L_40, L_41, L_42, L_43, L_44, L_45, L_47, L_48, L_50, L_53, L_57, L_59, L_60, L_61, L_63, L_64, L_97, L_100, L_101, L_102, L_103, L_122, L_130, L_216, L_255, L_364, L_400, L_402, L_420, L_728, L_768, L_999, L_1000, L_1093, L_1872, L_2000, L_9999, L_12345, L_252645135, L_858993459, L_1103515245, L_1431655765, Lm_1, Lm_2, Lm_8, N_zero, N_cast, N_add, N_mul, N_sub, N_addM, N_lt_tp, N_lt_fp, N_le_tp, N_le_fp, N_eq_tp, N_eq_fp, MN_ltp, MN_lep, NM_ltp, NM_lep, NM_eqp, MN_eqp, MM_lt_tp, MM_lt_fp, MM_le_tp, MM_le_fp, MM_eq_tp, MM_eq_fp, N_cl, N_in_t, N_in_f, M_in, N_div, N_rem, N_nb0, N_nb1, cond_true, cond_false, Bool.not_true, Bool.not_false, Bool.and_true, Bool.true_and, Bool.and_false, Bool.false_and, decide_true, decide_false, Option.bind_some, Option.bind_none, h13, h19, h73, wb_lu_1, q_M_tellHouse_L125_eq]
theorem finH_dead {f e : Nat} {m : wb_H} (D : DdM f e m) (v : Int32) : finH sc m v = some m := by
  obtain ⟨d1, d2, d3, d4⟩ := D
  unfold finH
  simp (disch := omega) only [L_0, L_1, L_2, L_3, L_4, L_5, L_6, L_7, L_8, L_9, L_10, L_11, L_12, L_13, L_14, L_15, L_16, L_17, L_18, L_19, L_20, L_21, L_22, L_23, L_24, L_25, L_26, L_27, L_28, L_29, L_30, L_31, L_32, L_33, L_34, L_35, L_40, L_41, L_42, L_43, L_44, L_45, L_47, L_48, L_50, L_53, L_57, L_59, L_60, L_61, L_63, L_64, L_97, L_100, L_101, L_102, L_103, L_122, L_130, L_216, L_255, L_364, L_400, L_402, L_420, L_728, L_768, L_999, L_1000, L_1093, L_1872, L_2000, L_9999, L_12345, L_252645135, L_858993459, L_1103515245, L_1431655765, Lm_1, Lm_2, Lm_8, N_zero, N_cast, N_add, N_mul, N_sub, N_addM, N_lt_tp, N_lt_fp, N_le_tp, N_le_fp, N_eq_tp, N_eq_fp, MN_ltp, MN_lep, NM_ltp, NM_lep, NM_eqp, MN_eqp, MM_lt_tp, MM_lt_fp, MM_le_tp, MM_le_fp, MM_eq_tp, MM_eq_fp, N_cl, N_in_t, N_in_f, M_in, N_div, N_rem, N_nb0, N_nb1, cond_true, cond_false, Bool.not_true, Bool.not_false, Bool.and_true, Bool.true_and, Bool.and_false, Bool.false_and, decide_true, decide_false, Option.bind_some, Option.bind_none, d3]
theorem M_named {m : wb_H} {n t : Nat} (h19 : m.1 21 0 19 = nN s) (hs : s < 2) (h73 : m.1 73 0 s = nN n) (hn : n ≤ 6) (ht : t < 403) : q_M_named sc m (nN t) = some (fnX (m.2.1 72 0) (m.2.1 70 0 t) n 0, m) := by
  have key : ∀ r j, j + r = n → q_M_named_L2 sc m (nN t) (nN j) = some (fnX (m.2.1 72 0) (m.2.1 70 0 t) r j, m) := by
    intro r
    induction r with
    | zero =>
      intro j hj
      rw [Nat.add_zero] at hj
      subst hj
      rw [q_M_named_L2_eq, fnX]
      simp (disch := omega) only [L_0, L_1, L_2, L_3, L_4, L_5, L_6, L_7, L_8, L_9, L_10, L_11, L_12, L_13, L_14, L_15, L_16, L_17, L_18, L_19, L_20, L_21, L_22, L_23, L_24, L_25, L_26, L_27, L_28, L_29, L_30, L_31, L_32, L_33, L_34, L_35, L_40, L_41, L_42, L_43, L_44, L_45, L_47, L_48, L_50, L_53, L_57, L_59, L_60, L_61, L_63, L_64, L_97, L_100, L_101, L_102, L_103, L_122, L_130, L_216, L_255, L_364, L_400, L_402, L_420, L_728, L_768, L_999, L_1000, L_1093, L_1872, L_2000, L_9999, L_12345, L_252645135, L_858993459, L_1103515245, L_1431655765, Lm_1, Lm_2, Lm_8, N_zero, N_cast, N_add, N_mul, N_sub, N_addM, N_lt_tp, N_lt_fp, N_le_tp, N_le_fp, N_eq_tp, N_eq_fp, MN_ltp, MN_lep, NM_ltp, NM_lep, NM_eqp, MN_eqp, MM_lt_tp, MM_lt_fp, MM_le_tp, MM_le_fp, MM_eq_tp, MM_eq_fp, N_cl, N_in_t, N_in_f, M_in, N_div, N_rem, N_nb0, N_nb1, cond_true, cond_false, Bool.not_true, Bool.not_false, Bool.and_true, Bool.true_and, Bool.and_false, Bool.false_and, decide_true, decide_false, Option.bind_some, Option.bind_none, h19, h73]
    | succ r ih =>
      intro j hj
      rw [q_M_named_L2_eq, fnX]
      by_cases z : m.2.1 72 0 j = m.2.1 70 0 t
      · rw [if_pos z]
        simp (disch := omega) only [L_0, L_1, L_2, L_3, L_4, L_5, L_6, L_7, L_8, L_9, L_10, L_11, L_12, L_13, L_14, L_15, L_16, L_17, L_18, L_19, L_20, L_21, L_22, L_23, L_24, L_25, L_26, L_27, L_28, L_29, L_30, L_31, L_32, L_33, L_34, L_35, L_40, L_41, L_42, L_43, L_44, L_45, L_47, L_48, L_50, L_53, L_57, L_59, L_60, L_61, L_63, L_64, L_97, L_100, L_101, L_102, L_103, L_122, L_130, L_216, L_255, L_364, L_400, L_402, L_420, L_728, L_768, L_999, L_1000, L_1093, L_1872, L_2000, L_9999, L_12345, L_252645135, L_858993459, L_1103515245, L_1431655765, Lm_1, Lm_2, Lm_8, N_zero, N_cast, N_add, N_mul, N_sub, N_addM, N_lt_tp, N_lt_fp, N_le_tp, N_le_fp, N_eq_tp, N_eq_fp, MN_ltp, MN_lep, NM_ltp, NM_lep, NM_eqp, MN_eqp, MM_lt_tp, MM_lt_fp, MM_le_tp, MM_le_fp, MM_eq_tp, MM_eq_fp, N_cl, N_in_t, N_in_f, M_in, N_div, N_rem, N_nb0, N_nb1, cond_true, cond_false, Bool.not_true, Bool.not_false, Bool.and_true, Bool.true_and, Bool.and_false, Bool.false_and, decide_true, decide_false, Option.bind_some, Option.bind_none, h19, h73, z, lg_self]
      · rw [if_neg z]
        simp (disch := omega) only [L_0, L_1, L_2, L_3, L_4, L_5, L_6, L_7, L_8, L_9, L_10, L_11, L_12, L_13, L_14, L_15, L_16, L_17, L_18, L_19, L_20, L_21, L_22, L_23, L_24, L_25, L_26, L_27, L_28, L_29, L_30, L_31, L_32, L_33, L_34, L_35, L_40, L_41, L_42, L_43, L_44, L_45, L_47, L_48, L_50, L_53, L_57, L_59, L_60, L_61, L_63, L_64, L_97, L_100, L_101, L_102, L_103, L_122, L_130, L_216, L_255, L_364, L_400, L_402, L_420, L_728, L_768, L_999, L_1000, L_1093, L_1872, L_2000, L_9999, L_12345, L_252645135, L_858993459, L_1103515245, L_1431655765, Lm_1, Lm_2, Lm_8, N_zero, N_cast, N_add, N_mul, N_sub, N_addM, N_lt_tp, N_lt_fp, N_le_tp, N_le_fp, N_eq_tp, N_eq_fp, MN_ltp, MN_lep, NM_ltp, NM_lep, NM_eqp, MN_eqp, MM_lt_tp, MM_lt_fp, MM_le_tp, MM_le_fp, MM_eq_tp, MM_eq_fp, N_cl, N_in_t, N_in_f, M_in, N_div, N_rem, N_nb0, N_nb1, cond_true, cond_false, Bool.not_true, Bool.not_false, Bool.and_true, Bool.true_and, Bool.and_false, Bool.false_and, decide_true, decide_false, Option.bind_some, Option.bind_none, h19, h73, lg_ne z]
        exact ih (j + 1) (by omega)
  rw [q_M_named_eq]
  exact key n 0 (Nat.zero_add _)
theorem hsX_dead {f e n : Nat} {x : wb_H} (D : DS q f e x) (hn : n < 6) : Ok (hsX sc x (nN n)) (DQ q f e x) := by
  have g1 : decide (0 < q + 1) = true := decide_eq_true (by omega)
  have g2 : decide (q < 2) = true := decide_eq_true D.1
  unfold hsX
  simp only [D.2.2.1, g1, g2, Nat.add_sub_cancel, cond_true]
  refine Ok_bind (dq_int D _) ?_
  rintro ⟨v, x1⟩ H1
  simp only at H1 ⊢
  have H2 := dq_iu (t := 49) (k := n) (v := v) H1.2.2 rfl
  have m2 : (wb_iu x1 49 q n v).2.2 16 0 2 = q + 1 := H1.2.2.2.2.1
  simp (disch := omega) only [N_in_t, N_cl, g1, g2, cond_true, cond_false, Bool.not_true, Bool.not_false, Bool.and_true, Bool.true_and, Bool.and_false, Bool.false_and, decide_true, decide_false, Option.bind_some, Option.bind_none, m2, Nat.add_sub_cancel]
  refine Ok_bind (dq_int H2.2.2 _) ?_
  rintro ⟨v2, x3⟩ H3
  simp only at H3 ⊢
  exact Ok_some (DQ_trans H1 (DQ_trans H2 (DQ_trans H3 (dq_iu (t := 50) (k := n) (v := v2) H3.2.2 rfl))))
theorem Lq_int {p z y b mx : Nat} {x0 m0 x m : wb_H} (X0 : FX q x0 x) (M0 : FM s m0 m) (H : Lq q s kd pl vl p w z y b x m) (hm : mx ≤ 9999) : Both (q_Reader_takeInt sc x (nN mx)) (q_M_bounded sc m (nN 0) (nN mx)) (fun r t => Fr LIX x r.2 ∧ Fr LIM m t.2 ∧ ((∃ v w', v ≤ 9999 ∧ r.1 = nN v ∧ t.1 = nN v ∧ (w' = 0 → w = 0 ∧ v ≤ mx) ∧ Lq q s kd pl vl (p + 1) w' z y b r.2 t.2) ∨ Dd q s b x0 m0 r.2 t.2)) := by
  have p4 := (Lq_p H).1
  obtain ⟨h1, h2, h3, h4, h5, h6, h7, h8, h9, h10⟩ := H
  refine Both_w (ls_int h1 (Or.inl h2) hm) ?_
  rintro ⟨rv, x'⟩ ⟨tv, m'⟩ ⟨F, G, h⟩
  simp only at F G h ⊢
  refine ⟨F, G, ?_⟩
  rcases h with ⟨v, w', a1, a2, a3, a4, a5⟩ | h
  · exact Or.inl ⟨v, w', a1, a2, a3, a4, ⟨En_f (FX_fr F rfl) (FM_fr G rfl) h1, a5, PLn_fr F rfl h3, (Fr_i F (by rfl)).trans h4, (Fr_i G (by rfl)).trans h5, (Fr_i G (by rfl)).trans h6, (Fr_i G (by rfl)).trans h7, by omega, h9, by omega⟩⟩
  · exact Or.inr (Dd_mk h1.2.1 (FX_trans X0 (FX_fr F rfl)) (FM_trans M0 (FM_fr G rfl)) h ⟨z, by omega, (Fr_i F (by rfl)).trans h4⟩ (PLn_fr F rfl h3) ((Fr_m F (by rfl)).trans h1.2.2.2.2.1) ((Fr_i G (by rfl)).trans h6))
theorem Lq_hx {p z y b n : Nat} {x m x' m' : wb_H} {L K : List Nat} (F : Fr L x x') (G : Fr K m m') (B : HoB q s n z y b x m x' m') (a : wb_subl L [43, 48, 49, 50, 51, 52] = true) (c : wb_subl K [72, 74, 75, 76, 77, 78, 79] = true) (H : Lq q s kd pl vl p w z y b x m) : Lq q s kd pl vl p w z y b x' m' :=
  Lq_fr (Fr_mono F a) (Fr_mono G c) B.1 B.2.1 rfl rfl H
/-- name told, both numbers told -/
def HouseP (q s : Nat) (kd pl : Nat → Nat) (vl : Nat → Int) (k w n z y b : Nat) (x0 m0 x m : wb_H) : Prop := ∃ p w' u e, k < p ∧ Lq q s kd pl vl p w' z y b x m ∧ HoB q s n z y b x0 m0 x m ∧ (w' = 0 → w = 0 ∧ u ≤ 10 ∧ e ≤ 6) ∧ u ≤ 9999 ∧ e ≤ 9999 ∧ x.1 49 q n = nN u ∧ m.1 74 0 (6 * s + n) = nN u ∧ x.1 50 q n = nN e ∧ m.1 75 0 (6 * s + n) = nN e ∧ x.2.1 48 q n = Int64.ofInt (vl k) ∧ kd k = 1 ∧ okT kd k ∧ x.1 15 q 0 = nN n ∧ m.1 73 0 s = nN n
theorem ls_nums {γ : Type} {KX : wb_H → Option γ} {Q : γ → wb_H → Prop} {k z y b n : Nat} {x0 m0 x m : wb_H} {t : Int32} (hq : q < 2) (hs : s < 2) (hn : n < 6) (A : (∃ p w', k < p ∧ Lq q s kd pl vl p w' z y b x m ∧ HoB q s n z y b x0 m0 x m ∧ (w' = 0 → w = 0) ∧ x.2.1 48 q n = Int64.ofInt (vl k) ∧ kd k = 1 ∧ okT kd k ∧ x.1 15 q 0 = nN n ∧ m.1 73 0 s = nN n ∧ t = nN k) ∨ (Dd q s b x0 m0 x m ∧ x.1 15 q 0 = nN n)) (kk : ∀ x' m', (HouseP q s kd pl vl k w n z y b x0 m0 x' m' ∧ t = nN k) ∨ (Dd q s b x0 m0 x' m' ∧ x'.1 15 q 0 = nN n) → Both (KX x') ((q_M_tellHabit sc m' (nN (6 * s + n))).bind fun h => finH sc h t) Q) : Both ((hsX sc x (nN n)).bind KX) (q_M_tellHouse_L53 sc m (nN (6 * s + n)) t) Q := by
  have g1 : decide (0 < q + 1) = true := decide_eq_true (by omega)
  have g2 : decide (q < 2) = true := decide_eq_true hq
  rw [L53_e]
  rcases A with ⟨p, w', hkp, H, B, hw, c48, k1, ok, c15, c73, et⟩ | ⟨D, c15⟩
  · have m2 := H.1.2.2.2.2.1
    unfold hsX
    simp (disch := omega) only [m2, g1, g2, Nat.add_sub_cancel, cond_true, L_0, L_1, L_2, L_3, L_4, L_5, L_6, L_7, L_8, L_9, L_10, L_11, L_12, L_13, L_14, L_15, L_16, L_17, L_18, L_19, L_20, L_21, L_22, L_23, L_24, L_25, L_26, L_27, L_28, L_29, L_30, L_31, L_32, L_33, L_34, L_35, L_40, L_41, L_42, L_43, L_44, L_45, L_47, L_48, L_50, L_53, L_57, L_59, L_60, L_61, L_63, L_64, L_97, L_100, L_101, L_102, L_103, L_122, L_130, L_216, L_255, L_364, L_400, L_402, L_420, L_728, L_768, L_999, L_1000, L_1093, L_1872, L_2000, L_9999, L_12345, L_252645135, L_858993459, L_1103515245, L_1431655765, Lm_1, Lm_2, Lm_8, Option.bind_assoc, N_in_t, N_cl, cond_true, cond_false, Bool.not_true, Bool.not_false, Bool.and_true, Bool.true_and, Bool.and_false, Bool.false_and, decide_true, decide_false, Option.bind_some, Option.bind_none]
    refine Both_bind (Lq_int B.1 B.2.1 H (by decide)) ?_
    rintro ⟨rv, x1⟩ ⟨tv, m1⟩ ⟨F, G, h⟩
    simp only at F G h ⊢
    have hm1 : (wb_iu x1 49 q n rv).2.2 16 0 2 = q + 1 := by
      rcases h with ⟨v, w2, a1, a2, a3, a4, a5⟩ | h
      · exact a5.1.2.2.2.2.1
      · exact (Dd_m2 h).2
    simp only [hm1, g1, g2, Nat.add_sub_cancel, cond_true, Option.bind_assoc]
    have A2 : (∃ p w2 u, k < p ∧ Lq q s kd pl vl p w2 z y b (wb_iu x1 49 q n rv) (wb_iu m1 74 0 (6 * s + n) tv) ∧ HoB q s n z y b x0 m0 (wb_iu x1 49 q n rv) (wb_iu m1 74 0 (6 * s + n) tv) ∧ (w2 = 0 → w = 0 ∧ u ≤ 10) ∧ u ≤ 9999 ∧ (wb_iu x1 49 q n rv).1 49 q n = nN u ∧ (wb_iu m1 74 0 (6 * s + n) tv).1 74 0 (6 * s + n) = nN u ∧ (wb_iu x1 49 q n rv).2.1 48 q n = Int64.ofInt (vl k) ∧ (wb_iu x1 49 q n rv).1 15 q 0 = nN n ∧ (wb_iu m1 74 0 (6 * s + n) tv).1 73 0 s = nN n) ∨ (Dd q s b x0 m0 (wb_iu x1 49 q n rv) (wb_iu m1 74 0 (6 * s + n) tv) ∧ (wb_iu x1 49 q n rv).1 15 q 0 = nN n) := by
      rcases h with ⟨v, w2, a1, a2, a3, a4, a5⟩ | h
      · have B2 : HoB q s n z y b x1 m1 (wb_iu x1 49 q n rv) (wb_iu m1 74 0 (6 * s + n) tv) := HoB_trans (HoB_x (Or.inr (Or.inl rfl))) (HoB_m (by decide) (by decide) hn)
        refine Or.inl ⟨p + 1, w2, v, by omega, Lq_hx (L := [49]) (K := [74]) (Fr_iu rfl) (Fr_iu rfl) B2 rfl rfl a5, HoB_trans B (HoB_trans (HoB_fr F G rfl rfl) B2), fun e => ⟨hw (a4 e).1, (a4 e).2⟩, a1, by rw [iu_at, a2], by rw [iu_at, a3], (Fr_l F (by rfl)).trans c48, ?_, ?_⟩
        · rw [iu_nt (by decide)]; exact (Fr_i F (by rfl)).trans c15
        · rw [iu_nt (by decide)]; exact (Fr_i G (by rfl)).trans c73
      · obtain ⟨X3, M3, ⟨f3, e3, he3, D31, D32⟩, hb3⟩ := Dd_w (t := 74) (k := 6 * s + n) (v := tv) h (by rfl) (Or.inr (by unfold MSd; omega))
        have H2 := dq_iu (t := 49) (k := n) (v := rv) D31 rfl
        exact Or.inr ⟨⟨FX_trans X3 H2.2.1, M3, ⟨f3, e3, he3, H2.2.2, D32⟩, hb3⟩, by rw [iu_nt (by decide)]; exact (Fr_i F (by rfl)).trans c15⟩
    generalize wb_iu x1 49 q n rv = x2 at *
    generalize wb_iu m1 74 0 (6 * s + n) tv = m2' at *
    clear h F G
    refine Both_bind (P := fun r t => (∃ p w3 u e, k < p ∧ Lq q s kd pl vl p w3 z y b r.2 t.2 ∧ HoB q s n z y b x0 m0 r.2 t.2 ∧ (w3 = 0 → w = 0 ∧ u ≤ 10 ∧ e ≤ 6) ∧ u ≤ 9999 ∧ e ≤ 9999 ∧ r.1 = nN e ∧ t.1 = nN e ∧ r.2.1 49 q n = nN u ∧ t.2.1 74 0 (6 * s + n) = nN u ∧ r.2.2.1 48 q n = Int64.ofInt (vl k) ∧ r.2.1 15 q 0 = nN n ∧ t.2.1 73 0 s = nN n) ∨ (Dd q s b x0 m0 r.2 t.2 ∧ r.2.1 15 q 0 = nN n)) ?_ ?_
    · rcases A2 with ⟨p2, w2, u, hkp2, H2, B2, hw2, hu, d49, d74, d48, d15, d73⟩ | ⟨h, d15⟩
      · refine Both_w (Lq_int B2.1 B2.2.1 H2 (mx := 6) (by decide)) ?_
        rintro ⟨r, x3⟩ ⟨t3, m3⟩ ⟨F, G, (⟨v, w3, a1, a2, a3, a4, a5⟩ | h)⟩
        · exact Or.inl ⟨p2 + 1, w3, u, v, by omega, a5, HoB_trans B2 (HoB_fr F G rfl rfl), fun e => ⟨(hw2 (a4 e).1).1, (hw2 (a4 e).1).2, (a4 e).2⟩, hu, a1, a2, a3, (Fr_i F (by rfl)).trans d49, (Fr_i G (by rfl)).trans d74, (Fr_l F (by rfl)).trans d48, (Fr_i F (by rfl)).trans d15, (Fr_i G (by rfl)).trans d73⟩
        · exact Or.inr ⟨h, (Fr_i F (by rfl)).trans d15⟩
      · obtain ⟨X3, M3, ⟨f3, e3, he3, D31, D32⟩, hb3⟩ := h
        obtain ⟨r, er, h2⟩ := dq_int (sc := sc) D31 (nN 6)
        rw [er, mD_bounded D32]
        exact Both_some (Or.inr ⟨⟨FX_trans X3 h2.2.1, M3, ⟨f3, e3, he3, h2.2.2, D32⟩, hb3⟩, (Fr_i h2.1 (by rfl)).trans d15⟩)
    rintro ⟨rv2, x3⟩ ⟨tv2, m3⟩ h
    simp (disch := omega) only [Option.bind_some] at h ⊢
    refine kk _ _ ?_
    rcases h with ⟨p2, w3, u, e, hkp2, H2, B2, hw2, hu, he, ev, etv, d49, d74, d48, d15, d73⟩ | ⟨h, d15⟩
    · have B3 : HoB q s n z y b x3 m3 (wb_iu x3 50 q n rv2) (wb_iu m3 75 0 (6 * s + n) tv2) := HoB_trans (HoB_x (Or.inr (Or.inr (Or.inl rfl)))) (HoB_m (by decide) (by decide) hn)
      refine Or.inl ⟨⟨p2, w3, u, e, hkp2, Lq_hx (L := [50]) (K := [75]) (Fr_iu rfl) (Fr_iu rfl) B3 rfl rfl H2, HoB_trans B2 B3, hw2, hu, he, ?_, ?_, ?_, ?_, d48, k1, ok, ?_, ?_⟩, et⟩
      · rw [iu_nt (by decide)]; exact d49
      · rw [iu_nt (by decide)]; exact d74
      · rw [iu_at, ev]
      · rw [iu_at, etv]
      · rw [iu_nt (by decide)]; exact d15
      · rw [iu_nt (by decide)]; exact d73
    · obtain ⟨X3, M3, ⟨f3, e3, he3, D31, D32⟩, hb3⟩ := Dd_w (t := 75) (k := 6 * s + n) (v := tv2) h (by rfl) (Or.inr (by unfold MSd; omega))
      have H2 := dq_iu (t := 50) (k := n) (v := rv2) D31 rfl
      exact Or.inr ⟨⟨FX_trans X3 H2.2.1, M3, ⟨f3, e3, he3, H2.2.2, D32⟩, hb3⟩, by rw [iu_nt (by decide)]; exact d15⟩
  · have D' := D
    obtain ⟨X3, M3, ⟨f3, e3, he3, D31, D32⟩, hb3⟩ := D'
    obtain ⟨x2, e2, h2⟩ := hsX_dead (sc := sc) D31 hn
    rw [e2, mD_bounded D32]
    have D4 : Dd q s b x0 m0 x2 m := ⟨FX_trans X3 h2.2.1, M3, ⟨f3, e3, he3, h2.2.2, D32⟩, hb3⟩
    have D5 := Dd_w (t := 74) (k := 6 * s + n) (v := Int32.ofInt 0) D4 (by rfl) (Or.inr (by unfold MSd; omega))
    have D5' := D5
    obtain ⟨-, -, ⟨f5, e5, he5, -, D52⟩, -⟩ := D5'
    simp (disch := omega) only [Option.bind_some, N_in_t, N_cl, cond_true]
    rw [mD_bounded D52]
    simp (disch := omega) only [Option.bind_some, N_in_t, N_cl, cond_true]
    exact kk _ _ (Or.inr ⟨Dd_w (t := 75) (k := 6 * s + n) (v := Int32.ofInt 0) D5 (by rfl) (Or.inr (by unfold MSd; omega)), (Fr_i h2.1 (by rfl)).trans c15⟩)
end
