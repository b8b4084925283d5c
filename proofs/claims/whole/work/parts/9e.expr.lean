/-! An expression, read by both. -/
def PLn (q : Nat) (x : wb_H) : Prop := ∃ n, n ≤ 6 ∧ x.1 15 q 0 = nN n
def Dz (q : Nat) (x : wb_H) : Prop := ∃ z, z ≤ 402 ∧ x.1 13 q 6 = nN z
def LCX : List Nat := [13, 41, 42, 53, 4003, 4004, 4005, 4008, 4009]
def LCM : List Nat := [90, 91, 92, 1011, 1012, 1013, 1014, 1039, 1043]
def CS (q s : Nat) (x m x' m' : wb_H) : Prop := Fr LCX x x' ∧ FX q x x' ∧ Fr LCM m m' ∧ FM s m m'
theorem CS_refl (q s : Nat) (x m : wb_H) : CS q s x m x m := ⟨Fr_refl _ _, FX_refl _ _, Fr_refl _ _, FM_refl _ _⟩
theorem CS_trans {q s : Nat} {x m x1 m1 x2 m2 : wb_H} (a : CS q s x m x1 m1) (b : CS q s x1 m1 x2 m2) : CS q s x m x2 m2 := ⟨Fr_trans a.1 b.1, FX_trans a.2.1 b.2.1, Fr_trans a.2.2.1 b.2.2.1, FM_trans a.2.2.2 b.2.2.2⟩
theorem CS_x {q s : Nat} {x m x1 : wb_H} (a : Fr LCX x x1) (b : FX q x x1) : CS q s x m x1 m := ⟨a, b, Fr_refl _ _, FM_refl _ _⟩
theorem CS_m {q s : Nat} {x m m1 : wb_H} (a : Fr LCM m m1) (b : FM s m m1) : CS q s x m x m1 := ⟨Fr_refl _ _, FX_refl _ _, a, b⟩
def Fin (pb q s : Nat) (kd pl : Nat → Nat) (z0 y0 w : Nat) (x m x' m' : wb_H) : Prop := CS q s x m x' m' ∧ ((∃ p' cs', Live kd pl p' w x' m' ∧ Cd q z0 y0 cs' x' m' ∧ dpt 0 cs' = 1 ∧ z0 + cs'.length ≤ p' ∧ y0 + cs'.length ≤ 420 * s + p' ∧ Kp q z0 x x' ∧ Km y0 m m' ∧ m'.1 21 0 12 = nN 0 ∧ pb ≤ p') ∨ (Dead x' m' ∧ Dz q x'))
theorem Fin_trans {pb pc q s : Nat} {kd pl : Nat → Nat} {z0 y0 w : Nat} {x m x1 m1 x2 m2 : wb_H} (hp : pb ≤ pc) (a : CS q s x m x1 m1) (b : Kp q z0 x x1) (c : Km y0 m m1) (d : Fin pc q s kd pl z0 y0 w x1 m1 x2 m2) : Fin pb q s kd pl z0 y0 w x m x2 m2 := by
  obtain ⟨d1, d2⟩ := d
  refine ⟨CS_trans a d1, ?_⟩
  rcases d2 with ⟨p', cs', e1, e2, e3, e4, e5, e6, e7, e8, e9⟩ | d2
  · exact Or.inl ⟨p', cs', e1, e2, e3, e4, e5, Kp_trans b e6, Km_trans c e7, e8, by omega⟩
  · exact Or.inr d2
theorem Fin_dead {pb q s : Nat} {kd pl : Nat → Nat} {z0 y0 w : Nat} {x m x1 m1 : wb_H} (a : CS q s x m x1 m1) (d : Dead x1 m1) (z : Dz q x1) : Fin pb q s kd pl z0 y0 w x m x1 m1 := ⟨a, Or.inr ⟨d, z⟩⟩
theorem Wt_push {ws : List Nat} {x m : wb_H} {k : Nat} (W : Wt ws x m) (hk : okW k) (ht : bnk k ≠ 0 → tbW ws < bnk k) : Wt (k :: ws) (wb_iu (wb_iu x 53 0 ws.length (nN (kap k))) 16 0 5 (nN (ws.length + 1))) (wb_iu (wb_iu m 92 0 ws.length (nN k)) 21 0 43 (nN (ws.length + 1))) := by
  obtain ⟨w1, w2, w3, w4, w5⟩ := W
  refine ⟨iu_at, iu_at, ⟨?_, WsX_keep (fun j hj => ?_) w3⟩, ⟨?_, WsM_keep (fun j hj => ?_) w4⟩, hk, ht, w5⟩
  · rw [iu_nt (by decide), iu_at]
  · rw [iu_nt (by decide), iu_ne (by omega)]
  · rw [iu_nt (by decide), iu_at]
  · rw [iu_nt (by decide), iu_ne (by omega)]
theorem Dz_fr {q : Nat} {L : List Nat} {x x' : wb_H} (F : Fr L x x') (a : wb_mem 13 L = false) (D : Dz q x) : Dz q x' := by
  obtain ⟨z, hz, e⟩ := D
  exact ⟨z, hz, (Fr_i F (by exact a)).trans e⟩
theorem PLn_fr {q : Nat} {L : List Nat} {x x' : wb_H} (F : Fr L x x') (a : wb_mem 15 L = false) (D : PLn q x) : PLn q x' := by
  obtain ⟨z, hz, e⟩ := D
  exact ⟨z, hz, (Fr_i F (by exact a)).trans e⟩
section
variable {sc : wb_X} {q s : Nat} {kd pl : Nat → Nat} {vl : Nat → Int} {p w : Nat}
theorem xd_L14 {f e : Nat} {x : wb_H} (D : DdX f e x) (a b c v : Int32) : q_Reader_parseSum_L14 sc x a b c v = q_Reader_emitWaiting_L0 sc x (nN 1) := by
  obtain ⟨d1, d2, d3, -⟩ := D
  rw [q_Reader_parseSum_L14_eq, ← X_emitW_L0]
  by_cases z : nN 400 < v
  · simp only [L_0, L_1, L_2, L_3, L_4, L_5, L_6, L_7, L_8, L_9, L_10, L_11, L_12, L_13, L_14, L_15, L_16, L_17, L_18, L_19, L_20, L_21, L_22, L_23, L_24, L_25, L_26, L_27, L_28, L_29, L_30, L_31, L_32, L_33, L_34, L_35, L_40, L_41, L_42, L_43, L_44, L_45, L_47, L_48, L_50, L_53, L_57, L_59, L_60, L_61, L_63, L_64, L_97, L_100, L_101, L_102, L_103, L_122, L_130, L_216, L_255, L_364, L_400, L_402, L_420, L_728, L_768, L_999, L_1000, L_1093, L_1872, L_2000, L_9999, L_12345, L_252645135, L_858993459, L_1103515245, L_1431655765, Lm_1, Lm_2, Lm_8, eq_true z, cond_true, cond_false, Bool.not_true, Bool.not_false, Bool.and_true, Bool.true_and, Bool.and_false, Bool.false_and, decide_true, decide_false, Option.bind_some, Option.bind_none]
    rw [bnd_some]
  · simp (disch := omega) only [L_0, L_1, L_2, L_3, L_4, L_5, L_6, L_7, L_8, L_9, L_10, L_11, L_12, L_13, L_14, L_15, L_16, L_17, L_18, L_19, L_20, L_21, L_22, L_23, L_24, L_25, L_26, L_27, L_28, L_29, L_30, L_31, L_32, L_33, L_34, L_35, L_40, L_41, L_42, L_43, L_44, L_45, L_47, L_48, L_50, L_53, L_57, L_59, L_60, L_61, L_63, L_64, L_97, L_100, L_101, L_102, L_103, L_122, L_130, L_216, L_255, L_364, L_400, L_402, L_420, L_728, L_768, L_999, L_1000, L_1093, L_1872, L_2000, L_9999, L_12345, L_252645135, L_858993459, L_1103515245, L_1431655765, Lm_1, Lm_2, Lm_8, eq_false z, cond_true, cond_false, Bool.not_true, Bool.not_false, Bool.and_true, Bool.true_and, Bool.and_false, Bool.false_and, decide_true, decide_false, Option.bind_some, Option.bind_none, d3, N_eq_fp]
    rw [bnd_some]
theorem xd_end {f e w0 : Nat} {x : wb_H} (D : DdX f e x) (hq : q < 2) (m2 : x.2.2 16 0 2 = q + 1) (z : Dz q x) (n : PLn q x) (h5 : x.1 16 0 5 = nN w0) (hw : w0 ≤ 400) (a b c v : Int32) : Ok (q_Reader_parseSum_L14 sc x a b c v) (fun x' => Fr LCX x x' ∧ FX q x x' ∧ DdX f e x' ∧ Dz q x') := by
  rw [xd_L14 D]
  refine Ok_w (dq_emitW (q := q) (f := f) (e := e) (nN 1) w0 hw x ⟨hq, D, m2, z, n⟩ h5) ?_
  rintro x' ⟨H, F, -⟩
  exact ⟨Fr_mono F rfl, H.2.1, H.2.2.2.1, H.2.2.2.2.2.1⟩
theorem mD_L23 {f e : Nat} {m : wb_H} (D : DdM f e m) (v : Int32) : q_M_expression_L23 sc m v = some m := by
  have ff := mD_fail (sc := sc) D
  have ii := mD_is (sc := sc) D
  rw [q_M_expression_L23_eq, ii]
  simp only [L_0, L_1, L_2, L_3, L_4, L_5, L_6, L_7, L_8, L_9, L_10, L_11, L_12, L_13, L_14, L_15, L_16, L_17, L_18, L_19, L_20, L_21, L_22, L_23, L_24, L_25, L_26, L_27, L_28, L_29, L_30, L_31, L_32, L_33, L_34, L_35, L_40, L_41, L_42, L_43, L_44, L_45, L_47, L_48, L_50, L_53, L_57, L_59, L_60, L_61, L_63, L_64, L_97, L_100, L_101, L_102, L_103, L_122, L_130, L_216, L_255, L_364, L_400, L_402, L_420, L_728, L_768, L_999, L_1000, L_1093, L_1872, L_2000, L_9999, L_12345, L_252645135, L_858993459, L_1103515245, L_1431655765, Lm_1, Lm_2, Lm_8, cond_true, cond_false, Bool.not_true, Bool.not_false, Bool.and_true, Bool.true_and, Bool.and_false, Bool.false_and, decide_true, decide_false, Option.bind_some, Option.bind_none]
  rw [q_M_unit_eq, ii]
  obtain ⟨d1, d2, d3, d4⟩ := D
  simp (disch := omega) only [L_0, L_1, L_2, L_3, L_4, L_5, L_6, L_7, L_8, L_9, L_10, L_11, L_12, L_13, L_14, L_15, L_16, L_17, L_18, L_19, L_20, L_21, L_22, L_23, L_24, L_25, L_26, L_27, L_28, L_29, L_30, L_31, L_32, L_33, L_34, L_35, L_40, L_41, L_42, L_43, L_44, L_45, L_47, L_48, L_50, L_53, L_57, L_59, L_60, L_61, L_63, L_64, L_97, L_100, L_101, L_102, L_103, L_122, L_130, L_216, L_255, L_364, L_400, L_402, L_420, L_728, L_768, L_999, L_1000, L_1093, L_1872, L_2000, L_9999, L_12345, L_252645135, L_858993459, L_1103515245, L_1431655765, Lm_1, Lm_2, Lm_8, N_zero, N_cast, N_add, N_mul, N_sub, N_addM, N_lt_tp, N_lt_fp, N_le_tp, N_le_fp, N_eq_tp, N_eq_fp, MN_ltp, MN_lep, NM_ltp, NM_lep, NM_eqp, MN_eqp, MM_lt_tp, MM_lt_fp, MM_le_tp, MM_le_fp, MM_eq_tp, MM_eq_fp, N_cl, N_in_t, N_in_f, M_in, N_div, N_rem, N_nb0, N_nb1, cond_true, cond_false, Bool.not_true, Bool.not_false, Bool.and_true, Bool.true_and, Bool.and_false, Bool.false_and, decide_true, decide_false, Option.bind_some, Option.bind_none, d3, ff]
theorem mD_L96 {f e : Nat} {m : wb_H} (D : DdM f e m) (v : Int32) : q_M_expression_L96 sc m v = q_M_comesOut_L0 sc m (nN 0) := by
  rw [q_M_expression_L96_eq, mD_is D]
  simp (disch := omega) only [L_0, L_1, L_2, L_3, L_4, L_5, L_6, L_7, L_8, L_9, L_10, L_11, L_12, L_13, L_14, L_15, L_16, L_17, L_18, L_19, L_20, L_21, L_22, L_23, L_24, L_25, L_26, L_27, L_28, L_29, L_30, L_31, L_32, L_33, L_34, L_35, L_40, L_41, L_42, L_43, L_44, L_45, L_47, L_48, L_50, L_53, L_57, L_59, L_60, L_61, L_63, L_64, L_97, L_100, L_101, L_102, L_103, L_122, L_130, L_216, L_255, L_364, L_400, L_402, L_420, L_728, L_768, L_999, L_1000, L_1093, L_1872, L_2000, L_9999, L_12345, L_252645135, L_858993459, L_1103515245, L_1431655765, Lm_1, Lm_2, Lm_8, N_zero, N_cast, N_add, N_mul, N_sub, N_addM, N_lt_tp, N_lt_fp, N_le_tp, N_le_fp, N_eq_tp, N_eq_fp, MN_ltp, MN_lep, NM_ltp, NM_lep, NM_eqp, MN_eqp, MM_lt_tp, MM_lt_fp, MM_le_tp, MM_le_fp, MM_eq_tp, MM_eq_fp, N_cl, N_in_t, N_in_f, M_in, N_div, N_rem, N_nb0, N_nb1, cond_true, cond_false, Bool.not_true, Bool.not_false, Bool.and_true, Bool.true_and, Bool.and_false, Bool.false_and, decide_true, decide_false, Option.bind_some, Option.bind_none]
  rw [q_M_expression_L145_eq]
  simp (disch := omega) only [L_0, L_1, L_2, L_3, L_4, L_5, L_6, L_7, L_8, L_9, L_10, L_11, L_12, L_13, L_14, L_15, L_16, L_17, L_18, L_19, L_20, L_21, L_22, L_23, L_24, L_25, L_26, L_27, L_28, L_29, L_30, L_31, L_32, L_33, L_34, L_35, L_40, L_41, L_42, L_43, L_44, L_45, L_47, L_48, L_50, L_53, L_57, L_59, L_60, L_61, L_63, L_64, L_97, L_100, L_101, L_102, L_103, L_122, L_130, L_216, L_255, L_364, L_400, L_402, L_420, L_728, L_768, L_999, L_1000, L_1093, L_1872, L_2000, L_9999, L_12345, L_252645135, L_858993459, L_1103515245, L_1431655765, Lm_1, Lm_2, Lm_8, N_zero, N_cast, N_add, N_mul, N_sub, N_addM, N_lt_tp, N_lt_fp, N_le_tp, N_le_fp, N_eq_tp, N_eq_fp, MN_ltp, MN_lep, NM_ltp, NM_lep, NM_eqp, MN_eqp, MM_lt_tp, MM_lt_fp, MM_le_tp, MM_le_fp, MM_eq_tp, MM_eq_fp, N_cl, N_in_t, N_in_f, M_in, N_div, N_rem, N_nb0, N_nb1, cond_true, cond_false, Bool.not_true, Bool.not_false, Bool.and_true, Bool.true_and, Bool.and_false, Bool.false_and, decide_true, decide_false, Option.bind_some, Option.bind_none, mD_is D]
  rw [q_M_expression_L186_eq]
  simp (disch := omega) only [L_0, L_1, L_2, L_3, L_4, L_5, L_6, L_7, L_8, L_9, L_10, L_11, L_12, L_13, L_14, L_15, L_16, L_17, L_18, L_19, L_20, L_21, L_22, L_23, L_24, L_25, L_26, L_27, L_28, L_29, L_30, L_31, L_32, L_33, L_34, L_35, L_40, L_41, L_42, L_43, L_44, L_45, L_47, L_48, L_50, L_53, L_57, L_59, L_60, L_61, L_63, L_64, L_97, L_100, L_101, L_102, L_103, L_122, L_130, L_216, L_255, L_364, L_400, L_402, L_420, L_728, L_768, L_999, L_1000, L_1093, L_1872, L_2000, L_9999, L_12345, L_252645135, L_858993459, L_1103515245, L_1431655765, Lm_1, Lm_2, Lm_8, N_zero, N_cast, N_add, N_mul, N_sub, N_addM, N_lt_tp, N_lt_fp, N_le_tp, N_le_fp, N_eq_tp, N_eq_fp, MN_ltp, MN_lep, NM_ltp, NM_lep, NM_eqp, MN_eqp, MM_lt_tp, MM_lt_fp, MM_le_tp, MM_le_fp, MM_eq_tp, MM_eq_fp, N_cl, N_in_t, N_in_f, M_in, N_div, N_rem, N_nb0, N_nb1, cond_true, cond_false, Bool.not_true, Bool.not_false, Bool.and_true, Bool.true_and, Bool.and_false, Bool.false_and, decide_true, decide_false, Option.bind_some, Option.bind_none, mD_fail D, M_comes_L0]
  rw [bnd_some]
  by_cases z : m.1 21 0 12 ≤ v
  · simp only [eq_true z, cond_true, cond_false, Bool.not_true, Bool.not_false, Bool.and_true, Bool.true_and, Bool.and_false, Bool.false_and, decide_true, decide_false, Option.bind_some, Option.bind_none]
  · simp only [eq_false z, cond_true, cond_false, Bool.not_true, Bool.not_false, Bool.and_true, Bool.true_and, Bool.and_false, Bool.false_and, decide_true, decide_false, Option.bind_some, Option.bind_none]
theorem mD_go {f e : Nat} {m : wb_H} (D : DdM f e m) : Ok (q_M_goesOn sc m) (fun m' => Fr [1011] m m' ∧ DdM f e m') := by
  rw [q_M_goesOn_eq, mD_fail D]
  refine Ok_c (fun _ => ?_) (fun _ => ?_)
  · have F : Fr [1011] m (wb_iu m 21 0 11 (m.1 21 0 11 + Int32.ofInt 1)) := Fr_iu rfl
    exact Ok_some ⟨F, DdM_fr F rfl rfl D⟩
  · exact Ok_some ⟨Fr_refl _ _, D⟩
theorem kap_u1 : ∀ k, k < 42 → okB k = true → k ≠ 2 → kap k ≠ 101 := by decide +kernel
theorem kap_u2 : ∀ k, k < 42 → 35 ≤ k → kap k = k - 20 := by decide +kernel
theorem kap_u3 : ∀ k, k < 35 → okB k = true → kap k < 15 ∨ 21 < kap k := by decide +kernel
theorem kap_u4 : ∀ k, k < 42 → okB k = true → k ≠ 6 → kap k ≠ 40 := by decide +kernel
/-- a unit -/
theorem ls_unit {z0 y0 : Nat} {cs : List (Nat × Int32)} {x m : wb_H} (E : En q s kd pl vl x m) (H : Live kd pl p w x m) (C : Cd q z0 y0 cs x m) (h12 : dpt 0 cs + 1 ≤ 20) (l1 : z0 + cs.length ≤ p) (l2 : 420 * s ≤ y0) (l3 : y0 + cs.length ≤ 420 * s + p) : Both (q_Reader_parseUnit sc x) (q_M_unit sc m) (fun x' m' => Fr [13, 41, 42, 4003, 4004, 4008, 4009] x x' ∧ FX q x x' ∧ Fr [90, 91, 1011, 1013, 1014, 1039] m m' ∧ FM s m m' ∧ ((∃ c, c.1 < 2 ∧ Live kd pl (p + 1) w x' m' ∧ Cd q z0 y0 (cs ++ [c]) x' m' ∧ Kp q z0 x x' ∧ Km y0 m m') ∨ (Dead x' m' ∧ Dz q x'))) := by
  have g1 : decide (0 < q + 1) = true := decide_eq_true (by omega)
  have g2 : decide (q < 2) = true := decide_eq_true E.2.1
  have m2 := E.2.2.2.2.1
  have H' := H
  obtain ⟨y, hy, o, w5, y2, lx, lm⟩ := H'
  have p4 := o.1
  have lx1 := lx.1
  have lx2 := lx.2.1
  have lm1 := lm.1
  have lm2 := lm.2.1
  have dz : Dz q x := ⟨_, by omega, C.1⟩
  obtain ⟨kb1, kb2⟩ := okB_of (E.1.1 p)
  have kl := kap_le (E.1.1 p)
  have hm67 := (E.2.2.2.2.2.1 p o).1
  rw [q_Reader_parseUnit_eq, q_M_unit_eq]
  simp only [L_0, L_1, L_2, L_3, L_4, L_5, L_6, L_7, L_8, L_9, L_10, L_11, L_12, L_13, L_14, L_15, L_16, L_17, L_18, L_19, L_20, L_21, L_22, L_23, L_24, L_25, L_26, L_27, L_28, L_29, L_30, L_31, L_32, L_33, L_34, L_35, L_40, L_41, L_42, L_43, L_44, L_45, L_47, L_48, L_50, L_53, L_57, L_59, L_60, L_61, L_63, L_64, L_97, L_100, L_101, L_102, L_103, L_122, L_130, L_216, L_255, L_364, L_400, L_402, L_420, L_728, L_768, L_999, L_1000, L_1093, L_1872, L_2000, L_9999, L_12345, L_252645135, L_858993459, L_1103515245, L_1431655765, Lm_1, Lm_2, Lm_8]
  rw [M_is E.1 E.2.2.2.2.2.1 o lm (show 2 ≤ 100 by decide)]
  have fin : ∀ (k : Nat) (v : Int32) (a : Int32), k ≤ 1 → (k = 1 → ∃ i, i < 7 ∧ v = nN i) → a = nN (kap (kd p)) → kd p ≠ 0 → kd p ≠ 3 → Both ((q_Laws_emit sc x q (nN (xo k)) v).bind fun r => q_Reader_take sc r.2 a) ((q_M_emit sc m (nN k) v).bind fun h => q_M_goesOn sc h) (fun x' m' => Fr [13, 41, 42, 4003, 4004, 4008, 4009] x x' ∧ FX q x x' ∧ Fr [90, 91, 1011, 1013, 1014, 1039] m m' ∧ FM s m m' ∧ ((∃ c, c.1 < 2 ∧ Live kd pl (p + 1) w x' m' ∧ Cd q z0 y0 (cs ++ [c]) x' m' ∧ Kp q z0 x x' ∧ Km y0 m m') ∨ (Dead x' m' ∧ Dz q x'))) := by
    intro k v a hk hv ha k0 k3
    subst ha
    refine Both_bind (ls_emit E.2.1 E.2.2.1 C (by omega) l2 (by omega) (by omega) hv (fun _ => h12) (fun e => by omega)) ?_
    rintro ⟨rv, x1⟩ m1 ⟨F1, X1, G1, M1, K1, J1, C1⟩
    simp only at F1 X1 C1 K1 ⊢
    have E1 := En_f X1 M1 E
    have H1 := Live_fr F1 G1 rfl rfl H
    refine Both_w (ls_go E1 H1 k0 k3) ?_
    rintro x2 m3 ⟨F2, G2, h⟩
    refine ⟨Fr_trans (Fr_mono F1 rfl) (Fr_mono F2 rfl), FX_trans X1 (FX_fr F2 rfl), Fr_trans (Fr_mono G1 rfl) (Fr_mono G2 rfl), FM_trans M1 (FM_fr G2 rfl), ?_⟩
    rcases h with h | h
    · exact Or.inl ⟨(k, v), by show k < 2; omega, h, Cd_fr F2 G2 rfl rfl C1, Kp_trans K1 (Kp_fr F2 rfl), Km_trans J1 (Km_fr G2 rfl)⟩
    · refine Or.inr ⟨h, z0 + (cs ++ [(k, v)]).length, ?_, (Fr_i F2 (by rfl)).trans C1.1⟩
      rw [List.length_append]
      show z0 + (cs.length + 1) ≤ 402
      omega
  have bad : Both (q_Reader_fail sc x (nN 1)) (q_M_fail sc m (nN 1)) (fun x' m' => Fr [13, 41, 42, 4003, 4004, 4008, 4009] x x' ∧ FX q x x' ∧ Fr [90, 91, 1011, 1013, 1014, 1039] m m' ∧ FM s m m' ∧ ((∃ c, c.1 < 2 ∧ Live kd pl (p + 1) w x' m' ∧ Cd q z0 y0 (cs ++ [c]) x' m' ∧ Kp q z0 x x' ∧ Km y0 m m') ∨ (Dead x' m' ∧ Dz q x'))) := by
    refine Both_w (ls_fail E H (n := 1) (by decide) (by decide)) ?_
    rintro x1 m1 ⟨F, G, D⟩
    exact ⟨Fr_mono F rfl, FX_fr F rfl, Fr_mono G rfl, FM_fr G rfl, Or.inr ⟨D, Dz_fr F rfl dz⟩⟩
  by_cases z : kd p = 2
  · rw [if_pos z]
    have k101 : nN (kap (kd p)) = nN 101 := by rw [z]; rfl
    obtain ⟨vn0, vn9⟩ := E.1.2.2.2 p z
    obtain ⟨v, ev⟩ : ∃ v : Nat, vl p = (v : Int) := ⟨(vl p).toNat, by omega⟩
    have xv := (E.2.2.2.1.1 p o).2.2 (Or.inr (Or.inl z))
    have mv := (E.2.2.2.2.2.1 p o).2.2.1 z
    rw [ev] at xv mv
    have mv' : m.1 69 0 p = nN v := mv
    simp (disch := omega) only [L_0, L_1, L_2, L_3, L_4, L_5, L_6, L_7, L_8, L_9, L_10, L_11, L_12, L_13, L_14, L_15, L_16, L_17, L_18, L_19, L_20, L_21, L_22, L_23, L_24, L_25, L_26, L_27, L_28, L_29, L_30, L_31, L_32, L_33, L_34, L_35, L_40, L_41, L_42, L_43, L_44, L_45, L_47, L_48, L_50, L_53, L_57, L_59, L_60, L_61, L_63, L_64, L_97, L_100, L_101, L_102, L_103, L_122, L_130, L_216, L_255, L_364, L_400, L_402, L_420, L_728, L_768, L_999, L_1000, L_1093, L_1872, L_2000, L_9999, L_12345, L_252645135, L_858993459, L_1103515245, L_1431655765, Lm_1, Lm_2, Lm_8, N_zero, N_cast, N_add, N_mul, N_sub, N_addM, N_lt_tp, N_lt_fp, N_le_tp, N_le_fp, N_eq_tp, N_eq_fp, MN_ltp, MN_lep, NM_ltp, NM_lep, NM_eqp, MN_eqp, MM_lt_tp, MM_lt_fp, MM_le_tp, MM_le_fp, MM_eq_tp, MM_eq_fp, N_cl, N_in_t, N_in_f, M_in, N_div, N_rem, N_nb0, N_nb1, cond_true, cond_false, Bool.not_true, Bool.not_false, Bool.and_true, Bool.true_and, Bool.and_false, Bool.false_and, decide_true, decide_false, Option.bind_some, Option.bind_none, lx2, k101, m2, g1, g2, Nat.add_sub_cancel, lx1, lm1, xv, int_val v, mv', bnd_some]
    exact fin 0 (nN v) (nN 101) (by decide) (fun e => absurd e (by decide)) k101.symm (by omega) (by omega)
  · rw [if_neg z]
    have n101 := kap_u1 _ kb2 kb1 z
    by_cases z2 : 35 ≤ kd p
    · have v3 := kap_u2 _ kb2 z2
      have e1 : kap (kd p) - 15 = kd p - 35 := by omega
      simp (disch := omega) only [L_0, L_1, L_2, L_3, L_4, L_5, L_6, L_7, L_8, L_9, L_10, L_11, L_12, L_13, L_14, L_15, L_16, L_17, L_18, L_19, L_20, L_21, L_22, L_23, L_24, L_25, L_26, L_27, L_28, L_29, L_30, L_31, L_32, L_33, L_34, L_35, L_40, L_41, L_42, L_43, L_44, L_45, L_47, L_48, L_50, L_53, L_57, L_59, L_60, L_61, L_63, L_64, L_97, L_100, L_101, L_102, L_103, L_122, L_130, L_216, L_255, L_364, L_400, L_402, L_420, L_728, L_768, L_999, L_1000, L_1093, L_1872, L_2000, L_9999, L_12345, L_252645135, L_858993459, L_1103515245, L_1431655765, Lm_1, Lm_2, Lm_8, N_zero, N_cast, N_add, N_mul, N_sub, N_addM, N_lt_tp, N_lt_fp, N_le_tp, N_le_fp, N_eq_tp, N_eq_fp, MN_ltp, MN_lep, NM_ltp, NM_lep, NM_eqp, MN_eqp, MM_lt_tp, MM_lt_fp, MM_le_tp, MM_le_fp, MM_eq_tp, MM_eq_fp, N_cl, N_in_t, N_in_f, M_in, N_div, N_rem, N_nb0, N_nb1, cond_true, cond_false, Bool.not_true, Bool.not_false, Bool.and_true, Bool.true_and, Bool.and_false, Bool.false_and, decide_true, decide_false, Option.bind_some, Option.bind_none, lx2, m2, g1, g2, Nat.add_sub_cancel, lm1, lm2, hm67, bnd_some, e1]
      have t1 := fin 1 (nN (kd p - 35)) (nN (kap (kd p))) (by decide) (fun _ => ⟨kd p - 35, by omega, rfl⟩) rfl (by omega) (by omega)
      have h6 := C.1
      rw [show xo 1 = 1 from rfl, X_emit E.2.1 (by omega) h6] at t1
      rw [X_emit E.2.1 (by omega) h6]
      simp only [Option.bind_some] at t1 ⊢
      rw [iu_nt (show 16 ≠ 13 by decide), iu_nt (show 16 ≠ 42 by decide), iu_nt (show 16 ≠ 41 by decide), lx2]
      exact t1
    · have v3 := kap_u3 _ (by omega) kb1
      rcases v3 with v3 | v3
      · simp (disch := omega) only [L_0, L_1, L_2, L_3, L_4, L_5, L_6, L_7, L_8, L_9, L_10, L_11, L_12, L_13, L_14, L_15, L_16, L_17, L_18, L_19, L_20, L_21, L_22, L_23, L_24, L_25, L_26, L_27, L_28, L_29, L_30, L_31, L_32, L_33, L_34, L_35, L_40, L_41, L_42, L_43, L_44, L_45, L_47, L_48, L_50, L_53, L_57, L_59, L_60, L_61, L_63, L_64, L_97, L_100, L_101, L_102, L_103, L_122, L_130, L_216, L_255, L_364, L_400, L_402, L_420, L_728, L_768, L_999, L_1000, L_1093, L_1872, L_2000, L_9999, L_12345, L_252645135, L_858993459, L_1103515245, L_1431655765, Lm_1, Lm_2, Lm_8, N_zero, N_cast, N_add, N_mul, N_sub, N_addM, N_lt_tp, N_lt_fp, N_le_tp, N_le_fp, N_eq_tp, N_eq_fp, MN_ltp, MN_lep, NM_ltp, NM_lep, NM_eqp, MN_eqp, MM_lt_tp, MM_lt_fp, MM_le_tp, MM_le_fp, MM_eq_tp, MM_eq_fp, N_cl, N_in_t, N_in_f, M_in, N_div, N_rem, N_nb0, N_nb1, cond_true, cond_false, Bool.not_true, Bool.not_false, Bool.and_true, Bool.true_and, Bool.and_false, Bool.false_and, decide_true, decide_false, Option.bind_some, Option.bind_none, lx2, lm1, lm2, hm67, bnd_some]
        exact bad
      · simp (disch := omega) only [L_0, L_1, L_2, L_3, L_4, L_5, L_6, L_7, L_8, L_9, L_10, L_11, L_12, L_13, L_14, L_15, L_16, L_17, L_18, L_19, L_20, L_21, L_22, L_23, L_24, L_25, L_26, L_27, L_28, L_29, L_30, L_31, L_32, L_33, L_34, L_35, L_40, L_41, L_42, L_43, L_44, L_45, L_47, L_48, L_50, L_53, L_57, L_59, L_60, L_61, L_63, L_64, L_97, L_100, L_101, L_102, L_103, L_122, L_130, L_216, L_255, L_364, L_400, L_402, L_420, L_728, L_768, L_999, L_1000, L_1093, L_1872, L_2000, L_9999, L_12345, L_252645135, L_858993459, L_1103515245, L_1431655765, Lm_1, Lm_2, Lm_8, N_zero, N_cast, N_add, N_mul, N_sub, N_addM, N_lt_tp, N_lt_fp, N_le_tp, N_le_fp, N_eq_tp, N_eq_fp, MN_ltp, MN_lep, NM_ltp, NM_lep, NM_eqp, MN_eqp, MM_lt_tp, MM_lt_fp, MM_le_tp, MM_le_fp, MM_eq_tp, MM_eq_fp, N_cl, N_in_t, N_in_f, M_in, N_div, N_rem, N_nb0, N_nb1, cond_true, cond_false, Bool.not_true, Bool.not_false, Bool.and_true, Bool.true_and, Bool.and_false, Bool.false_and, decide_true, decide_false, Option.bind_some, Option.bind_none, lx2, lm1, lm2, hm67, bnd_some]
        exact bad
end
