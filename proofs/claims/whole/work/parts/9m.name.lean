/-! A house up to its habit. -/
section
variable {sc : wb_X} {q s : Nat} {kd pl : Nat → Nat} {vl : Nat → Int} {w : Nat}
theorem parseHouse_e (h : wb_H) (a1 : Int32) : q_Reader_parseHouse sc h a1 = (((q_Reader_take sc h (Int32.ofInt 0)).bind fun h1 => bif (decide (0 < h1.2.2 16 0 2)) then bif (decide ((h1.2.2 16 0 2 - 1) < 2)) then bif (wb_in (h1.1 16 0 3) 402) then bif (decide ((h1.2.2 16 0 2 - 1) < 2) && wb_in a1 6) then bif (!decide (((wb_lu h1 48 (h1.2.2 16 0 2 - 1) (a1).toNatClampNeg (h1.2.1 59 0 ((h1.1 16 0 3)).toNatClampNeg)).1 16 0 4) = (Int32.ofInt 100))) then ((q_Reader_take sc (wb_lu h1 48 (h1.2.2 16 0 2 - 1) (a1).toNatClampNeg (h1.2.1 59 0 ((h1.1 16 0 3)).toNatClampNeg)) (Int32.ofInt 100)).bind fun h2 => hsX sc h2 a1) else bif (decide (0 < (wb_lu h1 48 (h1.2.2 16 0 2 - 1) (a1).toNatClampNeg (h1.2.1 59 0 ((h1.1 16 0 3)).toNatClampNeg)).2.2 16 0 2)) then bif (wb_in ((wb_lu h1 48 (h1.2.2 16 0 2 - 1) (a1).toNatClampNeg (h1.2.1 59 0 ((h1.1 16 0 3)).toNatClampNeg)).1 16 0 3) 402) then bif (decide (((wb_lu h1 48 (h1.2.2 16 0 2 - 1) (a1).toNatClampNeg (h1.2.1 59 0 ((h1.1 16 0 3)).toNatClampNeg)).2.2 16 0 2 - 1) < 2)) then ((q_Plan_find sc (wb_lu h1 48 (h1.2.2 16 0 2 - 1) (a1).toNatClampNeg (h1.2.1 59 0 ((h1.1 16 0 3)).toNatClampNeg)) ((wb_lu h1 48 (h1.2.2 16 0 2 - 1) (a1).toNatClampNeg (h1.2.1 59 0 ((h1.1 16 0 3)).toNatClampNeg)).2.2 16 0 2 - 1) ((wb_lu h1 48 (h1.2.2 16 0 2 - 1) (a1).toNatClampNeg (h1.2.1 59 0 ((h1.1 16 0 3)).toNatClampNeg)).2.1 59 0 (((wb_lu h1 48 (h1.2.2 16 0 2 - 1) (a1).toNatClampNeg (h1.2.1 59 0 ((h1.1 16 0 3)).toNatClampNeg)).1 16 0 3)).toNatClampNeg)).bind fun r5 => bif (decide (r5.1 = (Int32.ofInt (-1)))) then ((q_Reader_take sc r5.2 (Int32.ofInt 100)).bind fun h6 => hsX sc h6 a1) else ((q_Reader_failLater sc r5.2 (Int32.ofInt 3)).bind fun h9 => ((q_Reader_take sc h9 (Int32.ofInt 100)).bind fun h10 => hsX sc h10 a1))) else none else none else none else none else none else none else none)) := q_Reader_parseHouse_eq sc h a1
theorem ls_house {γ : Type} {KX : wb_H → Option γ} {Q : γ → wb_H → Prop} {p z y b n : Nat} {x m : wb_H} (H : Lq q s kd pl vl p w z y b x m) (h20 : kd p = 20) (hn : n < 6) (c15 : x.1 15 q 0 = nN n) (c73 : m.1 73 0 s = nN n) (hnm : ∀ i, i < n → x.2.1 48 q i = m.2.1 72 0 i) (kk : ∀ x' m' t, (HouseP q s kd pl vl (p + 1) w n z y b x m x' m' ∧ t = nN (p + 1)) ∨ (Dd q s b x m x' m' ∧ x'.1 15 q 0 = nN n) → Both (KX x') ((q_M_tellHabit sc m' (nN (6 * s + n))).bind fun h => finH sc h t) Q) : Both ((q_Reader_parseHouse sc x (nN n)).bind KX) (q_M_tellHouse sc m) Q := by
  have hq := H.1.2.1
  have hs := H.1.2.2.1
  have g1 : decide (0 < q + 1) = true := decide_eq_true (by omega)
  have g2 : decide (q < 2) = true := decide_eq_true hq
  have p4 := (Lq_p H).1
  have hzp := H.2.2.2.2.2.2.2.1
  have k0 : nN 0 = nN (kap (kd p)) := by rw [h20]; rfl
  rw [parseHouse_e, q_M_tellHouse_eq, Option.bind_assoc]
  simp only [L_0, L_1, L_2, L_3, L_4, L_5, L_6, L_7, L_8, L_9, L_10, L_11, L_12, L_13, L_14, L_15, L_16, L_17, L_18, L_19, L_20, L_21, L_22, L_23, L_24, L_25, L_26, L_27, L_28, L_29, L_30, L_31, L_32, L_33, L_34, L_35, L_40, L_41, L_42, L_43, L_44, L_45, L_47, L_48, L_50, L_53, L_57, L_59, L_60, L_61, L_63, L_64, L_97, L_100, L_101, L_102, L_103, L_122, L_130, L_216, L_255, L_364, L_400, L_402, L_420, L_728, L_768, L_999, L_1000, L_1093, L_1872, L_2000, L_9999, L_12345, L_252645135, L_858993459, L_1103515245, L_1431655765, Lm_1, Lm_2, Lm_8]
  have go := ls_go (sc := sc) H.1 H.2.1 (by omega) (by omega)
  rw [← k0] at go
  refine Both_bind go ?_
  rintro x1 m1 ⟨F, G, h⟩
  have m2 : x1.2.2 16 0 2 = q + 1 := (Fr_m F (by rfl)).trans H.1.2.2.2.2.1
  have h19 : m1.1 21 0 19 = nN s := (Fr_i G (by rfl)).trans H.1.2.2.2.2.2.2
  have h73 : m1.1 73 0 s = nN n := (Fr_i G (by rfl)).trans c73
  have d15 : x1.1 15 q 0 = nN n := (Fr_i F (by rfl)).trans c15
  have hnm1 : ∀ i, i < n → x1.2.1 48 q i = m1.2.1 72 0 i := fun i hi => (Fr_l F (by rfl)).trans ((hnm i hi).trans (Fr_l G (by rfl)).symm)
  have B1 : HoB q s n z y b x m x1 m1 := HoB_fr F G rfl rfl
  have E1 := En_f B1.1 B1.2.1 H.1
  have P1 := PLn_fr F rfl H.2.2.1
  have h13z := (Fr_i F (by rfl) : x1.1 13 q 6 = x.1 13 q 6).trans H.2.2.2.1
  have h39 := (Fr_i G (by rfl) : m1.1 21 0 39 = m.1 21 0 39).trans H.2.2.2.2.1
  have h33 := (Fr_i G (by rfl) : m1.1 21 0 33 = m.1 21 0 33).trans H.2.2.2.2.2.1
  have h12 := (Fr_i G (by rfl) : m1.1 21 0 12 = m.1 21 0 12).trans H.2.2.2.2.2.2.1
  obtain ⟨hy1, hy2⟩ := H.2.2.2.2.2.2.2.2
  have e16 : 6 * s + n < 12 := by omega
  rcases h with h | h
  · have h' := h
    obtain ⟨yy, hyy, ok, w5, y2, lx, lm⟩ := h'
    have ok1 := ok.1
    have lx1 := lx.1
    have lx2 := lx.2.1
    have lm1 := lm.1
    have lm2 := lm.2.1
    have tx := E1.2.2.2.1
    have ts := E1.1
    have tm := E1.2.2.2.2.2.1
    have kl := kap_le (ts.1 (p + 1))
    simp (disch := omega) only [m2, g1, g2, Nat.add_sub_cancel, L_0, L_1, L_2, L_3, L_4, L_5, L_6, L_7, L_8, L_9, L_10, L_11, L_12, L_13, L_14, L_15, L_16, L_17, L_18, L_19, L_20, L_21, L_22, L_23, L_24, L_25, L_26, L_27, L_28, L_29, L_30, L_31, L_32, L_33, L_34, L_35, L_40, L_41, L_42, L_43, L_44, L_45, L_47, L_48, L_50, L_53, L_57, L_59, L_60, L_61, L_63, L_64, L_97, L_100, L_101, L_102, L_103, L_122, L_130, L_216, L_255, L_364, L_400, L_402, L_420, L_728, L_768, L_999, L_1000, L_1093, L_1872, L_2000, L_9999, L_12345, L_252645135, L_858993459, L_1103515245, L_1431655765, Lm_1, Lm_2, Lm_8, N_zero, N_cast, N_add, N_mul, N_sub, N_addM, N_lt_tp, N_lt_fp, N_le_tp, N_le_fp, N_eq_tp, N_eq_fp, MN_ltp, MN_lep, NM_ltp, NM_lep, NM_eqp, MN_eqp, MM_lt_tp, MM_lt_fp, MM_le_tp, MM_le_fp, MM_eq_tp, MM_eq_fp, N_cl, N_in_t, N_in_f, M_in, N_div, N_rem, N_nb0, N_nb1, cond_true, cond_false, Bool.not_true, Bool.not_false, Bool.and_true, Bool.true_and, Bool.and_false, Bool.false_and, decide_true, decide_false, Option.bind_some, Option.bind_none, lx1, lm1, h19, h73]
    have F2 : Fr [48] x1 (wb_lu x1 48 q n (x1.2.1 59 0 (p + 1))) := Fr_lu rfl
    have B2 : HoB q s n z y b x1 m1 (wb_lu x1 48 q n (x1.2.1 59 0 (p + 1))) m1 := ⟨FX_lu (Or.inr ⟨rfl, rfl⟩), FM_refl _ _, Kp_fr F2 rfl, Km_refl _ _, Kb_refl _ _, HKx_lu (Nat.le_refl _), HKm_refl _ _ _⟩
    have c48 : (wb_lu x1 48 q n (x1.2.1 59 0 (p + 1))).2.1 48 q n = x1.2.1 59 0 (p + 1) := lu_at
    have c48i : ∀ i, i < n → (wb_lu x1 48 q n (x1.2.1 59 0 (p + 1))).2.1 48 q i = x1.2.1 48 q i := fun i hi => lu_ne (by omega)
    have c59 : (wb_lu x1 48 q n (x1.2.1 59 0 (p + 1))).2.1 59 0 (p + 1) = x1.2.1 59 0 (p + 1) := Fr_l F2 (by rfl)
    generalize wb_lu x1 48 q n (x1.2.1 59 0 (p + 1)) = x2 at *
    have lx' : LvX kd (p + 1) w yy x2 := LvX_fr F2 rfl lx
    have E2 := En_f B2.1 B2.2.1 E1
    have tx2 := E2.2.2.2.1
    have mm2 : x2.2.2 16 0 2 = q + 1 := E2.2.2.2.2.1
    have f15 : x2.1 15 q 0 = nN n := (Fr_i F2 (by rfl)).trans d15
    have h2live : Live kd pl (p + 1) w x2 m1 := Live_fr F2 (Fr_refl [] m1) rfl rfl h
    have f13 : x2.1 13 q 6 = nN z := (Fr_i F2 (by rfl)).trans h13z
    have B12 := HoB_trans B1 B2
    have P2 := PLn_fr F2 rfl P1
    have lx4 := lx'.2.1
    have lx3 := lx'.1
    by_cases kn : kd (p + 1) = 1
    · have k100 : nN (kap (kd (p + 1))) = nN 100 := by rw [kn]; rfl
      have v70 := (tm (p + 1) ok).2.2.2 (Or.inl kn)
      have v59 := (tx.1 (p + 1) ok).2.2 (Or.inl kn)
      have efn : fnX (x2.2.1 48 q) (x1.2.1 59 0 (p + 1)) n 0 = fnX (m1.2.1 72 0) (m1.2.1 70 0 (p + 1)) n 0 := by
        rw [v59, v70]
        exact fnX_congr n 0 (fun i _ hi => (c48i i (by omega)).trans (hnm1 i (by omega)))
      simp (disch := omega) only [L_0, L_1, L_2, L_3, L_4, L_5, L_6, L_7, L_8, L_9, L_10, L_11, L_12, L_13, L_14, L_15, L_16, L_17, L_18, L_19, L_20, L_21, L_22, L_23, L_24, L_25, L_26, L_27, L_28, L_29, L_30, L_31, L_32, L_33, L_34, L_35, L_40, L_41, L_42, L_43, L_44, L_45, L_47, L_48, L_50, L_53, L_57, L_59, L_60, L_61, L_63, L_64, L_97, L_100, L_101, L_102, L_103, L_122, L_130, L_216, L_255, L_364, L_400, L_402, L_420, L_728, L_768, L_999, L_1000, L_1093, L_1872, L_2000, L_9999, L_12345, L_252645135, L_858993459, L_1103515245, L_1431655765, Lm_1, Lm_2, Lm_8, N_zero, N_cast, N_add, N_mul, N_sub, N_addM, N_lt_tp, N_lt_fp, N_le_tp, N_le_fp, N_eq_tp, N_eq_fp, MN_ltp, MN_lep, NM_ltp, NM_lep, NM_eqp, MN_eqp, MM_lt_tp, MM_lt_fp, MM_le_tp, MM_le_fp, MM_eq_tp, MM_eq_fp, N_cl, N_in_t, N_in_f, M_in, N_div, N_rem, N_nb0, N_nb1, cond_true, cond_false, Bool.not_true, Bool.not_false, Bool.and_true, Bool.true_and, Bool.and_false, Bool.false_and, decide_true, decide_false, Option.bind_some, Option.bind_none, lx3, lx4, k100, mm2, g1, g2, Nat.add_sub_cancel, c59, X_find_f hq (show n ≤ 6 by omega) f15, efn]
      rcases fnX_or (m1.2.1 72 0) (m1.2.1 70 0 (p + 1)) n 0 with ef | ⟨i, -, hi, ef⟩
      · simp (disch := omega) only [ef, decide_true, cond_true, Option.bind_assoc]
        refine Both_bind (ls_take E2 (Or.inl h2live) (d := 1) (Or.inl (by decide)) (by decide) (by decide)) ?_
        rintro x3 m3 ⟨F3, G3, h3⟩
        have B3 : HoB q s n z y b x m x3 m3 := HoB_trans B12 (HoB_fr F3 G3 rfl rfl)
        have h193 : m3.1 21 0 19 = nN s := (Fr_i G3 (by rfl)).trans h19
        have h733 : m3.1 73 0 s = nN n := (Fr_i G3 (by rfl)).trans h73
        rcases h3 with ⟨-, -, h3⟩ | h3
        · have m13 : m3.1 21 0 13 = nN 0 := by
            obtain ⟨y, hy, o, w5, y2, lx, lm⟩ := h3
            exact lm.2.1
          have e72 : fnX (m3.2.1 72 0) (m3.2.1 70 0 (p + 1)) n 0 = nM 1 := by
            rw [← ef, (Fr_l G3 (by rfl) : m3.2.1 70 0 (p + 1) = m1.2.1 70 0 (p + 1))]
            exact fnX_congr n 0 (fun i _ hi => Fr_l G3 (by rfl))
          simp (disch := omega) only [L_0, L_1, L_2, L_3, L_4, L_5, L_6, L_7, L_8, L_9, L_10, L_11, L_12, L_13, L_14, L_15, L_16, L_17, L_18, L_19, L_20, L_21, L_22, L_23, L_24, L_25, L_26, L_27, L_28, L_29, L_30, L_31, L_32, L_33, L_34, L_35, L_40, L_41, L_42, L_43, L_44, L_45, L_47, L_48, L_50, L_53, L_57, L_59, L_60, L_61, L_63, L_64, L_97, L_100, L_101, L_102, L_103, L_122, L_130, L_216, L_255, L_364, L_400, L_402, L_420, L_728, L_768, L_999, L_1000, L_1093, L_1872, L_2000, L_9999, L_12345, L_252645135, L_858993459, L_1103515245, L_1431655765, Lm_1, Lm_2, Lm_8, N_zero, N_cast, N_add, N_mul, N_sub, N_addM, N_lt_tp, N_lt_fp, N_le_tp, N_le_fp, N_eq_tp, N_eq_fp, MN_ltp, MN_lep, NM_ltp, NM_lep, NM_eqp, MN_eqp, MM_lt_tp, MM_lt_fp, MM_le_tp, MM_le_fp, MM_eq_tp, MM_eq_fp, N_cl, N_in_t, N_in_f, M_in, N_div, N_rem, N_nb0, N_nb1, cond_true, cond_false, Bool.not_true, Bool.not_false, Bool.and_true, Bool.true_and, Bool.and_false, Bool.false_and, decide_true, decide_false, Option.bind_some, Option.bind_none, m13, M_named h193 hs h733 (show n ≤ 6 by omega) (show p + 1 < 403 by omega), e72]
          have L3 : Lq q s kd pl vl (p + 1 + 1) w z y b x3 m3 := ⟨En_f B3.1 B3.2.1 H.1, h3, PLn_fr F3 rfl P2, (Fr_i F3 (by rfl)).trans f13, (Fr_i G3 (by rfl)).trans h39, (Fr_i G3 (by rfl)).trans h33, (Fr_i G3 (by rfl)).trans h12, by omega, hy1, by omega⟩
          exact ls_nums hq hs hn (Or.inl ⟨p + 1 + 1, w, by omega, L3, B3, fun e => e, (Fr_l F3 (by rfl)).trans (c48.trans v59), kn, ok, (Fr_i F3 (by rfl)).trans f15, h733, rfl⟩) (fun x' m' hh => kk x' m' _ hh)
        · obtain ⟨f, e, he, D1, D2⟩ := h3
          have d0 := D2.1
          have d5 := D2.2.1
          have d13 := D2.2.2.1
          simp (disch := omega) only [L_0, L_1, L_2, L_3, L_4, L_5, L_6, L_7, L_8, L_9, L_10, L_11, L_12, L_13, L_14, L_15, L_16, L_17, L_18, L_19, L_20, L_21, L_22, L_23, L_24, L_25, L_26, L_27, L_28, L_29, L_30, L_31, L_32, L_33, L_34, L_35, L_40, L_41, L_42, L_43, L_44, L_45, L_47, L_48, L_50, L_53, L_57, L_59, L_60, L_61, L_63, L_64, L_97, L_100, L_101, L_102, L_103, L_122, L_130, L_216, L_255, L_364, L_400, L_402, L_420, L_728, L_768, L_999, L_1000, L_1093, L_1872, L_2000, L_9999, L_12345, L_252645135, L_858993459, L_1103515245, L_1431655765, Lm_1, Lm_2, Lm_8, N_zero, N_cast, N_add, N_mul, N_sub, N_addM, N_lt_tp, N_lt_fp, N_le_tp, N_le_fp, N_eq_tp, N_eq_fp, MN_ltp, MN_lep, NM_ltp, NM_lep, NM_eqp, MN_eqp, MM_lt_tp, MM_lt_fp, MM_le_tp, MM_le_fp, MM_eq_tp, MM_eq_fp, N_cl, N_in_t, N_in_f, M_in, N_div, N_rem, N_nb0, N_nb1, cond_true, cond_false, Bool.not_true, Bool.not_false, Bool.and_true, Bool.true_and, Bool.and_false, Bool.false_and, decide_true, decide_false, Option.bind_some, Option.bind_none, d13]
          exact ls_nums hq hs hn (Or.inr ⟨Dd_mk hq B3.1 B3.2.1 ⟨f, e, he, D1, D2⟩ ⟨z, by omega, (Fr_i F3 (by rfl)).trans f13⟩ (PLn_fr F3 rfl P2) ((Fr_m F3 (by rfl)).trans mm2) ((Fr_i G3 (by rfl)).trans h33), (Fr_i F3 (by rfl)).trans f15⟩) (fun x' m' hh => kk x' m' _ hh)
      · simp (disch := omega) only [L_0, L_1, L_2, L_3, L_4, L_5, L_6, L_7, L_8, L_9, L_10, L_11, L_12, L_13, L_14, L_15, L_16, L_17, L_18, L_19, L_20, L_21, L_22, L_23, L_24, L_25, L_26, L_27, L_28, L_29, L_30, L_31, L_32, L_33, L_34, L_35, L_40, L_41, L_42, L_43, L_44, L_45, L_47, L_48, L_50, L_53, L_57, L_59, L_60, L_61, L_63, L_64, L_97, L_100, L_101, L_102, L_103, L_122, L_130, L_216, L_255, L_364, L_400, L_402, L_420, L_728, L_768, L_999, L_1000, L_1093, L_1872, L_2000, L_9999, L_12345, L_252645135, L_858993459, L_1103515245, L_1431655765, Lm_1, Lm_2, Lm_8, N_zero, N_cast, N_add, N_mul, N_sub, N_addM, N_lt_tp, N_lt_fp, N_le_tp, N_le_fp, N_eq_tp, N_eq_fp, MN_ltp, MN_lep, NM_ltp, NM_lep, NM_eqp, MN_eqp, MM_lt_tp, MM_lt_fp, MM_le_tp, MM_le_fp, MM_eq_tp, MM_eq_fp, N_cl, N_in_t, N_in_f, M_in, N_div, N_rem, N_nb0, N_nb1, ef, cond_true, cond_false, Bool.not_true, Bool.not_false, Bool.and_true, Bool.true_and, Bool.and_false, Bool.false_and, decide_true, decide_false, Option.bind_some, Option.bind_none, Option.bind_assoc]
        rw [q_M_must_eq]
        have is1 := M_is (sc := sc) ts tm ok lm (show 1 ≤ 100 by decide)
        rw [if_pos kn] at is1
        simp (disch := omega) only [L_0, L_1, L_2, L_3, L_4, L_5, L_6, L_7, L_8, L_9, L_10, L_11, L_12, L_13, L_14, L_15, L_16, L_17, L_18, L_19, L_20, L_21, L_22, L_23, L_24, L_25, L_26, L_27, L_28, L_29, L_30, L_31, L_32, L_33, L_34, L_35, L_40, L_41, L_42, L_43, L_44, L_45, L_47, L_48, L_50, L_53, L_57, L_59, L_60, L_61, L_63, L_64, L_97, L_100, L_101, L_102, L_103, L_122, L_130, L_216, L_255, L_364, L_400, L_402, L_420, L_728, L_768, L_999, L_1000, L_1093, L_1872, L_2000, L_9999, L_12345, L_252645135, L_858993459, L_1103515245, L_1431655765, Lm_1, Lm_2, Lm_8, N_zero, N_cast, N_add, N_mul, N_sub, N_addM, N_lt_tp, N_lt_fp, N_le_tp, N_le_fp, N_eq_tp, N_eq_fp, MN_ltp, MN_lep, NM_ltp, NM_lep, NM_eqp, MN_eqp, MM_lt_tp, MM_lt_fp, MM_le_tp, MM_le_fp, MM_eq_tp, MM_eq_fp, N_cl, N_in_t, N_in_f, M_in, N_div, N_rem, N_nb0, N_nb1, is1, cond_true, cond_false, Bool.not_true, Bool.not_false, Bool.and_true, Bool.true_and, Bool.and_false, Bool.false_and, decide_true, decide_false, Option.bind_some, Option.bind_none, bnd_some]
        refine Both_x (X_later tx2 ok lx' w5 (n := 3) (by decide) (by decide)) ?_
        rintro x3 ⟨F3, lx3'⟩
        have X3 : FX q x2 x3 := FX_fr F3 rfl
        have tx3 := TKX_fx X3 tx2
        have xg := X_go (sc := sc) tx3 ok lx3' (by omega) (by omega)
        rw [k100] at xg
        refine Both_x xg ?_
        rintro x4 ⟨F4, hx⟩
        refine Both_m (M_go tm ok lm) ?_
        rintro m3 ⟨G3, hm⟩
        have B3 : HoB q s n z y b x m x4 m3 := HoB_trans B12 (HoB_trans (HoB_fr F3 (Fr_refl [] m1) rfl rfl) (HoB_fr F4 G3 rfl rfl))
        have FF : Fr LIX x2 x4 := Fr_trans (Fr_mono F3 rfl) (Fr_mono F4 rfl)
        have h193 : m3.1 21 0 19 = nN s := (Fr_i G3 (by rfl)).trans h19
        have h733 : m3.1 73 0 s = nN n := (Fr_i G3 (by rfl)).trans h73
        by_cases zp : p + 1 < 400
        · rcases hx with ⟨-, hx⟩ | ⟨e, -⟩
          · rcases hm with ⟨-, hm⟩ | ⟨e, -⟩
            · have m13 := hm.2.1
              have e72 : fnX (m3.2.1 72 0) (m3.2.1 70 0 (p + 1)) n 0 = nN i := by
                rw [← ef, (Fr_l G3 (by rfl) : m3.2.1 70 0 (p + 1) = m1.2.1 70 0 (p + 1))]
                exact fnX_congr n 0 (fun i _ hi => Fr_l G3 (by rfl))
              simp (disch := omega) only [L_0, L_1, L_2, L_3, L_4, L_5, L_6, L_7, L_8, L_9, L_10, L_11, L_12, L_13, L_14, L_15, L_16, L_17, L_18, L_19, L_20, L_21, L_22, L_23, L_24, L_25, L_26, L_27, L_28, L_29, L_30, L_31, L_32, L_33, L_34, L_35, L_40, L_41, L_42, L_43, L_44, L_45, L_47, L_48, L_50, L_53, L_57, L_59, L_60, L_61, L_63, L_64, L_97, L_100, L_101, L_102, L_103, L_122, L_130, L_216, L_255, L_364, L_400, L_402, L_420, L_728, L_768, L_999, L_1000, L_1093, L_1872, L_2000, L_9999, L_12345, L_252645135, L_858993459, L_1103515245, L_1431655765, Lm_1, Lm_2, Lm_8, N_zero, N_cast, N_add, N_mul, N_sub, N_addM, N_lt_tp, N_lt_fp, N_le_tp, N_le_fp, N_eq_tp, N_eq_fp, MN_ltp, MN_lep, NM_ltp, NM_lep, NM_eqp, MN_eqp, MM_lt_tp, MM_lt_fp, MM_le_tp, MM_le_fp, MM_eq_tp, MM_eq_fp, N_cl, N_in_t, N_in_f, M_in, N_div, N_rem, N_nb0, N_nb1, cond_true, cond_false, Bool.not_true, Bool.not_false, Bool.and_true, Bool.true_and, Bool.and_false, Bool.false_and, decide_true, decide_false, Option.bind_some, Option.bind_none, m13, M_named h193 hs h733 (show n ≤ 6 by omega) (show p + 1 < 403 by omega), e72]
              refine Both_m (M_wrong ts (TKM_fm (s := s) (FM_fr G3 rfl) tm) ok hm w5 hyy (n := 3) (by decide) (by decide)) ?_
              rintro m4 ⟨G4, hm4⟩
              have ok2 := okT_succ ok zp (by omega) (by omega)
              have ps := pl_succ ts ok2
              have pp := ts.2.1 (p + 1)
              have B4 : HoB q s n z y b x m x4 m4 := HoB_trans B3 (HoB_fr (Fr_refl [] x4) G4 rfl rfl)
              have GG : Fr LIM m1 m4 := Fr_trans (Fr_mono G3 rfl) (Fr_mono G4 rfl)
              have l4 : Live kd pl (p + 1 + 1) (if w = 0 then 3 else w) x4 m4 := ⟨if w = 0 then pl (p + 1) else yy, fun _ => by
                by_cases w0 : w = 0
                · rw [if_pos w0]; exact ps
                · rw [if_neg w0]; exact Nat.lt_trans (hyy w0) ps, ok2, by split <;> omega, by split <;> omega, hx, hm4⟩
              have L4 : Lq q s kd pl vl (p + 1 + 1) (if w = 0 then 3 else w) z y b x4 m4 := ⟨En_f B4.1 B4.2.1 H.1, l4, PLn_fr FF rfl P2, (Fr_i FF (by rfl)).trans f13, (Fr_i GG (by rfl)).trans h39, (Fr_i GG (by rfl)).trans h33, (Fr_i GG (by rfl)).trans h12, by omega, hy1, by omega⟩
              exact ls_nums hq hs hn (Or.inl ⟨p + 1 + 1, _, by omega, L4, B4, fun e => by split at e <;> omega, (Fr_l FF (by rfl)).trans (c48.trans v59), kn, ok, (Fr_i FF (by rfl)).trans f15, (Fr_i GG (by rfl)).trans h73, rfl⟩) (fun x' m' hh => kk x' m' _ hh)
            · omega
          · omega
        · rcases hx with ⟨e, -⟩ | ⟨-, hx⟩
          · omega
          · rcases hm with ⟨e, -⟩ | ⟨-, hm⟩
            · omega
            · have d0 := hm.1
              have d5 := hm.2.1
              have d13 := hm.2.2.1
              simp (disch := omega) only [L_0, L_1, L_2, L_3, L_4, L_5, L_6, L_7, L_8, L_9, L_10, L_11, L_12, L_13, L_14, L_15, L_16, L_17, L_18, L_19, L_20, L_21, L_22, L_23, L_24, L_25, L_26, L_27, L_28, L_29, L_30, L_31, L_32, L_33, L_34, L_35, L_40, L_41, L_42, L_43, L_44, L_45, L_47, L_48, L_50, L_53, L_57, L_59, L_60, L_61, L_63, L_64, L_97, L_100, L_101, L_102, L_103, L_122, L_130, L_216, L_255, L_364, L_400, L_402, L_420, L_728, L_768, L_999, L_1000, L_1093, L_1872, L_2000, L_9999, L_12345, L_252645135, L_858993459, L_1103515245, L_1431655765, Lm_1, Lm_2, Lm_8, N_zero, N_cast, N_add, N_mul, N_sub, N_addM, N_lt_tp, N_lt_fp, N_le_tp, N_le_fp, N_eq_tp, N_eq_fp, MN_ltp, MN_lep, NM_ltp, NM_lep, NM_eqp, MN_eqp, MM_lt_tp, MM_lt_fp, MM_le_tp, MM_le_fp, MM_eq_tp, MM_eq_fp, N_cl, N_in_t, N_in_f, M_in, N_div, N_rem, N_nb0, N_nb1, cond_true, cond_false, Bool.not_true, Bool.not_false, Bool.and_true, Bool.true_and, Bool.and_false, Bool.false_and, decide_true, decide_false, Option.bind_some, Option.bind_none, d13]
              exact ls_nums hq hs hn (Or.inr ⟨Dd_mk hq B3.1 B3.2.1 ⟨2, _, ts.2.1 _, hx, hm⟩ ⟨z, by omega, (Fr_i FF (by rfl)).trans f13⟩ (PLn_fr FF rfl P2) ((Fr_m FF (by rfl)).trans mm2) ((Fr_i G3 (by rfl)).trans h33), (Fr_i FF (by rfl)).trans f15⟩) (fun x' m' hh => kk x' m' _ hh)
    · have n100 : kap (kd (p + 1)) ≠ 100 := fun e => kn (kap_inj (ts.1 _) (show kOk 1 from Or.inl (by decide)) e)
      simp (disch := omega) only [L_0, L_1, L_2, L_3, L_4, L_5, L_6, L_7, L_8, L_9, L_10, L_11, L_12, L_13, L_14, L_15, L_16, L_17, L_18, L_19, L_20, L_21, L_22, L_23, L_24, L_25, L_26, L_27, L_28, L_29, L_30, L_31, L_32, L_33, L_34, L_35, L_40, L_41, L_42, L_43, L_44, L_45, L_47, L_48, L_50, L_53, L_57, L_59, L_60, L_61, L_63, L_64, L_97, L_100, L_101, L_102, L_103, L_122, L_130, L_216, L_255, L_364, L_400, L_402, L_420, L_728, L_768, L_999, L_1000, L_1093, L_1872, L_2000, L_9999, L_12345, L_252645135, L_858993459, L_1103515245, L_1431655765, Lm_1, Lm_2, Lm_8, N_zero, N_cast, N_add, N_mul, N_sub, N_addM, N_lt_tp, N_lt_fp, N_le_tp, N_le_fp, N_eq_tp, N_eq_fp, MN_ltp, MN_lep, NM_ltp, NM_lep, NM_eqp, MN_eqp, MM_lt_tp, MM_lt_fp, MM_le_tp, MM_le_fp, MM_eq_tp, MM_eq_fp, N_cl, N_in_t, N_in_f, M_in, N_div, N_rem, N_nb0, N_nb1, cond_true, cond_false, Bool.not_true, Bool.not_false, Bool.and_true, Bool.true_and, Bool.and_false, Bool.false_and, decide_true, decide_false, Option.bind_some, Option.bind_none, lx4, Option.bind_assoc]
      refine Both_bind (ls_take E2 (Or.inl h2live) (d := 1) (Or.inl (by decide)) (by decide) (by decide)) ?_
      rintro x3 m3 ⟨F3, G3, h3⟩
      have B3 : HoB q s n z y b x m x3 m3 := HoB_trans B12 (HoB_fr F3 G3 rfl rfl)
      rcases h3 with ⟨e, -⟩ | h3
      · exact absurd e kn
      · obtain ⟨f, e, he, D1, D2⟩ := h3
        have d0 := D2.1
        have d5 := D2.2.1
        have d13 := D2.2.2.1
        simp (disch := omega) only [L_0, L_1, L_2, L_3, L_4, L_5, L_6, L_7, L_8, L_9, L_10, L_11, L_12, L_13, L_14, L_15, L_16, L_17, L_18, L_19, L_20, L_21, L_22, L_23, L_24, L_25, L_26, L_27, L_28, L_29, L_30, L_31, L_32, L_33, L_34, L_35, L_40, L_41, L_42, L_43, L_44, L_45, L_47, L_48, L_50, L_53, L_57, L_59, L_60, L_61, L_63, L_64, L_97, L_100, L_101, L_102, L_103, L_122, L_130, L_216, L_255, L_364, L_400, L_402, L_420, L_728, L_768, L_999, L_1000, L_1093, L_1872, L_2000, L_9999, L_12345, L_252645135, L_858993459, L_1103515245, L_1431655765, Lm_1, Lm_2, Lm_8, N_zero, N_cast, N_add, N_mul, N_sub, N_addM, N_lt_tp, N_lt_fp, N_le_tp, N_le_fp, N_eq_tp, N_eq_fp, MN_ltp, MN_lep, NM_ltp, NM_lep, NM_eqp, MN_eqp, MM_lt_tp, MM_lt_fp, MM_le_tp, MM_le_fp, MM_eq_tp, MM_eq_fp, N_cl, N_in_t, N_in_f, M_in, N_div, N_rem, N_nb0, N_nb1, cond_true, cond_false, Bool.not_true, Bool.not_false, Bool.and_true, Bool.true_and, Bool.and_false, Bool.false_and, decide_true, decide_false, Option.bind_some, Option.bind_none, d13]
        exact ls_nums hq hs hn (Or.inr ⟨Dd_mk hq B3.1 B3.2.1 ⟨f, e, he, D1, D2⟩ ⟨z, by omega, (Fr_i F3 (by rfl)).trans f13⟩ (PLn_fr F3 rfl P2) ((Fr_m F3 (by rfl)).trans mm2) ((Fr_i G3 (by rfl)).trans h33), (Fr_i F3 (by rfl)).trans f15⟩) (fun x' m' hh => kk x' m' _ hh)
  · have D0 : Dd q s b x m x1 m1 := Dd_mk hq B1.1 B1.2.1 h ⟨z, by omega, h13z⟩ P1 m2 h33
    have D0' := D0
    obtain ⟨X3, M3, ⟨f, e, he, D1, D2⟩, hb⟩ := D0'
    obtain ⟨pp, hpp, d3⟩ := D1.2.1.2.2.2.2
    have d0 := D2.1
    have d5 := D2.2.1
    have d13 := D2.2.2.1
    simp (disch := omega) only [m2, g1, g2, Nat.add_sub_cancel, L_0, L_1, L_2, L_3, L_4, L_5, L_6, L_7, L_8, L_9, L_10, L_11, L_12, L_13, L_14, L_15, L_16, L_17, L_18, L_19, L_20, L_21, L_22, L_23, L_24, L_25, L_26, L_27, L_28, L_29, L_30, L_31, L_32, L_33, L_34, L_35, L_40, L_41, L_42, L_43, L_44, L_45, L_47, L_48, L_50, L_53, L_57, L_59, L_60, L_61, L_63, L_64, L_97, L_100, L_101, L_102, L_103, L_122, L_130, L_216, L_255, L_364, L_400, L_402, L_420, L_728, L_768, L_999, L_1000, L_1093, L_1872, L_2000, L_9999, L_12345, L_252645135, L_858993459, L_1103515245, L_1431655765, Lm_1, Lm_2, Lm_8, N_zero, N_cast, N_add, N_mul, N_sub, N_addM, N_lt_tp, N_lt_fp, N_le_tp, N_le_fp, N_eq_tp, N_eq_fp, MN_ltp, MN_lep, NM_ltp, NM_lep, NM_eqp, MN_eqp, MM_lt_tp, MM_lt_fp, MM_le_tp, MM_le_fp, MM_eq_tp, MM_eq_fp, N_cl, N_in_t, N_in_f, M_in, N_div, N_rem, N_nb0, N_nb1, cond_true, cond_false, Bool.not_true, Bool.not_false, Bool.and_true, Bool.true_and, Bool.and_false, Bool.false_and, decide_true, decide_false, Option.bind_some, Option.bind_none, d3, h19, h73, mD_must D2, d13]
    have Q2 := dq_lu (k := n) (v := x1.2.1 59 0 pp) D1
    have f15 : (wb_lu x1 48 q n (x1.2.1 59 0 pp)).1 15 q 0 = nN n := d15
    have f3 : (wb_lu x1 48 q n (x1.2.1 59 0 pp)).1 16 0 3 = nN pp := d3
    generalize wb_lu x1 48 q n (x1.2.1 59 0 pp) = x2 at *
    have mm2 : x2.2.2 16 0 2 = q + 1 := Q2.2.2.2.2.1
    simp (disch := omega) only [f3, mm2, g1, g2, Nat.add_sub_cancel, N_in_t, N_cl, cond_true, cond_false, Bool.not_true, Bool.not_false, Bool.and_true, Bool.true_and, Bool.and_false, Bool.false_and, decide_true, decide_false, Option.bind_some, Option.bind_none, X_find_f hq (show n ≤ 6 by omega) f15]
    have D3 : Dd q s b x m x2 m1 := ⟨FX_trans X3 Q2.2.1, M3, ⟨f, e, he, Q2.2.2, D2⟩, hb⟩
    by_cases y1 : x2.1 16 0 4 = nN 100
    · by_cases y2 : fnX (x2.2.1 48 q) (x2.2.1 59 0 pp) n 0 = nM 1
      · simp only [eq_true y1, eq_true y2, cond_true, cond_false, Bool.not_true, Bool.not_false, Bool.and_true, Bool.true_and, Bool.and_false, Bool.false_and, decide_true, decide_false, Option.bind_some, Option.bind_none, dX_take Q2.2.2.2.1]
        exact ls_nums hq hs hn (Or.inr ⟨D3, f15⟩) (fun x' m' hh => kk x' m' _ hh)
      · simp only [eq_true y1, eq_false y2, cond_true, cond_false, Bool.not_true, Bool.not_false, Bool.and_true, Bool.true_and, Bool.and_false, Bool.false_and, decide_true, decide_false, Option.bind_some, Option.bind_none, Option.bind_assoc]
        obtain ⟨x4, e4, Q4⟩ := dq_later (sc := sc) Q2.2.2 (nN 3)
        rw [e4]
        simp only [Option.bind_some, dX_take Q4.2.2.2.1]
        exact ls_nums hq hs hn (Or.inr ⟨⟨FX_trans X3 (FX_trans Q2.2.1 Q4.2.1), M3, ⟨f, e, he, Q4.2.2, D2⟩, hb⟩, (Fr_i Q4.1 (by rfl)).trans f15⟩) (fun x' m' hh => kk x' m' _ hh)
    · simp only [eq_false y1, cond_true, cond_false, Bool.not_true, Bool.not_false, Bool.and_true, Bool.true_and, Bool.and_false, Bool.false_and, decide_true, decide_false, Option.bind_some, Option.bind_none, dX_take Q2.2.2.2.1]
      exact ls_nums hq hs hn (Or.inr ⟨D3, f15⟩) (fun x' m' hh => kk x' m' _ hh)
end
