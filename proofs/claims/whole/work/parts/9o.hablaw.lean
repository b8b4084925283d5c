/-! A habit that is a law. -/
section
variable {sc : wb_X} {q s : Nat} {kd pl : Nat → Nat} {vl : Nat → Int} {w : Nat}
theorem ls_hablaw {k n z y b p w1 u e : Nat} {x0 m0 x m : wb_H} (H : Lq q s kd pl vl p w1 z y b x m) (B : HoB q s n z y b x0 m0 x m) (hw : w1 = 0 → w = 0 ∧ u ≤ 10 ∧ e ≤ 6) (hu : u ≤ 9999) (he : e ≤ 9999) (c49 : x.1 49 q n = nN u) (c74 : m.1 74 0 (6 * s + n) = nN u) (c50 : x.1 50 q n = nN e) (c75 : m.1 75 0 (6 * s + n) = nN e) (c48 : x.2.1 48 q n = Int64.ofInt (vl k)) (k1 : kd k = 1) (ok1 : okT kd k) (c15 : x.1 15 q 0 = nN n) (c73 : m.1 73 0 s = nN n) (hn : n < 6) (hb1 : 130 * s ≤ b) (hb2 : b + 8 ≤ 130 * s + 130) (hkp : k < p) (h5 : kd p = 5) : Both ((q_Reader_parseHabit sc x (nN n)).bind (semX sc)) (q_M_tellHabit sc m (nN (6 * s + n))) (fun x' m' => HabP q s kd pl vl k w n z y b x0 m0 x' m' ∨ DdE q s x0 m0 x' m') := by
  have hq := H.1.2.1
  have hs := H.1.2.2.1
  have g1 : decide (0 < q + 1) = true := decide_eq_true (by omega)
  have g2 : decide (q < 2) = true := decide_eq_true hq
  obtain ⟨p4, m13, m11, x4, ok⟩ := Lq_p H
  have lm : ∃ y w', LvM p w' y m := by
    obtain ⟨y, hy, o, w5, y2, lx, lm⟩ := H.2.1
    exact ⟨y, _, lm⟩
  obtain ⟨yy, ww, lm⟩ := lm
  have k61 : nN (kap (kd p)) = nN 61 := by rw [h5]; rfl
  have m2 := H.1.2.2.2.2.1
  have a12 : 6 * s + n < 12 := by omega
  have is5 := M_is (sc := sc) H.1.1 H.1.2.2.2.2.2.1 ok lm (show 5 ≤ 100 by decide)
  rw [if_pos h5] at is5
  rw [q_Reader_parseHabit_eq, q_M_tellHabit_eq]
  simp (disch := omega) only [L_0, L_1, L_2, L_3, L_4, L_5, L_6, L_7, L_8, L_9, L_10, L_11, L_12, L_13, L_14, L_15, L_16, L_17, L_18, L_19, L_20, L_21, L_22, L_23, L_24, L_25, L_26, L_27, L_28, L_29, L_30, L_31, L_32, L_33, L_34, L_35, L_40, L_41, L_42, L_43, L_44, L_45, L_47, L_48, L_50, L_53, L_57, L_59, L_60, L_61, L_63, L_64, L_97, L_100, L_101, L_102, L_103, L_122, L_130, L_216, L_255, L_364, L_400, L_402, L_420, L_728, L_768, L_999, L_1000, L_1093, L_1872, L_2000, L_9999, L_12345, L_252645135, L_858993459, L_1103515245, L_1431655765, Lm_1, Lm_2, Lm_8, N_zero, N_cast, N_add, N_mul, N_sub, N_addM, N_lt_tp, N_lt_fp, N_le_tp, N_le_fp, N_eq_tp, N_eq_fp, MN_ltp, MN_lep, NM_ltp, NM_lep, NM_eqp, MN_eqp, MM_lt_tp, MM_lt_fp, MM_le_tp, MM_le_fp, MM_eq_tp, MM_eq_fp, N_cl, N_in_t, N_in_f, M_in, N_div, N_rem, N_nb0, N_nb1, cond_true, cond_false, Bool.not_true, Bool.not_false, Bool.and_true, Bool.true_and, Bool.and_false, Bool.false_and, decide_true, decide_false, Option.bind_some, Option.bind_none, x4, k61, m2, g1, g2, Nat.add_sub_cancel, m13, is5, bnd_some]
  have B1 : HoB q s n z y b x m (wb_iu x 51 q n (nN 6)) (wb_iu m 76 0 (6 * s + n) (nN 6)) := HoB_trans (HoB_x (Or.inr (Or.inr (Or.inr (Or.inl rfl))))) (HoB_m (by decide) (by decide) hn)
  have F1 : Fr [51] x (wb_iu x 51 q n (nN 6)) := Fr_iu rfl
  have G1 : Fr [76] m (wb_iu m 76 0 (6 * s + n) (nN 6)) := Fr_iu rfl
  have c51 : (wb_iu x 51 q n (nN 6)).1 51 q n = nN 6 := iu_at
  have c76 : (wb_iu m 76 0 (6 * s + n) (nN 6)).1 76 0 (6 * s + n) = nN 6 := iu_at
  have H1 := Lq_hx F1 G1 B1 rfl rfl H
  generalize wb_iu x 51 q n (nN 6) = x1 at *
  generalize wb_iu m 76 0 (6 * s + n) (nN 6) = m1 at *
  have mm2 := H1.1.2.2.2.2.1
  have h13 := H1.2.2.2.1
  rw [q_Reader_parseLaw_eq, q_M_tellLaw_eq]
  simp (disch := omega) only [mm2, g1, g2, Nat.add_sub_cancel, cond_true, L_0, L_1, L_2, L_3, L_4, L_5, L_6, L_7, L_8, L_9, L_10, L_11, L_12, L_13, L_14, L_15, L_16, L_17, L_18, L_19, L_20, L_21, L_22, L_23, L_24, L_25, L_26, L_27, L_28, L_29, L_30, L_31, L_32, L_33, L_34, L_35, L_40, L_41, L_42, L_43, L_44, L_45, L_47, L_48, L_50, L_53, L_57, L_59, L_60, L_61, L_63, L_64, L_97, L_100, L_101, L_102, L_103, L_122, L_130, L_216, L_255, L_364, L_400, L_402, L_420, L_728, L_768, L_999, L_1000, L_1093, L_1872, L_2000, L_9999, L_12345, L_252645135, L_858993459, L_1103515245, L_1431655765, Lm_1, Lm_2, Lm_8]
  rw [q_Laws_begin_eq]
  simp (disch := omega) only [L_0, L_1, L_2, L_3, L_4, L_5, L_6, L_7, L_8, L_9, L_10, L_11, L_12, L_13, L_14, L_15, L_16, L_17, L_18, L_19, L_20, L_21, L_22, L_23, L_24, L_25, L_26, L_27, L_28, L_29, L_30, L_31, L_32, L_33, L_34, L_35, L_40, L_41, L_42, L_43, L_44, L_45, L_47, L_48, L_50, L_53, L_57, L_59, L_60, L_61, L_63, L_64, L_97, L_100, L_101, L_102, L_103, L_122, L_130, L_216, L_255, L_364, L_400, L_402, L_420, L_728, L_768, L_999, L_1000, L_1093, L_1872, L_2000, L_9999, L_12345, L_252645135, L_858993459, L_1103515245, L_1431655765, Lm_1, Lm_2, Lm_8, N_zero, N_cast, N_add, N_mul, N_sub, N_addM, N_lt_tp, N_lt_fp, N_le_tp, N_le_fp, N_eq_tp, N_eq_fp, MN_ltp, MN_lep, NM_ltp, NM_lep, NM_eqp, MN_eqp, MM_lt_tp, MM_lt_fp, MM_le_tp, MM_le_fp, MM_eq_tp, MM_eq_fp, N_cl, N_in_t, N_in_f, M_in, N_div, N_rem, N_nb0, N_nb1, cond_true, cond_false, Bool.not_true, Bool.not_false, Bool.and_true, Bool.true_and, Bool.and_false, Bool.false_and, decide_true, decide_false, Option.bind_some, Option.bind_none, g2, h13, Option.bind_assoc]
  have B2 : HoB q s n z y b x1 m1 (wb_iu x1 43 q n (nN z)) m1 := HoB_x (Or.inl rfl)
  have F2 : Fr [43] x1 (wb_iu x1 43 q n (nN z)) := Fr_iu rfl
  have c43 : (wb_iu x1 43 q n (nN z)).1 43 q n = nN z := iu_at
  have H2 := Lq_hx F2 (Fr_refl [] m1) B2 rfl rfl H1
  generalize wb_iu x1 43 q n (nN z) = x2 at *
  have B3 := HoB_trans B (HoB_trans B1 B2)
  refine Both_bind (Lq_take B3.1 B3.2.1 (Lq_s H2) (d := 5) (Or.inl (by decide)) (by decide) (by decide)) ?_
  rintro x3 m3 h
  rcases h with ⟨H3, F3, G3⟩ | D
  · have h33 := H3.2.2.2.2.2.1
    rw [h33]
    have B4 : HoB q s n z y b x0 m0 x3 m3 := HoB_trans B3 (HoB_fr F3 G3 rfl rfl)
    have P0 : b + 0 = b := rfl
    refine ls_law19 (brs := []) (z0 := z) (y0 := y) (b0 := b) (x0 := x3) (m0 := m3) (a := 6 * s + n) (KX := semX sc) (w := w1) a12 hb1 hb2 ?_ ?_ 4 0 rfl (p + 1) z y x3 m3 (LB_refl _ _ _ _ _ _ _) (Nat.le_refl _) (Nat.le_refl _) (Nat.le_refl _) H3 ⟨rfl, rfl⟩ rfl
    · rintro x' m' ⟨p', y', brs, t, zf, LBx, HS, LC, LS, l4, yy', hpp⟩
      unfold tailM
      have p4' : p' ≤ 400 := by
        obtain ⟨y, hy, o, -⟩ := HS.2.1
        exact o.1
      have zl := HS.2.2.2.2.2.2.2.1
      have B5 := HoB_LB (n := n) LBx
      have B6 := HoB_trans B4 B5
      have d15 : x'.1 15 q 0 = nN n := (Fr_i LBx.1 (by rfl)).trans ((Fr_i F3 (by rfl)).trans ((Fr_i F2 (by rfl)).trans ((Fr_i F1 (by rfl)).trans c15)))
      rw [← bnd_some (semX sc x')]
      refine Both_bind (ls_semi B6.1 B6.2.1 HS d15 hn (by omega)) ?_
      rintro x5 m5 h
      rcases h with ⟨H5, F5, G5, e15, B7⟩ | D
      · have m513 := (Lq_p H5).2.1
        have m533 := H5.2.2.2.2.2.1
        simp (disch := omega) only [L_0, L_1, L_2, L_3, L_4, L_5, L_6, L_7, L_8, L_9, L_10, L_11, L_12, L_13, L_14, L_15, L_16, L_17, L_18, L_19, L_20, L_21, L_22, L_23, L_24, L_25, L_26, L_27, L_28, L_29, L_30, L_31, L_32, L_33, L_34, L_35, L_40, L_41, L_42, L_43, L_44, L_45, L_47, L_48, L_50, L_53, L_57, L_59, L_60, L_61, L_63, L_64, L_97, L_100, L_101, L_102, L_103, L_122, L_130, L_216, L_255, L_364, L_400, L_402, L_420, L_728, L_768, L_999, L_1000, L_1093, L_1872, L_2000, L_9999, L_12345, L_252645135, L_858993459, L_1103515245, L_1431655765, Lm_1, Lm_2, Lm_8, N_zero, N_cast, N_add, N_mul, N_sub, N_addM, N_lt_tp, N_lt_fp, N_le_tp, N_le_fp, N_eq_tp, N_eq_fp, MN_ltp, MN_lep, NM_ltp, NM_lep, NM_eqp, MN_eqp, MM_lt_tp, MM_lt_fp, MM_le_tp, MM_le_fp, MM_eq_tp, MM_eq_fp, N_cl, N_in_t, N_in_f, M_in, N_div, N_rem, N_nb0, N_nb1, cond_true, cond_false, Bool.not_true, Bool.not_false, Bool.and_true, Bool.true_and, Bool.and_false, Bool.false_and, decide_true, decide_false, Option.bind_some, Option.bind_none, m513, iu_nt (show 21 ≠ 78 by decide), m533]
        have B8 : HoB q s n (zf + t.length + 1) y' (b + brs.length + 1) x5 m5 x5 (wb_iu (wb_iu m5 78 0 (6 * s + n) (nN b)) 79 0 (6 * s + n) (nN (b + brs.length + 1))) := HoB_trans (HoB_m (by decide) (by decide) hn) (HoB_m (by decide) (by decide) hn)
        have G8 : Fr [78, 79] m5 (wb_iu (wb_iu m5 78 0 (6 * s + n) (nN b)) 79 0 (6 * s + n) (nN (b + brs.length + 1))) := Fr_trans (Fr_iu rfl) (Fr_iu rfl)
        have c79 : (wb_iu (wb_iu m5 78 0 (6 * s + n) (nN b)) 79 0 (6 * s + n) (nN (b + brs.length + 1))).1 79 0 (6 * s + n) = nN (b + brs.length + 1) := iu_at
        have c78 : (wb_iu (wb_iu m5 78 0 (6 * s + n) (nN b)) 79 0 (6 * s + n) (nN (b + brs.length + 1))).1 78 0 (6 * s + n) = nN b := by rw [iu_nt (by decide), iu_at]
        have H8 := Lq_hx (Fr_refl [] x5) G8 B8 rfl rfl H5
        generalize wb_iu (wb_iu m5 78 0 (6 * s + n) (nN b)) 79 0 (6 * s + n) (nN (b + brs.length + 1)) = m6 at *
        have B9 : HoB q s n (zf + t.length + 1) y' (b + brs.length + 1) x' m' x5 m6 := HoB_trans (HoB_n (by omega) B7) B8
        have FF : Fr [13, 15, 41, 42, 43, 53, 4003, 4004, 4005, 4008, 4009] x1 x5 := Fr_trans (Fr_mono F2 rfl) (Fr_trans (Fr_mono F3 rfl) (Fr_trans (Fr_mono LBx.1 rfl) (Fr_mono F5 rfl)))
        have F25 : Fr [13, 15, 41, 42, 53, 4003, 4004, 4005, 4008, 4009] x2 x5 := Fr_trans (Fr_mono F3 rfl) (Fr_trans (Fr_mono LBx.1 rfl) (Fr_mono F5 rfl))
        have GG : Fr [78, 79, 85, 86, 87, 88, 89, 90, 91, 92, 1011, 1012, 1013, 1014, 1033, 1039, 1043] m1 m6 := Fr_trans (Fr_mono G3 rfl) (Fr_trans (Fr_mono LBx.2.2.1 rfl) (Fr_trans (Fr_mono G5 rfl) (Fr_mono G8 rfl)))
        have zzf := (LawC_le1 LC).1
        refine Both_some (Or.inl ⟨p' + 1, w1, zf + t.length + 1, y', b + brs.length + 1, by omega, H8, e15, ?_, HoB_trans B6 (HoB_le (by omega) yy' (by omega) B9), fun h => (hw h).1, by omega, yy', by omega, by omega, ?_, k1, ok1, u, e, 6, hu, he, by decide, ?_, ?_, ?_, ?_, ?_, ?_, fun h => ⟨(hw h).2.1, (hw h).2.2, fun y => absurd y (by decide)⟩, fun _ => ⟨z, b, brs, t, zf, ?_, c78, c79, ?_, ?_, Nat.le_refl _, Nat.le_refl _, hb1⟩⟩)
        · exact (Fr_i GG (by rfl)).trans ((Fr_i G1 (by rfl)).trans c73)
        · exact (Fr_l FF (by rfl)).trans ((Fr_l F1 (by rfl)).trans c48)
        · exact (Fr_i FF (by rfl)).trans ((Fr_i F1 (by rfl)).trans c49)
        · exact (Fr_i GG (by rfl)).trans ((Fr_i G1 (by rfl)).trans c74)
        · exact (Fr_i FF (by rfl)).trans ((Fr_i F1 (by rfl)).trans c50)
        · exact (Fr_i GG (by rfl)).trans ((Fr_i G1 (by rfl)).trans c75)
        · exact (Fr_i FF (by rfl)).trans c51
        · exact (Fr_i GG (by rfl)).trans c76
        · exact (Fr_i F25 (by rfl)).trans c43
        · exact LawC_keep B9.2.2.1 B9.2.2.2.1 B9.2.2.2.2.1 (Nat.le_refl _) (by omega) (by omega) LC
        · exact Lst_keep B9.2.2.1 B9.2.2.2.1 B9.2.2.2.2.1 (Nat.le_refl _) (Nat.le_refl _) (by omega) LS
      · have D' := D
        obtain ⟨X5, M5, f, e5, he5, D1, D2⟩ := D'
        have d0 := D2.1
        have d5 := D2.2.1
        have d13 := D2.2.2.1
        simp (disch := omega) only [L_0, L_1, L_2, L_3, L_4, L_5, L_6, L_7, L_8, L_9, L_10, L_11, L_12, L_13, L_14, L_15, L_16, L_17, L_18, L_19, L_20, L_21, L_22, L_23, L_24, L_25, L_26, L_27, L_28, L_29, L_30, L_31, L_32, L_33, L_34, L_35, L_40, L_41, L_42, L_43, L_44, L_45, L_47, L_48, L_50, L_53, L_57, L_59, L_60, L_61, L_63, L_64, L_97, L_100, L_101, L_102, L_103, L_122, L_130, L_216, L_255, L_364, L_400, L_402, L_420, L_728, L_768, L_999, L_1000, L_1093, L_1872, L_2000, L_9999, L_12345, L_252645135, L_858993459, L_1103515245, L_1431655765, Lm_1, Lm_2, Lm_8, N_zero, N_cast, N_add, N_mul, N_sub, N_addM, N_lt_tp, N_lt_fp, N_le_tp, N_le_fp, N_eq_tp, N_eq_fp, MN_ltp, MN_lep, NM_ltp, NM_lep, NM_eqp, MN_eqp, MM_lt_tp, MM_lt_fp, MM_le_tp, MM_le_fp, MM_eq_tp, MM_eq_fp, N_cl, N_in_t, N_in_f, M_in, N_div, N_rem, N_nb0, N_nb1, cond_true, cond_false, Bool.not_true, Bool.not_false, Bool.and_true, Bool.true_and, Bool.and_false, Bool.false_and, decide_true, decide_false, Option.bind_some, Option.bind_none, d13]
        exact Both_some (Or.inr D)
    · intro b' x' m' D
      have D2 := Dd_trans B4.1 B4.2.1 D
      refine Both_w (Dd_semi D2) ?_
      intro x5 m5 h
      exact Or.inr h
  · have D' := D
    obtain ⟨X3, M3, ⟨f, e3, he3, D1, D2⟩, hb⟩ := D'
    obtain ⟨x5, e5, h5'⟩ := dq_law19 (sc := sc) 4 0 rfl x3 D1
    rw [e5, hb]
    have D5 : Dd q s b x0 m0 x5 m3 := ⟨FX_trans X3 h5'.2.1, M3, ⟨f, e3, he3, h5'.2.2, D2⟩, hb⟩
    obtain ⟨m6, e6, h6⟩ := Dd_law (sc := sc) (a := 6 * s + n) (b0 := b) a12 D5 hb1 (by omega) hs (nN 0)
    rw [e6]
    refine Both_w (Dd_semi h6) ?_
    intro x5 m5 h
    exact Or.inr h
end
