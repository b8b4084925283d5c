/-! Habits. -/
theorem kap_h : ∀ k, k < 27 → 21 ≤ k → kap k = k - 15 := by decide +kernel
theorem kap_h2 : ∀ k, k < 42 → okB k = true → (Nat.ble 21 k && Nat.ble k 26 || Nat.beq k 5 || (!Nat.beq (kap k) 61 && (Nat.blt (kap k) 6 || Nat.blt 11 (kap k)))) = true := by decide +kernel
section
variable {sc : wb_X} {q s : Nat} {kd pl : Nat → Nat} {vl : Nat → Int} {w : Nat}
theorem ls_habend {k n z y b p w1 u e t : Nat} {x0 m0 x m : wb_H} (H : Lq q s kd pl vl p w1 z y b x m) (B : HoB q s n z y b x0 m0 x m) (hw : w1 = 0 → w = 0 ∧ u ≤ 10 ∧ e ≤ 6 ∧ (t = 3 → ∃ j, j < n ∧ x.1 52 q n = nN j ∧ m.1 77 0 (6 * s + n) = nN j)) (hu : u ≤ 9999) (he : e ≤ 9999) (ht : t ≤ 5) (c49 : x.1 49 q n = nN u) (c74 : m.1 74 0 (6 * s + n) = nN u) (c50 : x.1 50 q n = nN e) (c75 : m.1 75 0 (6 * s + n) = nN e) (c51 : x.1 51 q n = nN t) (c76 : m.1 76 0 (6 * s + n) = nN t) (c48 : x.2.1 48 q n = Int64.ofInt (vl k)) (k1 : kd k = 1) (ok1 : okT kd k) (c15 : x.1 15 q 0 = nN n) (c73 : m.1 73 0 s = nN n) (hn : n < 6) (hkp : k < p) : Both (semX sc x) (q_M_must sc m (nN 4)) (fun x' m' => HabP q s kd pl vl k w n z y b x0 m0 x' m' ∨ DdE q s x0 m0 x' m') := by
  have p4 := (Lq_p H).1
  have zl := H.2.2.2.2.2.2.2.1
  refine Both_w (ls_semi B.1 B.2.1 (Lq_s H) c15 hn (by omega)) ?_
  rintro x' m' (⟨H', F, G, e15, B'⟩ | D)
  · refine Or.inl ⟨p + 1, w1, z, y, b, by omega, H', e15, (Fr_i G (by rfl)).trans c73, HoB_trans B (HoB_n (by omega) B'), fun h => (hw h).1, Nat.le_refl _, Nat.le_refl _, Nat.le_refl _, by omega, (Fr_l F (by rfl)).trans c48, k1, ok1, u, e, t, hu, he, by omega, (Fr_i F (by rfl)).trans c49, (Fr_i G (by rfl)).trans c74, (Fr_i F (by rfl)).trans c50, (Fr_i G (by rfl)).trans c75, (Fr_i F (by rfl)).trans c51, (Fr_i G (by rfl)).trans c76, fun h => ⟨(hw h).2.1, (hw h).2.2.1, fun h3 => ?_⟩, fun h6 => by omega⟩
    obtain ⟨j, j1, j2, j3⟩ := (hw h).2.2.2 h3
    exact ⟨j, j1, (Fr_i F (by rfl)).trans j2, (Fr_i G (by rfl)).trans j3⟩
  · exact Or.inr D
theorem Dd_habend {b : Nat} {x0 m0 x m : wb_H} (H : Dd q s b x0 m0 x m) (P : wb_H → wb_H → Prop) : Both (semX sc x) (q_M_must sc m (nN 4)) (fun x' m' => P x' m' ∨ DdE q s x0 m0 x' m') := by
  have H' := H
  obtain ⟨X, M, ⟨f, e, he, D1, D2⟩, hb⟩ := H'
  rw [mD_must D2]
  refine Both_w (Dd_semi H) ?_
  intro x' m' h
  exact Or.inr h
/-- as another house -/
theorem ls_model {k n z y b p w1 u e : Nat} {x0 m0 x m : wb_H} (H : Lq q s kd pl vl p w1 z y b x m) (B : HoB q s n z y b x0 m0 x m) (hw : w1 = 0 → w = 0 ∧ u ≤ 10 ∧ e ≤ 6) (hu : u ≤ 9999) (he : e ≤ 9999) (c49 : x.1 49 q n = nN u) (c74 : m.1 74 0 (6 * s + n) = nN u) (c50 : x.1 50 q n = nN e) (c75 : m.1 75 0 (6 * s + n) = nN e) (c51 : x.1 51 q n = nN 3) (c76 : m.1 76 0 (6 * s + n) = nN 3) (c48 : x.2.1 48 q n = Int64.ofInt (vl k)) (k1 : kd k = 1) (ok1 : okT kd k) (c15 : x.1 15 q 0 = nN n) (c73 : m.1 73 0 s = nN n) (hn : n < 6) (hkp : k < p) (hnm : ∀ i, i < n → x.2.1 48 q i = m.2.1 72 0 i) : Both ((q_Reader_parseModel sc x (nN n)).bind (semX sc)) (q_M_tellHabit_L99 sc m (nN (6 * s + n)) (nN 1)) (fun x' m' => HabP q s kd pl vl k w n z y b x0 m0 x' m' ∨ DdE q s x0 m0 x' m') := by
  have hq := H.1.2.1
  have hs := H.1.2.2.1
  have g1 : decide (0 < q + 1) = true := decide_eq_true (by omega)
  have g2 : decide (q < 2) = true := decide_eq_true hq
  have H' := H
  obtain ⟨E, L, P, h13, h39, h33, h12, hz, hy1, hy2⟩ := H'
  have L' := L
  obtain ⟨yy, hyy, ok, w5, y2, lx, lm⟩ := L'
  have p4 := ok.1
  have ts := E.1
  have tx := E.2.2.2.1
  have mm2 := E.2.2.2.2.1
  have tm := E.2.2.2.2.2.1
  have h19 := E.2.2.2.2.2.2
  have lx1 := lx.1
  have lm1 := lm.1
  have lx2 := lx.2.1
  have a12 : 6 * s + n < 12 := by omega
  have kl := kap_le (ts.1 p)
  rw [q_Reader_parseModel_eq, q_M_tellHabit_L99_eq]
  simp (disch := omega) only [L_0, L_1, L_2, L_3, L_4, L_5, L_6, L_7, L_8, L_9, L_10, L_11, L_12, L_13, L_14, L_15, L_16, L_17, L_18, L_19, L_20, L_21, L_22, L_23, L_24, L_25, L_26, L_27, L_28, L_29, L_30, L_31, L_32, L_33, L_34, L_35, L_40, L_41, L_42, L_43, L_44, L_45, L_47, L_48, L_50, L_53, L_57, L_59, L_60, L_61, L_63, L_64, L_97, L_100, L_101, L_102, L_103, L_122, L_130, L_216, L_255, L_364, L_400, L_402, L_420, L_728, L_768, L_999, L_1000, L_1093, L_1872, L_2000, L_9999, L_12345, L_252645135, L_858993459, L_1103515245, L_1431655765, Lm_1, Lm_2, Lm_8, N_zero, N_cast, N_add, N_mul, N_sub, N_addM, N_lt_tp, N_lt_fp, N_le_tp, N_le_fp, N_eq_tp, N_eq_fp, MN_ltp, MN_lep, NM_ltp, NM_lep, NM_eqp, MN_eqp, MM_lt_tp, MM_lt_fp, MM_le_tp, MM_le_fp, MM_eq_tp, MM_eq_fp, N_cl, N_in_t, N_in_f, M_in, N_div, N_rem, N_nb0, N_nb1, cond_true, cond_false, Bool.not_true, Bool.not_false, Bool.and_true, Bool.true_and, Bool.and_false, Bool.false_and, decide_true, decide_false, Option.bind_some, Option.bind_none, mm2, g1, g2, Nat.add_sub_cancel, lx1, X_find_f hq (show n ≤ 6 by omega) c15, lm1]
  -- what the class finds is kept
  have F1 : Fr [52] x (wb_iu x 52 q n (fnX (x.2.1 48 q) (x.2.1 59 0 p) n 0)) := Fr_iu rfl
  have B1 : HoB q s n z y b x m (wb_iu x 52 q n (fnX (x.2.1 48 q) (x.2.1 59 0 p) n 0)) m := HoB_x (Or.inr (Or.inr (Or.inr (Or.inr rfl))))
  have c52 : (wb_iu x 52 q n (fnX (x.2.1 48 q) (x.2.1 59 0 p) n 0)).1 52 q n = fnX (x.2.1 48 q) (x.2.1 59 0 p) n 0 := iu_at
  have m52 : (wb_iu x 52 q n (fnX (x.2.1 48 q) (x.2.1 59 0 p) n 0)).2.2 16 0 2 = q + 1 := mm2
  have H1 := Lq_hx F1 (Fr_refl [] m) B1 rfl rfl H
  generalize wb_iu x 52 q n (fnX (x.2.1 48 q) (x.2.1 59 0 p) n 0) = x1 at *
  have lx' : LvX kd p w1 yy x1 := LvX_fr F1 rfl lx
  have lx4 := lx'.2.1
  have E1 := H1.1
  have B01 := HoB_trans B B1
  -- the reference's end, when it knows a fault
  have mend : ∀ (f e : Nat) (m3 : wb_H), DdM f e m3 → q_M_tellHabit_L157 sc (wb_iu m3 77 0 (6 * s + n) (nM 1)) = some (wb_iu m3 77 0 (6 * s + n) (nM 1)) := by
    intro f e m3 D
    rw [q_M_tellHabit_L157_eq, mD_must (DdM_fr (Fr_iu (L := [77]) rfl) rfl rfl D)]
    rfl
  have dead : ∀ (x3 m3 : wb_H), Dd q s b x0 m0 x3 m3 → Both (semX sc x3) (bif wb_in (nN (6 * s + n)) 12 then (bif !decide ((wb_iu m3 77 0 (6 * s + n) (nM 1)).1 21 0 13 = nN 0) then q_M_tellHabit_L157 sc (wb_iu m3 77 0 (6 * s + n) (nM 1)) else bif wb_in (nN (6 * s + n)) 12 then bif decide (nN 0 ≤ (wb_iu m3 77 0 (6 * s + n) (nM 1)).1 77 0 (6 * s + n)) then q_M_tellHabit_L157 sc (wb_iu m3 77 0 (6 * s + n) (nM 1)) else (q_M_wrong sc (wb_iu m3 77 0 (6 * s + n) (nM 1)) (nN 4) (nN p)).bind fun h2 => q_M_tellHabit_L157 sc h2 else none) else none) (fun x' m' => HabP q s kd pl vl k w n z y b x0 m0 x' m' ∨ DdE q s x0 m0 x' m') := by
    intro x3 m3 D
    have D0 := Dd_w (t := 77) (k := 6 * s + n) (v := nM 1) D (by rfl) (Or.inr (by unfold MSd; omega))
    have D' := D
    obtain ⟨X3, M3, ⟨f, e3, he3, D1, D2⟩, hb⟩ := D'
    have d0 := D2.1
    have d5 := D2.2.1
    have d13 := D2.2.2.1
    simp (disch := omega) only [L_0, L_1, L_2, L_3, L_4, L_5, L_6, L_7, L_8, L_9, L_10, L_11, L_12, L_13, L_14, L_15, L_16, L_17, L_18, L_19, L_20, L_21, L_22, L_23, L_24, L_25, L_26, L_27, L_28, L_29, L_30, L_31, L_32, L_33, L_34, L_35, L_40, L_41, L_42, L_43, L_44, L_45, L_47, L_48, L_50, L_53, L_57, L_59, L_60, L_61, L_63, L_64, L_97, L_100, L_101, L_102, L_103, L_122, L_130, L_216, L_255, L_364, L_400, L_402, L_420, L_728, L_768, L_999, L_1000, L_1093, L_1872, L_2000, L_9999, L_12345, L_252645135, L_858993459, L_1103515245, L_1431655765, Lm_1, Lm_2, Lm_8, N_zero, N_cast, N_add, N_mul, N_sub, N_addM, N_lt_tp, N_lt_fp, N_le_tp, N_le_fp, N_eq_tp, N_eq_fp, MN_ltp, MN_lep, NM_ltp, NM_lep, NM_eqp, MN_eqp, MM_lt_tp, MM_lt_fp, MM_le_tp, MM_le_fp, MM_eq_tp, MM_eq_fp, N_cl, N_in_t, N_in_f, M_in, N_div, N_rem, N_nb0, N_nb1, cond_true, cond_false, Bool.not_true, Bool.not_false, Bool.and_true, Bool.true_and, Bool.and_false, Bool.false_and, decide_true, decide_false, Option.bind_some, Option.bind_none, iu_nt (show 21 ≠ 77 by decide), d13, mend f e3 m3 D2]
    refine Both_w (Dd_semi D0) ?_
    intro x' m' h
    exact Or.inr h
  by_cases kn : kd p = 1
  · have k100 : nN (kap (kd p)) = nN 100 := by rw [kn]; rfl
    have v70 := (tm p ok).2.2.2 (Or.inl kn)
    have v59 := (tx.1 p ok).2.2 (Or.inl kn)
    have efn : fnX (x.2.1 48 q) (x.2.1 59 0 p) n 0 = fnX (m.2.1 72 0) (m.2.1 70 0 p) n 0 := by
      rw [v59, v70]
      exact fnX_congr n 0 (fun i _ hi => hnm i (by omega))
    rw [efn] at c52
    have is1 := M_is (sc := sc) ts tm ok lm (show 1 ≤ 100 by decide)
    rw [if_pos kn] at is1
    have xg0 := X_go (sc := sc) (w := w1) (y := yy) E1.2.2.2.1 ok lx' (by omega) (by omega)
    rcases fnX_or (m.2.1 72 0) (m.2.1 70 0 p) n 0 with ef | ⟨i, -, hi, ef⟩
    · simp (disch := omega) only [L_0, L_1, L_2, L_3, L_4, L_5, L_6, L_7, L_8, L_9, L_10, L_11, L_12, L_13, L_14, L_15, L_16, L_17, L_18, L_19, L_20, L_21, L_22, L_23, L_24, L_25, L_26, L_27, L_28, L_29, L_30, L_31, L_32, L_33, L_34, L_35, L_40, L_41, L_42, L_43, L_44, L_45, L_47, L_48, L_50, L_53, L_57, L_59, L_60, L_61, L_63, L_64, L_97, L_100, L_101, L_102, L_103, L_122, L_130, L_216, L_255, L_364, L_400, L_402, L_420, L_728, L_768, L_999, L_1000, L_1093, L_1872, L_2000, L_9999, L_12345, L_252645135, L_858993459, L_1103515245, L_1431655765, Lm_1, Lm_2, Lm_8, N_zero, N_cast, N_add, N_mul, N_sub, N_addM, N_lt_tp, N_lt_fp, N_le_tp, N_le_fp, N_eq_tp, N_eq_fp, MN_ltp, MN_lep, NM_ltp, NM_lep, NM_eqp, MN_eqp, MM_lt_tp, MM_lt_fp, MM_le_tp, MM_le_fp, MM_eq_tp, MM_eq_fp, N_cl, N_in_t, N_in_f, M_in, N_div, N_rem, N_nb0, N_nb1, cond_true, cond_false, Bool.not_true, Bool.not_false, Bool.and_true, Bool.true_and, Bool.and_false, Bool.false_and, decide_true, decide_false, Option.bind_some, Option.bind_none, lx4, k100, m52, g1, g2, Nat.add_sub_cancel, c52, ef, Option.bind_assoc]
      rw [q_M_must_eq]
      simp (disch := omega) only [L_0, L_1, L_2, L_3, L_4, L_5, L_6, L_7, L_8, L_9, L_10, L_11, L_12, L_13, L_14, L_15, L_16, L_17, L_18, L_19, L_20, L_21, L_22, L_23, L_24, L_25, L_26, L_27, L_28, L_29, L_30, L_31, L_32, L_33, L_34, L_35, L_40, L_41, L_42, L_43, L_44, L_45, L_47, L_48, L_50, L_53, L_57, L_59, L_60, L_61, L_63, L_64, L_97, L_100, L_101, L_102, L_103, L_122, L_130, L_216, L_255, L_364, L_400, L_402, L_420, L_728, L_768, L_999, L_1000, L_1093, L_1872, L_2000, L_9999, L_12345, L_252645135, L_858993459, L_1103515245, L_1431655765, Lm_1, Lm_2, Lm_8, N_zero, N_cast, N_add, N_mul, N_sub, N_addM, N_lt_tp, N_lt_fp, N_le_tp, N_le_fp, N_eq_tp, N_eq_fp, MN_ltp, MN_lep, NM_ltp, NM_lep, NM_eqp, MN_eqp, MM_lt_tp, MM_lt_fp, MM_le_tp, MM_le_fp, MM_eq_tp, MM_eq_fp, N_cl, N_in_t, N_in_f, M_in, N_div, N_rem, N_nb0, N_nb1, is1, cond_true, cond_false, Bool.not_true, Bool.not_false, Bool.and_true, Bool.true_and, Bool.and_false, Bool.false_and, decide_true, decide_false, Option.bind_some, Option.bind_none, bnd_some]
      refine Both_x (X_later E1.2.2.2.1 ok lx' w5 (n := 4) (by decide) (by decide)) ?_
      rintro x3 ⟨F3, lx3'⟩
      have tx3 := TKX_fx (FX_fr (q := q) F3 rfl) E1.2.2.2.1
      have xg := X_go (sc := sc) tx3 ok lx3' (by omega) (by omega)
      rw [k100] at xg
      refine Both_x xg ?_
      rintro x4 ⟨F4, hx⟩
      refine Both_m (M_go tm ok lm) ?_
      rintro m3 ⟨G3, hm⟩
      have FF : Fr LIX x1 x4 := Fr_trans (Fr_mono F3 rfl) (Fr_mono F4 rfl)
      have B3 : HoB q s n z y b x0 m0 x4 m3 := HoB_trans B01 (HoB_trans (HoB_fr F3 (Fr_refl [] m) rfl rfl) (HoB_fr F4 G3 rfl rfl))
      have P4 : PLn q x4 := PLn_fr FF rfl (PLn_fr F1 rfl P)
      have h13' : x4.1 13 q 6 = nN z := (Fr_i FF (by rfl)).trans ((Fr_i F1 (by rfl)).trans h13)
      by_cases zp : p < 400
      · rcases hx with ⟨-, hx⟩ | ⟨e, -⟩
        · rcases hm with ⟨-, hm⟩ | ⟨e, -⟩
          · have m13 := hm.2.1
            have e72 : fnX (m3.2.1 72 0) (m3.2.1 70 0 p) n 0 = nM 1 := by
              rw [← ef, (Fr_l G3 (by rfl) : m3.2.1 70 0 p = m.2.1 70 0 p)]
              exact fnX_congr n 0 (fun i _ hi => Fr_l G3 (by rfl))
            simp (disch := omega) only [L_0, L_1, L_2, L_3, L_4, L_5, L_6, L_7, L_8, L_9, L_10, L_11, L_12, L_13, L_14, L_15, L_16, L_17, L_18, L_19, L_20, L_21, L_22, L_23, L_24, L_25, L_26, L_27, L_28, L_29, L_30, L_31, L_32, L_33, L_34, L_35, L_40, L_41, L_42, L_43, L_44, L_45, L_47, L_48, L_50, L_53, L_57, L_59, L_60, L_61, L_63, L_64, L_97, L_100, L_101, L_102, L_103, L_122, L_130, L_216, L_255, L_364, L_400, L_402, L_420, L_728, L_768, L_999, L_1000, L_1093, L_1872, L_2000, L_9999, L_12345, L_252645135, L_858993459, L_1103515245, L_1431655765, Lm_1, Lm_2, Lm_8, N_zero, N_cast, N_add, N_mul, N_sub, N_addM, N_lt_tp, N_lt_fp, N_le_tp, N_le_fp, N_eq_tp, N_eq_fp, MN_ltp, MN_lep, NM_ltp, NM_lep, NM_eqp, MN_eqp, MM_lt_tp, MM_lt_fp, MM_le_tp, MM_le_fp, MM_eq_tp, MM_eq_fp, N_cl, N_in_t, N_in_f, M_in, N_div, N_rem, N_nb0, N_nb1, cond_true, cond_false, Bool.not_true, Bool.not_false, Bool.and_true, Bool.true_and, Bool.and_false, Bool.false_and, decide_true, decide_false, Option.bind_some, Option.bind_none, m13, M_named ((Fr_i G3 (by rfl)).trans h19) hs ((Fr_i G3 (by rfl)).trans c73) (show n ≤ 6 by omega) (show p < 403 by omega), e72, iu_nt (show 21 ≠ 77 by decide), iu_at]
            have G5 : Fr [77] m3 (wb_iu m3 77 0 (6 * s + n) (nM 1)) := Fr_iu rfl
            have B5 : HoB q s n z y b x4 m3 x4 (wb_iu m3 77 0 (6 * s + n) (nM 1)) := HoB_m (by decide) (by decide) hn
            generalize wb_iu m3 77 0 (6 * s + n) (nM 1) = m4 at *
            have hm' : LvM (p + 1) w1 yy m4 := LvM_fr G5 rfl hm
            have GM : FM s m m4 := FM_trans (FM_fr G3 rfl) B5.2.1
            refine Both_m (M_wrong ts (TKM_fm (s := s) GM tm) ok hm' w5 hyy (n := 4) (by decide) (by decide)) ?_
            rintro m5 ⟨G6, hm5⟩
            rw [q_M_tellHabit_L157_eq]
            simp only [L_0, L_1, L_2, L_3, L_4, L_5, L_6, L_7, L_8, L_9, L_10, L_11, L_12, L_13, L_14, L_15, L_16, L_17, L_18, L_19, L_20, L_21, L_22, L_23, L_24, L_25, L_26, L_27, L_28, L_29, L_30, L_31, L_32, L_33, L_34, L_35, L_40, L_41, L_42, L_43, L_44, L_45, L_47, L_48, L_50, L_53, L_57, L_59, L_60, L_61, L_63, L_64, L_97, L_100, L_101, L_102, L_103, L_122, L_130, L_216, L_255, L_364, L_400, L_402, L_420, L_728, L_768, L_999, L_1000, L_1093, L_1872, L_2000, L_9999, L_12345, L_252645135, L_858993459, L_1103515245, L_1431655765, Lm_1, Lm_2, Lm_8, bnd_some]
            have ok2 := okT_succ ok zp (by omega) (by omega)
            have ps := pl_succ ts ok2
            have pp := ts.2.1 p
            have B6 : HoB q s n z y b x0 m0 x4 m5 := HoB_trans B3 (HoB_trans B5 (HoB_fr (Fr_refl [] x4) G6 rfl rfl))
            have GG : Fr [77, 1011, 1013, 1014, 1015, 1016] m m5 := Fr_trans (Fr_mono G3 rfl) (Fr_trans (Fr_mono G5 rfl) (Fr_mono G6 rfl))
            have FF2 : Fr [52, 4003, 4004, 4006, 4007, 4008, 4009] x x4 := Fr_trans (Fr_mono F1 rfl) (Fr_mono FF rfl)
            have l4 : Live kd pl (p + 1) (if w1 = 0 then 4 else w1) x4 m5 := ⟨if w1 = 0 then pl p else yy, fun _ => by
              by_cases w0 : w1 = 0
              · rw [if_pos w0]; exact ps
              · rw [if_neg w0]; exact Nat.lt_trans (hyy w0) ps, ok2, by split <;> omega, by split <;> omega, hx, hm5⟩
            have L4 : Lq q s kd pl vl (p + 1) (if w1 = 0 then 4 else w1) z y b x4 m5 := ⟨En_f (FX_trans B1.1 (FX_fr FF rfl)) (FM_trans GM (FM_fr G6 rfl)) E, l4, P4, h13', (Fr_i GG (by rfl)).trans h39, (Fr_i GG (by rfl)).trans h33, (Fr_i GG (by rfl)).trans h12, by omega, hy1, by omega⟩
            exact ls_habend (t := 3) L4 B6 (fun e => by split at e <;> omega) hu he (by decide) ((Fr_i FF2 (by rfl)).trans c49) ((Fr_i GG (by rfl)).trans c74) ((Fr_i FF2 (by rfl)).trans c50) ((Fr_i GG (by rfl)).trans c75) ((Fr_i FF2 (by rfl)).trans c51) ((Fr_i GG (by rfl)).trans c76) ((Fr_l FF2 (by rfl)).trans c48) k1 ok1 ((Fr_i FF2 (by rfl)).trans c15) ((Fr_i GG (by rfl)).trans c73) hn (by omega)
          · omega
        · omega
      · rcases hx with ⟨e, -⟩ | ⟨-, hx⟩
        · omega
        · rcases hm with ⟨e, -⟩ | ⟨-, hm⟩
          · omega
          · have d0 := hm.1
            have d5 := hm.2.1
            have d13 := hm.2.2.1
            have D0 : Dd q s b x0 m0 x4 m3 := Dd_mk hq B3.1 B3.2.1 ⟨2, _, ts.2.1 _, hx, hm⟩ ⟨z, by omega, h13'⟩ P4 ((Fr_m FF (by rfl)).trans m52) ((Fr_i G3 (by rfl)).trans h33)
            have go := dead x4 m3 D0
            simp (disch := omega) only [L_0, L_1, L_2, L_3, L_4, L_5, L_6, L_7, L_8, L_9, L_10, L_11, L_12, L_13, L_14, L_15, L_16, L_17, L_18, L_19, L_20, L_21, L_22, L_23, L_24, L_25, L_26, L_27, L_28, L_29, L_30, L_31, L_32, L_33, L_34, L_35, L_40, L_41, L_42, L_43, L_44, L_45, L_47, L_48, L_50, L_53, L_57, L_59, L_60, L_61, L_63, L_64, L_97, L_100, L_101, L_102, L_103, L_122, L_130, L_216, L_255, L_364, L_400, L_402, L_420, L_728, L_768, L_999, L_1000, L_1093, L_1872, L_2000, L_9999, L_12345, L_252645135, L_858993459, L_1103515245, L_1431655765, Lm_1, Lm_2, Lm_8, N_zero, N_cast, N_add, N_mul, N_sub, N_addM, N_lt_tp, N_lt_fp, N_le_tp, N_le_fp, N_eq_tp, N_eq_fp, MN_ltp, MN_lep, NM_ltp, NM_lep, NM_eqp, MN_eqp, MM_lt_tp, MM_lt_fp, MM_le_tp, MM_le_fp, MM_eq_tp, MM_eq_fp, N_cl, N_in_t, N_in_f, M_in, N_div, N_rem, N_nb0, N_nb1, cond_true, cond_false, Bool.not_true, Bool.not_false, Bool.and_true, Bool.true_and, Bool.and_false, Bool.false_and, decide_true, decide_false, Option.bind_some, Option.bind_none, d13, iu_nt (show 21 ≠ 77 by decide)] at go ⊢
            exact go
    · rw [k100] at xg0
      simp (disch := omega) only [L_0, L_1, L_2, L_3, L_4, L_5, L_6, L_7, L_8, L_9, L_10, L_11, L_12, L_13, L_14, L_15, L_16, L_17, L_18, L_19, L_20, L_21, L_22, L_23, L_24, L_25, L_26, L_27, L_28, L_29, L_30, L_31, L_32, L_33, L_34, L_35, L_40, L_41, L_42, L_43, L_44, L_45, L_47, L_48, L_50, L_53, L_57, L_59, L_60, L_61, L_63, L_64, L_97, L_100, L_101, L_102, L_103, L_122, L_130, L_216, L_255, L_364, L_400, L_402, L_420, L_728, L_768, L_999, L_1000, L_1093, L_1872, L_2000, L_9999, L_12345, L_252645135, L_858993459, L_1103515245, L_1431655765, Lm_1, Lm_2, Lm_8, N_zero, N_cast, N_add, N_mul, N_sub, N_addM, N_lt_tp, N_lt_fp, N_le_tp, N_le_fp, N_eq_tp, N_eq_fp, MN_ltp, MN_lep, NM_ltp, NM_lep, NM_eqp, MN_eqp, MM_lt_tp, MM_lt_fp, MM_le_tp, MM_le_fp, MM_eq_tp, MM_eq_fp, N_cl, N_in_t, N_in_f, M_in, N_div, N_rem, N_nb0, N_nb1, cond_true, cond_false, Bool.not_true, Bool.not_false, Bool.and_true, Bool.true_and, Bool.and_false, Bool.false_and, decide_true, decide_false, Option.bind_some, Option.bind_none, lx4, k100, m52, g1, g2, Nat.add_sub_cancel, c52, ef, Option.bind_assoc]
      rw [q_M_must_eq]
      simp (disch := omega) only [L_0, L_1, L_2, L_3, L_4, L_5, L_6, L_7, L_8, L_9, L_10, L_11, L_12, L_13, L_14, L_15, L_16, L_17, L_18, L_19, L_20, L_21, L_22, L_23, L_24, L_25, L_26, L_27, L_28, L_29, L_30, L_31, L_32, L_33, L_34, L_35, L_40, L_41, L_42, L_43, L_44, L_45, L_47, L_48, L_50, L_53, L_57, L_59, L_60, L_61, L_63, L_64, L_97, L_100, L_101, L_102, L_103, L_122, L_130, L_216, L_255, L_364, L_400, L_402, L_420, L_728, L_768, L_999, L_1000, L_1093, L_1872, L_2000, L_9999, L_12345, L_252645135, L_858993459, L_1103515245, L_1431655765, Lm_1, Lm_2, Lm_8, N_zero, N_cast, N_add, N_mul, N_sub, N_addM, N_lt_tp, N_lt_fp, N_le_tp, N_le_fp, N_eq_tp, N_eq_fp, MN_ltp, MN_lep, NM_ltp, NM_lep, NM_eqp, MN_eqp, MM_lt_tp, MM_lt_fp, MM_le_tp, MM_le_fp, MM_eq_tp, MM_eq_fp, N_cl, N_in_t, N_in_f, M_in, N_div, N_rem, N_nb0, N_nb1, is1, cond_true, cond_false, Bool.not_true, Bool.not_false, Bool.and_true, Bool.true_and, Bool.and_false, Bool.false_and, decide_true, decide_false, Option.bind_some, Option.bind_none, bnd_some]
      refine Both_x xg0 ?_
      rintro x4 ⟨F4, hx⟩
      refine Both_m (M_go tm ok lm) ?_
      rintro m3 ⟨G3, hm⟩
      have FF : Fr LIX x1 x4 := Fr_mono F4 rfl
      have B3 : HoB q s n z y b x0 m0 x4 m3 := HoB_trans B01 (HoB_fr F4 G3 rfl rfl)
      have P4 : PLn q x4 := PLn_fr FF rfl (PLn_fr F1 rfl P)
      have h13' : x4.1 13 q 6 = nN z := (Fr_i FF (by rfl)).trans ((Fr_i F1 (by rfl)).trans h13)
      by_cases zp : p < 400
      · rcases hx with ⟨-, hx⟩ | ⟨e, -⟩
        · rcases hm with ⟨-, hm⟩ | ⟨e, -⟩
          · have m13 := hm.2.1
            have e72 : fnX (m3.2.1 72 0) (m3.2.1 70 0 p) n 0 = nN i := by
              rw [← ef, (Fr_l G3 (by rfl) : m3.2.1 70 0 p = m.2.1 70 0 p)]
              exact fnX_congr n 0 (fun i _ hi => Fr_l G3 (by rfl))
            simp (disch := omega) only [L_0, L_1, L_2, L_3, L_4, L_5, L_6, L_7, L_8, L_9, L_10, L_11, L_12, L_13, L_14, L_15, L_16, L_17, L_18, L_19, L_20, L_21, L_22, L_23, L_24, L_25, L_26, L_27, L_28, L_29, L_30, L_31, L_32, L_33, L_34, L_35, L_40, L_41, L_42, L_43, L_44, L_45, L_47, L_48, L_50, L_53, L_57, L_59, L_60, L_61, L_63, L_64, L_97, L_100, L_101, L_102, L_103, L_122, L_130, L_216, L_255, L_364, L_400, L_402, L_420, L_728, L_768, L_999, L_1000, L_1093, L_1872, L_2000, L_9999, L_12345, L_252645135, L_858993459, L_1103515245, L_1431655765, Lm_1, Lm_2, Lm_8, N_zero, N_cast, N_add, N_mul, N_sub, N_addM, N_lt_tp, N_lt_fp, N_le_tp, N_le_fp, N_eq_tp, N_eq_fp, MN_ltp, MN_lep, NM_ltp, NM_lep, NM_eqp, MN_eqp, MM_lt_tp, MM_lt_fp, MM_le_tp, MM_le_fp, MM_eq_tp, MM_eq_fp, N_cl, N_in_t, N_in_f, M_in, N_div, N_rem, N_nb0, N_nb1, cond_true, cond_false, Bool.not_true, Bool.not_false, Bool.and_true, Bool.true_and, Bool.and_false, Bool.false_and, decide_true, decide_false, Option.bind_some, Option.bind_none, m13, M_named ((Fr_i G3 (by rfl)).trans h19) hs ((Fr_i G3 (by rfl)).trans c73) (show n ≤ 6 by omega) (show p < 403 by omega), e72, iu_nt (show 21 ≠ 77 by decide), iu_at]
            have G5 : Fr [77] m3 (wb_iu m3 77 0 (6 * s + n) (nN i)) := Fr_iu rfl
            have B5 : HoB q s n z y b x4 m3 x4 (wb_iu m3 77 0 (6 * s + n) (nN i)) := HoB_m (by decide) (by decide) hn
            have c77 : (wb_iu m3 77 0 (6 * s + n) (nN i)).1 77 0 (6 * s + n) = nN i := iu_at
            generalize wb_iu m3 77 0 (6 * s + n) (nN i) = m4 at *
            have hm' : LvM (p + 1) w1 yy m4 := LvM_fr G5 rfl hm
            have GM : FM s m m4 := FM_trans (FM_fr G3 rfl) B5.2.1
            rw [q_M_tellHabit_L157_eq]
            simp only [L_0, L_1, L_2, L_3, L_4, L_5, L_6, L_7, L_8, L_9, L_10, L_11, L_12, L_13, L_14, L_15, L_16, L_17, L_18, L_19, L_20, L_21, L_22, L_23, L_24, L_25, L_26, L_27, L_28, L_29, L_30, L_31, L_32, L_33, L_34, L_35, L_40, L_41, L_42, L_43, L_44, L_45, L_47, L_48, L_50, L_53, L_57, L_59, L_60, L_61, L_63, L_64, L_97, L_100, L_101, L_102, L_103, L_122, L_130, L_216, L_255, L_364, L_400, L_402, L_420, L_728, L_768, L_999, L_1000, L_1093, L_1872, L_2000, L_9999, L_12345, L_252645135, L_858993459, L_1103515245, L_1431655765, Lm_1, Lm_2, Lm_8, bnd_some]
            have ok2 := okT_succ ok zp (by omega) (by omega)
            have ps := pl_succ ts ok2
            have B6 : HoB q s n z y b x0 m0 x4 m4 := HoB_trans B3 B5
            have GG : Fr [77, 1011, 1013, 1014] m m4 := Fr_trans (Fr_mono G3 rfl) (Fr_mono G5 rfl)
            have FF2 : Fr [52, 4003, 4004, 4006, 4007, 4008, 4009] x x4 := Fr_trans (Fr_mono F1 rfl) (Fr_mono FF rfl)
            have l4 : Live kd pl (p + 1) w1 x4 m4 := ⟨yy, fun w0 => Nat.lt_trans (hyy w0) ps, ok2, w5, y2, hx, hm'⟩
            have L4 : Lq q s kd pl vl (p + 1) w1 z y b x4 m4 := ⟨En_f (FX_trans B1.1 (FX_fr FF rfl)) GM E, l4, P4, h13', (Fr_i GG (by rfl)).trans h39, (Fr_i GG (by rfl)).trans h33, (Fr_i GG (by rfl)).trans h12, by omega, hy1, by omega⟩
            exact ls_habend (t := 3) L4 B6 (fun e => ⟨(hw e).1, (hw e).2.1, (hw e).2.2, fun _ => ⟨i, by omega, (Fr_i FF (by rfl)).trans (c52.trans ef), c77⟩⟩) hu he (by decide) ((Fr_i FF2 (by rfl)).trans c49) ((Fr_i GG (by rfl)).trans c74) ((Fr_i FF2 (by rfl)).trans c50) ((Fr_i GG (by rfl)).trans c75) ((Fr_i FF2 (by rfl)).trans c51) ((Fr_i GG (by rfl)).trans c76) ((Fr_l FF2 (by rfl)).trans c48) k1 ok1 ((Fr_i FF2 (by rfl)).trans c15) ((Fr_i GG (by rfl)).trans c73) hn (by omega)
          · omega
        · omega
      · rcases hx with ⟨e, -⟩ | ⟨-, hx⟩
        · omega
        · rcases hm with ⟨e, -⟩ | ⟨-, hm⟩
          · omega
          · have d0 := hm.1
            have d5 := hm.2.1
            have d13 := hm.2.2.1
            have D0 : Dd q s b x0 m0 x4 m3 := Dd_mk hq B3.1 B3.2.1 ⟨2, _, ts.2.1 _, hx, hm⟩ ⟨z, by omega, h13'⟩ P4 ((Fr_m FF (by rfl)).trans m52) ((Fr_i G3 (by rfl)).trans h33)
            have go := dead x4 m3 D0
            simp (disch := omega) only [L_0, L_1, L_2, L_3, L_4, L_5, L_6, L_7, L_8, L_9, L_10, L_11, L_12, L_13, L_14, L_15, L_16, L_17, L_18, L_19, L_20, L_21, L_22, L_23, L_24, L_25, L_26, L_27, L_28, L_29, L_30, L_31, L_32, L_33, L_34, L_35, L_40, L_41, L_42, L_43, L_44, L_45, L_47, L_48, L_50, L_53, L_57, L_59, L_60, L_61, L_63, L_64, L_97, L_100, L_101, L_102, L_103, L_122, L_130, L_216, L_255, L_364, L_400, L_402, L_420, L_728, L_768, L_999, L_1000, L_1093, L_1872, L_2000, L_9999, L_12345, L_252645135, L_858993459, L_1103515245, L_1431655765, Lm_1, Lm_2, Lm_8, N_zero, N_cast, N_add, N_mul, N_sub, N_addM, N_lt_tp, N_lt_fp, N_le_tp, N_le_fp, N_eq_tp, N_eq_fp, MN_ltp, MN_lep, NM_ltp, NM_lep, NM_eqp, MN_eqp, MM_lt_tp, MM_lt_fp, MM_le_tp, MM_le_fp, MM_eq_tp, MM_eq_fp, N_cl, N_in_t, N_in_f, M_in, N_div, N_rem, N_nb0, N_nb1, cond_true, cond_false, Bool.not_true, Bool.not_false, Bool.and_true, Bool.true_and, Bool.and_false, Bool.false_and, decide_true, decide_false, Option.bind_some, Option.bind_none, d13, iu_nt (show 21 ≠ 77 by decide)] at go ⊢
            exact go
  · have n100 : kap (kd p) ≠ 100 := fun e => kn (kap_inj (ts.1 _) (show kOk 1 from Or.inl (by decide)) e)
    simp (disch := omega) only [L_0, L_1, L_2, L_3, L_4, L_5, L_6, L_7, L_8, L_9, L_10, L_11, L_12, L_13, L_14, L_15, L_16, L_17, L_18, L_19, L_20, L_21, L_22, L_23, L_24, L_25, L_26, L_27, L_28, L_29, L_30, L_31, L_32, L_33, L_34, L_35, L_40, L_41, L_42, L_43, L_44, L_45, L_47, L_48, L_50, L_53, L_57, L_59, L_60, L_61, L_63, L_64, L_97, L_100, L_101, L_102, L_103, L_122, L_130, L_216, L_255, L_364, L_400, L_402, L_420, L_728, L_768, L_999, L_1000, L_1093, L_1872, L_2000, L_9999, L_12345, L_252645135, L_858993459, L_1103515245, L_1431655765, Lm_1, Lm_2, Lm_8, N_zero, N_cast, N_add, N_mul, N_sub, N_addM, N_lt_tp, N_lt_fp, N_le_tp, N_le_fp, N_eq_tp, N_eq_fp, MN_ltp, MN_lep, NM_ltp, NM_lep, NM_eqp, MN_eqp, MM_lt_tp, MM_lt_fp, MM_le_tp, MM_le_fp, MM_eq_tp, MM_eq_fp, N_cl, N_in_t, N_in_f, M_in, N_div, N_rem, N_nb0, N_nb1, cond_true, cond_false, Bool.not_true, Bool.not_false, Bool.and_true, Bool.true_and, Bool.and_false, Bool.false_and, decide_true, decide_false, Option.bind_some, Option.bind_none, lx4, Option.bind_assoc]
    refine Both_bind (ls_take E1 (Or.inl H1.2.1) (d := 1) (Or.inl (by decide)) (by decide) (by decide)) ?_
    rintro x3 m3 ⟨F, G, h⟩
    have D : Dd q s b x0 m0 x3 m3 := by
      rcases h with ⟨e, -⟩ | h
      · exact absurd e kn
      · exact Dd_mk hq (FX_trans B01.1 (FX_fr F rfl)) (FM_trans B01.2.1 (FM_fr G rfl)) h ⟨z, by omega, (Fr_i F (by rfl)).trans H1.2.2.2.1⟩ (PLn_fr F rfl H1.2.2.1) ((Fr_m F (by rfl)).trans m52) ((Fr_i G (by rfl)).trans h33)
    have D' := D
    obtain ⟨X3, M3, ⟨f, e3, he3, D1, D2⟩, hb⟩ := D'
    have d0 := D2.1
    have d5 := D2.2.1
    have d13 := D2.2.2.1
    have go := dead x3 m3 D
    simp (disch := omega) only [L_0, L_1, L_2, L_3, L_4, L_5, L_6, L_7, L_8, L_9, L_10, L_11, L_12, L_13, L_14, L_15, L_16, L_17, L_18, L_19, L_20, L_21, L_22, L_23, L_24, L_25, L_26, L_27, L_28, L_29, L_30, L_31, L_32, L_33, L_34, L_35, L_40, L_41, L_42, L_43, L_44, L_45, L_47, L_48, L_50, L_53, L_57, L_59, L_60, L_61, L_63, L_64, L_97, L_100, L_101, L_102, L_103, L_122, L_130, L_216, L_255, L_364, L_400, L_402, L_420, L_728, L_768, L_999, L_1000, L_1093, L_1872, L_2000, L_9999, L_12345, L_252645135, L_858993459, L_1103515245, L_1431655765, Lm_1, Lm_2, Lm_8, N_zero, N_cast, N_add, N_mul, N_sub, N_addM, N_lt_tp, N_lt_fp, N_le_tp, N_le_fp, N_eq_tp, N_eq_fp, MN_ltp, MN_lep, NM_ltp, NM_lep, NM_eqp, MN_eqp, MM_lt_tp, MM_lt_fp, MM_le_tp, MM_le_fp, MM_eq_tp, MM_eq_fp, N_cl, N_in_t, N_in_f, M_in, N_div, N_rem, N_nb0, N_nb1, cond_true, cond_false, Bool.not_true, Bool.not_false, Bool.and_true, Bool.true_and, Bool.and_false, Bool.false_and, decide_true, decide_false, Option.bind_some, Option.bind_none, d13, iu_nt (show 21 ≠ 77 by decide)] at go ⊢
    exact go
/-- a house's habit, and the sign ; -/
theorem ls_habit {k n z y b : Nat} {x0 m0 x m : wb_H} (hn : n < 6) (hb1 : 130 * s ≤ b) (hb2 : b + 8 ≤ 130 * s + 130) (hnm : ∀ i, i < n → x0.2.1 48 q i = m0.2.1 72 0 i) (A : HouseP q s kd pl vl k w n z y b x0 m0 x m ∨ Dd q s b x0 m0 x m) : Both ((q_Reader_parseHabit sc x (nN n)).bind (semX sc)) (q_M_tellHabit sc m (nN (6 * s + n))) (fun x' m' => HabP q s kd pl vl k w n z y b x0 m0 x' m' ∨ DdE q s x0 m0 x' m') := by
  rcases A with ⟨p, w1, u, e, hkp, H, B, hw, hu, he, c49, c74, c50, c75, c48, k1, ok1, c15, c73⟩ | D
  · by_cases h5 : kd p = 5
    · exact ls_hablaw H B hw hu he c49 c74 c50 c75 c48 k1 ok1 c15 c73 hn hb1 hb2 hkp h5
    · have hq := H.1.2.1
      have hs := H.1.2.2.1
      have g1 : decide (0 < q + 1) = true := decide_eq_true (by omega)
      have g2 : decide (q < 2) = true := decide_eq_true hq
      obtain ⟨p4, m13, m11, x4, ok⟩ := Lq_p H
      have lm : ∃ y w', LvM p w' y m := by
        obtain ⟨y, hy, o, w5, y2, lx, lm⟩ := H.2.1
        exact ⟨y, _, lm⟩
      obtain ⟨yy, ww, lm⟩ := lm
      have ts := H.1.1
      have tm := H.1.2.2.2.2.2.1
      have m2 := H.1.2.2.2.2.1
      have a12 : 6 * s + n < 12 := by omega
      have m67 := (tm p ok).1
      have kl := kap_le (ts.1 p)
      have hnm1 : ∀ i, i < n → x.2.1 48 q i = m.2.1 72 0 i := fun i hi => (B.2.2.2.2.2.1.1 i hi).2.trans ((hnm i hi).trans (B.2.2.2.2.2.2.1 i hi).2.symm)
      have is5 := M_is (sc := sc) ts tm ok lm (show 5 ≤ 100 by decide)
      rw [if_neg h5] at is5
      obtain ⟨kb1, kb2⟩ := okB_of (ts.1 p)
      have kh := kap_h2 _ kb2 kb1
      simp only [Bool.or_eq_true, Bool.and_eq_true, Nat.ble_eq, Nat.beq_eq, Bool.not_eq_true', Nat.blt_eq] at kh
      rw [q_Reader_parseHabit_eq, q_M_tellHabit_eq]
      by_cases hr : 21 ≤ kd p ∧ kd p ≤ 26
      · have kk := kap_h (kd p) (by omega) hr.1
        have e1 : kd p - 15 - 6 = kd p - 21 := by omega
        have ck : nN (kap (kd p)) = nN (kd p - 15) := by rw [kk]
        simp (disch := omega) only [L_0, L_1, L_2, L_3, L_4, L_5, L_6, L_7, L_8, L_9, L_10, L_11, L_12, L_13, L_14, L_15, L_16, L_17, L_18, L_19, L_20, L_21, L_22, L_23, L_24, L_25, L_26, L_27, L_28, L_29, L_30, L_31, L_32, L_33, L_34, L_35, L_40, L_41, L_42, L_43, L_44, L_45, L_47, L_48, L_50, L_53, L_57, L_59, L_60, L_61, L_63, L_64, L_97, L_100, L_101, L_102, L_103, L_122, L_130, L_216, L_255, L_364, L_400, L_402, L_420, L_728, L_768, L_999, L_1000, L_1093, L_1872, L_2000, L_9999, L_12345, L_252645135, L_858993459, L_1103515245, L_1431655765, Lm_1, Lm_2, Lm_8, N_zero, N_cast, N_add, N_mul, N_sub, N_addM, N_lt_tp, N_lt_fp, N_le_tp, N_le_fp, N_eq_tp, N_eq_fp, MN_ltp, MN_lep, NM_ltp, NM_lep, NM_eqp, MN_eqp, MM_lt_tp, MM_lt_fp, MM_le_tp, MM_le_fp, MM_eq_tp, MM_eq_fp, N_cl, N_in_t, N_in_f, M_in, N_div, N_rem, N_nb0, N_nb1, cond_true, cond_false, Bool.not_true, Bool.not_false, Bool.and_true, Bool.true_and, Bool.and_false, Bool.false_and, decide_true, decide_false, Option.bind_some, Option.bind_none, x4, ck, e1, m2, g1, g2, Nat.add_sub_cancel, m13, is5, m11, m67, iu_nt (show 21 ≠ 76 by decide), iu_nt (show 67 ≠ 76 by decide)]
        have B1 : HoB q s n z y b x m (wb_iu x 51 q n (nN (kd p - 21))) (wb_iu m 76 0 (6 * s + n) (nN (kd p - 21))) := HoB_trans (HoB_x (Or.inr (Or.inr (Or.inr (Or.inl rfl))))) (HoB_m (by decide) (by decide) hn)
        have F1 : Fr [51] x (wb_iu x 51 q n (nN (kd p - 21))) := Fr_iu rfl
        have G1 : Fr [76] m (wb_iu m 76 0 (6 * s + n) (nN (kd p - 21))) := Fr_iu rfl
        have c51 : (wb_iu x 51 q n (nN (kd p - 21))).1 51 q n = nN (kd p - 21) := iu_at
        have c76 : (wb_iu m 76 0 (6 * s + n) (nN (kd p - 21))).1 76 0 (6 * s + n) = nN (kd p - 21) := iu_at
        have H1 := Lq_hx F1 G1 B1 rfl rfl H
        have m13' : (wb_iu m 76 0 (6 * s + n) (nN (kd p - 21))).1 21 0 13 = nN 0 := (Lq_p H1).2.1
        have lm' : LvM p ww yy (wb_iu m 76 0 (6 * s + n) (nN (kd p - 21))) := LvM_fr G1 rfl lm
        generalize wb_iu x 51 q n (nN (kd p - 21)) = x1 at *
        generalize wb_iu m 76 0 (6 * s + n) (nN (kd p - 21)) = m1 at *
        have is24 := M_is (sc := sc) ts (TKM_fm B1.2.1 tm) ok lm' (show 24 ≤ 100 by decide)
        have B2 := HoB_trans B B1
        rw [q_M_tellHabit_L81_eq]
        simp only [L_0, L_1, L_2, L_3, L_4, L_5, L_6, L_7, L_8, L_9, L_10, L_11, L_12, L_13, L_14, L_15, L_16, L_17, L_18, L_19, L_20, L_21, L_22, L_23, L_24, L_25, L_26, L_27, L_28, L_29, L_30, L_31, L_32, L_33, L_34, L_35, L_40, L_41, L_42, L_43, L_44, L_45, L_47, L_48, L_50, L_53, L_57, L_59, L_60, L_61, L_63, L_64, L_97, L_100, L_101, L_102, L_103, L_122, L_130, L_216, L_255, L_364, L_400, L_402, L_420, L_728, L_768, L_999, L_1000, L_1093, L_1872, L_2000, L_9999, L_12345, L_252645135, L_858993459, L_1103515245, L_1431655765, Lm_1, Lm_2, Lm_8]
        rw [is24]
        have go := Lq_go (sc := sc) B2.1 B2.2.1 H1 (by omega) (by omega)
        rw [ck] at go
        by_cases h24 : kd p = 24
        · rw [if_pos h24]
          have e3 : kd p - 21 = 3 := by omega
          rw [e3] at c51 c76
          simp (disch := omega) only [L_0, L_1, L_2, L_3, L_4, L_5, L_6, L_7, L_8, L_9, L_10, L_11, L_12, L_13, L_14, L_15, L_16, L_17, L_18, L_19, L_20, L_21, L_22, L_23, L_24, L_25, L_26, L_27, L_28, L_29, L_30, L_31, L_32, L_33, L_34, L_35, L_40, L_41, L_42, L_43, L_44, L_45, L_47, L_48, L_50, L_53, L_57, L_59, L_60, L_61, L_63, L_64, L_97, L_100, L_101, L_102, L_103, L_122, L_130, L_216, L_255, L_364, L_400, L_402, L_420, L_728, L_768, L_999, L_1000, L_1093, L_1872, L_2000, L_9999, L_12345, L_252645135, L_858993459, L_1103515245, L_1431655765, Lm_1, Lm_2, Lm_8, N_zero, N_cast, N_add, N_mul, N_sub, N_addM, N_lt_tp, N_lt_fp, N_le_tp, N_le_fp, N_eq_tp, N_eq_fp, MN_ltp, MN_lep, NM_ltp, NM_lep, NM_eqp, MN_eqp, MM_lt_tp, MM_lt_fp, MM_le_tp, MM_le_fp, MM_eq_tp, MM_eq_fp, N_cl, N_in_t, N_in_f, M_in, N_div, N_rem, N_nb0, N_nb1, cond_true, cond_false, Bool.not_true, Bool.not_false, Bool.and_true, Bool.true_and, Bool.and_false, Bool.false_and, decide_true, decide_false, Option.bind_some, Option.bind_none, m13', Option.bind_assoc]
          refine Both_bind go ?_
          rintro x2 m2 h
          rcases h with ⟨H2, F2, G2⟩ | D
          · have B3 : HoB q s n z y b x0 m0 x2 m2 := HoB_trans B2 (HoB_fr F2 G2 rfl rfl)
            have FF : Fr [51, 4003, 4004, 4008, 4009] x x2 := Fr_trans (Fr_mono F1 rfl) (Fr_mono F2 rfl)
            have GG : Fr [76, 1011, 1013, 1014] m m2 := Fr_trans (Fr_mono G1 rfl) (Fr_mono G2 rfl)
            exact ls_model H2 B3 hw hu he ((Fr_i FF (by rfl)).trans c49) ((Fr_i GG (by rfl)).trans c74) ((Fr_i FF (by rfl)).trans c50) ((Fr_i GG (by rfl)).trans c75) ((Fr_i F2 (by rfl)).trans c51) ((Fr_i G2 (by rfl)).trans c76) ((Fr_l FF (by rfl)).trans c48) k1 ok1 ((Fr_i FF (by rfl)).trans c15) ((Fr_i GG (by rfl)).trans c73) hn (by omega) (fun i hi => (Fr_l FF (by rfl)).trans ((hnm1 i hi).trans (Fr_l GG (by rfl)).symm))
          · have D' := D
            obtain ⟨X3, M3, ⟨f, e3, he3, D1, D2⟩, hb⟩ := D'
            have d0 := D2.1
            have d5 := D2.2.1
            have d13 := D2.2.2.1
            have D77 := Dd_w (t := 77) (k := 6 * s + n) (v := nM 1) D (by rfl) (Or.inr (by unfold MSd; omega))
            rw [q_M_tellHabit_L99_eq]
            simp only [L_0, L_1, L_2, L_3, L_4, L_5, L_6, L_7, L_8, L_9, L_10, L_11, L_12, L_13, L_14, L_15, L_16, L_17, L_18, L_19, L_20, L_21, L_22, L_23, L_24, L_25, L_26, L_27, L_28, L_29, L_30, L_31, L_32, L_33, L_34, L_35, L_40, L_41, L_42, L_43, L_44, L_45, L_47, L_48, L_50, L_53, L_57, L_59, L_60, L_61, L_63, L_64, L_97, L_100, L_101, L_102, L_103, L_122, L_130, L_216, L_255, L_364, L_400, L_402, L_420, L_728, L_768, L_999, L_1000, L_1093, L_1872, L_2000, L_9999, L_12345, L_252645135, L_858993459, L_1103515245, L_1431655765, Lm_1, Lm_2, Lm_8]
            rw [mD_must D2]
            simp (disch := omega) only [L_0, L_1, L_2, L_3, L_4, L_5, L_6, L_7, L_8, L_9, L_10, L_11, L_12, L_13, L_14, L_15, L_16, L_17, L_18, L_19, L_20, L_21, L_22, L_23, L_24, L_25, L_26, L_27, L_28, L_29, L_30, L_31, L_32, L_33, L_34, L_35, L_40, L_41, L_42, L_43, L_44, L_45, L_47, L_48, L_50, L_53, L_57, L_59, L_60, L_61, L_63, L_64, L_97, L_100, L_101, L_102, L_103, L_122, L_130, L_216, L_255, L_364, L_400, L_402, L_420, L_728, L_768, L_999, L_1000, L_1093, L_1872, L_2000, L_9999, L_12345, L_252645135, L_858993459, L_1103515245, L_1431655765, Lm_1, Lm_2, Lm_8, N_zero, N_cast, N_add, N_mul, N_sub, N_addM, N_lt_tp, N_lt_fp, N_le_tp, N_le_fp, N_eq_tp, N_eq_fp, MN_ltp, MN_lep, NM_ltp, NM_lep, NM_eqp, MN_eqp, MM_lt_tp, MM_lt_fp, MM_le_tp, MM_le_fp, MM_eq_tp, MM_eq_fp, N_cl, N_in_t, N_in_f, M_in, N_div, N_rem, N_nb0, N_nb1, cond_true, cond_false, Bool.not_true, Bool.not_false, Bool.and_true, Bool.true_and, Bool.and_false, Bool.false_and, decide_true, decide_false, Option.bind_some, Option.bind_none, iu_nt (show 21 ≠ 77 by decide), d13]
            rw [q_M_tellHabit_L157_eq]
            simp only [L_0, L_1, L_2, L_3, L_4, L_5, L_6, L_7, L_8, L_9, L_10, L_11, L_12, L_13, L_14, L_15, L_16, L_17, L_18, L_19, L_20, L_21, L_22, L_23, L_24, L_25, L_26, L_27, L_28, L_29, L_30, L_31, L_32, L_33, L_34, L_35, L_40, L_41, L_42, L_43, L_44, L_45, L_47, L_48, L_50, L_53, L_57, L_59, L_60, L_61, L_63, L_64, L_97, L_100, L_101, L_102, L_103, L_122, L_130, L_216, L_255, L_364, L_400, L_402, L_420, L_728, L_768, L_999, L_1000, L_1093, L_1872, L_2000, L_9999, L_12345, L_252645135, L_858993459, L_1103515245, L_1431655765, Lm_1, Lm_2, Lm_8]
            rw [mD_must (DdM_fr (Fr_iu (L := [77]) rfl) rfl rfl D2)]
            simp only [Option.bind_some]
            obtain ⟨x5, e5, Q5⟩ := dq_model (sc := sc) D1 hn
            rw [e5]
            simp only [Option.bind_some]
            obtain ⟨X7, M7, -, hb7⟩ := D77
            refine Both_w (Dd_semi (b := b) (x0 := x0) (m0 := m0) (x := x5) ⟨FX_trans X3 Q5.2.1, M7, ⟨f, e3, he3, Q5.2.2, DdM_fr (Fr_iu (L := [77]) rfl) rfl rfl D2⟩, hb7⟩) ?_
            intro x' m' h
            exact Or.inr h
        · rw [if_neg h24]
          simp (disch := omega) only [L_0, L_1, L_2, L_3, L_4, L_5, L_6, L_7, L_8, L_9, L_10, L_11, L_12, L_13, L_14, L_15, L_16, L_17, L_18, L_19, L_20, L_21, L_22, L_23, L_24, L_25, L_26, L_27, L_28, L_29, L_30, L_31, L_32, L_33, L_34, L_35, L_40, L_41, L_42, L_43, L_44, L_45, L_47, L_48, L_50, L_53, L_57, L_59, L_60, L_61, L_63, L_64, L_97, L_100, L_101, L_102, L_103, L_122, L_130, L_216, L_255, L_364, L_400, L_402, L_420, L_728, L_768, L_999, L_1000, L_1093, L_1872, L_2000, L_9999, L_12345, L_252645135, L_858993459, L_1103515245, L_1431655765, Lm_1, Lm_2, Lm_8, N_zero, N_cast, N_add, N_mul, N_sub, N_addM, N_lt_tp, N_lt_fp, N_le_tp, N_le_fp, N_eq_tp, N_eq_fp, MN_ltp, MN_lep, NM_ltp, NM_lep, NM_eqp, MN_eqp, MM_lt_tp, MM_lt_fp, MM_le_tp, MM_le_fp, MM_eq_tp, MM_eq_fp, N_cl, N_in_t, N_in_f, M_in, N_div, N_rem, N_nb0, N_nb1, cond_true, cond_false, Bool.not_true, Bool.not_false, Bool.and_true, Bool.true_and, Bool.and_false, Bool.false_and, decide_true, decide_false, Option.bind_some, Option.bind_none, m13', Option.bind_assoc]
          refine Both_bind go ?_
          rintro x2 m2 h
          rw [q_M_tellHabit_L99_eq]
          simp (disch := omega) only [L_0, L_1, L_2, L_3, L_4, L_5, L_6, L_7, L_8, L_9, L_10, L_11, L_12, L_13, L_14, L_15, L_16, L_17, L_18, L_19, L_20, L_21, L_22, L_23, L_24, L_25, L_26, L_27, L_28, L_29, L_30, L_31, L_32, L_33, L_34, L_35, L_40, L_41, L_42, L_43, L_44, L_45, L_47, L_48, L_50, L_53, L_57, L_59, L_60, L_61, L_63, L_64, L_97, L_100, L_101, L_102, L_103, L_122, L_130, L_216, L_255, L_364, L_400, L_402, L_420, L_728, L_768, L_999, L_1000, L_1093, L_1872, L_2000, L_9999, L_12345, L_252645135, L_858993459, L_1103515245, L_1431655765, Lm_1, Lm_2, Lm_8, N_zero, N_cast, N_add, N_mul, N_sub, N_addM, N_lt_tp, N_lt_fp, N_le_tp, N_le_fp, N_eq_tp, N_eq_fp, MN_ltp, MN_lep, NM_ltp, NM_lep, NM_eqp, MN_eqp, MM_lt_tp, MM_lt_fp, MM_le_tp, MM_le_fp, MM_eq_tp, MM_eq_fp, N_cl, N_in_t, N_in_f, M_in, N_div, N_rem, N_nb0, N_nb1, cond_true, cond_false, Bool.not_true, Bool.not_false, Bool.and_true, Bool.true_and, Bool.and_false, Bool.false_and, decide_true, decide_false, Option.bind_some, Option.bind_none]
          rw [q_M_tellHabit_L157_eq]
          simp only [L_0, L_1, L_2, L_3, L_4, L_5, L_6, L_7, L_8, L_9, L_10, L_11, L_12, L_13, L_14, L_15, L_16, L_17, L_18, L_19, L_20, L_21, L_22, L_23, L_24, L_25, L_26, L_27, L_28, L_29, L_30, L_31, L_32, L_33, L_34, L_35, L_40, L_41, L_42, L_43, L_44, L_45, L_47, L_48, L_50, L_53, L_57, L_59, L_60, L_61, L_63, L_64, L_97, L_100, L_101, L_102, L_103, L_122, L_130, L_216, L_255, L_364, L_400, L_402, L_420, L_728, L_768, L_999, L_1000, L_1093, L_1872, L_2000, L_9999, L_12345, L_252645135, L_858993459, L_1103515245, L_1431655765, Lm_1, Lm_2, Lm_8, bnd_some]
          rcases h with ⟨H2, F2, G2⟩ | D
          · have B3 : HoB q s n z y b x0 m0 x2 m2 := HoB_trans B2 (HoB_fr F2 G2 rfl rfl)
            have FF : Fr [51, 4003, 4004, 4008, 4009] x x2 := Fr_trans (Fr_mono F1 rfl) (Fr_mono F2 rfl)
            have GG : Fr [76, 1011, 1013, 1014] m m2 := Fr_trans (Fr_mono G1 rfl) (Fr_mono G2 rfl)
            exact ls_habend (t := kd p - 21) H2 B3 (fun h => ⟨(hw h).1, (hw h).2.1, (hw h).2.2, fun e => by omega⟩) hu he (by omega) ((Fr_i FF (by rfl)).trans c49) ((Fr_i GG (by rfl)).trans c74) ((Fr_i FF (by rfl)).trans c50) ((Fr_i GG (by rfl)).trans c75) ((Fr_i F2 (by rfl)).trans c51) ((Fr_i G2 (by rfl)).trans c76) ((Fr_l FF (by rfl)).trans c48) k1 ok1 ((Fr_i FF (by rfl)).trans c15) ((Fr_i GG (by rfl)).trans c73) hn (by omega)
          · exact Dd_habend D _
      · have kh2 : kap (kd p) ≠ 61 ∧ (kap (kd p) < 6 ∨ 11 < kap (kd p)) := by
          rcases kh with (h | h) | h
          · exact absurd h hr
          · exact absurd h h5
          · refine ⟨fun y => ?_, h.2⟩
            rw [y] at h
            exact absurd h.1 (by decide)
        have dead : Both ((q_Reader_fail sc x (nN 1)).bind (semX sc)) ((q_M_fail sc (wb_iu m 76 0 (6 * s + n) (nN (kd p) - nN 21)) (nN 1)).bind fun h2 => q_M_tellHabit_L81 sc h2 (nN (6 * s + n))) (fun x' m' => HabP q s kd pl vl k w n z y b x0 m0 x' m' ∨ DdE q s x0 m0 x' m') := by
          have B1 : HoB q s n z y b x m x (wb_iu m 76 0 (6 * s + n) (nN (kd p) - nN 21)) := HoB_m (by decide) (by decide) hn
          have G1 : Fr [76] m (wb_iu m 76 0 (6 * s + n) (nN (kd p) - nN 21)) := Fr_iu rfl
          have H1 := Lq_hx (Fr_refl [] x) G1 B1 rfl rfl H
          generalize wb_iu m 76 0 (6 * s + n) (nN (kd p) - nN 21) = m1 at *
          have B2 := HoB_trans B B1
          refine Both_bind (ls_fail H1.1 H1.2.1 (n := 1) (by decide) (by decide)) ?_
          rintro x2 m3 ⟨F2, G2, D⟩
          have D0 : Dd q s b x0 m0 x2 m3 := Dd_mk hq (FX_trans B2.1 (FX_fr F2 rfl)) (FM_trans B2.2.1 (FM_fr G2 rfl)) D ⟨z, by have := H.2.2.2.2.2.2.2.1; omega, (Fr_i F2 (by rfl)).trans H1.2.2.2.1⟩ (PLn_fr F2 rfl H1.2.2.1) ((Fr_m F2 (by rfl)).trans m2) ((Fr_i G2 (by rfl)).trans H1.2.2.2.2.2.1)
          obtain ⟨f, e3, he3, D1, D2⟩ := D
          rw [mD_L81 D2]
          refine Both_w (Dd_semi D0) ?_
          intro x' m' h
          exact Or.inr h
        obtain ⟨n61, kr⟩ := kh2
        rcases kr with kr | kr
        · by_cases kl21 : kd p < 21
          · simp (disch := omega) only [L_0, L_1, L_2, L_3, L_4, L_5, L_6, L_7, L_8, L_9, L_10, L_11, L_12, L_13, L_14, L_15, L_16, L_17, L_18, L_19, L_20, L_21, L_22, L_23, L_24, L_25, L_26, L_27, L_28, L_29, L_30, L_31, L_32, L_33, L_34, L_35, L_40, L_41, L_42, L_43, L_44, L_45, L_47, L_48, L_50, L_53, L_57, L_59, L_60, L_61, L_63, L_64, L_97, L_100, L_101, L_102, L_103, L_122, L_130, L_216, L_255, L_364, L_400, L_402, L_420, L_728, L_768, L_999, L_1000, L_1093, L_1872, L_2000, L_9999, L_12345, L_252645135, L_858993459, L_1103515245, L_1431655765, Lm_1, Lm_2, Lm_8, N_eq_fp, N_eq_tp, N_lt_tp, N_lt_fp, N_le_tp, N_le_fp, N_in_t, N_cl, cond_true, cond_false, Bool.not_true, Bool.not_false, Bool.and_true, Bool.true_and, Bool.and_false, Bool.false_and, decide_true, decide_false, Option.bind_some, Option.bind_none, x4, m13, is5, m11, m67, iu_nt (show 21 ≠ 76 by decide), iu_nt (show 67 ≠ 76 by decide), bnd_some]
            exact dead
          · simp (disch := omega) only [L_0, L_1, L_2, L_3, L_4, L_5, L_6, L_7, L_8, L_9, L_10, L_11, L_12, L_13, L_14, L_15, L_16, L_17, L_18, L_19, L_20, L_21, L_22, L_23, L_24, L_25, L_26, L_27, L_28, L_29, L_30, L_31, L_32, L_33, L_34, L_35, L_40, L_41, L_42, L_43, L_44, L_45, L_47, L_48, L_50, L_53, L_57, L_59, L_60, L_61, L_63, L_64, L_97, L_100, L_101, L_102, L_103, L_122, L_130, L_216, L_255, L_364, L_400, L_402, L_420, L_728, L_768, L_999, L_1000, L_1093, L_1872, L_2000, L_9999, L_12345, L_252645135, L_858993459, L_1103515245, L_1431655765, Lm_1, Lm_2, Lm_8, N_eq_fp, N_eq_tp, N_lt_tp, N_lt_fp, N_le_tp, N_le_fp, N_in_t, N_cl, cond_true, cond_false, Bool.not_true, Bool.not_false, Bool.and_true, Bool.true_and, Bool.and_false, Bool.false_and, decide_true, decide_false, Option.bind_some, Option.bind_none, x4, m13, is5, m11, m67, iu_nt (show 21 ≠ 76 by decide), iu_nt (show 67 ≠ 76 by decide), bnd_some]
            exact dead
        · by_cases kl21 : kd p < 21
          · simp (disch := omega) only [L_0, L_1, L_2, L_3, L_4, L_5, L_6, L_7, L_8, L_9, L_10, L_11, L_12, L_13, L_14, L_15, L_16, L_17, L_18, L_19, L_20, L_21, L_22, L_23, L_24, L_25, L_26, L_27, L_28, L_29, L_30, L_31, L_32, L_33, L_34, L_35, L_40, L_41, L_42, L_43, L_44, L_45, L_47, L_48, L_50, L_53, L_57, L_59, L_60, L_61, L_63, L_64, L_97, L_100, L_101, L_102, L_103, L_122, L_130, L_216, L_255, L_364, L_400, L_402, L_420, L_728, L_768, L_999, L_1000, L_1093, L_1872, L_2000, L_9999, L_12345, L_252645135, L_858993459, L_1103515245, L_1431655765, Lm_1, Lm_2, Lm_8, N_eq_fp, N_eq_tp, N_lt_tp, N_lt_fp, N_le_tp, N_le_fp, N_in_t, N_cl, cond_true, cond_false, Bool.not_true, Bool.not_false, Bool.and_true, Bool.true_and, Bool.and_false, Bool.false_and, decide_true, decide_false, Option.bind_some, Option.bind_none, x4, m13, is5, m11, m67, iu_nt (show 21 ≠ 76 by decide), iu_nt (show 67 ≠ 76 by decide), bnd_some]
            exact dead
          · simp (disch := omega) only [L_0, L_1, L_2, L_3, L_4, L_5, L_6, L_7, L_8, L_9, L_10, L_11, L_12, L_13, L_14, L_15, L_16, L_17, L_18, L_19, L_20, L_21, L_22, L_23, L_24, L_25, L_26, L_27, L_28, L_29, L_30, L_31, L_32, L_33, L_34, L_35, L_40, L_41, L_42, L_43, L_44, L_45, L_47, L_48, L_50, L_53, L_57, L_59, L_60, L_61, L_63, L_64, L_97, L_100, L_101, L_102, L_103, L_122, L_130, L_216, L_255, L_364, L_400, L_402, L_420, L_728, L_768, L_999, L_1000, L_1093, L_1872, L_2000, L_9999, L_12345, L_252645135, L_858993459, L_1103515245, L_1431655765, Lm_1, Lm_2, Lm_8, N_eq_fp, N_eq_tp, N_lt_tp, N_lt_fp, N_le_tp, N_le_fp, N_in_t, N_cl, cond_true, cond_false, Bool.not_true, Bool.not_false, Bool.and_true, Bool.true_and, Bool.and_false, Bool.false_and, decide_true, decide_false, Option.bind_some, Option.bind_none, x4, m13, is5, m11, m67, iu_nt (show 21 ≠ 76 by decide), iu_nt (show 67 ≠ 76 by decide), bnd_some]
            exact dead
  · have D' := D
    obtain ⟨X3, M3, ⟨f, e3, he3, D1, D2⟩, hb⟩ := D'
    obtain ⟨x5, e5, Q5⟩ := dq_habit (sc := sc) D1 hn
    rw [e5, mD_habit D2]
    simp only [Option.bind_some]
    refine Both_w (Dd_semi (b := b) (x0 := x0) (m0 := m0) (x := x5) ⟨FX_trans X3 Q5.2.1, M3, ⟨f, e3, he3, Q5.2.2, D2⟩, hb⟩) ?_
    intro x' m' h
    exact Or.inr h
end
