/-! Reading a text, class and reference beside one another. -/
def LGX2 : List Nat := [53, 57, 58, 59, 4002, 4003, 4004, 4005, 4006, 4007, 4008, 4009, 6004, 5001, 13, 15, 41, 42, 43, 44, 45, 46, 48, 49, 50, 51, 52, 17, 54, 9002, 7005, 61, 62, 2014, 2015, 2002, 2003]
def LGM2 : List Nat := [66, 67, 68, 69, 70, 72, 92, 1002, 1004, 1010, 1011, 1012, 1013, 1014, 1015, 1016, 1017, 1019, 1033, 1039, 1043, 73, 74, 75, 76, 77, 78, 79, 80, 81, 82, 83, 84, 85, 86, 87, 88, 89, 90, 91, 95, 96, 1018, 1049, 1050, 1054, 1059, 108]
def RF (q s : Nat) (h m : wb_H) (r u : Int32 × wb_H) : Prop := ∃ f e, r.1 = nN f ∧ u.1 = nN f ∧ PXf q h r.2 ∧ PMf s m u.2 ∧ r.2.1 16 0 9 = nN e ∧ u.2.1 21 0 17 = nN e ∧ r.2.1 18 0 1 = nN 0 ∧ u.2.1 21 0 2 = nN 0
def RG (q s : Nat) (h m : wb_H) (r u : Int32 × wb_H) : Prop := r.1 = nN 0 ∧ u.1 = nN 0 ∧ ∃ T, T_ok T ∧ XT r.2 q T ∧ MT u.2 s T ∧ (r.2.2.2 20 0 2 = q + 1 ∧ r.2.2.2 20 0 3 = 1 - q + 1 ∧ NewX h r.2 ∧ r.2.1 14 0 2 = nN 0 ∧ r.2.1 10 0 5 = nN 0 ∧ (∀ j, j < 3 → r.2.1 61 0 j = nN 0) ∧ r.2.1 20 0 15 = nN 0 ∧ r.2.1 20 0 14 = nM 1 ∧ (∀ l, l < 64 → r.2.1 62 0 l = nM 1) ∧ r.2.1 16 0 9 = nM 1 ∧ r.2.1 18 0 1 = nN 0 ∧ Fr LGX2 h r.2) ∧ (NewM u.2 ∧ u.2.1 21 0 54 = nN 0 ∧ u.2.1 21 0 59 = nN 0 ∧ (∀ j, j < 3 → u.2.1 108 0 j = nN 0) ∧ u.2.1 21 0 17 = nM 1 ∧ u.2.1 21 0 2 = nN 0 ∧ Fr LGM2 m u.2)
section
variable {sc : wb_X} {q l : Nat}
theorem read_both {h m : wb_H} {t : Nat} (hq : q < 2) (hl : l < 2) (ht : t ≤ 2000) (h203 : h.2.2 20 0 3 = q + 1) (h202 : h.2.2 20 0 2 = 1 - q + 1) (h18 : h.1 18 0 1 = nN t) (hk : ∀ k, k < 22 → h.2.1 56 0 k = xw k) (m2 : m.1 21 0 2 = nN t) (m18 : m.1 21 0 18 = nN l) (mk' : ∀ k, k < 22 → m.2.1 71 0 k = mk k) (hT : txt (h.1 55 0) t = txt (m.1 65 0) t) : Both (q_X_read sc h) (q_M_read sc m) (fun r u => RF q (1 - l) h m r u ∨ RG q (1 - l) h m r u) := by
  have g1 : decide (0 < q + 1) = true := decide_eq_true (by omega)
  have g2 : decide (q < 2) = true := decide_eq_true hq
  have g3 : decide (0 < 1 - q + 1) = true := decide_eq_true (by omega)
  have g4 : decide (1 - q < 2) = true := decide_eq_true (by omega)
  obtain ⟨x0, ex, X0, TX0, xm2, x3, x4, x8, x9, x6, x15, x13, xS⟩ := X_pre (sc := sc) hq ht h18 hk
  obtain ⟨m0, em, M0, TM0, m11, m12, m13, m15, m19, m33, m39, mm2, m73, mS⟩ := M_pre (sc := sc) hl ht m2 m18 mk'
  rw [hT] at TX0 x4
  have eX : q_X_read sc h = (q_Reader_parse_L55 sc x0 (nN 0)).bind (rdX sc) := by
    rw [q_X_read_eq]
    simp only [h203, g1, Nat.add_sub_cancel, cond_true]
    rw [ex]
    rfl
  rw [eX, em]
  have tz : txt (m.1 65 0) t t = 0 := txt_end _ _
  have ts := TKS_cut (b := txt (m.1 65 0) t) (t := t) (f := t + 1) tz ht
  generalize kdT (cutP (txt (m.1 65 0) t) t (t + 1) 0) t = kd at *
  generalize plT (cutP (txt (m.1 65 0) t) t (t + 1) 0) t = pl at *
  generalize vlT (cutP (txt (m.1 65 0) t) t (t + 1) 0) t = vl at *
  have s2 : 1 - l < 2 := by omega
  have E0 : En q (1 - l) kd pl vl x0 m0 := ⟨ts, hq, s2, TX0, xm2, TM0, m19⟩
  have L0 : Live kd pl 0 0 x0 m0 := ⟨0, fun y => absurd rfl y, ⟨Nat.zero_le _, fun j hj => absurd hj (Nat.not_lt_zero j)⟩, by decide, by decide, ⟨x3, x4, x8, x9, x6, fun y => absurd rfl y⟩, ⟨m11, m13, m15, fun y => absurd rfl y⟩⟩
  have T0 : TopI q (1 - l) kd pl vl 0 0 0 0 (420 * (1 - l)) (130 * (1 - l)) x0 m0 := by
    refine ⟨⟨E0, L0, ⟨0, by decide, x15⟩, x13, m39, m33, m12, Nat.le_refl _, Nat.le_refl _, by omega⟩, x15, m73, by decide, fun i hi => absurd hi (Nat.not_lt_zero i), fun j hj => ?_, Nat.le_refl _, by omega⟩
    obtain ⟨a0, a1, a2, a3, a4⟩ := xS
    obtain ⟨b0, b1, b2, b3, b4⟩ := mS
    rcases (show j = 0 ∨ j = 1 ∨ j = 2 ∨ j = 3 ∨ j = 4 by omega) with e | e | e | e | e <;> subst e
    · exact ⟨5, by decide, a0, b0, fun _ => by decide⟩
    · exact ⟨10, by decide, a1, b1, fun _ => by decide⟩
    · exact ⟨5, by decide, a2, b2, fun _ => by decide⟩
    · exact ⟨3, by decide, a3, b3, fun _ => by decide⟩
    · exact ⟨0, by decide, a4, b4, fun _ => by decide⟩
  refine ls_loop (x0 := x0) (m0 := m0) ?_ ?_ 401 0 0 0 0 _ _ 0 x0 m0 (by omega) (Nat.le_refl _) (FX_refl _ _) (FM_refl _ _) T0
  · intro p w n z y b x m1 T hz0 FXx FMm
    obtain ⟨H, c15, c73, n6, HR, SR, hb1, hb2⟩ := T
    have H' := H
    obtain ⟨E, Lv, P, h13, h39, h33, h12, hz, hy1, hy2⟩ := H'
    obtain ⟨yy, hyy, ok, w5, y2k, lx, lm⟩ := Lv
    obtain ⟨lx3, lx4, lx8, lx9, lx6, lx7⟩ := lx
    obtain ⟨lm11, lm13, lm15, lm16⟩ := lm
    have p4 := ok.1
    have mt : m1.1 21 0 2 = nN 0 := (FM_i FMm (by rfl) (by decide)).trans mm2
    have e203 : x.2.2 20 0 3 = q + 1 := (FX_m FXx (by rfl) (by rfl)).trans ((Fr_m (PXf_Fr X0) (by rfl)).trans h203)
    have e202 : x.2.2 20 0 2 = 1 - q + 1 := (FX_m FXx (by rfl) (by rfl)).trans ((Fr_m (PXf_Fr X0) (by rfl)).trans h202)
    have PX : PXf q h x := PXf_trans X0 (PXf_fx FXx)
    have PM : PMf (1 - l) m m1 := PMf_trans M0 (PMf_fm FMm)
    by_cases w0 : w = 0
    · -- no fault at all
      subst w0
      have e0 : endX x = x := by
        unfold endX
        simp only [eq_true lx6, decide_true, cond_true]
      rw [e0]
      unfold rdX finM
      have F1 : Fr [5001] x (wb_iu x 18 0 1 (nN 0)) := Fr_iu rfl
      have c18 : (wb_iu x 18 0 1 (nN 0)).1 18 0 1 = nN 0 := iu_at
      have f203 : (wb_iu x 18 0 1 (nN 0)).2.2 20 0 3 = q + 1 := e203
      have f8 : (wb_iu x 18 0 1 (nN 0)).1 16 0 8 = nN 0 := (Fr_i F1 (by rfl)).trans lx8
      simp (disch := omega) only [L_0, L_1, L_2, L_3, L_4, L_5, L_6, L_7, L_8, L_9, L_10, L_11, L_12, L_13, L_14, L_15, L_16, L_17, L_18, L_19, L_20, L_21, L_22, L_23, L_24, L_25, L_26, L_27, L_28, L_29, L_30, L_31, L_32, L_33, L_34, L_35, L_40, L_41, L_42, L_43, L_44, L_45, L_47, L_48, L_50, L_53, L_57, L_59, L_60, L_61, L_63, L_64, L_97, L_100, L_101, L_102, L_103, L_122, L_130, L_216, L_255, L_364, L_400, L_402, L_420, L_728, L_768, L_999, L_1000, L_1093, L_1872, L_2000, L_9999, L_12345, L_252645135, L_858993459, L_1103515245, L_1431655765, Lm_1, Lm_2, Lm_8, N_zero, N_cast, N_add, N_mul, N_sub, N_addM, N_lt_tp, N_lt_fp, N_le_tp, N_le_fp, N_eq_tp, N_eq_fp, MN_ltp, MN_lep, NM_ltp, NM_lep, NM_eqp, MN_eqp, MM_lt_tp, MM_lt_fp, MM_le_tp, MM_le_fp, MM_eq_tp, MM_eq_fp, N_cl, N_in_t, N_in_f, M_in, N_div, N_rem, N_nb0, N_nb1, cond_true, cond_false, Bool.not_true, Bool.not_false, Bool.and_true, Bool.true_and, Bool.and_false, Bool.false_and, decide_true, decide_false, Option.bind_some, Option.bind_none, f8, f203, g1, g2, Nat.add_sub_cancel, lm13, lm15, iu_ne (show 13 ≠ 17 by decide), iu_ne (show 15 ≠ 17 by decide), iu_ne (show 19 ≠ 17 by decide)]
      generalize wb_iu x 18 0 1 (nN 0) = x1 at *
      have HR1 : ∀ i, i < n → HouseR q (1 - l) 0 y z b x1 m1 i := fun i hi => HouseR_k2 (z := z) (y := y) (b := b) (Kp_fr F1 rfl) (Km_refl _ _) (Kb_refl _ _) ⟨⟨Fr_i F1 (by rfl), Fr_i F1 (by rfl), Fr_i F1 (by rfl), Fr_i F1 (by rfl), Fr_i F1 (by rfl)⟩, Fr_l F1 (by rfl)⟩ ⟨fun _ _ _ => rfl, rfl⟩ (fun e => e) (Nat.le_refl _) (Nat.le_refl _) (Nat.le_refl _) (HR i hi)
      have SR1 : SetR q (1 - l) 0 x1 m1 := SetR_keep (fun k _ => Fr_i F1 (by rfl)) (fun t _ _ => rfl) (fun e => e) SR
      have d15 : x1.1 15 q 0 = nN n := (Fr_i F1 (by rfl)).trans c15
      refine Both_x (X_reckon hq n6 d15 ((Fr_i F1 (by rfl)).trans h13) (by omega) HR1) ?_
      rintro x2 ⟨F2, LD⟩
      have k202 : x2.2.2 20 0 2 = 1 - q + 1 := (F2 20 0 2 (fun y => by omega)).2.2.trans ((Fr_m F1 (by rfl)).trans e202)
      have k203 : x2.2.2 20 0 3 = q + 1 := (F2 20 0 3 (fun y => by omega)).2.2.trans f203
      simp only [k202, k203, g1, g2, g3, g4, Nat.add_sub_cancel, cond_true]
      have F3 : Fr [2002, 2003] x2 (wb_mu (wb_mu x2 20 0 2 (q + 1)) 20 0 3 (1 - q + 1)) := Fr_trans (Fr_mu rfl) (Fr_mu rfl)
      have n202 : (wb_mu (wb_mu x2 20 0 2 (q + 1)) 20 0 3 (1 - q + 1)).2.2 20 0 2 = q + 1 := by rw [wb_mu_3, if_neg (by decide), wb_mu_3, if_pos ⟨rfl, rfl, rfl⟩]
      have n203 : (wb_mu (wb_mu x2 20 0 2 (q + 1)) 20 0 3 (1 - q + 1)).2.2 20 0 3 = 1 - q + 1 := by rw [wb_mu_3, if_pos ⟨rfl, rfl, rfl⟩]
      generalize wb_mu (wb_mu x2 20 0 2 (q + 1)) 20 0 3 (1 - q + 1) = x3' at *
      refine Both_x X_new ?_
      rintro x4' ⟨F4, N4, a14, a10, a61, a2015, a2014, a62⟩
      have F34 : Fr [17, 54, 9002, 7005, 61, 62, 2014, 2015, 2002, 2003] x2 x4' := Fr_trans (Fr_mono F3 rfl) (Fr_mono F4 rfl)
      have G0 : Fr [1017, 1018] m1 (wb_iu (wb_iu m1 21 0 17 (nM 1)) 21 0 18 (m1.1 21 0 19)) := Fr_trans (Fr_iu rfl) (Fr_iu rfl)
      have b17 : (wb_iu (wb_iu m1 21 0 17 (nM 1)) 21 0 18 (m1.1 21 0 19)).1 21 0 17 = nM 1 := by rw [iu_ne (by decide), iu_at]
      have b18 : (wb_iu (wb_iu m1 21 0 17 (nM 1)) 21 0 18 (m1.1 21 0 19)).1 21 0 18 = nN (1 - l) := by rw [iu_at]; exact E.2.2.2.2.2.2
      generalize wb_iu (wb_iu m1 21 0 17 (nM 1)) 21 0 18 (m1.1 21 0 19) = m3 at *
      obtain ⟨u, eu, u0, G5, N5, u54, u59, u108⟩ := M_new (sc := sc) b18 s2
      rw [eu]
      have GG : Fr [95, 96, 1017, 1018, 1049, 1050, 1054, 1059, 108] m1 u.2 := Fr_trans (Fr_mono G0 rfl) (Fr_mono G5 rfl)
      have PX1 : PXf q h x2 := PXf_trans PX (PXf_trans (PXf_fr F1 rfl) (PXf_fy F2))
      have FXh : Fr LGX2 h x4' := Fr_trans (Fr_mono (PXf_Fr PX1) rfl) (Fr_mono F34 rfl)
      obtain ⟨tok, xt, mt'⟩ := told_both (m' := u.2) hq s2 n6 d15 c73 HR1 SR1 (by omega) (by omega) F2 LD (fun t k ht' => by
        rcases (show t = 73 ∨ t = 74 ∨ t = 75 ∨ t = 76 ∨ t = 77 ∨ t = 78 ∨ t = 79 ∨ t = 80 ∨ t = 81 ∨ t = 82 ∨ t = 83 ∨ t = 84 ∨ t = 85 ∨ t = 86 ∨ t = 87 ∨ t = 88 ∨ t = 89 ∨ t = 90 ∨ t = 91 by omega) with r | r | r | r | r | r | r | r | r | r | r | r | r | r | r | r | r | r | r <;> subst r <;> exact Fr_i GG (by rfl)) ((Fr_i G5 (by rfl)).trans b18)
      have r8 : x4'.1 16 0 8 = nN 0 := (Fr_i F34 (by rfl)).trans ((FY_i F2 (by decide) (by decide) (by decide)).trans f8)
      have r9 : x4'.1 16 0 9 = nM 1 := (Fr_i F34 (by rfl)).trans ((FY_i F2 (by decide) (by decide) (by decide)).trans ((Fr_i F1 (by rfl)).trans lx9))
      have r18 : x4'.1 18 0 1 = nN 0 := (Fr_i F34 (by rfl)).trans ((FY_i F2 (by decide) (by decide) (by decide)).trans c18)
      obtain ⟨N41, N42, N43, N44, N45, N46⟩ := N4
      have r5 : x4'.1 17 0 5 = h.1 17 0 5 := N46.trans ((Fr_i F3 (by rfl)).trans (Fr_i (PXf_Fr PX1) (by rfl)))
      refine Both_some (Or.inr ⟨r8, u0, tOf q n x2, tok, XT_fr F34 rfl xt, mt', ⟨?_, ?_, ⟨N41, N42, N43, N44, N45, r5⟩, a14, a10, a61, a2015, a2014, a62, r9, r18, FXh⟩, N5, u54, u59, u108, ?_, ?_, ?_⟩)
      · exact (Fr_m F4 (by rfl)).trans n202
      · exact (Fr_m F4 (by rfl)).trans n203
      · exact (Fr_i G5 (by rfl)).trans b17
      · exact (Fr_i GG (by rfl)).trans mt
      · exact Fr_trans (Fr_mono (PMf_Fr PM) rfl) (Fr_mono GG rfl)
    · -- a fault that counts because there is no other
      have x6n : ¬ (x.1 16 0 6 = nN 0) := fun e => by
        rw [lx6] at e
        exact w0 (N_inj (by omega) (by decide) e)
      have e0 : endX x = wb_iu (wb_iu x 16 0 8 (nN w)) 16 0 9 (nN yy) := by
        unfold endX
        simp only [eq_false x6n, decide_false, cond_false]
        rw [lx6, lx7 w0]
      rw [e0]
      have F1 : Fr [4008, 4009, 5001] x (wb_iu (wb_iu (wb_iu x 16 0 8 (nN w)) 16 0 9 (nN yy)) 18 0 1 (nN 0)) := Fr_trans (Fr_trans (Fr_iu rfl) (Fr_iu rfl)) (Fr_iu rfl)
      have f8 : (wb_iu (wb_iu (wb_iu x 16 0 8 (nN w)) 16 0 9 (nN yy)) 18 0 1 (nN 0)).1 16 0 8 = nN w := by rw [iu_nt (by decide), iu_ne (by decide), iu_at]
      have f9 : (wb_iu (wb_iu (wb_iu x 16 0 8 (nN w)) 16 0 9 (nN yy)) 18 0 1 (nN 0)).1 16 0 9 = nN yy := by rw [iu_nt (by decide), iu_at]
      have f18 : (wb_iu (wb_iu (wb_iu x 16 0 8 (nN w)) 16 0 9 (nN yy)) 18 0 1 (nN 0)).1 18 0 1 = nN 0 := iu_at
      unfold rdX finM
      have m16 := lm16 w0
      simp (disch := omega) only [L_0, L_1, L_2, L_3, L_4, L_5, L_6, L_7, L_8, L_9, L_10, L_11, L_12, L_13, L_14, L_15, L_16, L_17, L_18, L_19, L_20, L_21, L_22, L_23, L_24, L_25, L_26, L_27, L_28, L_29, L_30, L_31, L_32, L_33, L_34, L_35, L_40, L_41, L_42, L_43, L_44, L_45, L_47, L_48, L_50, L_53, L_57, L_59, L_60, L_61, L_63, L_64, L_97, L_100, L_101, L_102, L_103, L_122, L_130, L_216, L_255, L_364, L_400, L_402, L_420, L_728, L_768, L_999, L_1000, L_1093, L_1872, L_2000, L_9999, L_12345, L_252645135, L_858993459, L_1103515245, L_1431655765, Lm_1, Lm_2, Lm_8, N_zero, N_cast, N_add, N_mul, N_sub, N_addM, N_lt_tp, N_lt_fp, N_le_tp, N_le_fp, N_eq_tp, N_eq_fp, MN_ltp, MN_lep, NM_ltp, NM_lep, NM_eqp, MN_eqp, MM_lt_tp, MM_lt_fp, MM_le_tp, MM_le_fp, MM_eq_tp, MM_eq_fp, N_cl, N_in_t, N_in_f, M_in, N_div, N_rem, N_nb0, N_nb1, cond_true, cond_false, Bool.not_true, Bool.not_false, Bool.and_true, Bool.true_and, Bool.and_false, Bool.false_and, decide_true, decide_false, Option.bind_some, Option.bind_none, f8, lm13, lm15, iu_ne (show 13 ≠ 17 by decide), iu_ne (show 15 ≠ 17 by decide)]
      have G1 : Fr [1017] m1 (wb_iu m1 21 0 17 (m1.1 21 0 16)) := Fr_iu rfl
      refine Both_some (Or.inl ⟨w, yy, rfl, rfl, PXf_trans PX (PXf_fr F1 rfl), PMf_trans PM (PMf_fr G1 rfl), f9, ?_, f18, ?_⟩)
      · rw [iu_at]; exact m16
      · rw [iu_ne (by decide)]; exact mt
  · intro x m1 D
    obtain ⟨FXx, FMm, f, e, he, ⟨d1, d2, d3, d4, -⟩, g5, g6, g7, g8⟩ := D
    have mt : m1.1 21 0 2 = nN 0 := (FM_i FMm (by rfl) (by decide)).trans mm2
    have F1 : Fr [5001] x (wb_iu x 18 0 1 (nN 0)) := Fr_iu rfl
    have f8 : (wb_iu x 18 0 1 (nN 0)).1 16 0 8 = nN f := (Fr_i F1 (by rfl)).trans d3
    have f9 : (wb_iu x 18 0 1 (nN 0)).1 16 0 9 = nN e := (Fr_i F1 (by rfl)).trans d4
    unfold rdX finM
    simp (disch := omega) only [L_0, L_1, L_2, L_3, L_4, L_5, L_6, L_7, L_8, L_9, L_10, L_11, L_12, L_13, L_14, L_15, L_16, L_17, L_18, L_19, L_20, L_21, L_22, L_23, L_24, L_25, L_26, L_27, L_28, L_29, L_30, L_31, L_32, L_33, L_34, L_35, L_40, L_41, L_42, L_43, L_44, L_45, L_47, L_48, L_50, L_53, L_57, L_59, L_60, L_61, L_63, L_64, L_97, L_100, L_101, L_102, L_103, L_122, L_130, L_216, L_255, L_364, L_400, L_402, L_420, L_728, L_768, L_999, L_1000, L_1093, L_1872, L_2000, L_9999, L_12345, L_252645135, L_858993459, L_1103515245, L_1431655765, Lm_1, Lm_2, Lm_8, N_zero, N_cast, N_add, N_mul, N_sub, N_addM, N_lt_tp, N_lt_fp, N_le_tp, N_le_fp, N_eq_tp, N_eq_fp, MN_ltp, MN_lep, NM_ltp, NM_lep, NM_eqp, MN_eqp, MM_lt_tp, MM_lt_fp, MM_le_tp, MM_le_fp, MM_eq_tp, MM_eq_fp, N_cl, N_in_t, N_in_f, M_in, N_div, N_rem, N_nb0, N_nb1, cond_true, cond_false, Bool.not_true, Bool.not_false, Bool.and_true, Bool.true_and, Bool.and_false, Bool.false_and, decide_true, decide_false, Option.bind_some, Option.bind_none, f8, g7, iu_ne (show 13 ≠ 17 by decide)]
    have G1 : Fr [1017] m1 (wb_iu m1 21 0 17 (m1.1 21 0 14)) := Fr_iu rfl
    refine Both_some (Or.inl ⟨f, e, rfl, rfl, PXf_trans X0 (PXf_trans (PXf_fx FXx) (PXf_fr F1 rfl)), PMf_trans M0 (PMf_trans (PMf_fm FMm) (PMf_fr G1 rfl)), f9, ?_, iu_at, ?_⟩)
    · rw [iu_at]; exact g8
    · rw [iu_ne (by decide)]; exact mt
end
