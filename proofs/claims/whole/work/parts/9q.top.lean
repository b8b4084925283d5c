/-! The whole text, house by house, line by line. -/
noncomputable def finM (sc : wb_X) (h : wb_H) : Option (Int32 × wb_H) := bif (decide ((h.1 21 0 13) ≤ (Int32.ofInt 0))) then bif (decide ((h.1 21 0 15) ≤ (Int32.ofInt 0))) then bif (decide (((wb_iu h 21 0 17 (Int32.ofInt (-1))).1 21 0 13) ≤ (Int32.ofInt 0))) then bif (decide (((wb_iu h 21 0 17 (Int32.ofInt (-1))).1 21 0 15) ≤ (Int32.ofInt 0))) then ((q_M_begins sc (wb_iu (wb_iu h 21 0 17 (Int32.ofInt (-1))) 21 0 18 ((wb_iu h 21 0 17 (Int32.ofInt (-1))).1 21 0 19))).bind fun h1 => ((q_M_keepsRow sc h1).bind fun h2 => (q_M_read_L214 sc (wb_iu (wb_iu h2 21 0 54 (Int32.ofInt 0)) 21 0 59 (Int32.ofInt 0)) (Int32.ofInt 0)))) else some (((wb_iu h 21 0 17 (Int32.ofInt (-1))).1 21 0 15), (wb_iu h 21 0 17 (Int32.ofInt (-1)))) else some (((wb_iu h 21 0 17 (Int32.ofInt (-1))).1 21 0 13), (wb_iu h 21 0 17 (Int32.ofInt (-1)))) else bif (decide (((wb_iu h 21 0 17 (h.1 21 0 16)).1 21 0 13) ≤ (Int32.ofInt 0))) then bif (decide (((wb_iu h 21 0 17 (h.1 21 0 16)).1 21 0 15) ≤ (Int32.ofInt 0))) then ((q_M_begins sc (wb_iu (wb_iu h 21 0 17 (h.1 21 0 16)) 21 0 18 ((wb_iu h 21 0 17 (h.1 21 0 16)).1 21 0 19))).bind fun h3 => ((q_M_keepsRow sc h3).bind fun h4 => (q_M_read_L214 sc (wb_iu (wb_iu h4 21 0 54 (Int32.ofInt 0)) 21 0 59 (Int32.ofInt 0)) (Int32.ofInt 0)))) else some (((wb_iu h 21 0 17 (h.1 21 0 16)).1 21 0 15), (wb_iu h 21 0 17 (h.1 21 0 16))) else some (((wb_iu h 21 0 17 (h.1 21 0 16)).1 21 0 13), (wb_iu h 21 0 17 (h.1 21 0 16))) else bif (decide (((wb_iu h 21 0 17 (h.1 21 0 14)).1 21 0 13) ≤ (Int32.ofInt 0))) then bif (decide (((wb_iu h 21 0 17 (h.1 21 0 14)).1 21 0 15) ≤ (Int32.ofInt 0))) then ((q_M_begins sc (wb_iu (wb_iu h 21 0 17 (h.1 21 0 14)) 21 0 18 ((wb_iu h 21 0 17 (h.1 21 0 14)).1 21 0 19))).bind fun h5 => ((q_M_keepsRow sc h5).bind fun h6 => (q_M_read_L214 sc (wb_iu (wb_iu h6 21 0 54 (Int32.ofInt 0)) 21 0 59 (Int32.ofInt 0)) (Int32.ofInt 0)))) else some (((wb_iu h 21 0 17 (h.1 21 0 14)).1 21 0 15), (wb_iu h 21 0 17 (h.1 21 0 14))) else some (((wb_iu h 21 0 17 (h.1 21 0 14)).1 21 0 13), (wb_iu h 21 0 17 (h.1 21 0 14)))
noncomputable def endX (x : wb_H) : wb_H := bif decide (x.1 16 0 6 = nN 0) then x else wb_iu (wb_iu x 16 0 8 (x.1 16 0 6)) 16 0 9 (x.1 16 0 7)
section
variable {sc : wb_X} {q s : Nat} {kd pl : Nat → Nat} {vl : Nat → Int} {w : Nat}
theorem L107_e (h : wb_H) : q_M_read_L107 sc h = (bif (!decide ((h.1 21 0 13) = (Int32.ofInt 0))) then finM sc h else ((q_M_is sc h (Int32.ofInt 0)).bind fun r7 => bif (!decide (r7.1 = (Int32.ofInt 0))) then finM sc r7.2 else ((q_M_tellOne sc r7.2).bind fun h14 => (q_M_read_L107 sc h14)))) := q_M_read_L107_eq sc h
theorem mD_L107 {f e : Nat} {m : wb_H} (D : DdM f e m) : q_M_read_L107 sc m = finM sc m := by
  have d0 := D.1
  have d5 := D.2.1
  have d3 := D.2.2.1
  rw [L107_e]
  simp (disch := omega) only [L_0, L_1, L_2, L_3, L_4, L_5, L_6, L_7, L_8, L_9, L_10, L_11, L_12, L_13, L_14, L_15, L_16, L_17, L_18, L_19, L_20, L_21, L_22, L_23, L_24, L_25, L_26, L_27, L_28, L_29, L_30, L_31, L_32, L_33, L_34, L_35, L_40, L_41, L_42, L_43, L_44, L_45, L_47, L_48, L_50, L_53, L_57, L_59, L_60, L_61, L_63, L_64, L_97, L_100, L_101, L_102, L_103, L_122, L_130, L_216, L_255, L_364, L_400, L_402, L_420, L_728, L_768, L_999, L_1000, L_1093, L_1872, L_2000, L_9999, L_12345, L_252645135, L_858993459, L_1103515245, L_1431655765, Lm_1, Lm_2, Lm_8, N_zero, N_cast, N_add, N_mul, N_sub, N_addM, N_lt_tp, N_lt_fp, N_le_tp, N_le_fp, N_eq_tp, N_eq_fp, MN_ltp, MN_lep, NM_ltp, NM_lep, NM_eqp, MN_eqp, MM_lt_tp, MM_lt_fp, MM_le_tp, MM_le_fp, MM_eq_tp, MM_eq_fp, N_cl, N_in_t, N_in_f, M_in, N_div, N_rem, N_nb0, N_nb1, cond_true, cond_false, Bool.not_true, Bool.not_false, Bool.and_true, Bool.true_and, Bool.and_false, Bool.false_and, decide_true, decide_false, Option.bind_some, Option.bind_none, d3]
theorem xD_L55 {f e : Nat} {x : wb_H} (D : DdX f e x) (v : Int32) : q_Reader_parse_L55 sc x v = some x := by
  have d0 := D.1
  have d5 := D.2.1
  have d3 := D.2.2.1
  rw [q_Reader_parse_L55_eq]
  by_cases z : nN 400 < v
  · simp (disch := omega) only [L_0, L_1, L_2, L_3, L_4, L_5, L_6, L_7, L_8, L_9, L_10, L_11, L_12, L_13, L_14, L_15, L_16, L_17, L_18, L_19, L_20, L_21, L_22, L_23, L_24, L_25, L_26, L_27, L_28, L_29, L_30, L_31, L_32, L_33, L_34, L_35, L_40, L_41, L_42, L_43, L_44, L_45, L_47, L_48, L_50, L_53, L_57, L_59, L_60, L_61, L_63, L_64, L_97, L_100, L_101, L_102, L_103, L_122, L_130, L_216, L_255, L_364, L_400, L_402, L_420, L_728, L_768, L_999, L_1000, L_1093, L_1872, L_2000, L_9999, L_12345, L_252645135, L_858993459, L_1103515245, L_1431655765, Lm_1, Lm_2, Lm_8, eq_true z, N_eq_fp, cond_true, cond_false, Bool.not_true, Bool.not_false, Bool.and_true, Bool.true_and, Bool.and_false, Bool.false_and, decide_true, decide_false, Option.bind_some, Option.bind_none, d3]
  · simp (disch := omega) only [L_0, L_1, L_2, L_3, L_4, L_5, L_6, L_7, L_8, L_9, L_10, L_11, L_12, L_13, L_14, L_15, L_16, L_17, L_18, L_19, L_20, L_21, L_22, L_23, L_24, L_25, L_26, L_27, L_28, L_29, L_30, L_31, L_32, L_33, L_34, L_35, L_40, L_41, L_42, L_43, L_44, L_45, L_47, L_48, L_50, L_53, L_57, L_59, L_60, L_61, L_63, L_64, L_97, L_100, L_101, L_102, L_103, L_122, L_130, L_216, L_255, L_364, L_400, L_402, L_420, L_728, L_768, L_999, L_1000, L_1093, L_1872, L_2000, L_9999, L_12345, L_252645135, L_858993459, L_1103515245, L_1431655765, Lm_1, Lm_2, Lm_8, eq_false z, N_eq_fp, cond_true, cond_false, Bool.not_true, Bool.not_false, Bool.and_true, Bool.true_and, Bool.and_false, Bool.false_and, decide_true, decide_false, Option.bind_some, Option.bind_none, d3]
noncomputable def setX (sc : wb_X) (q j : Nat) (h2 : wb_H) : Option wb_H := bif (decide (0 < h2.2.2 16 0 2)) then ((q_Reader_takeInt sc h2 (nN (smx j))).bind fun r3 => bif (decide ((h2.2.2 16 0 2 - 1) < 2)) then some (wb_iu r3.2 15 (h2.2.2 16 0 2 - 1) (7 + j) r3.1) else none) else none
/-- one of the five settings -/
theorem ls_set {p z y b n j : Nat} {x0 m0 x m : wb_H} (X0 : FX q x0 x) (M0 : FM s m0 m) (hj : j < 5) (T : TopI q s kd pl vl p w n z y b x m) (hk : kd p = 27 + j) : Both (((q_Reader_take sc x (nN (kap (kd p)))).bind (setX sc q j)).bind fun h6 => q_Reader_take sc h6 (nN 59)) ((q_M_setting sc m (nN (smx j))).bind fun r => some (wb_iu r.2 (80 + j) 0 s r.1)) (fun x' m' => (FX q x0 x' ∧ FM s m0 m' ∧ ∃ p' w', p < p' ∧ TopI q s kd pl vl p' w' n z y b x' m') ∨ DdE q s x0 m0 x' m') := by
  obtain ⟨H, c15, c73, n6, HR, SR, hb1, hb2⟩ := T
  have hq := H.1.2.1
  have hs := H.1.2.2.1
  have sm : smx j ≤ 9999 := by unfold smx; (repeat' split) <;> omega
  have p4 := (Lq_p H).1
  rw [q_M_setting_eq, Option.bind_assoc]
  simp only [L_0, L_1, L_2, L_3, L_4, L_5, L_6, L_7, L_8, L_9, L_10, L_11, L_12, L_13, L_14, L_15, L_16, L_17, L_18, L_19, L_20, L_21, L_22, L_23, L_24, L_25, L_26, L_27, L_28, L_29, L_30, L_31, L_32, L_33, L_34, L_35, L_40, L_41, L_42, L_43, L_44, L_45, L_47, L_48, L_50, L_53, L_57, L_59, L_60, L_61, L_63, L_64, L_97, L_100, L_101, L_102, L_103, L_122, L_130, L_216, L_255, L_364, L_400, L_402, L_420, L_728, L_768, L_999, L_1000, L_1093, L_1872, L_2000, L_9999, L_12345, L_252645135, L_858993459, L_1103515245, L_1431655765, Lm_1, Lm_2, Lm_8, Option.bind_assoc, Option.bind_some]
  refine Both_bind (ls_go H.1 H.2.1 (by omega) (by omega)) ?_
  rintro x1 m1 ⟨F1, G1, h⟩
  have g1 : decide (0 < q + 1) = true := decide_eq_true (by omega)
  have g2 : decide (q < 2) = true := decide_eq_true hq
  have mm1 : x1.2.2 16 0 2 = q + 1 := (Fr_m F1 (by rfl)).trans H.1.2.2.2.2.1
  unfold setX
  simp only [mm1, g1, g2, Nat.add_sub_cancel, cond_true, Option.bind_assoc, Option.bind_some]
  refine Both_bind (P := fun r t => Fr LIX x r.2 ∧ Fr LIM m t.2 ∧ ((∃ v w', v ≤ 9999 ∧ r.1 = nN v ∧ t.1 = nN v ∧ (w' = 0 → w = 0 ∧ v ≤ smx j) ∧ Live kd pl (p + 1 + 1) w' r.2 t.2) ∨ Dead r.2 t.2)) ?_ ?_
  · rcases h with h | h
    · refine Both_w (ls_int (En_f (FX_fr F1 rfl) (FM_fr G1 rfl) H.1) (Or.inl h) sm) ?_
      rintro r t ⟨F2, G2, h2⟩
      refine ⟨Fr_trans (Fr_mono F1 rfl) F2, Fr_trans (Fr_mono G1 rfl) G2, ?_⟩
      rcases h2 with ⟨v, w', a1, a2, a3, a4, a5⟩ | h2
      · exact Or.inl ⟨v, w', a1, a2, a3, a4, a5⟩
      · exact Or.inr h2
    · have h' := h
      obtain ⟨f, e, he, D1, D2⟩ := h'
      rw [mD_bounded D2]
      obtain ⟨pp, hpp, d3⟩ := D1.2.2.2.2
      have ds : DS q f e x1 := ⟨hq, D1, (Fr_m F1 (by rfl)).trans H.1.2.2.2.2.1, ⟨z, by have := H.2.2.2.2.2.2.2.1; omega, (Fr_i F1 (by rfl)).trans H.2.2.2.1⟩, n, n6, (Fr_i F1 (by rfl)).trans c15⟩
      have key : Ok (q_Reader_takeInt sc x1 (nN (smx j))) (fun r => Fr LIX x1 r.2 ∧ DdX f e r.2) := by
        rw [q_Reader_takeInt_eq]
        simp (disch := omega) only [d3, N_in_t, cond_true, dX_take D1, Option.bind_some]
        refine Ok_c (fun _ => Ok_some ⟨Fr_refl _ _, D1⟩) (fun _ => Ok_c (fun _ => Ok_some ⟨Fr_refl _ _, D1⟩) (fun _ => ?_))
        refine Ok_bind (X_later_ok d3 hpp _) ?_
        intro x2 F2
        have D3 := DdX_fr F2 rfl rfl rfl D1
        rw [dX_take D3]
        exact Ok_some ⟨Fr_mono F2 rfl, D3⟩
      obtain ⟨r, er, F2, D3⟩ := key
      rw [er]
      exact Both_some ⟨Fr_trans (Fr_mono F1 rfl) F2, Fr_mono G1 rfl, Or.inr ⟨f, e, he, D3, D2⟩⟩
  clear h
  rintro ⟨rv, x2⟩ ⟨tv, m2⟩ ⟨F2, G2, h⟩
  simp only at F2 G2 h ⊢
  have F3 : Fr [15] x2 (wb_iu x2 15 q (7 + j) rv) := Fr_iu rfl
  have X3 : FX q x2 (wb_iu x2 15 q (7 + j) rv) := FX_iu (Or.inr ⟨rfl, rfl⟩)
  have c15' : (wb_iu x2 15 q (7 + j) rv).1 15 q 0 = nN n := by rw [iu_ne (by omega)]; exact (Fr_i F2 (by rfl)).trans c15
  have c15k : ∀ k, k ≠ 7 + j → (wb_iu x2 15 q (7 + j) rv).1 15 q k = x2.1 15 q k := fun k hk => iu_ne hk
  have c15j : (wb_iu x2 15 q (7 + j) rv).1 15 q (7 + j) = rv := iu_at
  generalize wb_iu x2 15 q (7 + j) rv = x3 at *
  have X03 : FX q x x3 := FX_trans (FX_fr F2 rfl) X3
  have M02 : FM s m m2 := FM_fr G2 rfl
  have St3 : (∃ v w', v ≤ 9999 ∧ rv = nN v ∧ tv = nN v ∧ (w' = 0 → w = 0 ∧ v ≤ smx j) ∧ Live kd pl (p + 1 + 1) w' x3 m2) ∨ Dead x3 m2 := by
    rcases h with ⟨v, w', a1, a2, a3, a4, a5⟩ | h
    · exact Or.inl ⟨v, w', a1, a2, a3, a4, Live_fr F3 (Fr_refl [] m2) rfl rfl a5⟩
    · exact Or.inr (Dead_fr F3 (Fr_refl [] m2) rfl rfl h)
  clear h
  have FF : Fr [15, 4003, 4004, 4006, 4007, 4008, 4009] x x3 := Fr_trans (Fr_mono F2 rfl) (Fr_mono F3 rfl)
  rw [← bnd_some (q_Reader_take sc x3 (nN 59))]
  rcases St3 with ⟨v, w', a1, a2, a3, a4, a5⟩ | h
  · refine Both_bind (ls_take (En_f X03 M02 H.1) (Or.inl a5) (d := 4) (Or.inl (by decide)) (by decide) (by decide)) ?_
    rintro x4 m4 ⟨F4, G4, h⟩
    have G5 : Fr [80, 81, 82, 83, 84] m4 (wb_iu m4 (80 + j) 0 s tv) := by
      refine Fr_iu ?_
      rcases (show j = 0 ∨ j = 1 ∨ j = 2 ∨ j = 3 ∨ j = 4 by omega) with e | e | e | e | e <;> subst e <;> rfl
    have M5 : FM s m4 (wb_iu m4 (80 + j) 0 s tv) := FM_iu (Or.inr (by unfold MSd; omega))
    have c80 : (wb_iu m4 (80 + j) 0 s tv).1 (80 + j) 0 s = tv := iu_at
    have c80k : ∀ t, t ≠ 80 + j → (wb_iu m4 (80 + j) 0 s tv).1 t 0 s = m4.1 t 0 s := fun t ht => iu_nt ht
    generalize wb_iu m4 (80 + j) 0 s tv = m5 at *
    have X04 : FX q x x4 := FX_trans X03 (FX_fr F4 rfl)
    have M05 : FM s m m5 := FM_trans M02 (FM_trans (FM_fr G4 rfl) M5)
    have FF4 : Fr [15, 4003, 4004, 4006, 4007, 4008, 4009] x x4 := Fr_trans FF (Fr_mono F4 rfl)
    have GG : Fr [80, 81, 82, 83, 84, 1011, 1013, 1014, 1015, 1016] m m5 := Fr_trans (Fr_mono G2 rfl) (Fr_trans (Fr_mono G4 rfl) (Fr_mono G5 rfl))
    rcases h with ⟨-, -, h⟩ | h
    · have h' := Live_fr (Fr_refl [] x4) G5 rfl rfl h
      have e15 : x4.1 15 q 0 = nN n := (Fr_i F4 (by rfl)).trans c15'
      refine Both_some (Or.inl ⟨FX_trans X0 X04, FM_trans M0 M05, p + 1 + 1 + 1, w', by omega, ⟨En_f X04 M05 H.1, h', ⟨n, n6, e15⟩, (Fr_i FF4 (by rfl)).trans H.2.2.2.1, (Fr_i GG (by rfl)).trans H.2.2.2.2.1, (Fr_i GG (by rfl)).trans H.2.2.2.2.2.1, (Fr_i GG (by rfl)).trans H.2.2.2.2.2.2.1, by have := H.2.2.2.2.2.2.2.1; omega, H.2.2.2.2.2.2.2.2.1, by have := H.2.2.2.2.2.2.2.2.2; omega⟩, e15, (Fr_i GG (by rfl)).trans c73, n6, fun i hi => ?_, fun j2 hj2 => ?_, hb1, hb2⟩)
      · refine HouseR_k2 (Kp_fr (e := z) FF4 rfl) (Km_fr (e := y) GG rfl) (Kb_fr (e := b) GG rfl) ⟨⟨Fr_i FF4 (by rfl), Fr_i FF4 (by rfl), Fr_i FF4 (by rfl), Fr_i FF4 (by rfl), Fr_i FF4 (by rfl)⟩, Fr_l FF4 (by rfl)⟩ ⟨fun t h1 h2 => ?_, Fr_l GG (by rfl)⟩ (fun e => (a4 e).1) (Nat.le_refl _) (Nat.le_refl _) (Nat.le_refl _) (HR i hi)
        rcases (show t = 74 ∨ t = 75 ∨ t = 76 ∨ t = 77 ∨ t = 78 ∨ t = 79 by omega) with e | e | e | e | e | e <;> subst e <;> exact Fr_i GG (by rfl)
      · by_cases ej : j2 = j
        · subst ej
          exact ⟨v, a1, (Fr_i F4 (by rfl)).trans (c15j.trans a2), c80.trans a3, fun e => (a4 e).2⟩
        · obtain ⟨v2, b1, b2, b3, b4⟩ := SR j2 hj2
          have g24 : m4.1 (80 + j2) 0 s = m.1 (80 + j2) 0 s := by
            have G24 : Fr LIM m m4 := Fr_trans G2 (Fr_mono G4 rfl)
            rcases (show j2 = 0 ∨ j2 = 1 ∨ j2 = 2 ∨ j2 = 3 ∨ j2 = 4 by omega) with e | e | e | e | e <;> subst e <;> exact Fr_i G24 (by rfl)
          exact ⟨v2, b1, (Fr_i F4 (by rfl)).trans ((c15k _ (by omega)).trans ((Fr_i F2 (by rfl)).trans b2)), (c80k _ (by omega)).trans (g24.trans b3), fun e => b4 (a4 e).1⟩
    · obtain ⟨f, e, he, D1, D2⟩ := h
      exact Both_some (Or.inr ⟨FX_trans X0 X04, FM_trans M0 M05, f, e, he, D1, DdM_fr G5 rfl rfl D2⟩)
  · obtain ⟨f, e, he, D1, D2⟩ := h
    rw [dX_take D1, mD_must D2]
    have G5 : Fr [80, 81, 82, 83, 84] m2 (wb_iu m2 (80 + j) 0 s tv) := by
      refine Fr_iu ?_
      rcases (show j = 0 ∨ j = 1 ∨ j = 2 ∨ j = 3 ∨ j = 4 by omega) with e | e | e | e | e <;> subst e <;> rfl
    have M5 : FM s m2 (wb_iu m2 (80 + j) 0 s tv) := FM_iu (Or.inr (by unfold MSd; omega))
    exact Both_some (Or.inr ⟨FX_trans X0 X03, FM_trans M0 (FM_trans M02 M5), f, e, he, D1, DdM_fr G5 rfl rfl D2⟩)
end
