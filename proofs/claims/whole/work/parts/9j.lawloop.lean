/-! A law as a whole. -/
section
variable {sc : wb_X} {q s : Nat} {kd pl : Nat → Nat} {vl : Nat → Int} {w : Nat}
theorem Lq_x {p z y b : Nat} {x m x' : wb_H} (H : LqS q s kd pl vl p w z y b x m) (F : Fr [42] x x') (X : FX q x x') : LqS q s kd pl vl p w z y b x' m := by
  obtain ⟨h1, h2, h3, h4, h5, h6, h7, h8, h9, h10⟩ := H
  exact ⟨En_f X (FM_refl s m) h1, Live_fr F (Fr_refl [] m) rfl rfl h2, PLn_fr F rfl h3, (Fr_i F (by rfl)).trans h4, h5, h6, h7, h8, h9, h10⟩
/-- one code more of the class alone -/
theorem X_one {z : Nat} {x : wb_H} (hq : q < 2) (hz : z ≤ 401) (h6 : x.1 13 q 6 = nN z) (k v : Nat) : ∃ x', q_Laws_emit sc x q (nN k) (nN v) = some (nN z, x') ∧ Fr [13, 41, 42] x x' ∧ FX q x x' ∧ Kp q z x x' ∧ x'.1 41 q z = nN k ∧ x'.1 42 q z = nN v ∧ x'.1 13 q 6 = nN (z + 1) := by
  refine ⟨_, X_emit hq hz h6 _ _, Fr_trans (Fr_trans (Fr_iu rfl) (Fr_iu rfl)) (Fr_iu rfl), FX_trans (FX_trans (FX_iu (Or.inr ⟨rfl, rfl⟩)) (FX_iu (Or.inr ⟨rfl, rfl⟩))) (FX_iu (Or.inr ⟨rfl, rfl⟩)), fun j hj => ⟨?_, ?_⟩, ?_, ?_, iu_at⟩
  · rw [iu_nt (by decide), iu_nt (by decide), iu_ne (by omega)]
  · rw [iu_nt (by decide), iu_ne (by omega), iu_nt (by decide)]
  · rw [iu_nt (by decide), iu_nt (by decide), iu_at]
  · rw [iu_nt (by decide), iu_at]
theorem ls_law19 {γ : Type} {KX : wb_H → Option γ} {Q : γ → wb_H → Prop} {a b0 z0 y0 pb : Nat} {x0 m0 : wb_H} (ha : a < 12) (hb1 : 130 * s ≤ b0) (hb2 : b0 + 8 ≤ 130 * s + 130) (kl : ∀ x' m', LawPost pb q s kd pl vl w z0 y0 b0 x0 m0 x' m' → Both (KX x') (tailM sc m' a b0) Q) (kdd : ∀ b' x' m', Dd q s b' x0 m0 x' m' → Both (KX x') (some m') Q) : ∀ k v, v + k = 4 → ∀ (p z y : Nat) (brs : List (CL × (CL × CL))) (x m : wb_H), LB q s z0 y0 b0 x0 m0 x m → pb ≤ p → z0 ≤ z → y0 ≤ y → Lq q s kd pl vl p w z y (b0 + brs.length) x m → LawC q y x m brs z0 b0 z (b0 + brs.length) → brs.length = v → Both ((q_Reader_parseLaw_L19 sc x (nN v)).bind KX) (q_M_tellLaw_L12 sc m (nN a) (nN b0) (nN v)) Q := by
  intro k
  induction k with
  | zero =>
    intro v hv p z y brs x m B hpb hz hy H LC hl
    obtain ⟨p4, m13, m11, x4, ok⟩ := Lq_p H
    have kl3 := kap_le (H.1.1.1 p)
    have v4 : v = 4 := by omega
    subst v4
    rw [q_Reader_parseLaw_L19_eq]
    by_cases z32 : kd p = 32
    · have k12 : nN (kap (kd p)) = nN 12 := by rw [z32]; rfl
      simp (disch := omega) only [L_0, L_1, L_2, L_3, L_4, L_5, L_6, L_7, L_8, L_9, L_10, L_11, L_12, L_13, L_14, L_15, L_16, L_17, L_18, L_19, L_20, L_21, L_22, L_23, L_24, L_25, L_26, L_27, L_28, L_29, L_30, L_31, L_32, L_33, L_34, L_35, L_40, L_41, L_42, L_43, L_44, L_45, L_47, L_48, L_50, L_53, L_57, L_59, L_60, L_61, L_63, L_64, L_97, L_100, L_101, L_102, L_103, L_122, L_130, L_216, L_255, L_364, L_400, L_402, L_420, L_728, L_768, L_999, L_1000, L_1093, L_1872, L_2000, L_9999, L_12345, L_252645135, L_858993459, L_1103515245, L_1431655765, Lm_1, Lm_2, Lm_8, N_zero, N_cast, N_add, N_mul, N_sub, N_addM, N_lt_tp, N_lt_fp, N_le_tp, N_le_fp, N_eq_tp, N_eq_fp, MN_ltp, MN_lep, NM_ltp, NM_lep, NM_eqp, MN_eqp, MM_lt_tp, MM_lt_fp, MM_le_tp, MM_le_fp, MM_eq_tp, MM_eq_fp, N_cl, N_in_t, N_in_f, M_in, N_div, N_rem, N_nb0, N_nb1, cond_true, cond_false, Bool.not_true, Bool.not_false, Bool.and_true, Bool.true_and, Bool.and_false, Bool.false_and, decide_true, decide_false, Option.bind_some, Option.bind_none, x4, k12, Option.bind_assoc]
      have lm : ∃ y w', LvM p w' y m := by
        obtain ⟨y, hy, o, w5, y2, lx, lm⟩ := H.2.1
        exact ⟨y, w, lm⟩
      obtain ⟨yy, ww, lm⟩ := lm
      rw [q_M_tellLaw_L12_eq]
      simp (disch := omega) only [L_0, L_1, L_2, L_3, L_4, L_5, L_6, L_7, L_8, L_9, L_10, L_11, L_12, L_13, L_14, L_15, L_16, L_17, L_18, L_19, L_20, L_21, L_22, L_23, L_24, L_25, L_26, L_27, L_28, L_29, L_30, L_31, L_32, L_33, L_34, L_35, L_40, L_41, L_42, L_43, L_44, L_45, L_47, L_48, L_50, L_53, L_57, L_59, L_60, L_61, L_63, L_64, L_97, L_100, L_101, L_102, L_103, L_122, L_130, L_216, L_255, L_364, L_400, L_402, L_420, L_728, L_768, L_999, L_1000, L_1093, L_1872, L_2000, L_9999, L_12345, L_252645135, L_858993459, L_1103515245, L_1431655765, Lm_1, Lm_2, Lm_8, N_zero, N_cast, N_add, N_mul, N_sub, N_addM, N_lt_tp, N_lt_fp, N_le_tp, N_le_fp, N_eq_tp, N_eq_fp, MN_ltp, MN_lep, NM_ltp, NM_lep, NM_eqp, MN_eqp, MM_lt_tp, MM_lt_fp, MM_le_tp, MM_le_fp, MM_eq_tp, MM_eq_fp, N_cl, N_in_t, N_in_f, M_in, N_div, N_rem, N_nb0, N_nb1, cond_true, cond_false, Bool.not_true, Bool.not_false, Bool.and_true, Bool.true_and, Bool.and_false, Bool.false_and, decide_true, decide_false, Option.bind_some, Option.bind_none, m13, M_is H.1.1 H.1.2.2.2.2.2.1 ok lm (show 32 ≤ 100 by decide), if_pos z32]
      refine Both_bind (ls_fail H.1 H.2.1 (n := 2) (by decide) (by decide)) ?_
      rintro x1 m1 ⟨F1, G1, D1⟩
      have D0 : Dd q s (b0 + brs.length) x0 m0 x1 m1 := Dd_mk H.1.2.1 (FX_trans B.2.1 (FX_fr F1 rfl)) (FM_trans B.2.2.2.1 (FM_fr G1 rfl)) D1 ⟨z, by have := H.2.2.2.2.2.2.2.1; omega, (Fr_i F1 (by rfl)).trans H.2.2.2.1⟩ (PLn_fr F1 rfl H.2.2.1) ((Fr_m F1 (by rfl)).trans H.1.2.2.2.2.1) ((Fr_i G1 (by rfl)).trans H.2.2.2.2.2.1)
      have D0' := D0
      obtain ⟨X3, M3, ⟨f3, e3, he3, D31, D32⟩, hb3⟩ := D0'
      have d0 := D32.1
      have d5 := D32.2.1
      have d13 := D32.2.2.1
      simp (disch := omega) only [L_0, L_1, L_2, L_3, L_4, L_5, L_6, L_7, L_8, L_9, L_10, L_11, L_12, L_13, L_14, L_15, L_16, L_17, L_18, L_19, L_20, L_21, L_22, L_23, L_24, L_25, L_26, L_27, L_28, L_29, L_30, L_31, L_32, L_33, L_34, L_35, L_40, L_41, L_42, L_43, L_44, L_45, L_47, L_48, L_50, L_53, L_57, L_59, L_60, L_61, L_63, L_64, L_97, L_100, L_101, L_102, L_103, L_122, L_130, L_216, L_255, L_364, L_400, L_402, L_420, L_728, L_768, L_999, L_1000, L_1093, L_1872, L_2000, L_9999, L_12345, L_252645135, L_858993459, L_1103515245, L_1431655765, Lm_1, Lm_2, Lm_8, N_zero, N_cast, N_add, N_mul, N_sub, N_addM, N_lt_tp, N_lt_fp, N_le_tp, N_le_fp, N_eq_tp, N_eq_fp, MN_ltp, MN_lep, NM_ltp, NM_lep, NM_eqp, MN_eqp, MM_lt_tp, MM_lt_fp, MM_le_tp, MM_le_fp, MM_eq_tp, MM_eq_fp, N_cl, N_in_t, N_in_f, M_in, N_div, N_rem, N_nb0, N_nb1, cond_true, cond_false, Bool.not_true, Bool.not_false, Bool.and_true, Bool.true_and, Bool.and_false, Bool.false_and, decide_true, decide_false, Option.bind_some, Option.bind_none, d13]
      obtain ⟨x2, e2, h2⟩ := dq_fin (sc := sc) D31
      have h2' : Dd q s (b0 + brs.length) x0 m0 x2 m1 := ⟨FX_trans X3 h2.2.1, M3, ⟨f3, e3, he3, h2.2.2, D32⟩, hb3⟩
      have go := kdd _ x2 m1 h2'
      have ee : ((q_Reader_parseSum sc x1).bind fun h1 => bif (decide (0 < h1.2.2 16 0 2)) then bif (decide ((h1.2.2 16 0 2 - 1) < 2)) then bif (decide ((h1.2.2 16 0 2 - 1) < 2)) then ((q_Laws_emit sc h1 (h1.2.2 16 0 2 - 1) (nN 3) (nN 0)).bind fun r2 => some r2.2) else none else none else none).bind KX = KX x2 := by rw [e2]; rfl
      rw [← ee] at go
      rw [Option.bind_assoc] at go
      exact go
    · have n12 : kap (kd p) ≠ 12 := fun e => z32 (kap_inj (H.1.1.1 p) (show kOk 32 from Or.inr (Or.inr (Or.inr (by decide)))) e)
      simp (disch := omega) only [L_0, L_1, L_2, L_3, L_4, L_5, L_6, L_7, L_8, L_9, L_10, L_11, L_12, L_13, L_14, L_15, L_16, L_17, L_18, L_19, L_20, L_21, L_22, L_23, L_24, L_25, L_26, L_27, L_28, L_29, L_30, L_31, L_32, L_33, L_34, L_35, L_40, L_41, L_42, L_43, L_44, L_45, L_47, L_48, L_50, L_53, L_57, L_59, L_60, L_61, L_63, L_64, L_97, L_100, L_101, L_102, L_103, L_122, L_130, L_216, L_255, L_364, L_400, L_402, L_420, L_728, L_768, L_999, L_1000, L_1093, L_1872, L_2000, L_9999, L_12345, L_252645135, L_858993459, L_1103515245, L_1431655765, Lm_1, Lm_2, Lm_8, N_zero, N_cast, N_add, N_mul, N_sub, N_addM, N_lt_tp, N_lt_fp, N_le_tp, N_le_fp, N_eq_tp, N_eq_fp, MN_ltp, MN_lep, NM_ltp, NM_lep, NM_eqp, MN_eqp, MM_lt_tp, MM_lt_fp, MM_le_tp, MM_le_fp, MM_eq_tp, MM_eq_fp, N_cl, N_in_t, N_in_f, M_in, N_div, N_rem, N_nb0, N_nb1, cond_true, cond_false, Bool.not_true, Bool.not_false, Bool.and_true, Bool.true_and, Bool.and_false, Bool.false_and, decide_true, decide_false, Option.bind_some, Option.bind_none, x4]
      exact ls_lawfin ha hb1 hb2 kl kdd B hz hy H LC (by omega) hpb z32 _
  | succ k ih =>
    intro v hv p z y brs x m B hpb hz hy H LC hl
    obtain ⟨p4, m13, m11, x4, ok⟩ := Lq_p H
    have kl3 := kap_le (H.1.1.1 p)
    have hq := H.1.2.1
    have hs := H.1.2.2.1
    have l420 := H.2.2.2.2.2.2.2.2.1
    have g1 : decide (0 < q + 1) = true := decide_eq_true (by omega)
    have g2 : decide (q < 2) = true := decide_eq_true hq
    rw [q_Reader_parseLaw_L19_eq]
    by_cases z32 : kd p = 32
    · have k12 : nN (kap (kd p)) = nN 12 := by rw [z32]; rfl
      simp (disch := omega) only [L_0, L_1, L_2, L_3, L_4, L_5, L_6, L_7, L_8, L_9, L_10, L_11, L_12, L_13, L_14, L_15, L_16, L_17, L_18, L_19, L_20, L_21, L_22, L_23, L_24, L_25, L_26, L_27, L_28, L_29, L_30, L_31, L_32, L_33, L_34, L_35, L_40, L_41, L_42, L_43, L_44, L_45, L_47, L_48, L_50, L_53, L_57, L_59, L_60, L_61, L_63, L_64, L_97, L_100, L_101, L_102, L_103, L_122, L_130, L_216, L_255, L_364, L_400, L_402, L_420, L_728, L_768, L_999, L_1000, L_1093, L_1872, L_2000, L_9999, L_12345, L_252645135, L_858993459, L_1103515245, L_1431655765, Lm_1, Lm_2, Lm_8, N_zero, N_cast, N_add, N_mul, N_sub, N_addM, N_lt_tp, N_lt_fp, N_le_tp, N_le_fp, N_eq_tp, N_eq_fp, MN_ltp, MN_lep, NM_ltp, NM_lep, NM_eqp, MN_eqp, MM_lt_tp, MM_lt_fp, MM_le_tp, MM_le_fp, MM_eq_tp, MM_eq_fp, N_cl, N_in_t, N_in_f, M_in, N_div, N_rem, N_nb0, N_nb1, cond_true, cond_false, Bool.not_true, Bool.not_false, Bool.and_true, Bool.true_and, Bool.and_false, Bool.false_and, decide_true, decide_false, Option.bind_some, Option.bind_none, x4, k12, Option.bind_assoc]
      have lm : ∃ y w', LvM p w' y m := by
        obtain ⟨y, hy, o, w5, y2, lx, lm⟩ := H.2.1
        exact ⟨y, w, lm⟩
      obtain ⟨yy, ww, lm⟩ := lm
      rw [q_M_tellLaw_L12_eq]
      simp (disch := omega) only [L_0, L_1, L_2, L_3, L_4, L_5, L_6, L_7, L_8, L_9, L_10, L_11, L_12, L_13, L_14, L_15, L_16, L_17, L_18, L_19, L_20, L_21, L_22, L_23, L_24, L_25, L_26, L_27, L_28, L_29, L_30, L_31, L_32, L_33, L_34, L_35, L_40, L_41, L_42, L_43, L_44, L_45, L_47, L_48, L_50, L_53, L_57, L_59, L_60, L_61, L_63, L_64, L_97, L_100, L_101, L_102, L_103, L_122, L_130, L_216, L_255, L_364, L_400, L_402, L_420, L_728, L_768, L_999, L_1000, L_1093, L_1872, L_2000, L_9999, L_12345, L_252645135, L_858993459, L_1103515245, L_1431655765, Lm_1, Lm_2, Lm_8, N_zero, N_cast, N_add, N_mul, N_sub, N_addM, N_lt_tp, N_lt_fp, N_le_tp, N_le_fp, N_eq_tp, N_eq_fp, MN_ltp, MN_lep, NM_ltp, NM_lep, NM_eqp, MN_eqp, MM_lt_tp, MM_lt_fp, MM_le_tp, MM_le_fp, MM_eq_tp, MM_eq_fp, N_cl, N_in_t, N_in_f, M_in, N_div, N_rem, N_nb0, N_nb1, cond_true, cond_false, Bool.not_true, Bool.not_false, Bool.and_true, Bool.true_and, Bool.and_false, Bool.false_and, decide_true, decide_false, Option.bind_some, Option.bind_none, m13, M_is H.1.1 H.1.2.2.2.2.2.1 ok lm (show 32 ≤ 100 by decide), if_pos z32]
      rw [← k12]
      generalize eb : b0 + brs.length = b at *
      have b1 : 130 * s ≤ b := by omega
      have b2 : b + 3 < 130 * s + 130 := by omega
      have F0 := FX_refl q x
      have G0 := FM_refl s m
      -- the word if
      refine Both_bind (Lq_go F0 G0 H (by omega) (by omega)) ?_
      rintro x1 m1 h
      have h33 : m1.1 21 0 33 = nN b := by
        rcases h with ⟨h, -⟩ | h
        · exact h.2.2.2.2.2.1
        · exact h.2.2.2
      simp (disch := omega) only [L_0, L_1, L_2, L_3, L_4, L_5, L_6, L_7, L_8, L_9, L_10, L_11, L_12, L_13, L_14, L_15, L_16, L_17, L_18, L_19, L_20, L_21, L_22, L_23, L_24, L_25, L_26, L_27, L_28, L_29, L_30, L_31, L_32, L_33, L_34, L_35, L_40, L_41, L_42, L_43, L_44, L_45, L_47, L_48, L_50, L_53, L_57, L_59, L_60, L_61, L_63, L_64, L_97, L_100, L_101, L_102, L_103, L_122, L_130, L_216, L_255, L_364, L_400, L_402, L_420, L_728, L_768, L_999, L_1000, L_1093, L_1872, L_2000, L_9999, L_12345, L_252645135, L_858993459, L_1103515245, L_1431655765, Lm_1, Lm_2, Lm_8, N_zero, N_cast, N_add, N_mul, N_sub, N_addM, N_lt_tp, N_lt_fp, N_le_tp, N_le_fp, N_eq_tp, N_eq_fp, MN_ltp, MN_lep, NM_ltp, NM_lep, NM_eqp, MN_eqp, MM_lt_tp, MM_lt_fp, MM_le_tp, MM_le_fp, MM_eq_tp, MM_eq_fp, N_cl, N_in_t, N_in_f, M_in, N_div, N_rem, N_nb0, N_nb1, cond_true, cond_false, Bool.not_true, Bool.not_false, Bool.and_true, Bool.true_and, Bool.and_false, Bool.false_and, decide_true, decide_false, Option.bind_some, Option.bind_none, h33, iu_nt (show 21 ≠ 85 by decide)]
      have A2 : (Lq q s kd pl vl (p + 1) w z y b x1 (wb_iu (wb_iu m1 85 0 b (nN 1)) 86 0 b (m1.1 21 0 39)) ∧ LB q s z y b x m x1 (wb_iu (wb_iu m1 85 0 b (nN 1)) 86 0 b (m1.1 21 0 39)) ∧ (wb_iu (wb_iu m1 85 0 b (nN 1)) 86 0 b (m1.1 21 0 39)).1 85 0 b = nN 1 ∧ (wb_iu (wb_iu m1 85 0 b (nN 1)) 86 0 b (m1.1 21 0 39)).1 86 0 b = nN y) ∨ Dd q s b x m x1 (wb_iu (wb_iu m1 85 0 b (nN 1)) 86 0 b (m1.1 21 0 39)) := by
        rcases h with ⟨h, F, G⟩ | h
        · have B1 := LB_trans (LB_go (q := q) (s := s) (z := z) (y := y) (b := b) F G) (LB_trans (LB_m (q := q) (s := s) (z := z) (y := y) (x := x1) (m := m1) (v := nN 1) (Or.inl rfl) (Nat.le_refl b) b1 (by omega)) (LB_m (x := x1) (v := m1.1 21 0 39) (Or.inr (Or.inl rfl)) (Nat.le_refl b) b1 (by omega)) (Nat.le_refl _) (Nat.le_refl _) (Nat.le_refl _)) (Nat.le_refl _) (Nat.le_refl _) (Nat.le_refl _)
          refine Or.inl ⟨Lq_fr (Fr_refl [] x1) (Fr_trans (Fr_iu rfl) (Fr_iu rfl) : Fr [85, 86] _ _) (FX_refl q x1) (FM_trans (FM_iu (Or.inr (by unfold MSd; omega))) (FM_iu (Or.inr (by unfold MSd; omega)))) rfl rfl h, B1, ?_, ?_⟩
          · rw [iu_nt (by decide), iu_at]
          · rw [iu_at]; exact h.2.2.2.2.1
        · exact Or.inr (Dd_w (Dd_w h (by rfl) (Or.inr (by unfold MSd; omega))) (by rfl) (Or.inr (by unfold MSd; omega)))
      generalize wb_iu (wb_iu m1 85 0 b (nN 1)) 86 0 b (m1.1 21 0 39) = m2 at *
      clear h h33
      -- what is compared, first
      refine Both_bind (P := fun x' m' => (∃ p2 u, p ≤ p2 ∧ Lq q s kd pl vl p2 w (z + List.length (α := Nat × Int32) u) (y + u.length) b x' m' ∧ LB q s z y b x m x' m' ∧ Sg q z y u x' m' ∧ m'.1 85 0 b = nN 1 ∧ m'.1 86 0 b = nN y) ∨ Dd q s b x m x' m') ?_ ?_
      · rcases A2 with ⟨h, B1, c85, c86⟩ | h
        · refine Both_w (Lq_sum B1.2.1 B1.2.2.2.1 h) ?_
          rintro x' m' (⟨p2, u, hp2, h2, F, X, G, M, K, J, S⟩ | h2)
          · exact Or.inl ⟨p2, u, by omega, h2, LB_trans B1 ⟨F, X, Fr_mono G rfl, M, K, J, Kb_fr G rfl⟩ (Nat.le_refl _) (Nat.le_refl _) (Nat.le_refl _), S, (Fr_i G (by rfl)).trans c85, (Fr_i G (by rfl)).trans c86⟩
          · exact Or.inr h2
        · refine Both_w (Dd_sum h) ?_
          intro x' m' h2
          exact Or.inr h2
      clear A2
      intro x3 m3 A3
      -- the sign <
      refine Both_bind (P := fun x' m' => (∃ p2 u, p ≤ p2 ∧ Lq q s kd pl vl p2 w (z + List.length (α := Nat × Int32) u) (y + u.length) b x' m' ∧ LB q s z y b x m x' m' ∧ Sg q z y u x' m' ∧ m'.1 85 0 b = nN 1 ∧ m'.1 86 0 b = nN y) ∨ Dd q s b x m x' m') ?_ ?_
      · rcases A3 with ⟨p2, u, hp2, h, B1, S1, c85, c86⟩ | h
        · refine Both_w (Lq_take B1.2.1 B1.2.2.2.1 (Lq_s h) (d := 13) (Or.inr (Or.inl rfl)) (by decide) (by decide)) ?_
          rintro x' m' (⟨h2, F, G⟩ | h2)
          · exact Or.inl ⟨p2 + 1, u, by omega, h2, LB_trans B1 (LB_go F G) (Nat.le_refl _) (Nat.le_refl _) (Nat.le_refl _), Sg_keep (Kp_fr F rfl) (Km_fr G rfl) (Nat.le_refl _) (Nat.le_refl _) S1, (Fr_i G (by rfl)).trans c85, (Fr_i G (by rfl)).trans c86⟩
          · exact Or.inr h2
        · refine Both_w (Dd_take h _ _) ?_
          intro x' m' h2
          exact Or.inr h2
      clear A3
      intro x4 m4 A4
      have h33 : m4.1 21 0 33 = nN b := by
        rcases A4 with ⟨p2, u, -, h, -⟩ | h
        · exact h.2.2.2.2.2.1
        · exact h.2.2.2
      simp (disch := omega) only [L_0, L_1, L_2, L_3, L_4, L_5, L_6, L_7, L_8, L_9, L_10, L_11, L_12, L_13, L_14, L_15, L_16, L_17, L_18, L_19, L_20, L_21, L_22, L_23, L_24, L_25, L_26, L_27, L_28, L_29, L_30, L_31, L_32, L_33, L_34, L_35, L_40, L_41, L_42, L_43, L_44, L_45, L_47, L_48, L_50, L_53, L_57, L_59, L_60, L_61, L_63, L_64, L_97, L_100, L_101, L_102, L_103, L_122, L_130, L_216, L_255, L_364, L_400, L_402, L_420, L_728, L_768, L_999, L_1000, L_1093, L_1872, L_2000, L_9999, L_12345, L_252645135, L_858993459, L_1103515245, L_1431655765, Lm_1, Lm_2, Lm_8, N_zero, N_cast, N_add, N_mul, N_sub, N_addM, N_lt_tp, N_lt_fp, N_le_tp, N_le_fp, N_eq_tp, N_eq_fp, MN_ltp, MN_lep, NM_ltp, NM_lep, NM_eqp, MN_eqp, MM_lt_tp, MM_lt_fp, MM_le_tp, MM_le_fp, MM_eq_tp, MM_eq_fp, N_cl, N_in_t, N_in_f, M_in, N_div, N_rem, N_nb0, N_nb1, cond_true, cond_false, Bool.not_true, Bool.not_false, Bool.and_true, Bool.true_and, Bool.and_false, Bool.false_and, decide_true, decide_false, Option.bind_some, Option.bind_none, h33, iu_nt (show 21 ≠ 87 by decide)]
      have A5 : (∃ p2 u, p ≤ p2 ∧ Lq q s kd pl vl p2 w (z + List.length (α := Nat × Int32) u) (y + u.length) b x4 (wb_iu m4 87 0 b (m4.1 21 0 39)) ∧ LB q s z y b x m x4 (wb_iu m4 87 0 b (m4.1 21 0 39)) ∧ Sg q z y u x4 (wb_iu m4 87 0 b (m4.1 21 0 39)) ∧ (wb_iu m4 87 0 b (m4.1 21 0 39)).1 85 0 b = nN 1 ∧ (wb_iu m4 87 0 b (m4.1 21 0 39)).1 86 0 b = nN y ∧ (wb_iu m4 87 0 b (m4.1 21 0 39)).1 87 0 b = nN (y + u.length)) ∨ Dd q s b x m x4 (wb_iu m4 87 0 b (m4.1 21 0 39)) := by
        rcases A4 with ⟨p2, u, hp2, h, B1, S1, c85, c86⟩ | h
        · have G : Fr [87] m4 (wb_iu m4 87 0 b (m4.1 21 0 39)) := Fr_iu rfl
          have B2 := LB_m (q := q) (s := s) (z := z) (y := y) (x := x4) (m := m4) (v := m4.1 21 0 39) (Or.inr (Or.inr rfl)) (Nat.le_refl b) b1 (by omega)
          exact Or.inl ⟨p2, u, hp2, Lq_fr (Fr_refl [] x4) G (FX_refl q x4) B2.2.2.2.1 rfl rfl h, LB_trans B1 B2 (Nat.le_refl _) (Nat.le_refl _) (Nat.le_refl _), Sg_keep (Kp_refl _ _ _) (Km_fr G rfl) (Nat.le_refl (z + u.length)) (Nat.le_refl (y + u.length)) S1, (Fr_i G (by rfl)).trans c85, (Fr_i G (by rfl)).trans c86, by rw [iu_at]; exact h.2.2.2.2.1⟩
        · exact Or.inr (Dd_w h (by rfl) (Or.inr (by unfold MSd; omega)))
      have e13 : m4.1 21 0 13 = (wb_iu m4 87 0 b (m4.1 21 0 39)).1 21 0 13 := (iu_nt (by decide)).symm
      rw [e13]
      generalize wb_iu m4 87 0 b (m4.1 21 0 39) = m5 at *
      clear A4 h33 e13
      -- what is compared, then
      refine Both_guard (m0 := m5) (K := fun h => (q_M_must sc h (nN 33)).bind fun h9 => (q_M_term sc h9).bind fun h10 => (q_M_must sc h10 (nN 34)).bind fun h11 => q_M_tellLaw_L12 sc h11 (nN a) (nN b0) (nN (v + 1))) (P := fun x' m' => (∃ p2 u t, p ≤ p2 ∧ Lq q s kd pl vl p2 w (z + List.length (α := Nat × Int32) u + List.length (α := Nat × Int32) t) (y + u.length + t.length) b x' m' ∧ LB q s z y b x m x' m' ∧ Sg q z y u x' m' ∧ Sg q (z + u.length) (y + u.length) t x' m' ∧ m'.1 85 0 b = nN 1 ∧ m'.1 86 0 b = nN y ∧ m'.1 87 0 b = nN (y + u.length)) ∨ Dd q s b x m x' m') ?_ ?_ ?_
      · intro c
        rcases A5 with ⟨p2, u, -, h, -⟩ | h
        · exfalso
          have := (Lq_p h).2.1
          rw [this] at c
          exact absurd c (by decide)
        · refine Both_w (Dd_sum1 h) ?_
          intro x' m' h2
          exact Or.inr h2
      · intro c
        rcases A5 with ⟨p2, u, hp2, h, B1, S1, c85, c86, c87⟩ | h
        · refine Both_w (Lq_sum B1.2.1 B1.2.2.2.1 h) ?_
          rintro x' m' (⟨p3, t, hp3, h2, F, X, G, M, K, J, S⟩ | h2)
          · exact Or.inl ⟨p3, u, t, by omega, h2, LB_trans B1 ⟨F, X, Fr_mono G rfl, M, K, J, Kb_fr G rfl⟩ (Nat.le_add_right _ _) (Nat.le_add_right _ _) (Nat.le_refl _), Sg_keep K J (Nat.le_refl _) (Nat.le_refl _) S1, S, (Fr_i G (by rfl)).trans c85, (Fr_i G (by rfl)).trans c86, (Fr_i G (by rfl)).trans c87⟩
          · exact Or.inr h2
        · refine Both_w (Dd_sum h) ?_
          intro x' m' h2
          exact Or.inr h2
      clear A5
      intro x6 m6 A6
      have hm6 : x6.2.2 16 0 2 = q + 1 := by
        rcases A6 with ⟨p2, u, t, -, h, -⟩ | h
        · exact h.1.2.2.2.2.1
        · exact (Dd_m2 h).2
      simp only [hm6, g1, g2, Nat.add_sub_cancel, cond_true, Option.bind_assoc]
      -- the step that skips
      refine Both_x (P := fun r => ((∃ p2 u t, p ≤ p2 ∧ LqS q s kd pl vl p2 w (z + List.length (α := Nat × Int32) u + List.length (α := Nat × Int32) t + 1) (y + u.length + t.length) b r.2 m6 ∧ LB q s z y b x m r.2 m6 ∧ Sg q z y u r.2 m6 ∧ Sg q (z + u.length) (y + u.length) t r.2 m6 ∧ m6.1 85 0 b = nN 1 ∧ m6.1 86 0 b = nN y ∧ m6.1 87 0 b = nN (y + u.length) ∧ r.2.1 41 q (z + u.length + t.length) = nN 2 ∧ r.1 = nN (z + u.length + t.length)) ∨ Dd q s b x m r.2 m6) ∧ ∃ yr, yr ≤ 402 ∧ r.1 = nN yr) ?_ ?_
      · rcases A6 with ⟨p2, u, t, hp2, h, B1, S1, S2, c85, c86, c87⟩ | h
        · have p4' := (Lq_p h).1
          have zl := h.2.2.2.2.2.2.2.1
          obtain ⟨x7, e7, F7, X7, K7, c41, -, c13⟩ := X_one (sc := sc) hq (show z + u.length + t.length ≤ 401 by omega) h.2.2.2.1 2 0
          rw [e7]
          refine Ok_some ⟨Or.inl ⟨p2, u, t, hp2, ?_, LB_trans B1 ⟨Fr_mono F7 rfl, X7, Fr_refl _ _, FM_refl _ _, K7, Km_refl (y + u.length + t.length) _, Kb_refl b _⟩ (by omega) (by omega) (Nat.le_refl _), Sg_keep K7 (Km_refl (y + u.length) _) (by omega) (Nat.le_refl _) S1, Sg_keep K7 (Km_refl (y + u.length + t.length) _) (by omega) (by omega) S2, c85, c86, c87, c41, rfl⟩, _, by omega, rfl⟩
          obtain ⟨h1, h2, h3, h4, h5, h6, h7, h8, h9, h10⟩ := h
          exact ⟨En_f X7 (FM_refl s m6) h1, Live_fr F7 (Fr_refl [] m6) rfl rfl h2, PLn_fr F7 rfl h3, c13, h5, h6, h7, by omega, h9, h10⟩
        · refine Ok_w (Dd_emit h _ _) ?_
          rintro r ⟨h2, h3⟩
          exact ⟨Or.inr h2, h3⟩
      clear A6 hm6
      rintro ⟨rv, x7⟩ ⟨A7, yr, hyr, er⟩
      simp only at A7 er ⊢
      -- then
      refine Both_bind (P := fun x' m' => (∃ p2 u t, p ≤ p2 ∧ Lq q s kd pl vl p2 w (z + List.length (α := Nat × Int32) u + List.length (α := Nat × Int32) t + 1) (y + u.length + t.length) b x' m' ∧ LB q s z y b x m x' m' ∧ Sg q z y u x' m' ∧ Sg q (z + u.length) (y + u.length) t x' m' ∧ m'.1 85 0 b = nN 1 ∧ m'.1 86 0 b = nN y ∧ m'.1 87 0 b = nN (y + u.length) ∧ x'.1 41 q (z + u.length + t.length) = nN 2 ∧ rv = nN (z + u.length + t.length)) ∨ Dd q s b x m x' m') ?_ ?_
      · rcases A7 with ⟨p2, u, t, hp2, h, B1, S1, S2, c85, c86, c87, c41, cr⟩ | h
        · refine Both_w (Lq_take B1.2.1 B1.2.2.2.1 h (d := 33) (Or.inr (Or.inr (Or.inr (by decide)))) (by decide) (by decide)) ?_
          rintro x' m' (⟨h2, F, G⟩ | h2)
          · exact Or.inl ⟨p2 + 1, u, t, by omega, h2, LB_trans B1 (LB_go F G) (Nat.le_refl _) (Nat.le_refl _) (Nat.le_refl _), Sg_keep (Kp_fr F rfl) (Km_fr G rfl) (Nat.le_refl _) (Nat.le_refl _) S1, Sg_keep (Kp_fr F rfl) (Km_fr G rfl) (Nat.le_refl _) (Nat.le_refl _) S2, (Fr_i G (by rfl)).trans c85, (Fr_i G (by rfl)).trans c86, (Fr_i G (by rfl)).trans c87, (Fr_i F (by rfl)).trans c41, cr⟩
          · exact Or.inr h2
        · refine Both_w (Dd_take h _ _) ?_
          intro x' m' h2
          exact Or.inr h2
      clear A7
      intro x8 m8 A8
      -- what is told then
      refine Both_bind (P := fun x' m' => (∃ p2 u t r, p ≤ p2 ∧ Lq q s kd pl vl p2 w (z + List.length (α := Nat × Int32) u + List.length (α := Nat × Int32) t + 1 + List.length (α := Nat × Int32) r) (y + u.length + t.length + r.length) (b + 1) x' m' ∧ LB q s z y b x m x' m' ∧ Sg q z y u x' m' ∧ Sg q (z + u.length) (y + u.length) t x' m' ∧ Sg q (z + u.length + t.length + 1) (y + u.length + t.length) r x' m' ∧ m'.1 85 0 b = nN 1 ∧ m'.1 86 0 b = nN y ∧ m'.1 87 0 b = nN (y + u.length) ∧ m'.1 88 0 b = nN (y + u.length + t.length) ∧ m'.1 89 0 b = nN (y + u.length + t.length + r.length) ∧ x'.1 41 q (z + u.length + t.length) = nN 2 ∧ rv = nN (z + u.length + t.length)) ∨ Dd q s (b + 1) x m x' m') ?_ ?_
      · rcases A8 with ⟨p2, u, t, hp2, h, B1, S1, S2, c85, c86, c87, c41, cr⟩ | h
        · refine Both_w (Lq_term B1.2.1 B1.2.2.2.1 h b1 (by omega)) ?_
          rintro x' m' (⟨p3, r, hp3, h2, F, X, G, M, K, J, KB, S, d85, d86, d87, d88, d89⟩ | h2)
          · exact Or.inl ⟨p3, u, t, r, by omega, h2, LB_trans B1 ⟨F, X, G, M, K, J, KB⟩ (by omega) (by omega) (Nat.le_refl _), Sg_keep K J (by omega) (by omega) S1, Sg_keep K J (by omega) (by omega) S2, S, d85.trans c85, d86.trans c86, d87.trans c87, d88, d89, (K _ (by omega)).1.trans c41, cr⟩
          · exact Or.inr h2
        · refine Both_w (Dd_term h b1 (by omega) hs) ?_
          intro x' m' h2
          exact Or.inr h2
      clear A8
      intro x9 m9 A9
      -- else
      refine Both_bind (P := fun x' m' => (∃ p2 u t r, p ≤ p2 ∧ Lq q s kd pl vl p2 w (z + List.length (α := Nat × Int32) u + List.length (α := Nat × Int32) t + 1 + List.length (α := Nat × Int32) r) (y + u.length + t.length + r.length) (b + 1) x' m' ∧ z + u.length + t.length + 1 + r.length + 1 ≤ p2 ∧ LB q s z y b x m x' m' ∧ Sg q z y u x' m' ∧ Sg q (z + u.length) (y + u.length) t x' m' ∧ Sg q (z + u.length + t.length + 1) (y + u.length + t.length) r x' m' ∧ m'.1 85 0 b = nN 1 ∧ m'.1 86 0 b = nN y ∧ m'.1 87 0 b = nN (y + u.length) ∧ m'.1 88 0 b = nN (y + u.length + t.length) ∧ m'.1 89 0 b = nN (y + u.length + t.length + r.length) ∧ x'.1 41 q (z + u.length + t.length) = nN 2 ∧ rv = nN (z + u.length + t.length)) ∨ Dd q s (b + 1) x m x' m') ?_ ?_
      · rcases A9 with ⟨p2, u, t, r, hp2, h, B1, S1, S2, S3, c85, c86, c87, c88, c89, c41, cr⟩ | h
        · have zl := h.2.2.2.2.2.2.2.1
          refine Both_w (Lq_take B1.2.1 B1.2.2.2.1 (Lq_s h) (d := 34) (Or.inr (Or.inr (Or.inr (by decide)))) (by decide) (by decide)) ?_
          rintro x' m' (⟨h2, F, G⟩ | h2)
          · exact Or.inl ⟨p2 + 1, u, t, r, by omega, h2, by omega, LB_trans B1 (LB_go F G) (Nat.le_refl _) (Nat.le_refl _) (Nat.le_refl _), Sg_keep (Kp_fr F rfl) (Km_fr G rfl) (Nat.le_refl _) (Nat.le_refl _) S1, Sg_keep (Kp_fr F rfl) (Km_fr G rfl) (Nat.le_refl _) (Nat.le_refl _) S2, Sg_keep (Kp_fr F rfl) (Km_fr G rfl) (Nat.le_refl _) (Nat.le_refl _) S3, (Fr_i G (by rfl)).trans c85, (Fr_i G (by rfl)).trans c86, (Fr_i G (by rfl)).trans c87, (Fr_i G (by rfl)).trans c88, (Fr_i G (by rfl)).trans c89, (Fr_i F (by rfl)).trans c41, cr⟩
          · exact Or.inr h2
        · refine Both_w (Dd_take h _ _) ?_
          intro x' m' h2
          exact Or.inr h2
      clear A9
      intro x10 m10 A10
      have hm10 : x10.2.2 16 0 2 = q + 1 := by
        rcases A10 with ⟨p2, u, t, r, -, h, -⟩ | h
        · exact h.1.2.2.2.2.1
        · exact (Dd_m2 h).2
      simp only [hm10, g1, g2, Nat.add_sub_cancel, cond_true, Option.bind_assoc]
      rcases A10 with ⟨p2, u, t, r, hp2, h, pz, B1, S1, S2, S3, c85, c86, c87, c88, c89, c41, cr⟩ | h
      · have p4' := (Lq_p h).1
        obtain ⟨x11, e11, F11, X11, K11, d41, -, d13⟩ := X_one (sc := sc) hq (show z + u.length + t.length + 1 + r.length ≤ 401 by omega) h.2.2.2.1 3 0
        have hm11 : x11.2.2 16 0 2 = q + 1 := (Fr_m F11 (by rfl)).trans hm10
        rw [e11]
        simp only [Option.bind_some, hm11, g1, g2, Nat.add_sub_cancel, cond_true, Option.bind_assoc]
        rw [cr, q_Laws_aim_eq]
        simp (disch := omega) only [L_0, L_1, L_2, L_3, L_4, L_5, L_6, L_7, L_8, L_9, L_10, L_11, L_12, L_13, L_14, L_15, L_16, L_17, L_18, L_19, L_20, L_21, L_22, L_23, L_24, L_25, L_26, L_27, L_28, L_29, L_30, L_31, L_32, L_33, L_34, L_35, L_40, L_41, L_42, L_43, L_44, L_45, L_47, L_48, L_50, L_53, L_57, L_59, L_60, L_61, L_63, L_64, L_97, L_100, L_101, L_102, L_103, L_122, L_130, L_216, L_255, L_364, L_400, L_402, L_420, L_728, L_768, L_999, L_1000, L_1093, L_1872, L_2000, L_9999, L_12345, L_252645135, L_858993459, L_1103515245, L_1431655765, Lm_1, Lm_2, Lm_8, N_zero, N_cast, N_add, N_mul, N_sub, N_addM, N_lt_tp, N_lt_fp, N_le_tp, N_le_fp, N_eq_tp, N_eq_fp, MN_ltp, MN_lep, NM_ltp, NM_lep, NM_eqp, MN_eqp, MM_lt_tp, MM_lt_fp, MM_le_tp, MM_le_fp, MM_eq_tp, MM_eq_fp, N_cl, N_in_t, N_in_f, M_in, N_div, N_rem, N_nb0, N_nb1, cond_true, cond_false, Bool.not_true, Bool.not_false, Bool.and_true, Bool.true_and, Bool.and_false, Bool.false_and, decide_true, decide_false, Option.bind_some, Option.bind_none, g2, d13]
        have F12 : Fr [42] x11 (wb_iu x11 42 q (z + u.length + t.length) (nN (z + u.length + t.length + 1 + r.length + 1))) := Fr_iu rfl
        have X12 : FX q x11 (wb_iu x11 42 q (z + u.length + t.length) (nN (z + u.length + t.length + 1 + r.length + 1))) := FX_iu (Or.inr ⟨rfl, rfl⟩)
        have K12 : Kp q (z + u.length + t.length) x11 (wb_iu x11 42 q (z + u.length + t.length) (nN (z + u.length + t.length + 1 + r.length + 1))) := fun j hj => ⟨iu_nt (by decide), iu_ne (by omega)⟩
        have f41 : ∀ j, (wb_iu x11 42 q (z + u.length + t.length) (nN (z + u.length + t.length + 1 + r.length + 1))).1 41 q j = x11.1 41 q j := fun j => iu_nt (by decide)
        have f42 : ∀ j, j ≠ z + u.length + t.length → (wb_iu x11 42 q (z + u.length + t.length) (nN (z + u.length + t.length + 1 + r.length + 1))).1 42 q j = x11.1 42 q j := fun j hj => iu_ne hj
        have f42' : (wb_iu x11 42 q (z + u.length + t.length) (nN (z + u.length + t.length + 1 + r.length + 1))).1 42 q (z + u.length + t.length) = nN (z + u.length + t.length + 1 + r.length + 1) := iu_at
        generalize wb_iu x11 42 q (z + u.length + t.length) (nN (z + u.length + t.length + 1 + r.length + 1)) = x12 at *
        have K13 : Kp q (z + u.length + t.length) x10 x12 := Kp_trans (Kp_le (by omega) K11) K12
        have B2 : LB q s z y b x m x12 m10 := LB_trans B1 ⟨Fr_trans (Fr_mono F11 rfl) (Fr_mono F12 rfl), FX_trans X11 X12, Fr_refl _ _, FM_refl _ _, Kp_le (by omega) K13, Km_refl y _, Kb_refl b _⟩ (Nat.le_refl _) (Nat.le_refl _) (Nat.le_refl _)
        have S3' : Sg q (z + u.length + t.length + 1) (y + u.length + t.length) r x11 m10 := Sg_keep K11 (Km_refl (y + u.length + t.length + r.length) _) (Nat.le_refl _) (Nat.le_refl _) S3
        have cx : ∀ (l : CL) (j : Nat), z + u.length + t.length < j → CodX x11 q j l → CodX x12 q j l := by
          intro l
          induction l with
          | nil => intro j _ _; trivial
          | cons c l ihl =>
            intro j hj hc
            exact ⟨⟨(f41 j).trans hc.1.1, (f42 j (by omega)).trans hc.1.2⟩, ihl (j + 1) (by omega) hc.2⟩
        have S3'' : Sg q (z + u.length + t.length + 1) (y + u.length + t.length) r x12 m10 := ⟨cx r _ (by omega) S3'.1, S3'.2⟩
        have BR : Brn q (y + u.length + t.length + r.length) x12 m10 z b u t r := ⟨y, Sg_keep K13 (Km_refl (y + u.length) _) (by omega) (Nat.le_refl _) S1, Sg_keep K13 (Km_refl (y + u.length + t.length) _) (by omega) (Nat.le_refl _) S2, S3'', (f41 _).trans ((K11 _ (by omega)).1.trans c41), f42', (f41 _).trans d41, c85, c86, c87, c88, c89, Nat.le_refl _, by omega⟩
        have LC2 := LawC_snoc (LawC_Y (by omega) (LawC_keep B2.2.2.2.2.1 B2.2.2.2.2.2.1 B2.2.2.2.2.2.2 (Nat.le_refl _) (Nat.le_refl _) (Nat.le_refl _) LC)) BR
        have el : (brs ++ [(u, (t, r))]).length = brs.length + 1 := by rw [List.length_append]; rfl
        have eb2 : b0 + (brs ++ [(u, (t, r))]).length = b + 1 := by rw [el]; omega
        refine ih (v + 1) (by omega) p2 (z + u.length + t.length + 1 + r.length + 1) (y + u.length + t.length + r.length) (brs ++ [(u, (t, r))]) x12 m10 (LB_trans B B2 hz hy (by omega)) (by omega) (by omega) (by omega) ?_ (by rw [eb2]; exact LC2) (by omega)
        rw [eb2]
        obtain ⟨h1, h2, h3, h4, h5, h6, h7, h8, h9, h10⟩ := h
        exact ⟨En_f (FX_trans X11 X12) (FM_refl s m10) h1, Live_fr (Fr_trans (Fr_mono F11 rfl) (Fr_mono F12 rfl) : Fr [13, 41, 42] x10 x12) (Fr_refl [] m10) rfl rfl h2, PLn_fr (Fr_trans (Fr_mono F11 rfl) (Fr_mono F12 rfl) : Fr [13, 41, 42] x10 x12) rfl h3, (Fr_i F12 (by rfl)).trans d13, h5, h6, h7, pz, h9, h10⟩
      · obtain ⟨r2, e2, h2, -⟩ := Dd_emit (sc := sc) h (nN 3) (nN 0)
        have hm11 := (Dd_m2 h2).2
        rw [e2]
        simp only [Option.bind_some, hm11, g1, g2, Nat.add_sub_cancel, cond_true, Option.bind_assoc, er]
        obtain ⟨X3, M3, ⟨f3, e3, he3, D31, D32⟩, hb3⟩ := h2
        obtain ⟨x12, e12, h12⟩ := dq_aim (sc := sc) D31 hyr
        rw [e12]
        simp only [Option.bind_some]
        obtain ⟨x13, e13, h13⟩ := dq_law19 (sc := sc) k (v + 1) (by omega) x12 h12.2.2
        rw [e13]
        have h14 : Dd q s (b + 1) x m x13 m10 := ⟨FX_trans X3 (FX_trans h12.2.1 h13.2.1), M3, ⟨f3, e3, he3, h13.2.2, D32⟩, hb3⟩
        obtain ⟨m11', e14, h15⟩ := Dd_law (sc := sc) (a := a) (b0 := b0) ha h14 (by omega) (by omega) hs (nN (v + 1))
        rw [e14]
        exact kdd _ _ _ (Dd_trans B.2.1 B.2.2.2.1 h15)
    · have n12 : kap (kd p) ≠ 12 := fun e => z32 (kap_inj (H.1.1.1 p) (show kOk 32 from Or.inr (Or.inr (Or.inr (by decide)))) e)
      simp (disch := omega) only [L_0, L_1, L_2, L_3, L_4, L_5, L_6, L_7, L_8, L_9, L_10, L_11, L_12, L_13, L_14, L_15, L_16, L_17, L_18, L_19, L_20, L_21, L_22, L_23, L_24, L_25, L_26, L_27, L_28, L_29, L_30, L_31, L_32, L_33, L_34, L_35, L_40, L_41, L_42, L_43, L_44, L_45, L_47, L_48, L_50, L_53, L_57, L_59, L_60, L_61, L_63, L_64, L_97, L_100, L_101, L_102, L_103, L_122, L_130, L_216, L_255, L_364, L_400, L_402, L_420, L_728, L_768, L_999, L_1000, L_1093, L_1872, L_2000, L_9999, L_12345, L_252645135, L_858993459, L_1103515245, L_1431655765, Lm_1, Lm_2, Lm_8, N_zero, N_cast, N_add, N_mul, N_sub, N_addM, N_lt_tp, N_lt_fp, N_le_tp, N_le_fp, N_eq_tp, N_eq_fp, MN_ltp, MN_lep, NM_ltp, NM_lep, NM_eqp, MN_eqp, MM_lt_tp, MM_lt_fp, MM_le_tp, MM_le_fp, MM_eq_tp, MM_eq_fp, N_cl, N_in_t, N_in_f, M_in, N_div, N_rem, N_nb0, N_nb1, cond_true, cond_false, Bool.not_true, Bool.not_false, Bool.and_true, Bool.true_and, Bool.and_false, Bool.false_and, decide_true, decide_false, Option.bind_some, Option.bind_none, x4]
      exact ls_lawfin ha hb1 hb2 kl kdd B hz hy H LC (by omega) hpb z32 _
end
