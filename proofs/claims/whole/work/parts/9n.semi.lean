/-! Behind a house: the sign ; and what is known then. -/
noncomputable def semX (sc : wb_X) (h4 : wb_H) : Option wb_H := bif (decide (0 < h4.2.2 16 0 2)) then bif (decide ((h4.2.2 16 0 2 - 1) < 2)) then bif (decide ((h4.2.2 16 0 2 - 1) < 2)) then q_Reader_take sc (wb_iu h4 15 (h4.2.2 16 0 2 - 1) 0 ((h4.1 15 (h4.2.2 16 0 2 - 1) 0) + nN 1)) (nN 59) else none else none else none
def DdE (q s : Nat) (x0 m0 x m : wb_H) : Prop := FX q x0 x ∧ FM s m0 m ∧ ∃ f e, e ≤ 2000 ∧ DdX f e x ∧ DdM f e m
def HabP (q s : Nat) (kd pl : Nat → Nat) (vl : Nat → Int) (k w n z y b : Nat) (x0 m0 x m : wb_H) : Prop := ∃ p w' z' y' b', k < p ∧ Lq q s kd pl vl p w' z' y' b' x m ∧ x.1 15 q 0 = nN (n + 1) ∧ m.1 73 0 s = nN n ∧ HoB q s n z y b x0 m0 x m ∧ (w' = 0 → w = 0) ∧ z ≤ z' ∧ y ≤ y' ∧ b ≤ b' ∧ b' ≤ b + 5 ∧ x.2.1 48 q n = Int64.ofInt (vl k) ∧ kd k = 1 ∧ okT kd k ∧ ∃ u e t, u ≤ 9999 ∧ e ≤ 9999 ∧ t ≤ 6 ∧ x.1 49 q n = nN u ∧ m.1 74 0 (6 * s + n) = nN u ∧ x.1 50 q n = nN e ∧ m.1 75 0 (6 * s + n) = nN e ∧ x.1 51 q n = nN t ∧ m.1 76 0 (6 * s + n) = nN t ∧ (w' = 0 → u ≤ 10 ∧ e ≤ 6 ∧ (t = 3 → ∃ j, j < n ∧ x.1 52 q n = nN j ∧ m.1 77 0 (6 * s + n) = nN j)) ∧ (t = 6 → LawR q s y' z' b' x m n)
section
variable {sc : wb_X} {q s : Nat} {kd pl : Nat → Nat} {vl : Nat → Int} {w : Nat}
theorem semX_e {x : wb_H} (hq : q < 2) (m2 : x.2.2 16 0 2 = q + 1) : semX sc x = q_Reader_take sc (wb_iu x 15 q 0 (x.1 15 q 0 + nN 1)) (nN 59) := by
  have g1 : decide (0 < q + 1) = true := decide_eq_true (by omega)
  have g2 : decide (q < 2) = true := decide_eq_true hq
  unfold semX
  simp only [m2, g1, g2, Nat.add_sub_cancel, cond_true]
theorem DdE_of {b : Nat} {x0 m0 x m : wb_H} (H : Dd q s b x0 m0 x m) : DdE q s x0 m0 x m := by
  obtain ⟨X, M, ⟨f, e, he, D1, D2⟩, -⟩ := H
  exact ⟨X, M, f, e, he, D1.2.1, D2⟩
theorem semX_dead {f e : Nat} {x : wb_H} (hq : q < 2) (m2 : x.2.2 16 0 2 = q + 1) (D : DdX f e x) : Ok (semX sc x) (fun x' => FX q x x' ∧ DdX f e x') := by
  rw [semX_e hq m2]
  have F : Fr [15] x (wb_iu x 15 q 0 (x.1 15 q 0 + nN 1)) := Fr_iu rfl
  have D1 := DdX_fr F rfl rfl rfl D
  rw [dX_take D1]
  exact Ok_some ⟨FX_iu (Or.inr ⟨rfl, rfl⟩), D1⟩
theorem Dd_semi {b : Nat} {x0 m0 x m : wb_H} (H : Dd q s b x0 m0 x m) : Both (semX sc x) (some m) (DdE q s x0 m0) := by
  obtain ⟨X, M, ⟨f, e, he, D1, D2⟩, -⟩ := H
  obtain ⟨x', e', X', D'⟩ := semX_dead (sc := sc) D1.1 D1.2.2.1 D1.2.1
  rw [e']
  exact Both_some ⟨FX_trans X X', M, f, e, he, D', D2⟩
/-- the sign ; on both sides -/
theorem ls_semi {p z y b n : Nat} {x0 m0 x m : wb_H} (X0 : FX q x0 x) (M0 : FM s m0 m) (H : LqS q s kd pl vl p w z y b x m) (c15 : x.1 15 q 0 = nN n) (hn : n < 6) (zl : z ≤ 402) : Both (semX sc x) (q_M_must sc m (nN 4)) (fun x' m' => (Lq q s kd pl vl (p + 1) w z y b x' m' ∧ Fr [15, 4003, 4004, 4008, 4009] x x' ∧ Fr LGM m m' ∧ x'.1 15 q 0 = nN (n + 1) ∧ HoB q s 6 z y b x m x' m') ∨ DdE q s x0 m0 x' m') := by
  rw [semX_e H.1.2.1 H.1.2.2.2.2.1, c15]
  simp (disch := omega) only [N_add]
  have F : Fr [15] x (wb_iu x 15 q 0 (nN (n + 1))) := Fr_iu rfl
  have X : FX q x (wb_iu x 15 q 0 (nN (n + 1))) := FX_iu (Or.inr ⟨rfl, rfl⟩)
  obtain ⟨h1, h2, h3, h4, h5, h6, h7, h8, h9, h10⟩ := H
  have HK : HKx q 6 x (wb_iu x 15 q 0 (nN (n + 1))) := ⟨fun i _ => ⟨⟨iu_nt (by decide), iu_nt (by decide), iu_nt (by decide), iu_nt (by decide), iu_nt (by decide)⟩, rfl⟩, fun k hk => iu_ne (by omega)⟩
  have c15' : (wb_iu x 15 q 0 (nN (n + 1))).1 15 q 0 = nN (n + 1) := iu_at
  generalize wb_iu x 15 q 0 (nN (n + 1)) = x1 at *
  refine Both_w (ls_take (En_f X (FM_refl s m) h1) (Or.inl (Live_fr F (Fr_refl [] m) rfl rfl h2)) (d := 4) (Or.inl (by decide)) (by decide) (by decide)) ?_
  rintro x' m' ⟨F2, G2, h⟩
  have X2 : FX q x x' := FX_trans X (FX_fr F2 rfl)
  have M2 : FM s m m' := FM_fr G2 rfl
  have d15 : x'.1 15 q 0 = nN (n + 1) := (Fr_i F2 (by rfl)).trans c15'
  rcases h with ⟨-, -, h⟩ | h
  · have p4 : p + 1 ≤ 400 := by
      obtain ⟨y, hy, o, -⟩ := h
      exact o.1
    refine Or.inl ⟨⟨En_f X2 M2 h1, h, ⟨n + 1, by omega, d15⟩, (Fr_i F2 (by rfl)).trans ((Fr_i F (by rfl)).trans h4), (Fr_i G2 (by rfl)).trans h5, (Fr_i G2 (by rfl)).trans h6, (Fr_i G2 (by rfl)).trans h7, by omega, h9, by omega⟩, Fr_trans (Fr_mono F rfl) (Fr_mono F2 rfl), G2, d15, X2, M2, Kp_trans (Kp_fr F rfl) (Kp_fr F2 rfl), Km_fr G2 rfl, Kb_fr G2 rfl, HKx_trans HK (HKx_fr F2 rfl), HKm_fr G2 rfl⟩
  · obtain ⟨f, e, he, D1, D2⟩ := h
    exact Or.inr ⟨FX_trans X0 X2, FM_trans M0 M2, f, e, he, D1, D2⟩
theorem HoB_n {n n' z y b : Nat} {x m x' m' : wb_H} (h : n ≤ n') (H : HoB q s n' z y b x m x' m') : HoB q s n z y b x m x' m' :=
  ⟨H.1, H.2.1, H.2.2.1, H.2.2.2.1, H.2.2.2.2.1, ⟨fun i hi => H.2.2.2.2.2.1.1 i (by omega), H.2.2.2.2.2.1.2⟩, ⟨fun i hi => H.2.2.2.2.2.2.1 i (by omega), H.2.2.2.2.2.2.2⟩⟩
theorem HoB_le {n z y b z' y' b' : Nat} {x m x' m' : wb_H} (h1 : z ≤ z') (h2 : y ≤ y') (h3 : b ≤ b') (H : HoB q s n z' y' b' x m x' m') : HoB q s n z y b x m x' m' :=
  ⟨H.1, H.2.1, Kp_le h1 H.2.2.1, Km_le h2 H.2.2.2.1, Kb_le h3 H.2.2.2.2.1, H.2.2.2.2.2⟩
theorem mD_L81 {f e : Nat} {m : wb_H} (D : DdM f e m) (a : Int32) : q_M_tellHabit_L81 sc m a = some m := by
  have d0 := D.1
  have d5 := D.2.1
  have d3 := D.2.2.1
  rw [q_M_tellHabit_L81_eq, mD_is D]
  simp (disch := omega) only [L_0, L_1, L_2, L_3, L_4, L_5, L_6, L_7, L_8, L_9, L_10, L_11, L_12, L_13, L_14, L_15, L_16, L_17, L_18, L_19, L_20, L_21, L_22, L_23, L_24, L_25, L_26, L_27, L_28, L_29, L_30, L_31, L_32, L_33, L_34, L_35, L_40, L_41, L_42, L_43, L_44, L_45, L_47, L_48, L_50, L_53, L_57, L_59, L_60, L_61, L_63, L_64, L_97, L_100, L_101, L_102, L_103, L_122, L_130, L_216, L_255, L_364, L_400, L_402, L_420, L_728, L_768, L_999, L_1000, L_1093, L_1872, L_2000, L_9999, L_12345, L_252645135, L_858993459, L_1103515245, L_1431655765, Lm_1, Lm_2, Lm_8, N_zero, N_cast, N_add, N_mul, N_sub, N_addM, N_lt_tp, N_lt_fp, N_le_tp, N_le_fp, N_eq_tp, N_eq_fp, MN_ltp, MN_lep, NM_ltp, NM_lep, NM_eqp, MN_eqp, MM_lt_tp, MM_lt_fp, MM_le_tp, MM_le_fp, MM_eq_tp, MM_eq_fp, N_cl, N_in_t, N_in_f, M_in, N_div, N_rem, N_nb0, N_nb1, cond_true, cond_false, Bool.not_true, Bool.not_false, Bool.and_true, Bool.true_and, Bool.and_false, Bool.false_and, decide_true, decide_false, Option.bind_some, Option.bind_none, d3]
  rw [q_M_tellHabit_L99_eq]
  simp (disch := omega) only [L_0, L_1, L_2, L_3, L_4, L_5, L_6, L_7, L_8, L_9, L_10, L_11, L_12, L_13, L_14, L_15, L_16, L_17, L_18, L_19, L_20, L_21, L_22, L_23, L_24, L_25, L_26, L_27, L_28, L_29, L_30, L_31, L_32, L_33, L_34, L_35, L_40, L_41, L_42, L_43, L_44, L_45, L_47, L_48, L_50, L_53, L_57, L_59, L_60, L_61, L_63, L_64, L_97, L_100, L_101, L_102, L_103, L_122, L_130, L_216, L_255, L_364, L_400, L_402, L_420, L_728, L_768, L_999, L_1000, L_1093, L_1872, L_2000, L_9999, L_12345, L_252645135, L_858993459, L_1103515245, L_1431655765, Lm_1, Lm_2, Lm_8, N_zero, N_cast, N_add, N_mul, N_sub, N_addM, N_lt_tp, N_lt_fp, N_le_tp, N_le_fp, N_eq_tp, N_eq_fp, MN_ltp, MN_lep, NM_ltp, NM_lep, NM_eqp, MN_eqp, MM_lt_tp, MM_lt_fp, MM_le_tp, MM_le_fp, MM_eq_tp, MM_eq_fp, N_cl, N_in_t, N_in_f, M_in, N_div, N_rem, N_nb0, N_nb1, cond_true, cond_false, Bool.not_true, Bool.not_false, Bool.and_true, Bool.true_and, Bool.and_false, Bool.false_and, decide_true, decide_false, Option.bind_some, Option.bind_none]
  rw [q_M_tellHabit_L157_eq, mD_must D]
  rfl
end
