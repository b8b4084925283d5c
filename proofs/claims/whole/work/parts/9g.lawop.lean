/-! Steps within a law: alive, or behind a fault. -/
def LLM : List Nat := [85, 86, 87, 88, 89, 90, 91, 92, 1011, 1012, 1013, 1014, 1033, 1039, 1043]
def Lq (q s : Nat) (kd pl : Nat → Nat) (vl : Nat → Int) (p w z y b : Nat) (x m : wb_H) : Prop := En q s kd pl vl x m ∧ Live kd pl p w x m ∧ PLn q x ∧ x.1 13 q 6 = nN z ∧ m.1 21 0 39 = nN y ∧ m.1 21 0 33 = nN b ∧ m.1 21 0 12 = nN 0 ∧ z ≤ p ∧ 420 * s ≤ y ∧ y ≤ 420 * s + p
def Dd (q s b : Nat) (x0 m0 x m : wb_H) : Prop := FX q x0 x ∧ FM s m0 m ∧ (∃ f e, e ≤ 2000 ∧ DS q f e x ∧ DdM f e m) ∧ m.1 21 0 33 = nN b
def LqS (q s : Nat) (kd pl : Nat → Nat) (vl : Nat → Int) (p w z y b : Nat) (x m : wb_H) : Prop := En q s kd pl vl x m ∧ Live kd pl p w x m ∧ PLn q x ∧ x.1 13 q 6 = nN z ∧ m.1 21 0 39 = nN y ∧ m.1 21 0 33 = nN b ∧ m.1 21 0 12 = nN 0 ∧ z ≤ p + 1 ∧ 420 * s ≤ y ∧ y ≤ 420 * s + p
theorem Lq_s {q s : Nat} {kd pl : Nat → Nat} {vl : Nat → Int} {p w z y b : Nat} {x m : wb_H} (H : Lq q s kd pl vl p w z y b x m) : LqS q s kd pl vl p w z y b x m := by
  obtain ⟨h1, h2, h3, h4, h5, h6, h7, h8, h9, h10⟩ := H
  exact ⟨h1, h2, h3, h4, h5, h6, h7, by omega, h9, h10⟩
theorem Lq_p {q s : Nat} {kd pl : Nat → Nat} {vl : Nat → Int} {p w z y b : Nat} {x m : wb_H} (H : Lq q s kd pl vl p w z y b x m) : p ≤ 400 ∧ m.1 21 0 13 = nN 0 ∧ m.1 21 0 11 = nN p ∧ x.1 16 0 4 = nN (kap (kd p)) ∧ okT kd p := by
  obtain ⟨y, hy, o, w5, y2, lx, lm⟩ := H.2.1
  exact ⟨o.1, lm.2.1, lm.1, lx.2.1, o⟩
/-- frames that leave alone what a law's state is told by -/
theorem Lq_fr {q s : Nat} {kd pl : Nat → Nat} {vl : Nat → Int} {p w z y b : Nat} {x m x' m' : wb_H} {L K : List Nat} (F : Fr L x x') (G : Fr K m m') (X : FX q x x') (M : FM s m m') (a : wb_dj [13, 15, 4003, 4004, 4006, 4007, 4008, 4009] L = true) (c : wb_dj [1011, 1012, 1013, 1014, 1015, 1016, 1033, 1039] K = true) (H : Lq q s kd pl vl p w z y b x m) : Lq q s kd pl vl p w z y b x' m' := by
  have g : ∀ y, wb_mem y [13, 15, 4003, 4004, 4006, 4007, 4008, 4009] = true → wb_mem y L = false := fun y hy => wb_dj_mem a hy
  have k : ∀ y, wb_mem y [1011, 1012, 1013, 1014, 1015, 1016, 1033, 1039] = true → wb_mem y K = false := fun y hy => wb_dj_mem c hy
  obtain ⟨h1, h2, h3, h4, h5, h6, h7, h8, h9, h10⟩ := H
  refine ⟨En_f X M h1, Live_fr F G ?_ ?_ h2, PLn_fr F (g 15 rfl) h3, (Fr_i F (by exact g 13 rfl)).trans h4, (Fr_i G (by exact k 1039 rfl)).trans h5, (Fr_i G (by exact k 1033 rfl)).trans h6, (Fr_i G (by exact k 1012 rfl)).trans h7, h8, h9, h10⟩
  · simp only [wb_dj, g 4003 rfl, g 4004 rfl, g 4006 rfl, g 4007 rfl, g 4008 rfl, g 4009 rfl, Bool.not_false, Bool.and_self]
  · simp only [wb_dj, k 1011 rfl, k 1013 rfl, k 1014 rfl, k 1015 rfl, k 1016 rfl, Bool.not_false, Bool.and_self]
section
variable {sc : wb_X} {q s : Nat} {kd pl : Nat → Nat} {vl : Nat → Int} {p w z y b : Nat} {x0 m0 x m : wb_H}
theorem Dd_mk {x' m' : wb_H} (hq : q < 2) (X : FX q x0 x') (M : FM s m0 m') (D : Dead x' m') (Z : Dz q x') (P : PLn q x') (m2 : x'.2.2 16 0 2 = q + 1) (hb : m'.1 21 0 33 = nN b) : Dd q s b x0 m0 x' m' := by
  obtain ⟨f, e, he, D1, D2⟩ := D
  exact ⟨X, M, ⟨f, e, he, ⟨hq, D1, m2, Z, P⟩, D2⟩, hb⟩
theorem Dd_take (H : Dd q s b x0 m0 x m) (a d : Int32) : Both (q_Reader_take sc x a) (q_M_must sc m d) (Dd q s b x0 m0) := by
  have H' := H
  obtain ⟨X, M, ⟨f, e, he, D1, D2⟩, hb⟩ := H'
  rw [dX_take D1.2.1, mD_must D2]
  exact Both_some H
theorem Dd_sum1 (H : Dd q s b x0 m0 x m) : Both (q_Reader_parseSum sc x) (some m) (Dd q s b x0 m0) := by
  obtain ⟨X, M, ⟨f, e, he, D1, D2⟩, hb⟩ := H
  refine Both_of (dq_sum D1) (⟨m, rfl, rfl⟩ : Ok (some m) (fun b => b = m)) ?_
  rintro x' m' H rfl
  exact ⟨FX_trans X H.2.1, M, ⟨f, e, he, H.2.2, D2⟩, hb⟩
theorem Dd_sum (H : Dd q s b x0 m0 x m) : Both (q_Reader_parseSum sc x) (q_M_expression sc m) (Dd q s b x0 m0) := by
  obtain ⟨X, M, ⟨f, e, he, D1, D2⟩, hb⟩ := H
  rw [mD_sum D2]
  refine Both_of (dq_sum D1) (⟨_, rfl, rfl⟩ : Ok (some _) (fun b => b = wb_iu m 21 0 43 (nN 0))) ?_
  rintro x' m' H rfl
  have G : Fr [1043] m (wb_iu m 21 0 43 (nN 0)) := Fr_iu rfl
  exact ⟨FX_trans X H.2.1, FM_trans M (FM_fr G rfl), ⟨f, e, he, H.2.2, DdM_fr G rfl rfl D2⟩, (Fr_i G (by rfl)).trans hb⟩
theorem Dd_w (H : Dd q s b x0 m0 x m) {t k : Nat} {v : Int32} (ht : wb_mem (kc t k) [1013, 1014, 1033] = false) (hi : MIn s t k) : Dd q s b x0 m0 x (wb_iu m t 0 k v) := by
  obtain ⟨X, M, ⟨f, e, he, D1, D2⟩, hb⟩ := H
  have G : Fr [kc t k] m (wb_iu m t 0 k v) := Fr_iu (by simp only [wb_mem, Nat.beq_refl, cond_true])
  have n : ∀ c, wb_mem c [1013, 1014, 1033] = true → wb_mem c [kc t k] = false := fun c hc => by
    cases e2 : Nat.beq c (kc t k) with
    | true =>
      have := Nat.eq_of_beq_eq_true e2
      rw [← this, hc] at ht
      exact Bool.noConfusion ht
    | false => simp only [wb_mem, e2, cond_false]
  exact ⟨X, FM_trans M (FM_iu hi), ⟨f, e, he, D1, DdM_fr G (n 1013 rfl) (n 1014 rfl) D2⟩, (Fr_i G (by exact n 1033 rfl)).trans hb⟩
theorem Dd_mterm (H : Dd q s b x0 m0 x m) (hb1 : 130 * s ≤ b) (hb2 : b < 130 * s + 130) (hs : s < 2) : Ok (q_M_term sc m) (fun m' => Dd q s (b + 1) x0 m0 x m') := by
  obtain ⟨X, M, ⟨f, e, he, D1, D2⟩, hb⟩ := H
  have d0 := D2.1
  have d5 := D2.2.1
  have d3 := D2.2.2.1
  rw [q_M_term_eq]
  simp (disch := omega) only [L_0, L_1, L_2, L_3, L_4, L_5, L_6, L_7, L_8, L_9, L_10, L_11, L_12, L_13, L_14, L_15, L_16, L_17, L_18, L_19, L_20, L_21, L_22, L_23, L_24, L_25, L_26, L_27, L_28, L_29, L_30, L_31, L_32, L_33, L_34, L_35, L_40, L_41, L_42, L_43, L_44, L_45, L_47, L_48, L_50, L_53, L_57, L_59, L_60, L_61, L_63, L_64, L_97, L_100, L_101, L_102, L_103, L_122, L_130, L_216, L_255, L_364, L_400, L_402, L_420, L_728, L_768, L_999, L_1000, L_1093, L_1872, L_2000, L_9999, L_12345, L_252645135, L_858993459, L_1103515245, L_1431655765, Lm_1, Lm_2, Lm_8, N_zero, N_cast, N_add, N_mul, N_sub, N_addM, N_lt_tp, N_lt_fp, N_le_tp, N_le_fp, N_eq_tp, N_eq_fp, MN_ltp, MN_lep, NM_ltp, NM_lep, NM_eqp, MN_eqp, MM_lt_tp, MM_lt_fp, MM_le_tp, MM_le_fp, MM_eq_tp, MM_eq_fp, N_cl, N_in_t, N_in_f, M_in, N_div, N_rem, N_nb0, N_nb1, cond_true, cond_false, Bool.not_true, Bool.not_false, Bool.and_true, Bool.true_and, Bool.and_false, Bool.false_and, decide_true, decide_false, Option.bind_some, Option.bind_none, hb, iu_nt (show 21 ≠ 88 by decide), iu_nt (show 21 ≠ 89 by decide), d3, q_M_term_L47_eq]
  have G : Fr [88, 89, 1033] m (wb_iu (wb_iu (wb_iu m 88 0 b (m.1 21 0 39)) 89 0 b (m.1 21 0 39)) 21 0 33 (nN (b + 1))) := Fr_trans (Fr_trans (Fr_iu rfl) (Fr_iu rfl)) (Fr_iu rfl)
  refine Ok_some ⟨X, FM_trans M (FM_trans (FM_trans (FM_iu (Or.inr (by unfold MSd; omega))) (FM_iu (Or.inr (by unfold MSd; omega)))) (FM_iu (Or.inl rfl))), ⟨f, e, he, D1, DdM_fr G rfl rfl D2⟩, iu_at⟩
theorem Dd_term (H : Dd q s b x0 m0 x m) (hb1 : 130 * s ≤ b) (hb2 : b < 130 * s + 130) (hs : s < 2) : Both (q_Reader_parseSum sc x) (q_M_term sc m) (Dd q s (b + 1) x0 m0) := by
  obtain ⟨m', e', H'⟩ := Dd_mterm (sc := sc) H hb1 hb2 hs
  rw [e']
  exact Dd_sum1 H'
theorem Lq_take (X0 : FX q x0 x) (M0 : FM s m0 m) (H : LqS q s kd pl vl p w z y b x m) {d : Nat} (hd : kOk d) (d0 : d ≠ 0) (d3 : d ≠ 3) : Both (q_Reader_take sc x (nN (kap d))) (q_M_must sc m (nN d)) (fun x' m' => (Lq q s kd pl vl (p + 1) w z y b x' m' ∧ Fr LGX x x' ∧ Fr LGM m m') ∨ Dd q s b x0 m0 x' m') := by
  obtain ⟨h1, h2, h3, h4, h5, h6, h7, h8, h9, h10⟩ := H
  have p4 : p ≤ 400 := by
    obtain ⟨y, hy, o, -⟩ := h2
    exact o.1
  refine Both_w (ls_take h1 (Or.inl h2) hd d0 d3) ?_
  rintro x' m' ⟨F, G, h⟩
  have X := FX_trans X0 (FX_fr F rfl)
  have M := FM_trans M0 (FM_fr G rfl)
  rcases h with ⟨-, -, h⟩ | h
  · exact Or.inl ⟨⟨En_f (FX_fr F rfl) (FM_fr G rfl) h1, h, PLn_fr F rfl h3, (Fr_i F (by rfl)).trans h4, (Fr_i G (by rfl)).trans h5, (Fr_i G (by rfl)).trans h6, (Fr_i G (by rfl)).trans h7, by omega, h9, by omega⟩, F, G⟩
  · exact Or.inr (Dd_mk h1.2.1 X M h ⟨z, by omega, (Fr_i F (by rfl)).trans h4⟩ (PLn_fr F rfl h3) ((Fr_m F (by rfl)).trans h1.2.2.2.2.1) ((Fr_i G (by rfl)).trans h6))
theorem Lq_go (X0 : FX q x0 x) (M0 : FM s m0 m) (H : Lq q s kd pl vl p w z y b x m) (d0 : kd p ≠ 0) (d3 : kd p ≠ 3) : Both (q_Reader_take sc x (nN (kap (kd p)))) (q_M_goesOn sc m) (fun x' m' => (Lq q s kd pl vl (p + 1) w z y b x' m' ∧ Fr LGX x x' ∧ Fr LGM m m') ∨ Dd q s b x0 m0 x' m') := by
  have p4 := (Lq_p H).1
  obtain ⟨h1, h2, h3, h4, h5, h6, h7, h8, h9, h10⟩ := H
  refine Both_w (ls_go h1 h2 d0 d3) ?_
  rintro x' m' ⟨F, G, h⟩
  have X := FX_trans X0 (FX_fr F rfl)
  have M := FM_trans M0 (FM_fr G rfl)
  rcases h with h | h
  · exact Or.inl ⟨⟨En_f (FX_fr F rfl) (FM_fr G rfl) h1, h, PLn_fr F rfl h3, (Fr_i F (by rfl)).trans h4, (Fr_i G (by rfl)).trans h5, (Fr_i G (by rfl)).trans h6, (Fr_i G (by rfl)).trans h7, by omega, h9, by omega⟩, F, G⟩
  · exact Or.inr (Dd_mk h1.2.1 X M h ⟨z, by omega, (Fr_i F (by rfl)).trans h4⟩ (PLn_fr F rfl h3) ((Fr_m F (by rfl)).trans h1.2.2.2.2.1) ((Fr_i G (by rfl)).trans h6))
/-- a piece of code that tells one number -/
def Sg (q z y : Nat) (cs : List (Nat × Int32)) (x m : wb_H) : Prop := CodX x q z cs ∧ CodM m y cs ∧ wfd 20 0 cs ∧ dpt 0 cs = 1
theorem Lq_sum (X0 : FX q x0 x) (M0 : FM s m0 m) (H : Lq q s kd pl vl p w z y b x m) : Both (q_Reader_parseSum sc x) (q_M_expression sc m) (fun x' m' => (∃ p' cs, p ≤ p' ∧ Lq q s kd pl vl p' w (z + cs.length) (y + cs.length) b x' m' ∧ Fr LCX x x' ∧ FX q x x' ∧ Fr LCM m m' ∧ FM s m m' ∧ Kp q z x x' ∧ Km y m m' ∧ Sg q z y cs x' m') ∨ Dd q s b x0 m0 x' m') := by
  obtain ⟨h1, h2, h3, h4, h5, h6, h7, h8, h9, h10⟩ := H
  refine Both_w (ls_sum h1 h2 h4 h5 h7 h8 h9 h10 h3) ?_
  rintro x' m' ⟨⟨F, X, G, M⟩, h⟩
  rcases h with ⟨p', cs, l, c, d, l1, l2, k, j, o, hp⟩ | ⟨d, zz⟩
  · exact Or.inl ⟨p', cs, hp, ⟨En_f X M h1, l, PLn_fr F rfl h3, c.1, c.2.1, (Fr_i G (by rfl)).trans h6, o, l1, by omega, l2⟩, F, X, G, M, k, j, c.2.2.1, c.2.2.2.1, c.2.2.2.2, d⟩
  · exact Or.inr (Dd_mk h1.2.1 (FX_trans X0 X) (FM_trans M0 M) d zz (PLn_fr F rfl h3) ((Fr_m F (by rfl)).trans h1.2.2.2.2.1) ((Fr_i G (by rfl)).trans h6))
def Kb (e : Nat) (m m' : wb_H) : Prop := ∀ t, 85 ≤ t → t ≤ 89 → ∀ j, j < e → m'.1 t 0 j = m.1 t 0 j
theorem Kb_refl (e : Nat) (m : wb_H) : Kb e m m := fun _ _ _ _ _ => rfl
theorem Kb_trans {e : Nat} {m m1 m2 : wb_H} (a : Kb e m m1) (b : Kb e m1 m2) : Kb e m m2 := fun t h1 h2 j hj => (b t h1 h2 j hj).trans (a t h1 h2 j hj)
theorem Kb_le {e e' : Nat} {m m1 : wb_H} (h : e' ≤ e) (a : Kb e m m1) : Kb e' m m1 := fun t h1 h2 j hj => a t h1 h2 j (by omega)
theorem Kb_fr {K : List Nat} {e : Nat} {m m' : wb_H} (G : Fr K m m') (a : wb_dj [85, 86, 87, 88, 89] K = true) : Kb e m m' := fun t h1 h2 j _ => by
  rcases (show t = 85 ∨ t = 86 ∨ t = 87 ∨ t = 88 ∨ t = 89 by omega) with r | r | r | r | r <;> subst r
  · exact Fr_i G (by exact wb_dj_mem a (x := 85) rfl)
  · exact Fr_i G (by exact wb_dj_mem a (x := 86) rfl)
  · exact Fr_i G (by exact wb_dj_mem a (x := 87) rfl)
  · exact Fr_i G (by exact wb_dj_mem a (x := 88) rfl)
  · exact Fr_i G (by exact wb_dj_mem a (x := 89) rfl)
theorem Kb_iu {e t k : Nat} {m : wb_H} {v : Int32} (h : e ≤ k) : Kb e m (wb_iu m t 0 k v) := fun t' _ _ j hj => by
  by_cases e2 : t' = t
  · subst e2
    exact iu_ne (by omega)
  · exact iu_nt e2
theorem Lq_term (X0 : FX q x0 x) (M0 : FM s m0 m) (H : Lq q s kd pl vl p w z y b x m) (hb1 : 130 * s ≤ b) (hb2 : b < 130 * s + 130) : Both (q_Reader_parseSum sc x) (q_M_term sc m) (fun x' m' => (∃ p' cs, p ≤ p' ∧ Lq q s kd pl vl p' w (z + cs.length) (y + cs.length) (b + 1) x' m' ∧ Fr LCX x x' ∧ FX q x x' ∧ Fr LLM m m' ∧ FM s m m' ∧ Kp q z x x' ∧ Km y m m' ∧ Kb b m m' ∧ Sg q z y cs x' m' ∧ m'.1 85 0 b = m.1 85 0 b ∧ m'.1 86 0 b = m.1 86 0 b ∧ m'.1 87 0 b = m.1 87 0 b ∧ m'.1 88 0 b = nN y ∧ m'.1 89 0 b = nN (y + cs.length)) ∨ Dd q s (b + 1) x0 m0 x' m') := by
  have hs := H.1.2.2.1
  have m13 := (Lq_p H).2.1
  have h5 := H.2.2.2.2.1
  have h6 := H.2.2.2.2.2.1
  rw [q_M_term_eq]
  simp (disch := omega) only [L_0, L_1, L_2, L_3, L_4, L_5, L_6, L_7, L_8, L_9, L_10, L_11, L_12, L_13, L_14, L_15, L_16, L_17, L_18, L_19, L_20, L_21, L_22, L_23, L_24, L_25, L_26, L_27, L_28, L_29, L_30, L_31, L_32, L_33, L_34, L_35, L_40, L_41, L_42, L_43, L_44, L_45, L_47, L_48, L_50, L_53, L_57, L_59, L_60, L_61, L_63, L_64, L_97, L_100, L_101, L_102, L_103, L_122, L_130, L_216, L_255, L_364, L_400, L_402, L_420, L_728, L_768, L_999, L_1000, L_1093, L_1872, L_2000, L_9999, L_12345, L_252645135, L_858993459, L_1103515245, L_1431655765, Lm_1, Lm_2, Lm_8, N_zero, N_cast, N_add, N_mul, N_sub, N_addM, N_lt_tp, N_lt_fp, N_le_tp, N_le_fp, N_eq_tp, N_eq_fp, MN_ltp, MN_lep, NM_ltp, NM_lep, NM_eqp, MN_eqp, MM_lt_tp, MM_lt_fp, MM_le_tp, MM_le_fp, MM_eq_tp, MM_eq_fp, N_cl, N_in_t, N_in_f, M_in, N_div, N_rem, N_nb0, N_nb1, cond_true, cond_false, Bool.not_true, Bool.not_false, Bool.and_true, Bool.true_and, Bool.and_false, Bool.false_and, decide_true, decide_false, Option.bind_some, Option.bind_none, h6, h5, iu_nt (show 21 ≠ 88 by decide), m13]
  have G1 : Fr [88] m (wb_iu m 88 0 b (nN y)) := Fr_iu rfl
  have M1 : FM s m (wb_iu m 88 0 b (nN y)) := FM_iu (Or.inr (by unfold MSd; omega))
  have H1 : Lq q s kd pl vl p w z y b x (wb_iu m 88 0 b (nN y)) := Lq_fr (Fr_refl [] x) G1 (FX_refl q x) M1 rfl rfl H
  rw [← bnd_some (q_Reader_parseSum sc x)]
  refine Both_bind (Lq_sum X0 (FM_trans M0 M1) H1) ?_
  rintro x2 m2 h
  have b2 : m2.1 21 0 33 = nN b := by
    rcases h with ⟨p', cs, -, h, -⟩ | h
    · exact h.2.2.2.2.2.1
    · exact h.2.2.2
  simp (disch := omega) only [L_0, L_1, L_2, L_3, L_4, L_5, L_6, L_7, L_8, L_9, L_10, L_11, L_12, L_13, L_14, L_15, L_16, L_17, L_18, L_19, L_20, L_21, L_22, L_23, L_24, L_25, L_26, L_27, L_28, L_29, L_30, L_31, L_32, L_33, L_34, L_35, L_40, L_41, L_42, L_43, L_44, L_45, L_47, L_48, L_50, L_53, L_57, L_59, L_60, L_61, L_63, L_64, L_97, L_100, L_101, L_102, L_103, L_122, L_130, L_216, L_255, L_364, L_400, L_402, L_420, L_728, L_768, L_999, L_1000, L_1093, L_1872, L_2000, L_9999, L_12345, L_252645135, L_858993459, L_1103515245, L_1431655765, Lm_1, Lm_2, Lm_8, N_zero, N_cast, N_add, N_mul, N_sub, N_addM, N_lt_tp, N_lt_fp, N_le_tp, N_le_fp, N_eq_tp, N_eq_fp, MN_ltp, MN_lep, NM_ltp, NM_lep, NM_eqp, MN_eqp, MM_lt_tp, MM_lt_fp, MM_le_tp, MM_le_fp, MM_eq_tp, MM_eq_fp, N_cl, N_in_t, N_in_f, M_in, N_div, N_rem, N_nb0, N_nb1, cond_true, cond_false, Bool.not_true, Bool.not_false, Bool.and_true, Bool.true_and, Bool.and_false, Bool.false_and, decide_true, decide_false, Option.bind_some, Option.bind_none, b2, iu_nt (show 21 ≠ 89 by decide), q_M_term_L47_eq]
  rcases h with ⟨p', cs, hp, h, F, X, G, M, K, J, S⟩ | h
  · have y2 := h.2.2.2.2.1
    rw [y2]
    have G2 : Fr [89, 1033] m2 (wb_iu (wb_iu m2 89 0 b (nN (y + cs.length))) 21 0 33 (nN (b + 1))) := Fr_trans (Fr_iu rfl) (Fr_iu rfl)
    have M2 : FM s m2 (wb_iu (wb_iu m2 89 0 b (nN (y + cs.length))) 21 0 33 (nN (b + 1))) := FM_trans (FM_iu (Or.inr (by unfold MSd; omega))) (FM_iu (Or.inl rfl))
    refine Both_some (Or.inl ⟨p', cs, hp, ?_, F, X, Fr_trans (Fr_mono G1 rfl) (Fr_trans (Fr_mono G rfl) (Fr_mono G2 rfl)), FM_trans M1 (FM_trans M M2), K, Km_trans (Km_fr G1 rfl) (Km_trans J (Km_fr G2 rfl)), Kb_trans (Kb_iu (Nat.le_refl _)) (Kb_trans (Kb_fr G rfl) (Kb_trans (Kb_iu (Nat.le_refl _)) (Kb_fr (Fr_iu (L := [1033]) rfl) rfl))), ?_, ?_, ?_, ?_, ?_, ?_⟩)
    · obtain ⟨h1, h2, h3, h4, h5, h6, h7, h8, h9, h10⟩ := h
      exact ⟨En_f (FX_refl q x2) M2 h1, Live_fr (Fr_refl [] x2) G2 rfl rfl h2, h3, h4, (Fr_i G2 (by rfl)).trans h5, iu_at, (Fr_i G2 (by rfl)).trans h7, h8, h9, h10⟩
    · exact ⟨S.1, CodM_keep (e := y + cs.length) (Km_fr G2 rfl) (Nat.le_refl _) S.2.1, S.2.2⟩
    · exact (Fr_i G2 (by rfl)).trans ((Fr_i G (by rfl)).trans (Fr_i G1 (by rfl)))
    · exact (Fr_i G2 (by rfl)).trans ((Fr_i G (by rfl)).trans (Fr_i G1 (by rfl)))
    · exact (Fr_i G2 (by rfl)).trans ((Fr_i G (by rfl)).trans (Fr_i G1 (by rfl)))
    · exact (Fr_i G2 (by rfl)).trans ((Fr_i G (by rfl)).trans iu_at)
    · rw [iu_nt (by decide), iu_at]
  · obtain ⟨X, M, ⟨f, e, he, D1, D2⟩, hb⟩ := h
    have G2 : Fr [89, 1033] m2 (wb_iu (wb_iu m2 89 0 b (m2.1 21 0 39)) 21 0 33 (nN (b + 1))) := Fr_trans (Fr_iu rfl) (Fr_iu rfl)
    exact Both_some (Or.inr ⟨X, FM_trans M (FM_trans (FM_iu (Or.inr (by unfold MSd; omega))) (FM_iu (Or.inl rfl))), ⟨f, e, he, D1, DdM_fr G2 rfl rfl D2⟩, iu_at⟩)
end
