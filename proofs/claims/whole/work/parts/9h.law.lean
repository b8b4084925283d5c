/-! Laws, told on both sides. -/
abbrev CL : Type := List (Nat × Int32)
theorem Sg_keep {q z y e ye : Nat} {cs : CL} {x m x' m' : wb_H} (k : Kp q e x x') (j : Km ye m m') (h1 : z + cs.length ≤ e) (h2 : y + cs.length ≤ ye) (S : Sg q z y cs x m) : Sg q z y cs x' m' := ⟨CodX_keep k h1 S.1, CodM_keep j h2 S.2.1, S.2.2⟩
/-- one branch: if, then -/
def Brn (q Y : Nat) (x m : wb_H) (z b : Nat) (u v t : CL) : Prop := ∃ y, Sg q z y u x m ∧ Sg q (z + u.length) (y + u.length) v x m ∧ Sg q (z + u.length + v.length + 1) (y + u.length + v.length) t x m ∧ x.1 41 q (z + u.length + v.length) = nN 2 ∧ x.1 42 q (z + u.length + v.length) = nN (z + u.length + v.length + 1 + t.length + 1) ∧ x.1 41 q (z + u.length + v.length + 1 + t.length) = nN 3 ∧ m.1 85 0 b = nN 1 ∧ m.1 86 0 b = nN y ∧ m.1 87 0 b = nN (y + u.length) ∧ m.1 88 0 b = nN (y + u.length + v.length) ∧ m.1 89 0 b = nN (y + u.length + v.length + t.length) ∧ y + u.length + v.length + t.length ≤ Y ∧ 420 * (b / 130) ≤ y
/-- the last one: else -/
def Lst (q Y : Nat) (x m : wb_H) (z b : Nat) (t : CL) : Prop := ∃ y, Sg q z y t x m ∧ x.1 41 q (z + t.length) = nN 3 ∧ m.1 85 0 b = nN 0 ∧ m.1 88 0 b = nN y ∧ m.1 89 0 b = nN (y + t.length) ∧ y + t.length ≤ Y ∧ 420 * (b / 130) ≤ y
theorem Brn_keep {q Y e ye be z b : Nat} {x m x' m' : wb_H} {u v t : CL} (k : Kp q e x x') (j : Km ye m m') (l : Kb be m m') (h1 : z + u.length + v.length + 1 + t.length + 1 ≤ e) (h2 : Y ≤ ye) (h3 : b < be) (H : Brn q Y x m z b u v t) : Brn q Y x' m' z b u v t := by
  obtain ⟨y, a1, a2, a3, a4, a5, a6, a7, a8, a9, a10, a11, a12⟩ := H
  exact ⟨y, Sg_keep k j (by omega) (by omega) a1, Sg_keep k j (by omega) (by omega) a2, Sg_keep k j (by omega) (by omega) a3, (k _ (by omega)).1.trans a4, (k _ (by omega)).2.trans a5, (k _ (by omega)).1.trans a6, (l 85 (by decide) (by decide) b h3).trans a7, (l 86 (by decide) (by decide) b h3).trans a8, (l 87 (by decide) (by decide) b h3).trans a9, (l 88 (by decide) (by decide) b h3).trans a10, (l 89 (by decide) (by decide) b h3).trans a11, a12⟩
theorem Brn_le {q Y Y' z b : Nat} {x m : wb_H} {u v t : CL} (h : Y ≤ Y') (H : Brn q Y x m z b u v t) : Brn q Y' x m z b u v t := by
  obtain ⟨y, a1, a2, a3, a4, a5, a6, a7, a8, a9, a10, a11, a12⟩ := H
  exact ⟨y, a1, a2, a3, a4, a5, a6, a7, a8, a9, a10, a11, by omega⟩
theorem Lst_keep {q Y e ye be z b : Nat} {x m x' m' : wb_H} {t : CL} (k : Kp q e x x') (j : Km ye m m') (l : Kb be m m') (h1 : z + t.length + 1 ≤ e) (h2 : Y ≤ ye) (h3 : b < be) (H : Lst q Y x m z b t) : Lst q Y x' m' z b t := by
  obtain ⟨y, a1, a2, a3, a4, a5, a6⟩ := H
  exact ⟨y, Sg_keep k j (by omega) (by omega) a1, (k _ (by omega)).1.trans a2, (l 85 (by decide) (by decide) b h3).trans a3, (l 88 (by decide) (by decide) b h3).trans a4, (l 89 (by decide) (by decide) b h3).trans a5, a6⟩
theorem Lst_le {q Y Y' z b : Nat} {x m : wb_H} {t : CL} (h : Y ≤ Y') (H : Lst q Y x m z b t) : Lst q Y' x m z b t := by
  obtain ⟨y, a1, a2, a3, a4, a5, a6⟩ := H
  exact ⟨y, a1, a2, a3, a4, a5, by omega⟩
/-- branches one behind the other -/
def LawC (q Y : Nat) (x m : wb_H) : List (CL × (CL × CL)) → Nat → Nat → Nat → Nat → Prop
  | [], z, b, z', b' => z' = z ∧ b' = b
  | c :: r, z, b, z', b' => Brn q Y x m z b c.1 c.2.1 c.2.2 ∧ LawC q Y x m r (z + c.1.length + c.2.1.length + 1 + c.2.2.length + 1) (b + 1) z' b'
theorem LawC_le1 {q Y : Nat} {x m : wb_H} : ∀ {l : List (CL × (CL × CL))} {z b z' b' : Nat}, LawC q Y x m l z b z' b' → z ≤ z' ∧ b' = b + l.length
  | [], z, b, z', b', h => ⟨by rw [h.1]; exact Nat.le_refl _, by rw [h.2]; rfl⟩
  | c :: r, z, b, z', b', h => by
    obtain ⟨h1, h2⟩ := LawC_le1 h.2
    refine ⟨by omega, ?_⟩
    rw [h2, List.length_cons]
    omega
theorem LawC_keep {q Y e ye be : Nat} {x m x' m' : wb_H} (k : Kp q e x x') (j : Km ye m m') (l : Kb be m m') (h2 : Y ≤ ye) : ∀ {l : List (CL × (CL × CL))} {z b z' b' : Nat}, z' ≤ e → b' ≤ be → LawC q Y x m l z b z' b' → LawC q Y x' m' l z b z' b'
  | [], _, _, _, _, _, _, h => h
  | c :: r, z, b, z', b', h1, h3, h => by
    obtain ⟨a1, a2⟩ := LawC_le1 h.2
    exact ⟨Brn_keep k j l (by omega) h2 (by omega) h.1, LawC_keep k j l h2 h1 h3 h.2⟩
theorem LawC_Y {q Y Y' : Nat} {x m : wb_H} (hY : Y ≤ Y') : ∀ {l : List (CL × (CL × CL))} {z b z' b' : Nat}, LawC q Y x m l z b z' b' → LawC q Y' x m l z b z' b'
  | [], _, _, _, _, h => h
  | _ :: _, _, _, _, _, h => ⟨Brn_le hY h.1, LawC_Y hY h.2⟩
theorem LawC_snoc {q Y : Nat} {x m : wb_H} {u v t : CL} : ∀ {l : List (CL × (CL × CL))} {z b z' b' : Nat}, LawC q Y x m l z b z' b' → Brn q Y x m z' b' u v t → LawC q Y x m (l ++ [(u, (v, t))]) z b (z' + u.length + v.length + 1 + t.length + 1) (b' + 1)
  | [], z, b, z', b', h, H => by
    obtain ⟨rfl, rfl⟩ := h
    exact ⟨H, rfl, rfl⟩
  | _ :: r, _, _, _, _, h, H => ⟨h.1, LawC_snoc (l := r) h.2 H⟩
def LB (q s z0 y0 b0 : Nat) (x0 m0 x m : wb_H) : Prop := Fr LCX x0 x ∧ FX q x0 x ∧ Fr LLM m0 m ∧ FM s m0 m ∧ Kp q z0 x0 x ∧ Km y0 m0 m ∧ Kb b0 m0 m
theorem LB_refl (q s z0 y0 b0 : Nat) (x0 m0 : wb_H) : LB q s z0 y0 b0 x0 m0 x0 m0 := ⟨Fr_refl _ _, FX_refl _ _, Fr_refl _ _, FM_refl _ _, Kp_refl _ _ _, Km_refl _ _, Kb_refl _ _⟩
theorem LB_trans {q s z0 y0 b0 z y b : Nat} {x0 m0 x m x' m' : wb_H} (a : LB q s z0 y0 b0 x0 m0 x m) (c : LB q s z y b x m x' m') (h1 : z0 ≤ z) (h2 : y0 ≤ y) (h3 : b0 ≤ b) : LB q s z0 y0 b0 x0 m0 x' m' := by
  obtain ⟨a1, a2, a3, a4, a5, a6, a7⟩ := a
  obtain ⟨c1, c2, c3, c4, c5, c6, c7⟩ := c
  exact ⟨Fr_trans a1 c1, FX_trans a2 c2, Fr_trans a3 c3, FM_trans a4 c4, Kp_trans a5 (Kp_le h1 c5), Km_trans a6 (Km_le h2 c6), Kb_trans a7 (Kb_le h3 c7)⟩
theorem LB_go {q s z y b : Nat} {x m x' m' : wb_H} (F : Fr LGX x x') (G : Fr LGM m m') : LB q s z y b x m x' m' := ⟨Fr_mono F rfl, FX_fr F rfl, Fr_mono G rfl, FM_fr G rfl, Kp_fr F rfl, Km_fr G rfl, Kb_fr G rfl⟩
theorem LB_m {q s z y b t k : Nat} {x m : wb_H} {v : Int32} (ht : t = 85 ∨ t = 86 ∨ t = 87) (hb : b ≤ k) (h1 : 130 * s ≤ k) (h2 : k < 130 * s + 130) : LB q s z y b x m x (wb_iu m t 0 k v) := by
  refine ⟨Fr_refl _ _, FX_refl _ _, Fr_iu ?_, FM_iu (Or.inr (by unfold MSd; omega)), Kp_refl _ _ _, fun j _ => ⟨iu_nt (by omega), iu_nt (by omega)⟩, Kb_iu hb⟩
  rcases ht with e | e | e <;> subst e <;> rfl
theorem Dd_trans {q s b : Nat} {x0 m0 x1 m1 x m : wb_H} (X : FX q x0 x1) (M : FM s m0 m1) (H : Dd q s b x1 m1 x m) : Dd q s b x0 m0 x m := ⟨FX_trans X H.1, FM_trans M H.2.1, H.2.2⟩
section
variable {sc : wb_X} {q s : Nat} {kd pl : Nat → Nat} {vl : Nat → Int} {w : Nat}
/-- what the reference does behind a law's last term -/
noncomputable def tailM (sc : wb_X) (m : wb_H) (a b0 : Nat) : Option wb_H := (q_M_must sc m (nN 4)).bind fun h => bif decide (h.1 21 0 13 ≤ nN 0) then some (wb_iu (wb_iu h 78 0 a (nN b0)) 79 0 a ((wb_iu h 78 0 a (nN b0)).1 21 0 33)) else some h
theorem M_law_end {m : wb_H} {a b0 : Nat} (ha : a < 12) (v : Int32) (h0 : (m.1 21 0 13 ≠ nN 0) ∨ (q_M_is sc m (nN 32) = some (nN 0, m))) {b : Nat} (hb : m.1 21 0 33 = nN b) (hb2 : b < 260) : q_M_tellLaw_L12 sc m (nN a) (nN b0) v = (q_M_term sc (wb_iu m 85 0 b (nN 0))).bind fun h => tailM sc h a b0 := by
  rw [q_M_tellLaw_L12_eq]
  by_cases z : m.1 21 0 13 = nN 0
  · have e : q_M_is sc m (nN 32) = some (nN 0, m) := by
      rcases h0 with y | y
      · exact absurd z y
      · exact y
    simp (disch := omega) only [L_0, L_1, L_2, L_3, L_4, L_5, L_6, L_7, L_8, L_9, L_10, L_11, L_12, L_13, L_14, L_15, L_16, L_17, L_18, L_19, L_20, L_21, L_22, L_23, L_24, L_25, L_26, L_27, L_28, L_29, L_30, L_31, L_32, L_33, L_34, L_35, L_40, L_41, L_42, L_43, L_44, L_45, L_47, L_48, L_50, L_53, L_57, L_59, L_60, L_61, L_63, L_64, L_97, L_100, L_101, L_102, L_103, L_122, L_130, L_216, L_255, L_364, L_400, L_402, L_420, L_728, L_768, L_999, L_1000, L_1093, L_1872, L_2000, L_9999, L_12345, L_252645135, L_858993459, L_1103515245, L_1431655765, Lm_1, Lm_2, Lm_8, N_zero, N_cast, N_add, N_mul, N_sub, N_addM, N_lt_tp, N_lt_fp, N_le_tp, N_le_fp, N_eq_tp, N_eq_fp, MN_ltp, MN_lep, NM_ltp, NM_lep, NM_eqp, MN_eqp, MM_lt_tp, MM_lt_fp, MM_le_tp, MM_le_fp, MM_eq_tp, MM_eq_fp, N_cl, N_in_t, N_in_f, M_in, N_div, N_rem, N_nb0, N_nb1, cond_true, cond_false, Bool.not_true, Bool.not_false, Bool.and_true, Bool.true_and, Bool.and_false, Bool.false_and, decide_true, decide_false, Option.bind_some, Option.bind_none, eq_true z, e, hb]
    rfl
  · simp (disch := omega) only [L_0, L_1, L_2, L_3, L_4, L_5, L_6, L_7, L_8, L_9, L_10, L_11, L_12, L_13, L_14, L_15, L_16, L_17, L_18, L_19, L_20, L_21, L_22, L_23, L_24, L_25, L_26, L_27, L_28, L_29, L_30, L_31, L_32, L_33, L_34, L_35, L_40, L_41, L_42, L_43, L_44, L_45, L_47, L_48, L_50, L_53, L_57, L_59, L_60, L_61, L_63, L_64, L_97, L_100, L_101, L_102, L_103, L_122, L_130, L_216, L_255, L_364, L_400, L_402, L_420, L_728, L_768, L_999, L_1000, L_1093, L_1872, L_2000, L_9999, L_12345, L_252645135, L_858993459, L_1103515245, L_1431655765, Lm_1, Lm_2, Lm_8, N_zero, N_cast, N_add, N_mul, N_sub, N_addM, N_lt_tp, N_lt_fp, N_le_tp, N_le_fp, N_eq_tp, N_eq_fp, MN_ltp, MN_lep, NM_ltp, NM_lep, NM_eqp, MN_eqp, MM_lt_tp, MM_lt_fp, MM_le_tp, MM_le_fp, MM_eq_tp, MM_eq_fp, N_cl, N_in_t, N_in_f, M_in, N_div, N_rem, N_nb0, N_nb1, cond_true, cond_false, Bool.not_true, Bool.not_false, Bool.and_true, Bool.true_and, Bool.and_false, Bool.false_and, decide_true, decide_false, Option.bind_some, Option.bind_none, eq_false z, hb]
    rfl
theorem tailM_dead {f e : Nat} {m : wb_H} (D : DdM f e m) (a b0 : Nat) : tailM sc m a b0 = some m := by
  unfold tailM
  rw [mD_must D]
  obtain ⟨d1, d2, d3, d4⟩ := D
  simp (disch := omega) only [L_0, L_1, L_2, L_3, L_4, L_5, L_6, L_7, L_8, L_9, L_10, L_11, L_12, L_13, L_14, L_15, L_16, L_17, L_18, L_19, L_20, L_21, L_22, L_23, L_24, L_25, L_26, L_27, L_28, L_29, L_30, L_31, L_32, L_33, L_34, L_35, L_40, L_41, L_42, L_43, L_44, L_45, L_47, L_48, L_50, L_53, L_57, L_59, L_60, L_61, L_63, L_64, L_97, L_100, L_101, L_102, L_103, L_122, L_130, L_216, L_255, L_364, L_400, L_402, L_420, L_728, L_768, L_999, L_1000, L_1093, L_1872, L_2000, L_9999, L_12345, L_252645135, L_858993459, L_1103515245, L_1431655765, Lm_1, Lm_2, Lm_8, N_zero, N_cast, N_add, N_mul, N_sub, N_addM, N_lt_tp, N_lt_fp, N_le_tp, N_le_fp, N_eq_tp, N_eq_fp, MN_ltp, MN_lep, NM_ltp, NM_lep, NM_eqp, MN_eqp, MM_lt_tp, MM_lt_fp, MM_le_tp, MM_le_fp, MM_eq_tp, MM_eq_fp, N_cl, N_in_t, N_in_f, M_in, N_div, N_rem, N_nb0, N_nb1, cond_true, cond_false, Bool.not_true, Bool.not_false, Bool.and_true, Bool.true_and, Bool.and_false, Bool.false_and, decide_true, decide_false, Option.bind_some, Option.bind_none, d3]
/-- a law of which a fault is known: the reference's way out -/
theorem Dd_law {x0 m0 x m : wb_H} {b a b0 : Nat} (ha : a < 12) (H : Dd q s b x0 m0 x m) (hb1 : 130 * s ≤ b) (hb2 : b < 130 * s + 130) (hs : s < 2) (v : Int32) : Ok (q_M_tellLaw_L12 sc m (nN a) (nN b0) v) (fun m' => Dd q s (b + 1) x0 m0 x m') := by
  have H' := H
  obtain ⟨X, M, ⟨f, e, he, D1, D2⟩, hb⟩ := H'
  have n0 : m.1 21 0 13 ≠ nN 0 := by
    intro y
    rw [D2.2.2.1] at y
    have := N_inj (by have := D2.2.1; omega) (by decide) y
    exact D2.1 this
  rw [M_law_end ha v (Or.inl n0) hb (by omega)]
  have H2 : Dd q s b x0 m0 x (wb_iu m 85 0 b (nN 0)) := Dd_w H (by rfl) (Or.inr (by unfold MSd; omega))
  refine Ok_bind (Dd_mterm H2 hb1 hb2 hs) ?_
  intro m' H3
  have H3' := H3
  obtain ⟨X3, M3, ⟨f3, e3, he3, D31, D32⟩, hb3⟩ := H3'
  rw [tailM_dead D32]
  exact Ok_some H3
end
