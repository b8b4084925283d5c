/-! What a text tells: one and the same on both sides. -/
def FY (q : Nat) (x x' : wb_H) : Prop := ∀ t o k, ¬ (o = q ∧ (t = 44 ∨ t = 45 ∨ t = 46)) → x'.1 t o k = x.1 t o k ∧ x'.2.1 t o k = x.2.1 t o k ∧ x'.2.2 t o k = x.2.2 t o k
theorem FY_refl (q : Nat) (x : wb_H) : FY q x x := fun _ _ _ _ => ⟨rfl, rfl, rfl⟩
theorem FY_trans {q : Nat} {x x1 x2 : wb_H} (a : FY q x x1) (b : FY q x1 x2) : FY q x x2 := fun t o k n => ⟨(b t o k n).1.trans (a t o k n).1, (b t o k n).2.1.trans (a t o k n).2.1, (b t o k n).2.2.trans (a t o k n).2.2⟩
theorem FY_of {q i : Nat} {x x' : wb_H} (a : FYi q i x x') : FY q x x' := fun t o k n => a t o k (fun y => n ⟨y.1, by rcases y.2 with e | e | e; exact Or.inl e; exact Or.inr (Or.inl e); exact Or.inr (Or.inr e.1)⟩)
theorem FY_i {q : Nat} {x x' : wb_H} (a : FY q x x') {t o k : Nat} (h4 : t ≠ 44) (h5 : t ≠ 45) (h6 : t ≠ 46) : x'.1 t o k = x.1 t o k := (a t o k (fun y => by rcases y.2 with e | e | e; exact h4 e; exact h5 e; exact h6 e)).1
def LawDone (q s Y Z B : Nat) (x m : wb_H) (i : Nat) (x' : wb_H) : Prop := x.1 51 q i = nN 6 → ∃ z0 b0 brs t zf u e, (x.1 43 q i = nN z0 ∧ m.1 78 0 (6 * s + i) = nN b0 ∧ m.1 79 0 (6 * s + i) = nN (b0 + brs.length + 1) ∧ LawC q Y x m brs z0 b0 zf (b0 + brs.length) ∧ Lst q Y x m zf (b0 + brs.length) t ∧ b0 + brs.length + 1 ≤ B ∧ 130 * s ≤ b0) ∧ x.1 49 q i = nN u ∧ u ≤ 10 ∧ x.1 50 q i = nN e ∧ e ≤ 6 ∧ ∀ sg b v d, sg ≤ 1 → b + v ≤ 5 → b + v ≤ e → d ≤ 2 → x'.1 46 q (idx i sg b v d) = nN (gt0 (lawV (vrs sg b v e u i d) brs t))
section
variable {sc : wb_X} {q s : Nat}
theorem X_reckon {n z y b : Nat} {x m : wb_H} (hq : q < 2) (hn : n ≤ 6) (c15 : x.1 15 q 0 = nN n) (c13 : x.1 13 q 6 = nN z) (hz : z ≤ 402) (HR : ∀ i, i < n → HouseR q s 0 y z b x m i) : Ok (q_Plan_reckonLaws sc x q) (fun x' => FY q x x' ∧ ∀ i, i < n → LawDone q s y z b x m i x') := by
  have g : decide (q < 2) = true := decide_eq_true hq
  have key : ∀ k j x1, j + k = n → FY q x x1 → (∀ i, i < j → LawDone q s y z b x m i x1) → Ok (q_Plan_reckonLaws_L2 sc x1 q (nN j)) (fun x' => FY q x x' ∧ ∀ i, i < n → LawDone q s y z b x m i x') := by
    intro k
    induction k with
    | zero =>
      intro j x1 hj F D
      rw [Nat.add_zero] at hj
      subst hj
      have d15 : x1.1 15 q 0 = nN j := (FY_i F (by decide) (by decide) (by decide)).trans c15
      rw [q_Plan_reckonLaws_L2_eq]
      simp (disch := omega) only [L_0, L_1, L_2, L_3, L_4, L_5, L_6, L_7, L_8, L_9, L_10, L_11, L_12, L_13, L_14, L_15, L_16, L_17, L_18, L_19, L_20, L_21, L_22, L_23, L_24, L_25, L_26, L_27, L_28, L_29, L_30, L_31, L_32, L_33, L_34, L_35, L_40, L_41, L_42, L_43, L_44, L_45, L_47, L_48, L_50, L_53, L_57, L_59, L_60, L_61, L_63, L_64, L_97, L_100, L_101, L_102, L_103, L_122, L_130, L_216, L_255, L_364, L_400, L_402, L_420, L_728, L_768, L_999, L_1000, L_1093, L_1872, L_2000, L_9999, L_12345, L_252645135, L_858993459, L_1103515245, L_1431655765, Lm_1, Lm_2, Lm_8, N_zero, N_cast, N_add, N_mul, N_sub, N_addM, N_lt_tp, N_lt_fp, N_le_tp, N_le_fp, N_eq_tp, N_eq_fp, MN_ltp, MN_lep, NM_ltp, NM_lep, NM_eqp, MN_eqp, MM_lt_tp, MM_lt_fp, MM_le_tp, MM_le_fp, MM_eq_tp, MM_eq_fp, N_cl, N_in_t, N_in_f, M_in, N_div, N_rem, N_nb0, N_nb1, cond_true, cond_false, Bool.not_true, Bool.not_false, Bool.and_true, Bool.true_and, Bool.and_false, Bool.false_and, decide_true, decide_false, Option.bind_some, Option.bind_none, g, d15]
      exact Ok_some ⟨F, D⟩
    | succ k ih =>
      intro j x1 hj F D
      have d15 : x1.1 15 q 0 = nN n := (FY_i F (by decide) (by decide) (by decide)).trans c15
      obtain ⟨u, e, t, h1, h2, h3, h4, h5, h6, h7, h8, h9, h10, h11, h12⟩ := HR j (by omega)
      obtain ⟨u10, e6, -⟩ := h11 rfl
      have d51 : x1.1 51 q j = nN t := (FY_i F (by decide) (by decide) (by decide)).trans h8
      rw [q_Plan_reckonLaws_L2_eq]
      by_cases t6 : t = 6
      · subst t6
        obtain ⟨z0, b0, brs, tt, zf, l1, l2, l3, l4, l5, l6, l7, l8⟩ := h12 rfl
        have kp : Kp q z x x1 := fun i _ => ⟨FY_i F (by decide) (by decide) (by decide), FY_i F (by decide) (by decide) (by decide)⟩
        have zl := (LawC_le1 l4).1
        simp (disch := omega) only [L_0, L_1, L_2, L_3, L_4, L_5, L_6, L_7, L_8, L_9, L_10, L_11, L_12, L_13, L_14, L_15, L_16, L_17, L_18, L_19, L_20, L_21, L_22, L_23, L_24, L_25, L_26, L_27, L_28, L_29, L_30, L_31, L_32, L_33, L_34, L_35, L_40, L_41, L_42, L_43, L_44, L_45, L_47, L_48, L_50, L_53, L_57, L_59, L_60, L_61, L_63, L_64, L_97, L_100, L_101, L_102, L_103, L_122, L_130, L_216, L_255, L_364, L_400, L_402, L_420, L_728, L_768, L_999, L_1000, L_1093, L_1872, L_2000, L_9999, L_12345, L_252645135, L_858993459, L_1103515245, L_1431655765, Lm_1, Lm_2, Lm_8, N_zero, N_cast, N_add, N_mul, N_sub, N_addM, N_lt_tp, N_lt_fp, N_le_tp, N_le_fp, N_eq_tp, N_eq_fp, MN_ltp, MN_lep, NM_ltp, NM_lep, NM_eqp, MN_eqp, MM_lt_tp, MM_lt_fp, MM_le_tp, MM_le_fp, MM_eq_tp, MM_eq_fp, N_cl, N_in_t, N_in_f, M_in, N_div, N_rem, N_nb0, N_nb1, cond_true, cond_false, Bool.not_true, Bool.not_false, Bool.and_true, Bool.true_and, Bool.and_false, Bool.false_and, decide_true, decide_false, Option.bind_some, Option.bind_none, g, d15, d51]
        refine Ok_bind (X_cases hq (show j < 6 by omega) hz ((FY_i F (by decide) (by decide) (by decide)).trans c13) ((FY_i F (by decide) (by decide) (by decide)).trans l1) (LawC_keep kp (Km_refl y m) (Kb_refl (b0 + brs.length) m) (Nat.le_refl _) (by omega) (Nat.le_refl _) l4) (Lst_keep (be := b0 + brs.length + 1) kp (Km_refl y m) (Kb_refl _ m) (by omega) (Nat.le_refl _) (Nat.lt_succ_self _) l5) l6 ((FY_i F (by decide) (by decide) (by decide)).trans h4) ((FY_i F (by decide) (by decide) (by decide)).trans h6) e6 u10) ?_
        rintro x2 ⟨F2, V2⟩
        refine ih (j + 1) x2 (by omega) (FY_trans F (FY_of F2)) (fun i hi => ?_)
        by_cases ij : i = j
        · subst ij
          intro _
          exact ⟨z0, b0, brs, tt, zf, u, e, ⟨l1, l2, l3, l4, l5, l7, l8⟩, h4, u10, h6, e6, V2⟩
        · intro h51
          obtain ⟨z1, b1, brs1, t1, zf1, u1, e1, f1, f2, f3, f4, f5, f6⟩ := D i (by omega) h51
          refine ⟨z1, b1, brs1, t1, zf1, u1, e1, f1, f2, f3, f4, f5, fun sg b' v d g1 g2 g3 g4 => ?_⟩
          have nn : ¬ (j * 216 ≤ idx i sg b' v d ∧ idx i sg b' v d < j * 216 + 216) := by unfold idx; omega
          rw [(F2 46 q (idx i sg b' v d) (fun y => by
            rcases y.2 with r | r | r
            · exact absurd r (by decide)
            · exact absurd r (by decide)
            · exact nn r.2)).1]
          exact f6 sg b' v d g1 g2 g3 g4
      · simp (disch := omega) only [L_0, L_1, L_2, L_3, L_4, L_5, L_6, L_7, L_8, L_9, L_10, L_11, L_12, L_13, L_14, L_15, L_16, L_17, L_18, L_19, L_20, L_21, L_22, L_23, L_24, L_25, L_26, L_27, L_28, L_29, L_30, L_31, L_32, L_33, L_34, L_35, L_40, L_41, L_42, L_43, L_44, L_45, L_47, L_48, L_50, L_53, L_57, L_59, L_60, L_61, L_63, L_64, L_97, L_100, L_101, L_102, L_103, L_122, L_130, L_216, L_255, L_364, L_400, L_402, L_420, L_728, L_768, L_999, L_1000, L_1093, L_1872, L_2000, L_9999, L_12345, L_252645135, L_858993459, L_1103515245, L_1431655765, Lm_1, Lm_2, Lm_8, N_zero, N_cast, N_add, N_mul, N_sub, N_addM, N_lt_tp, N_lt_fp, N_le_tp, N_le_fp, N_eq_tp, N_eq_fp, MN_ltp, MN_lep, NM_ltp, NM_lep, NM_eqp, MN_eqp, MM_lt_tp, MM_lt_fp, MM_le_tp, MM_le_fp, MM_eq_tp, MM_eq_fp, N_cl, N_in_t, N_in_f, M_in, N_div, N_rem, N_nb0, N_nb1, cond_true, cond_false, Bool.not_true, Bool.not_false, Bool.and_true, Bool.true_and, Bool.and_false, Bool.false_and, decide_true, decide_false, Option.bind_some, Option.bind_none, g, d15, d51]
        refine ih (j + 1) x1 (by omega) F (fun i hi => ?_)
        by_cases ij : i = j
        · subst ij
          intro h51
          exfalso
          rw [h8] at h51
          exact t6 (N_inj (by omega) (by decide) h51)
        · exact D i (by omega)
  rw [q_Plan_reckonLaws_eq]
  exact key n 0 x (Nat.zero_add _) (FY_refl q x) (fun i hi => absurd hi (Nat.not_lt_zero i))
theorem CodM_agl {m m1 : wb_H} (hs : s < 2) (A : Agl s m m1) : ∀ {cs : CL} {y : Nat}, 420 * s ≤ y → y + cs.length ≤ 420 * s + 420 → CodM m y cs → CodM m1 y cs
  | [], _, _, _, _ => trivial
  | c :: cs, y, h1, h2, h => by
    rw [List.length_cons] at h2
    exact ⟨⟨(A 90 rfl y (by unfold sdI; omega)).trans h.1.1, (A 91 rfl y (by unfold sdI; omega)).trans h.1.2⟩, CodM_agl hs A (cs := cs) (by omega) (by omega) h.2⟩
theorem LwM_of {Y : Nat} {x m m1 : wb_H} (hs : s < 2) (A : Agl s m m1) (hY : Y ≤ 420 * s + 420) : ∀ {l : List (CL × (CL × CL))} {z b z' b' : Nat}, 130 * s ≤ b → b' ≤ 130 * s + 130 → LawC q Y x m l z b z' b' → LwM m1 l b
  | [], _, _, _, _, _, _, _ => trivial
  | c :: r, z, b, z', b', h1, h2, h => by
    have bl := (LawC_le1 h.2).2
    obtain ⟨⟨y, S1, S2, S3, -, -, -, c85, c86, c87, c88, c89, yY, yl⟩, h'⟩ := h
    have y420 : 420 * s ≤ y := by omega
    have e : ∀ t, wb_mem t [78, 79, 85, 86, 87, 88, 89, 90, 91] = true → 85 ≤ t → t ≤ 89 → m1.1 t 0 b = m.1 t 0 b := fun t ht h3 h4 => A t ht b (by unfold sdI; omega)
    exact ⟨⟨y, ⟨CodM_agl hs A y420 (by omega) S1.2.1, S1.2.2⟩, ⟨CodM_agl hs A (by omega) (by omega) S2.2.1, S2.2.2⟩, ⟨CodM_agl hs A (by omega) (by omega) S3.2.1, S3.2.2⟩, (e 85 rfl (by decide) (by decide)).trans c85, (e 86 rfl (by decide) (by decide)).trans c86, (e 87 rfl (by decide) (by decide)).trans c87, (e 88 rfl (by decide) (by decide)).trans c88, (e 89 rfl (by decide) (by decide)).trans c89, by omega⟩, LwM_of hs A hY (by omega) h2 h'⟩
theorem LsM_of {Y z b : Nat} {t : CL} {x m m1 : wb_H} (hs : s < 2) (A : Agl s m m1) (hY : Y ≤ 420 * s + 420) (h1 : 130 * s ≤ b) (h2 : b < 130 * s + 130) (h : Lst q Y x m z b t) : LsM m1 b t := by
  obtain ⟨y, S, -, c85, c88, c89, yY, yl⟩ := h
  have y420 : 420 * s ≤ y := by omega
  have e : ∀ t, wb_mem t [78, 79, 85, 86, 87, 88, 89, 90, 91] = true → 85 ≤ t → t ≤ 89 → m1.1 t 0 b = m.1 t 0 b := fun t ht h3 h4 => A t ht b (by unfold sdI; omega)
  exact ⟨y, ⟨CodM_agl hs A y420 (by omega) S.2.1, S.2.2⟩, (e 85 rfl (by decide) (by decide)).trans c85, (e 88 rfl (by decide) (by decide)).trans c88, (e 89 rfl (by decide) (by decide)).trans c89, by omega⟩
/-- what is told, as it stands in the class -/
noncomputable def tOf (q n : Nat) (x : wb_H) : wT := ((n, (x.1 15 q 7).toNatClampNeg), (((x.1 15 q 8).toNatClampNeg, ((x.1 15 q 9).toNatClampNeg, ((x.1 15 q 10).toNatClampNeg, (x.1 15 q 11).toNatClampNeg))), (((fun i => (x.1 49 q i).toNatClampNeg), ((fun i => (x.1 50 q i).toNatClampNeg), ((fun i => (x.1 51 q i).toNatClampNeg), fun i => (x.1 52 q i).toNatClampNeg))), fun i sg b u d => if x.1 46 q (idx i sg b u d) = nN 1 then 1 else 0)))
theorem gt0_le (v : Int32) : gt0 v ≤ 1 := by
  unfold gt0
  split <;> omega
theorem tlw_gt {c : Int32} {v : Int32} (h : c = nN (gt0 v)) : nN (if c = nN 1 then 1 else 0) = nN (gt0 v) := by
  have l := gt0_le v
  rcases (show gt0 v = 0 ∨ gt0 v = 1 by omega) with e | e
  · rw [h, e, if_neg (by decide)]
  · rw [h, e, if_pos rfl]
/-- the text's end: what is told stands in both -/
theorem told_both {n z y b : Nat} {x m x' m' : wb_H} (hq : q < 2) (hs : s < 2) (hn : n ≤ 6) (c15 : x.1 15 q 0 = nN n) (c73 : m.1 73 0 s = nN n) (HR : ∀ i, i < n → HouseR q s 0 y z b x m i) (SR : SetR q s 0 x m) (hY : y ≤ 420 * s + 420) (hB : b ≤ 130 * s + 130) (F : FY q x x') (D : ∀ i, i < n → LawDone q s y z b x m i x') (G : ∀ t k, (73 ≤ t ∧ t ≤ 91) → m'.1 t 0 k = m.1 t 0 k) (c18 : m'.1 21 0 18 = nN s) : T_ok (tOf q n x') ∧ XT x' q (tOf q n x') ∧ MT m' s (tOf q n x') := by
  have fx : ∀ t k, t ≠ 44 → t ≠ 45 → t ≠ 46 → x'.1 t q k = x.1 t q k := fun t k h4 h5 h6 => FY_i F h4 h5 h6
  obtain ⟨vB, b1, b2, b3, b4⟩ := SR 0 (by decide)
  obtain ⟨vF, f1, f2, f3, f4⟩ := SR 1 (by decide)
  obtain ⟨vO, o1, o2, o3, o4⟩ := SR 2 (by decide)
  obtain ⟨vP, p1, p2, p3, p4⟩ := SR 3 (by decide)
  obtain ⟨vS, s1, s2, s3, s4⟩ := SR 4 (by decide)
  have b4' : vB ≤ 10 := b4 rfl
  have f4' : vF ≤ 30 := f4 rfl
  have o4' : vO ≤ 30 := o4 rfl
  have p4' : vP ≤ 999 := p4 rfl
  have s4' : vS ≤ 9999 := s4 rfl
  have b2' : x'.1 15 q 7 = nN vB := (fx 15 7 (by decide) (by decide) (by decide)).trans b2
  have f2' : x'.1 15 q 8 = nN vF := (fx 15 8 (by decide) (by decide) (by decide)).trans f2
  have o2' : x'.1 15 q 9 = nN vO := (fx 15 9 (by decide) (by decide) (by decide)).trans o2
  have p2' : x'.1 15 q 10 = nN vP := (fx 15 10 (by decide) (by decide) (by decide)).trans p2
  have s2' : x'.1 15 q 11 = nN vS := (fx 15 11 (by decide) (by decide) (by decide)).trans s2
  have eB : tB (tOf q n x') = vB := by show (x'.1 15 q 7).toNatClampNeg = vB; rw [b2', N_cl (by omega)]
  have eF : tF (tOf q n x') = vF := by show (x'.1 15 q 8).toNatClampNeg = vF; rw [f2', N_cl (by omega)]
  have eO : tO (tOf q n x') = vO := by show (x'.1 15 q 9).toNatClampNeg = vO; rw [o2', N_cl (by omega)]
  have eP : tP (tOf q n x') = vP := by show (x'.1 15 q 10).toNatClampNeg = vP; rw [p2', N_cl (by omega)]
  have eS : tS (tOf q n x') = vS := by show (x'.1 15 q 11).toNatClampNeg = vS; rw [s2', N_cl (by omega)]
  have en : tn (tOf q n x') = n := rfl
  have house : ∀ i, i < n → ∃ u e t, u ≤ 10 ∧ e ≤ 6 ∧ t ≤ 6 ∧ tsu (tOf q n x') i = u ∧ tse (tOf q n x') i = e ∧ tht (tOf q n x') i = t ∧ x'.1 49 q i = nN u ∧ m'.1 74 0 (6 * s + i) = nN u ∧ x'.1 50 q i = nN e ∧ m'.1 75 0 (6 * s + i) = nN e ∧ x'.1 51 q i = nN t ∧ m'.1 76 0 (6 * s + i) = nN t ∧ (t = 3 → ∃ j, j < i ∧ tmo (tOf q n x') i = j ∧ x'.1 52 q i = nN j ∧ m'.1 77 0 (6 * s + i) = nN j) ∧ x.1 51 q i = nN t := by
    intro i hi
    obtain ⟨u, e, t, h1, h2, h3, h4, h5, h6, h7, h8, h9, h10, h11, h12⟩ := HR i hi
    obtain ⟨u10, e6, h3'⟩ := h11 rfl
    have g4 : x'.1 49 q i = nN u := (fx 49 i (by decide) (by decide) (by decide)).trans h4
    have g6 : x'.1 50 q i = nN e := (fx 50 i (by decide) (by decide) (by decide)).trans h6
    have g8 : x'.1 51 q i = nN t := (fx 51 i (by decide) (by decide) (by decide)).trans h8
    refine ⟨u, e, t, u10, e6, h3, ?_, ?_, ?_, g4, (G 74 _ (by decide)).trans h5, g6, (G 75 _ (by decide)).trans h7, g8, (G 76 _ (by decide)).trans h9, fun t3 => ?_, h8⟩
    · show (x'.1 49 q i).toNatClampNeg = u
      rw [g4, N_cl (by omega)]
    · show (x'.1 50 q i).toNatClampNeg = e
      rw [g6, N_cl (by omega)]
    · show (x'.1 51 q i).toNatClampNeg = t
      rw [g8, N_cl (by omega)]
    · obtain ⟨j, j1, j2, j3⟩ := h3' t3
      have g52 : x'.1 52 q i = nN j := (fx 52 i (by decide) (by decide) (by decide)).trans j2
      refine ⟨j, j1, ?_, g52, (G 77 _ (by decide)).trans j3⟩
      show (x'.1 52 q i).toNatClampNeg = j
      rw [g52, N_cl (by omega)]
  refine ⟨⟨hn, by omega, by omega, by omega, by omega, by omega, fun i hi => ?_, fun i hi => ?_, fun i hi => ?_, fun i hi h3 => ?_, fun i sg b u d => ?_⟩, ⟨hq, ?_, ?_, ?_, ?_, ?_, ?_, fun i hi => ?_, fun i hi => ?_, fun i hi => ?_, fun i hi h3 => ?_, fun i sg b u d hi h6 g1 g2 g3 g4 => ?_⟩, ⟨by omega, c18, ?_, ?_, ?_, ?_, ?_, ?_, fun i hi => ?_, fun i hi => ?_, fun i hi => ?_, fun i hi h3 => ?_, fun sc i sg b u d hi h6 g1 g2 g3 g4 m1 A k0 k1 k2 k3 k4 k5 k6 k46 => ?_⟩⟩
  · obtain ⟨u, e, t, a1, a2, a3, a4, -⟩ := house i hi
    rw [a4]; exact a1
  · obtain ⟨u, e, t, a1, a2, a3, a4, a5, -⟩ := house i hi
    rw [a5]; exact a2
  · obtain ⟨u, e, t, a1, a2, a3, a4, a5, a6, -⟩ := house i hi
    rw [a6]; exact a3
  · obtain ⟨u, e, t, a1, a2, a3, a4, a5, a6, a7, a8, a9, a10, a11, a12, a13, -⟩ := house i hi
    obtain ⟨j, j1, j2, -⟩ := a13 (a6.symm.trans h3)
    have : i < n := hi
    show tmo (tOf q n x') i < n
    omega
  · show (if x'.1 46 q (idx i sg b u d) = nN 1 then 1 else 0) ≤ 1
    split <;> omega
  · exact (fx 15 0 (by decide) (by decide) (by decide)).trans c15
  · rw [eB]; exact b2'
  · rw [eF]; exact f2'
  · rw [eO]; exact o2'
  · rw [eP]; exact p2'
  · rw [eS]; exact s2'
  · obtain ⟨u, e, t, a1, a2, a3, a4, a5, a6, a7, -⟩ := house i hi
    rw [a4]; exact a7
  · obtain ⟨u, e, t, a1, a2, a3, a4, a5, a6, a7, a8, a9, -⟩ := house i hi
    rw [a5]; exact a9
  · obtain ⟨u, e, t, a1, a2, a3, a4, a5, a6, a7, a8, a9, a10, a11, -⟩ := house i hi
    rw [a6]; exact a11
  · obtain ⟨u, e, t, a1, a2, a3, a4, a5, a6, a7, a8, a9, a10, a11, a12, a13, -⟩ := house i hi
    obtain ⟨j, j1, j2, j3, -⟩ := a13 (a6.symm.trans h3)
    rw [j2]; exact j3
  · obtain ⟨u', e, t, a1, a2, a3, a4, a5, a6, a7, a8, a9, a10, a11, a12, a13, a14⟩ := house i hi
    have t6 : t = 6 := a6.symm.trans h6
    subst t6
    obtain ⟨z0, b0, brs, tt, zf, u1, e1, -, d1, d2, d3, d4, d5⟩ := D i hi a14
    have ee : e1 = e := N_inj (by omega) (by omega) (d3.symm.trans ((fx 50 i (by decide) (by decide) (by decide)).symm.trans a9))
    rw [a5] at g3
    have v := d5 sg b u d g1 g2 (by omega) g4
    show x'.1 46 q (idx i sg b u d) = nN (if x'.1 46 q (idx i sg b u d) = nN 1 then 1 else 0)
    rw [tlw_gt v]
    exact v
  · exact (G 73 _ (by decide)).trans c73
  · rw [eB]; exact (G 80 _ (by decide)).trans b3
  · rw [eF]; exact (G 81 _ (by decide)).trans f3
  · rw [eO]; exact (G 82 _ (by decide)).trans o3
  · rw [eP]; exact (G 83 _ (by decide)).trans p3
  · rw [eS]; exact (G 84 _ (by decide)).trans s3
  · obtain ⟨u, e, t, a1, a2, a3, a4, a5, a6, a7, a8, -⟩ := house i hi
    rw [a4]; exact a8
  · obtain ⟨u, e, t, a1, a2, a3, a4, a5, a6, a7, a8, a9, a10, -⟩ := house i hi
    rw [a5]; exact a10
  · obtain ⟨u, e, t, a1, a2, a3, a4, a5, a6, a7, a8, a9, a10, a11, a12, -⟩ := house i hi
    rw [a6]; exact a12
  · obtain ⟨u, e, t, a1, a2, a3, a4, a5, a6, a7, a8, a9, a10, a11, a12, a13, -⟩ := house i hi
    obtain ⟨j, j1, j2, j3, j4⟩ := a13 (a6.symm.trans h3)
    rw [j2]; exact j4
  · obtain ⟨u', e, t, a1, a2, a3, a4, a5, a6, a7, a8, a9, a10, a11, a12, a13, a14⟩ := house i hi
    have t6 : t = 6 := a6.symm.trans h6
    subst t6
    obtain ⟨z0, b0, brs, tt, zf, u1, e1, ⟨l1, l2, l3, l4, l5, l7, l8⟩, d1, d2, d3, d4, d5⟩ := D i hi a14
    have ee : e1 = e := N_inj (by omega) (by omega) (d3.symm.trans ((fx 50 i (by decide) (by decide) (by decide)).symm.trans a9))
    have uu : u1 = u' := N_inj (by omega) (by omega) (d1.symm.trans ((fx 49 i (by decide) (by decide) (by decide)).symm.trans a7))
    subst ee uu
    rw [a5] at g3 k3
    rw [a4] at k4
    have hi' : i < n := hi
    have AG : Agl s m m1 := fun t ht k e => (A t ht k e).trans (G t k (by unfold sdI at e; omega))
    have c78 : m'.1 78 0 (6 * s + i) = nN b0 := (G 78 _ (by decide)).trans l2
    have c79 : m1.1 79 0 (6 * s + i) = nN (b0 + brs.length + 1) := (AG 79 rfl _ (by unfold sdI; omega)).trans l3
    have d78 : m1.1 78 0 (6 * s + i) = nN b0 := (AG 78 rfl _ (by unfold sdI; omega)).trans l2
    rw [d78]
    have v93 : ∀ j, j < 7 → m1.1 93 0 j = vrs sg b u e1 u1 i d j := by
      intro j hj
      rcases (show j = 0 ∨ j = 1 ∨ j = 2 ∨ j = 3 ∨ j = 4 ∨ j = 5 ∨ j = 6 by omega) with r | r | r | r | r | r | r <;> subst r
      · exact k0
      · exact k1
      · exact k2
      · exact k3
      · exact k4
      · exact k5
      · exact k6
    refine Ok_w (M_law (sc := sc) (show 6 * s + i < 12 by omega) brs tt b0 m1 v93 (LwM_of hs AG hY l8 (by omega) l4) (LsM_of hs AG hY (by omega) (by omega) l5) c79 (by omega) k46) ?_
    rintro r ⟨er, Fr⟩
    refine ⟨?_, Fr⟩
    have v := d5 sg b u d g1 g2 (by omega) g4
    rw [er]
    show nN _ = nN (if x'.1 46 q (idx i sg b u d) = nN 1 then 1 else 0)
    rw [tlw_gt v]
end
