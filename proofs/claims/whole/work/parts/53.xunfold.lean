/-! The class's evening: unfolded. -/
theorem D_le {A : wa} (hA : wa_ok A) (R : Nat) {p : Nat} (hp : p ≤ an A) {c : Nat} (hc : c ≤ 1) : sm (3 ^ p) (wcol c (dpr A R p)) ≤ 10000000 := by
  have h := tt_part hc (rr_lt hA R p) (tt_rr hA R p hp) (fun _ => True)
  simp only [and_true, if_true] at h
  have h2 : sm (nw A) (fun w => if tb w 0 = c then wt A w else 0) ≤ 10000000 := sm_wt_le hA (fun w => tb w 0 = c) (Nat.le_refl _)
  rw [h] at h2
  exact Nat.le_trans (Nat.le_mul_of_pos_right _ (Nat.pow_pos (by decide))) h2
section
variable {sc : wb_X} {q R : Nat} {A : wa}
def b1c (A : wa) (D : wD) (p r : Nat) : Nat := abin A (wzD A D p) p 1 r
def b0c (A : wa) (D : wD) (p r : Nat) : Nat := abin A (wzD A D p) p 0 r
def wrc (A : wa) (D : wD) (p r : Nat) : Nat := (D.1 r * ((if b1c A D p r = 0 then asu A (aho A p) else 0) + (if b0c A D p r = 0 then 10 - asu A (aho A p) else 0)) + D.2 r * ((if b1c A D p r = 1 then 10 - asu A (aho A p) else 0) + (if b0c A D p r = 1 then asu A (aho A p) else 0))) * beh A p
def boc (A : wa) (D : wD) (p r : Nat) : Nat := (D.1 r * ((if b1c A D p r = 2 then asu A (aho A p) else 0) + (if b0c A D p r = 2 then 10 - asu A (aho A p) else 0)) + D.2 r * ((if b1c A D p r = 2 then 10 - asu A (aho A p) else 0) + (if b0c A D p r = 2 then asu A (aho A p) else 0))) * beh A p
theorem wrc_sum (A : wa) (D : wD) (p : Nat) : sm (3 ^ p) (wrc A D p) = (bw A D p 1 0 + bw A D p 0 1) * beh A p := by
  unfold bw
  rw [← sm_add, ← sm_mul']
  rfl
theorem boc_sum (A : wa) (D : wD) (p : Nat) : sm (3 ^ p) (boc A D p) = (bw A D p 1 2 + bw A D p 0 2) * beh A p := by
  unfold bw
  rw [← sm_add, ← sm_mul']
  rfl
def inS (h0 h : wb_H) (A : wa) (D : wD) (p j : Nat) : Prop := Fr [32, 33, 36, 3012] h0 h ∧ (∀ x, x < 3 ^ (p + 1) → h.1 32 0 (rf (p + 1) + x) = nN (if x % 3 ^ p < j then (dstep A D p).1 x else 0)) ∧ (∀ x, x < 3 ^ (p + 1) → h.1 33 0 (rf (p + 1) + x) = nN (if x % 3 ^ p < j then (dstep A D p).2 x else 0)) ∧
  (∀ x, x < rf (p + 1) ∨ rf (p + 2) ≤ x → h.1 32 0 x = h0.1 32 0 x ∧ h.1 33 0 x = h0.1 33 0 x) ∧ (∀ i, h.1 36 0 i = if i = aho A p then h0.1 36 0 i + nN (sm j (wrc A D p)) else h0.1 36 0 i) ∧ h.1 11 0 12 = h0.1 11 0 12 + nN (sm j (boc A D p))
theorem row_eq {p x j b : Nat} (hj : j < 3 ^ p) (e : x % 3 ^ p = j) : (x = j + b * 3 ^ p) ↔ b = x / 3 ^ p := by
  have h := row_split (p := p) (x := j) (b := b) (r := x) hj
  rw [Nat.mul_comm b, eq_comm, h]
  exact ⟨fun a => a.1, fun a => ⟨a, e.symm⟩⟩
theorem row_ne {p x j b : Nat} (hj : j < 3 ^ p) (e : x % 3 ^ p ≠ j) : x ≠ j + b * 3 ^ p := by
  rintro rfl
  apply e
  rw [Nat.mul_comm, Nat.add_mul_mod_self_left, Nat.mod_eq_of_lt hj]
theorem N_add3 (a b c : Nat) : nN a + nN b + nN c = nN (a + b + c) := by rw [N_add, N_add]
theorem X_spread_L (hA : wa_ok A) {h0 : wb_H} {D : wD} {p : Nat} (hX : XA h0 q A) (hp : p < an A) (hS : ahb A (aho A p) = 4 → XS h0 A D p) (hD : ∀ c, c ≤ 1 → sm (3 ^ p) (wcol c D) ≤ 10000000) (g1 : ∀ r, r < 3 ^ p → h0.1 32 0 (rf p + r) = nN (D.1 r)) (g2 : ∀ r, r < 3 ^ p → h0.1 33 0 (rf p + r) = nN (D.2 r)) :
    ∀ k j, j + k = 3 ^ p → ∀ h, inS h0 h A D p j → Ok (q_Evening_spread_L27 sc h (nN p) (nN (asu A (aho A p))) (nN (10 - asu A (aho A p))) (nN (rf p)) (nN j)) (fun h' => inS h0 h' A D p (3 ^ p)) := by
  have h6 := hA.1
  have hh := hA.2.2.2.1 p hp
  have hsu := hA.2.2.2.2.1 _ hh.1
  have c1 := pow3_le p (by omega)
  have c2 := rf_succ p (by omega)
  have c3 := rf_succ (p + 1) (by omega)
  have c4 := rf_le (p + 1 + 1) (by omega) 7 (by omega) (by omega)
  have c5 := pow3_pos p
  have c6 : 3 ^ (p + 1) = 3 ^ p * 3 := Nat.pow_succ 3 p
  rw [rf_7] at c4
  intro k
  induction k with
  | zero =>
    intro j hj h I
    rw [Nat.add_zero] at hj
    subst hj
    rw [q_Evening_spread_L27_eq]
    simp (disch := omega) only [L_0, L_1, L_2, L_3, L_4, L_5, L_6, L_7, L_8, L_9, L_10, L_11, L_12, L_13, L_14, L_15, L_16, L_17, L_18, L_19, L_20, L_21, L_22, L_23, L_24, L_25, L_26, L_27, L_28, L_29, L_30, L_31, L_32, L_33, L_34, L_35, L_40, L_41, L_42, L_43, L_44, L_45, L_47, L_48, L_50, L_53, L_57, L_59, L_60, L_61, L_63, L_64, L_97, L_100, L_101, L_102, L_103, L_122, L_130, L_216, L_255, L_364, L_400, L_402, L_420, L_728, L_768, L_999, L_1000, L_1093, L_1872, L_2000, L_9999, L_12345, L_252645135, L_858993459, L_1103515245, L_1431655765, Lm_1, Lm_2, Lm_8, N_zero, N_cast, N_add, N_mul, N_sub, N_addM, N_lt_tp, N_lt_fp, N_le_tp, N_le_fp, N_eq_tp, N_eq_fp, MN_ltp, MN_lep, NM_ltp, NM_lep, NM_eqp, MN_eqp, MM_lt_tp, MM_lt_fp, MM_le_tp, MM_le_fp, MM_eq_tp, MM_eq_fp, N_cl, N_in_t, N_in_f, M_in, N_div, N_rem, N_nb0, N_nb1, cond_true, cond_false, Bool.not_true, Bool.not_false, Bool.and_true, Bool.true_and, Bool.and_false, Bool.false_and, decide_true, decide_false, Option.bind_some, Option.bind_none, t3_1, t3_2]
    exact Ok_some I
  | succ k ih =>
    intro j hj h I
    obtain ⟨I1, I2, I3, I4, I5, I6⟩ := I
    have hj3 : j < 3 ^ p := by omega
    have l1 : D.1 j ≤ 10000000 := Nat.le_trans (sm_mem (n := 3 ^ p) (f := D.1) hj3) (hD 1 (by decide))
    have l2 : D.2 j ≤ 10000000 := Nat.le_trans (sm_mem (n := 3 ^ p) (f := D.2) hj3) (hD 0 (by decide))
    have e1 : h.1 32 0 (rf p + j) = nN (D.1 j) := (I4 _ (Or.inl (by omega))).1.trans (g1 j hj3)
    have e2 : h.1 33 0 (rf p + j) = nN (D.2 j) := (I4 _ (Or.inl (by omega))).2.trans (g2 j hj3)
    have hjm : j % 3 ^ p = j := Nat.mod_eq_of_lt hj3
    rw [q_Evening_spread_L27_eq]
    simp (disch := omega) only [L_0, L_1, L_2, L_3, L_4, L_5, L_6, L_7, L_8, L_9, L_10, L_11, L_12, L_13, L_14, L_15, L_16, L_17, L_18, L_19, L_20, L_21, L_22, L_23, L_24, L_25, L_26, L_27, L_28, L_29, L_30, L_31, L_32, L_33, L_34, L_35, L_40, L_41, L_42, L_43, L_44, L_45, L_47, L_48, L_50, L_53, L_57, L_59, L_60, L_61, L_63, L_64, L_97, L_100, L_101, L_102, L_103, L_122, L_130, L_216, L_255, L_364, L_400, L_402, L_420, L_728, L_768, L_999, L_1000, L_1093, L_1872, L_2000, L_9999, L_12345, L_252645135, L_858993459, L_1103515245, L_1431655765, Lm_1, Lm_2, Lm_8, N_zero, N_cast, N_add, N_mul, N_sub, N_addM, N_lt_tp, N_lt_fp, N_le_tp, N_le_fp, N_eq_tp, N_eq_fp, MN_ltp, MN_lep, NM_ltp, NM_lep, NM_eqp, MN_eqp, MM_lt_tp, MM_lt_fp, MM_le_tp, MM_le_fp, MM_eq_tp, MM_eq_fp, N_cl, N_in_t, N_in_f, M_in, N_div, N_rem, N_nb0, N_nb1, cond_true, cond_false, Bool.not_true, Bool.not_false, Bool.and_true, Bool.true_and, Bool.and_false, Bool.false_and, decide_true, decide_false, Option.bind_some, Option.bind_none, t3_1, t3_2, e1, e2]
    by_cases hz : D.1 j + D.2 j = 0
    · have z1 : D.1 j = 0 := by omega
      have z2 : D.2 j = 0 := by omega
      rw [hz]
      simp (disch := omega) only [L_0, L_1, L_2, L_3, L_4, L_5, L_6, L_7, L_8, L_9, L_10, L_11, L_12, L_13, L_14, L_15, L_16, L_17, L_18, L_19, L_20, L_21, L_22, L_23, L_24, L_25, L_26, L_27, L_28, L_29, L_30, L_31, L_32, L_33, L_34, L_35, L_40, L_41, L_42, L_43, L_44, L_45, L_47, L_48, L_50, L_53, L_57, L_59, L_60, L_61, L_63, L_64, L_97, L_100, L_101, L_102, L_103, L_122, L_130, L_216, L_255, L_364, L_400, L_402, L_420, L_728, L_768, L_999, L_1000, L_1093, L_1872, L_2000, L_9999, L_12345, L_252645135, L_858993459, L_1103515245, L_1431655765, Lm_1, Lm_2, Lm_8, N_zero, N_cast, N_add, N_mul, N_sub, N_addM, N_lt_tp, N_lt_fp, N_le_tp, N_le_fp, N_eq_tp, N_eq_fp, MN_ltp, MN_lep, NM_ltp, NM_lep, NM_eqp, MN_eqp, MM_lt_tp, MM_lt_fp, MM_le_tp, MM_le_fp, MM_eq_tp, MM_eq_fp, N_cl, N_in_t, N_in_f, M_in, N_div, N_rem, N_nb0, N_nb1, cond_true, cond_false, Bool.not_true, Bool.not_false, Bool.and_true, Bool.true_and, Bool.and_false, Bool.false_and, decide_true, decide_false, Option.bind_some, Option.bind_none]
      refine ih (j + 1) (by omega) h ⟨I1, ?_, ?_, I4, ?_, ?_⟩
      · intro x hx
        rw [I2 x hx]
        by_cases t : x % 3 ^ p = j
        · rw [if_neg (by omega), if_pos (by omega)]
          unfold dstep
          simp only [t, z1, Nat.zero_mul]
        · by_cases t2 : x % 3 ^ p < j
          · rw [if_pos t2, if_pos (by omega)]
          · rw [if_neg t2, if_neg (by omega)]
      · intro x hx
        rw [I3 x hx]
        by_cases t : x % 3 ^ p = j
        · rw [if_neg (by omega), if_pos (by omega)]
          unfold dstep
          simp only [t, z2, Nat.zero_mul]
        · by_cases t2 : x % 3 ^ p < j
          · rw [if_pos t2, if_pos (by omega)]
          · rw [if_neg t2, if_neg (by omega)]
      · intro i
        rw [I5 i, show sm (j + 1) (wrc A D p) = sm j (wrc A D p) by
          rw [sm, show wrc A D p j = 0 by unfold wrc; simp only [z1, z2, Nat.zero_mul, Nat.add_zero], Nat.add_zero]]
      · rw [I6, show sm (j + 1) (boc A D p) = sm j (boc A D p) by
          rw [sm, show boc A D p j = 0 by unfold boc; simp only [z1, z2, Nat.zero_mul, Nat.add_zero], Nat.add_zero]]
    · have hS1 : ahb A (aho A p) = 4 → XS h A D p := fun e => ⟨fun i hi => (Fr_i I1 (by rfl)).trans ((hS e).1 i hi), fun i hi => (Fr_i I1 (by rfl)).trans ((hS e).2 i hi)⟩
      have X1 := XA_fr I1 rfl hX
      simp (disch := omega) only [L_0, L_1, L_2, L_3, L_4, L_5, L_6, L_7, L_8, L_9, L_10, L_11, L_12, L_13, L_14, L_15, L_16, L_17, L_18, L_19, L_20, L_21, L_22, L_23, L_24, L_25, L_26, L_27, L_28, L_29, L_30, L_31, L_32, L_33, L_34, L_35, L_40, L_41, L_42, L_43, L_44, L_45, L_47, L_48, L_50, L_53, L_57, L_59, L_60, L_61, L_63, L_64, L_97, L_100, L_101, L_102, L_103, L_122, L_130, L_216, L_255, L_364, L_400, L_402, L_420, L_728, L_768, L_999, L_1000, L_1093, L_1872, L_2000, L_9999, L_12345, L_252645135, L_858993459, L_1103515245, L_1431655765, Lm_1, Lm_2, Lm_8, N_zero, N_cast, N_add, N_mul, N_sub, N_addM, N_lt_tp, N_lt_fp, N_le_tp, N_le_fp, N_eq_tp, N_eq_fp, MN_ltp, MN_lep, NM_ltp, NM_lep, NM_eqp, MN_eqp, MM_lt_tp, MM_lt_fp, MM_le_tp, MM_le_fp, MM_eq_tp, MM_eq_fp, N_cl, N_in_t, N_in_f, M_in, N_div, N_rem, N_nb0, N_nb1, cond_true, cond_false, Bool.not_true, Bool.not_false, Bool.and_true, Bool.true_and, Bool.and_false, Bool.false_and, decide_true, decide_false, Option.bind_some, Option.bind_none]
      rw [X_binAt hA X1 hp (by omega) (by decide) hS1 hD, hjm]
      simp only [Option.bind_some]
      have bb1 : abin A (wzD A D p) p 1 j ≤ 2 := abin_le hA (fun _ _ hs => wzD_le hs) (by decide)
      have bb0 : abin A (wzD A D p) p 0 j ≤ 2 := abin_le hA (fun _ _ hs => wzD_le hs) (by decide)
      refine Ok_bind (X_lay hA X1 hp hj3 bb1) ?_
      rintro h1 ⟨K1, K2, K3, K4, K5⟩
      have FF1 := Fr_trans I1 K1
      have X2 := XA_fr FF1 rfl hX
      have hS2 : ahb A (aho A p) = 4 → XS h1 A D p := fun e => ⟨fun i hi => (Fr_i FF1 (by rfl)).trans ((hS e).1 i hi), fun i hi => (Fr_i FF1 (by rfl)).trans ((hS e).2 i hi)⟩
      rw [X_binAt hA X2 hp (by omega) (by decide) hS2 hD, hjm]
      simp only [Option.bind_some]
      refine Ok_bind (X_lay hA X2 hp hj3 bb0) ?_
      rintro h2 ⟨J1, J2, J3, J4, J5⟩
      have e7 : b1c A D p j = abin A (wzD A D p) p 1 j := rfl
      have e8 : b0c A D p j = abin A (wzD A D p) p 0 j := rfl
      refine ih (j + 1) (by omega) h2 ⟨Fr_trans FF1 J1, ?_, ?_, ?_, ?_, ?_⟩
      · intro x hx
        rw [J2, K2, I2 x hx]
        have y1 : ∀ b, (rf (p + 1) + x = rf (p + 1) + j + b * 3 ^ p) ↔ x = j + b * 3 ^ p := fun b => by omega
        simp only [y1]
        by_cases t : x % 3 ^ p = j
        · rw [if_neg (show ¬ x % 3 ^ p < j by omega), if_pos (show x % 3 ^ p < j + 1 by omega)]
          simp only [row_eq hj3 t]
          unfold dstep
          simp only [t]
          generalize abin A (wzD A D p) p 1 j = u1
          generalize abin A (wzD A D p) p 0 j = u0
          by_cases k1 : u1 = x / 3 ^ p <;> by_cases k0 : u0 = x / 3 ^ p <;> simp only [k1, k0, if_true, if_false, N_add, Nat.zero_add, Nat.add_zero, Nat.mul_zero, Nat.mul_add]
        · simp only [if_neg (row_ne hj3 t)]
          by_cases t2 : x % 3 ^ p < j
          · rw [if_pos t2, if_pos (by omega)]
          · rw [if_neg t2, if_neg (by omega)]
      · intro x hx
        rw [J3, K3, I3 x hx]
        have y1 : ∀ b, (rf (p + 1) + x = rf (p + 1) + j + b * 3 ^ p) ↔ x = j + b * 3 ^ p := fun b => by omega
        simp only [y1]
        by_cases t : x % 3 ^ p = j
        · rw [if_neg (show ¬ x % 3 ^ p < j by omega), if_pos (show x % 3 ^ p < j + 1 by omega)]
          simp only [row_eq hj3 t]
          unfold dstep
          simp only [t]
          generalize abin A (wzD A D p) p 1 j = u1
          generalize abin A (wzD A D p) p 0 j = u0
          by_cases k1 : u1 = x / 3 ^ p <;> by_cases k0 : u0 = x / 3 ^ p <;> simp only [k1, k0, if_true, if_false, N_add, Nat.zero_add, Nat.add_zero, Nat.mul_zero, Nat.mul_add]
        · simp only [if_neg (row_ne hj3 t)]
          by_cases t2 : x % 3 ^ p < j
          · rw [if_pos t2, if_pos (by omega)]
          · rw [if_neg t2, if_neg (by omega)]
      · intro x hx
        have y1 : ∀ b, b ≤ 2 → x ≠ rf (p + 1) + j + b * 3 ^ p := fun b hb => by
          have : b * 3 ^ p ≤ 2 * 3 ^ p := Nat.mul_le_mul_right _ hb
          have c3' : rf (p + 2) = rf (p + 1) + 3 ^ (p + 1) := c3
          omega
        rw [J2, K2, J3, K3]
        simp only [if_neg (y1 _ bb1), if_neg (y1 _ bb0)]
        exact I4 x hx
      · intro i
        rw [J4, K4, I5, sm]
        by_cases t : i = aho A p
        · simp only [t, if_true, true_and]
          unfold wrc
          rw [e7, e8]
          generalize abin A (wzD A D p) p 1 j = u1 at *
          generalize abin A (wzD A D p) p 0 j = u0 at *
          rcases (show u1 = 0 ∨ u1 = 1 ∨ u1 = 2 by omega) with k1 | k1 | k1 <;> rcases (show u0 = 0 ∨ u0 = 1 ∨ u0 = 2 by omega) with k0 | k0 | k0 <;> subst k1 <;> subst k0 <;> simp only [ne_eq, not_true, not_false_eq_true, if_true, if_false, Nat.reduceEqDiff, reduceIte, Nat.zero_ne_one, Nat.one_ne_zero, Nat.add_zero, Nat.zero_add, Nat.mul_zero, Nat.zero_mul, Nat.mul_add, Nat.add_mul, Int32.add_assoc, N_add, Nat.add_assoc] <;> (try rw [Nat.add_comm (D.2 j * _ * _)]) <;> (try rfl)
        · have t1 : ∀ P : Prop, ¬ (i = aho A p ∧ P) := fun P z => t z.1
          simp only [if_neg t, if_neg (t1 _)]
      · rw [J5, K5, I6, sm]
        unfold boc
        rw [e7, e8]
        generalize abin A (wzD A D p) p 1 j = u1 at *
        generalize abin A (wzD A D p) p 0 j = u0 at *
        by_cases k1 : u1 = 2 <;> by_cases k0 : u0 = 2 <;> simp only [k1, k0, if_true, if_false, Nat.add_zero, Nat.zero_add, Nat.mul_zero, Nat.zero_mul, Nat.mul_add, Nat.add_mul, Int32.add_assoc, N_add, Nat.add_assoc] <;> (try (congr 2; omega))
end
