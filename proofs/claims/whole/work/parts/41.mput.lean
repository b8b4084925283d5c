/-! The reference's evening: what a house puts out. -/
theorem dg_mod {x p q : Nat} (h : q < p) : dg (x % 3 ^ p) q = dg x q := by
  have := dg_low (x := x % 3 ^ p) (b := x / 3 ^ p) h
  rw [Nat.mod_add_div] at this
  exact this.symm
theorem sk_sub (A : wa) (p : Nat) : p - sk A p = p - ase A (aho A p) := by unfold sk; omega
theorem sk_eq (A : wa) (p : Nat) : sk A p = p - (p - ase A (aho A p)) := by unfold sk; omega
theorem sm_congr' {n : Nat} {f g : Nat → Nat} (h : ∀ i, i < n → f i = g i) : sm n f = sm n g := sm_congr h
theorem seen_sq (A : wa) (p r b : Nat) : cd b (seen A p (r % 3 ^ p)) (sk A p) = sq r (p - ase A (aho A p)) (p - (p - ase A (aho A p))) b := by
  rw [cd_eq, sk_eq]
  unfold sq seen
  refine sm_congr fun q hq => ?_
  rw [sk_sub, dg_div, dg_mod (by omega)]
theorem seen_dg {A : wa} {p x y : Nat} : seen A p (x % 3 ^ p) = seen A p (y % 3 ^ p) ↔ ∀ q, q < p → p - ase A (aho A p) ≤ q → dg x q = dg y q := by
  unfold seen
  rw [sk_sub, seen_iff (Nat.sub_le _ _) (Nat.mod_lt _ (pow3_pos p)) (Nat.mod_lt _ (pow3_pos p))]
  constructor
  · intro h q h2 h1
    have := h q h1 h2
    rwa [dg_mod h2, dg_mod h2] at this
  · intro h q h1 h2
    rw [dg_mod h2, dg_mod h2]
    exact h q h2 h1
theorem abin_0 {A : wa} {wz : Nat → Nat → Nat} {p s r : Nat} (h : ahb A (aho A p) = 0) : abin A wz p s r = s := by unfold abin; rw [h]; rfl
theorem abin_1 {A : wa} {wz : Nat → Nat → Nat} {p s r : Nat} (h : ahb A (aho A p) = 1) : abin A wz p s r = if cd 1 (seen A p r) (sk A p) = cd 0 (seen A p r) (sk A p) then s else if cd 0 (seen A p r) (sk A p) < cd 1 (seen A p r) (sk A p) then 1 else 0 := by unfold abin; rw [h]; rfl
theorem abin_2 {A : wa} {wz : Nat → Nat → Nat} {p s r : Nat} (h : ahb A (aho A p) = 2) : abin A wz p s r = if p = 0 then s else one (r % 3) s := by unfold abin; rw [h]; rfl
theorem abin_3 {A : wa} {wz : Nat → Nat → Nat} {p s r : Nat} (h : ahb A (aho A p) = 3) : abin A wz p s r = if p ≤ apl A (amo A (aho A p)) then s else one (dg r (apl A (amo A (aho A p)))) s := by unfold abin; rw [h]; rfl
theorem abin_4 {A : wa} {wz : Nat → Nat → Nat} {p s r : Nat} (h : ahb A (aho A p) = 4) : abin A wz p s r = wz s r := by unfold abin; rw [h]; rfl
theorem abin_5 {A : wa} {wz : Nat → Nat → Nat} {p s r : Nat} (h : ahb A (aho A p) = 5) : abin A wz p s r = 2 := by unfold abin; rw [h]; rfl
theorem abin_6 {A : wa} {wz : Nat → Nat → Nat} {p s r : Nat} (h : ahb A (aho A p) = 6) : abin A wz p s r = alw A (aho A p) s (cd 1 (seen A p r) (sk A p)) (cd 0 (seen A p r) (sk A p)) (if p = 0 then 0 else if r % 3 = 1 then 2 else 1) := by unfold abin; rw [h]; rfl
theorem wt_le {A : wa} (hA : wa_ok A) {w : Nat} (hw : w < nw A) : wt A w ≤ 10000000 := by
  refine Nat.le_trans (sm_mem (n := nw A) (f := wt A) hw) ?_
  rw [wt_sum hA]
  exact Nat.pow_le_pow_right (n := 10) (by decide) (show an A + 1 ≤ 7 by have := hA.1; omega)
theorem sm_wt_le {A : wa} (hA : wa_ok A) (P : Nat → Prop) [DecidablePred P] {n : Nat} (hn : n ≤ nw A) : sm n (fun w => if P w then wt A w else 0) ≤ 10000000 := by
  have h1 : sm n (fun w => if P w then wt A w else 0) ≤ sm n (wt A) := sm_le fun i _ => by split <;> omega
  have h2 : sm n (wt A) ≤ sm (nw A) (wt A) := by
    rw [show nw A = n + (nw A - n) by omega, sm_split]
    exact Nat.le_add_right _ _
  refine Nat.le_trans h1 (Nat.le_trans h2 ?_)
  rw [wt_sum hA]
  exact Nat.pow_le_pow_right (n := 10) (by decide) (show an A + 1 ≤ 7 by have := hA.1; omega)
/-- what is seen in the worlds -/
def wlB (A : wa) (Q : Nat → Nat) (p g r c : Nat) (w : Nat) : Nat := if tb w 0 = c ∧ sg w (aho A p) = g ∧ seen A p (Q w % 3 ^ p) = seen A p (r % 3 ^ p) then wt A w else 0
theorem wlB_le {A : wa} (hA : wa_ok A) (Q : Nat → Nat) (p g r c : Nat) {n : Nat} (hn : n ≤ nw A) : sm n (wlB A Q p g r c) ≤ 10000000 := sm_wt_le hA (fun w => tb w 0 = c ∧ sg w (aho A p) = g ∧ seen A p (Q w % 3 ^ p) = seen A p (r % 3 ^ p)) hn
section
variable {sc : wb_X} {h : wb_H} {s l : Nat} {A : wa}
theorem M_wiseOf_L (hA : wa_ok A) (hM : MA h s l A) {i g r p : Nat} {Q : Nat → Nat} (hi : i < an A) (hp : apl A i = p) (hh : aho A p = i) (hg : g ≤ 1) (hr : ∀ p, p < 6 → h.1 99 0 p = nN (dg r p)) (hx : ∀ w, w < nw A → ∀ p, p < 6 → h.1 97 0 (6 * w + p) = nN (dg (Q w) p)) (hw : ∀ w, w < nw A → h.1 98 0 w = nN (wt A w)) :
    ∀ k j, j + k = nw A → q_M_wiseOf_L5 sc h (nN i) (nN g) (Int32.ofInt ((sm j (wlB A Q p g r 1) : Nat) - (sm j (wlB A Q p g r 0) : Nat) : Int)) (nN j) = some (nN (wzc g (sm (nw A) (wlB A Q p g r 1)) (sm (nw A) (wlB A Q p g r 0))), h) := by
  have h6 := hA.1
  have h128 := nw_le hA
  have h8 := hA.2.2.1 i hi
  intro k
  induction k with
  | zero =>
    intro j hj
    rw [Nat.add_zero] at hj
    subst hj
    rw [q_M_wiseOf_L5_eq, M_worlds hA hM, Option.bind_some]
    have b1 := wlB_le hA Q p g r 1 (Nat.le_refl (nw A))
    have b0 := wlB_le hA Q p g r 0 (Nat.le_refl (nw A))
    generalize sm (nw A) (wlB A Q p g r 1) = u at *
    generalize sm (nw A) (wlB A Q p g r 0) = v at *
    have e0 : (Int32.ofInt ((u : Nat) - (v : Nat) : Int) = Int32.ofInt 0) ↔ u = v := (iz_eq (by omega) (by omega) (by omega) (by omega)).trans (by omega)
    have e1 : (Int32.ofInt ((u : Nat) - (v : Nat) : Int) ≤ Int32.ofInt 0) ↔ u ≤ v := (iz_le (by omega) (by omega) (by omega) (by omega)).trans (by omega)
    simp only [N_le_t (Nat.le_refl (nw A)) (by omega), cond_true, e0, e1]
    unfold wzc
    by_cases q : u = v
    · rw [if_pos q]
      simp only [q, decide_true, Bool.not_true, cond_false, M_plainOf hg, Option.bind_some]
    · rw [if_neg q]
      by_cases q2 : v < u
      · rw [if_pos q2]
        simp only [q, decide_false, Bool.not_false, cond_true, show ¬ u ≤ v by omega, cond_false]
        rfl
      · rw [if_neg q2]
        simp only [q, decide_false, Bool.not_false, cond_true, show u ≤ v by omega, decide_true]
        rfl
  | succ k ih =>
    intro j hj
    have hjn : j < nw A := by omega
    have ih2 := ih (j + 1) (by omega)
    have g1 : sm (j + 1) (wlB A Q p g r 1) = sm j (wlB A Q p g r 1) + wlB A Q p g r 1 j := rfl
    have g0 : sm (j + 1) (wlB A Q p g r 0) = sm j (wlB A Q p g r 0) + wlB A Q p g r 0 j := rfl
    rw [g1, g0] at ih2
    have bw := wt_le hA hjn
    have fw := hw j hjn
    rw [q_M_wiseOf_L5_eq, M_worlds hA hM, Option.bind_some]
    by_cases q0 : wt A j = 0
    · have z1 : wlB A Q p g r 1 j = 0 := by unfold wlB; rw [q0]; split <;> rfl
      have z0 : wlB A Q p g r 0 j = 0 := by unfold wlB; rw [q0]; split <;> rfl
      rw [z1, z0, Nat.add_zero, Nat.add_zero] at ih2
      rw [q0] at fw
      simp (disch := omega) only [L_0, L_1, L_2, L_3, L_4, L_5, L_6, L_7, L_8, L_9, L_10, L_11, L_12, L_13, L_14, L_15, L_16, L_17, L_18, L_19, L_20, L_21, L_22, L_23, L_24, L_25, L_26, L_27, L_28, L_29, L_30, L_31, L_32, L_33, L_34, L_35, L_40, L_41, L_42, L_43, L_44, L_45, L_47, L_48, L_50, L_53, L_57, L_59, L_60, L_61, L_63, L_64, L_97, L_100, L_101, L_102, L_103, L_122, L_130, L_216, L_255, L_364, L_400, L_402, L_420, L_728, L_768, L_999, L_1000, L_1093, L_1872, L_2000, L_9999, L_12345, L_252645135, L_858993459, L_1103515245, L_1431655765, Lm_1, Lm_2, Lm_8, N_zero, N_cast, N_add, N_mul, N_sub, N_addM, N_lt_tp, N_lt_fp, N_le_tp, N_le_fp, N_eq_tp, N_eq_fp, MN_ltp, MN_lep, NM_ltp, NM_lep, NM_eqp, MN_eqp, MM_lt_tp, MM_lt_fp, MM_le_tp, MM_le_fp, MM_eq_tp, MM_eq_fp, N_cl, N_in_t, N_in_f, M_in, N_div, N_rem, N_nb0, N_nb1, cond_true, cond_false, Bool.not_true, Bool.not_false, Bool.and_true, Bool.true_and, Bool.and_false, Bool.false_and, decide_true, decide_false, Option.bind_some, Option.bind_none, fw]
      exact ih2
    · simp (disch := omega) only [L_0, L_1, L_2, L_3, L_4, L_5, L_6, L_7, L_8, L_9, L_10, L_11, L_12, L_13, L_14, L_15, L_16, L_17, L_18, L_19, L_20, L_21, L_22, L_23, L_24, L_25, L_26, L_27, L_28, L_29, L_30, L_31, L_32, L_33, L_34, L_35, L_40, L_41, L_42, L_43, L_44, L_45, L_47, L_48, L_50, L_53, L_57, L_59, L_60, L_61, L_63, L_64, L_97, L_100, L_101, L_102, L_103, L_122, L_130, L_216, L_255, L_364, L_400, L_402, L_420, L_728, L_768, L_999, L_1000, L_1093, L_1872, L_2000, L_9999, L_12345, L_252645135, L_858993459, L_1103515245, L_1431655765, Lm_1, Lm_2, Lm_8, N_zero, N_cast, N_add, N_mul, N_sub, N_addM, N_lt_tp, N_lt_fp, N_le_tp, N_le_fp, N_eq_tp, N_eq_fp, MN_ltp, MN_lep, NM_ltp, NM_lep, NM_eqp, MN_eqp, MM_lt_tp, MM_lt_fp, MM_le_tp, MM_le_fp, MM_eq_tp, MM_eq_fp, N_cl, N_in_t, N_in_f, M_in, N_div, N_rem, N_nb0, N_nb1, cond_true, cond_false, Bool.not_true, Bool.not_false, Bool.and_true, Bool.true_and, Bool.and_false, Bool.false_and, decide_true, decide_false, Option.bind_some, Option.bind_none, fw, M_signIn (show i < 6 by omega) (show j < 128 by omega)]
      have hsg := sg_le j i
      by_cases q1 : sg j i = g
      · rw [q1]
        simp (disch := omega) only [L_0, L_1, L_2, L_3, L_4, L_5, L_6, L_7, L_8, L_9, L_10, L_11, L_12, L_13, L_14, L_15, L_16, L_17, L_18, L_19, L_20, L_21, L_22, L_23, L_24, L_25, L_26, L_27, L_28, L_29, L_30, L_31, L_32, L_33, L_34, L_35, L_40, L_41, L_42, L_43, L_44, L_45, L_47, L_48, L_50, L_53, L_57, L_59, L_60, L_61, L_63, L_64, L_97, L_100, L_101, L_102, L_103, L_122, L_130, L_216, L_255, L_364, L_400, L_402, L_420, L_728, L_768, L_999, L_1000, L_1093, L_1872, L_2000, L_9999, L_12345, L_252645135, L_858993459, L_1103515245, L_1431655765, Lm_1, Lm_2, Lm_8, N_zero, N_cast, N_add, N_mul, N_sub, N_addM, N_lt_tp, N_lt_fp, N_le_tp, N_le_fp, N_eq_tp, N_eq_fp, MN_ltp, MN_lep, NM_ltp, NM_lep, NM_eqp, MN_eqp, MM_lt_tp, MM_lt_fp, MM_le_tp, MM_le_fp, MM_eq_tp, MM_eq_fp, N_cl, N_in_t, N_in_f, M_in, N_div, N_rem, N_nb0, N_nb1, cond_true, cond_false, Bool.not_true, Bool.not_false, Bool.and_true, Bool.true_and, Bool.and_false, Bool.false_and, decide_true, decide_false, Option.bind_some, Option.bind_none, M_isSeenAlike hA hM hi (show j < 128 by omega) hr (hx j hjn), bt_low j (show j < 128 by omega)]
        by_cases q2 : seen A p (Q j % 3 ^ p) = seen A p (r % 3 ^ p)
        · have q3 := q2
          rw [seen_dg, hh] at q3
          rw [hp, if_pos q3]
          rcases N01 (tb_lt j 0) with e | e
          · have z1 : wlB A Q p g r 1 j = 0 := by unfold wlB; rw [if_neg]; rintro ⟨t, -⟩; omega
            have z0 : wlB A Q p g r 0 j = wt A j := by unfold wlB; rw [if_pos ⟨e, by rw [hh]; exact q1, q2⟩]
            rw [z1, z0, Nat.add_zero] at ih2
            rw [e]
            simp (disch := omega) only [L_0, L_1, L_2, L_3, L_4, L_5, L_6, L_7, L_8, L_9, L_10, L_11, L_12, L_13, L_14, L_15, L_16, L_17, L_18, L_19, L_20, L_21, L_22, L_23, L_24, L_25, L_26, L_27, L_28, L_29, L_30, L_31, L_32, L_33, L_34, L_35, L_40, L_41, L_42, L_43, L_44, L_45, L_47, L_48, L_50, L_53, L_57, L_59, L_60, L_61, L_63, L_64, L_97, L_100, L_101, L_102, L_103, L_122, L_130, L_216, L_255, L_364, L_400, L_402, L_420, L_728, L_768, L_999, L_1000, L_1093, L_1872, L_2000, L_9999, L_12345, L_252645135, L_858993459, L_1103515245, L_1431655765, Lm_1, Lm_2, Lm_8, N_zero, N_cast, N_add, N_mul, N_sub, N_addM, N_lt_tp, N_lt_fp, N_le_tp, N_le_fp, N_eq_tp, N_eq_fp, MN_ltp, MN_lep, NM_ltp, NM_lep, NM_eqp, MN_eqp, MM_lt_tp, MM_lt_fp, MM_le_tp, MM_le_fp, MM_eq_tp, MM_eq_fp, N_cl, N_in_t, N_in_f, M_in, N_div, N_rem, N_nb0, N_nb1, cond_true, cond_false, Bool.not_true, Bool.not_false, Bool.and_true, Bool.true_and, Bool.and_false, Bool.false_and, decide_true, decide_false, Option.bind_some, Option.bind_none, fw]
            rw [show nN (wt A j) = Int32.ofInt ((wt A j : Nat) : Int) from rfl, iz_neg, iz_add]
            rw [show ((sm j (wlB A Q p g r 1) : Nat) - ((sm j (wlB A Q p g r 0) + wt A j : Nat)) : Int) = ((sm j (wlB A Q p g r 1) : Nat) - (sm j (wlB A Q p g r 0) : Nat) : Int) + -((wt A j : Nat) : Int) by omega] at ih2
            exact ih2
          · have z0 : wlB A Q p g r 0 j = 0 := by unfold wlB; rw [if_neg]; rintro ⟨t, -⟩; omega
            have z1 : wlB A Q p g r 1 j = wt A j := by unfold wlB; rw [if_pos ⟨e, by rw [hh]; exact q1, q2⟩]
            rw [z1, z0, Nat.add_zero] at ih2
            rw [e]
            simp (disch := omega) only [L_0, L_1, L_2, L_3, L_4, L_5, L_6, L_7, L_8, L_9, L_10, L_11, L_12, L_13, L_14, L_15, L_16, L_17, L_18, L_19, L_20, L_21, L_22, L_23, L_24, L_25, L_26, L_27, L_28, L_29, L_30, L_31, L_32, L_33, L_34, L_35, L_40, L_41, L_42, L_43, L_44, L_45, L_47, L_48, L_50, L_53, L_57, L_59, L_60, L_61, L_63, L_64, L_97, L_100, L_101, L_102, L_103, L_122, L_130, L_216, L_255, L_364, L_400, L_402, L_420, L_728, L_768, L_999, L_1000, L_1093, L_1872, L_2000, L_9999, L_12345, L_252645135, L_858993459, L_1103515245, L_1431655765, Lm_1, Lm_2, Lm_8, N_zero, N_cast, N_add, N_mul, N_sub, N_addM, N_lt_tp, N_lt_fp, N_le_tp, N_le_fp, N_eq_tp, N_eq_fp, MN_ltp, MN_lep, NM_ltp, NM_lep, NM_eqp, MN_eqp, MM_lt_tp, MM_lt_fp, MM_le_tp, MM_le_fp, MM_eq_tp, MM_eq_fp, N_cl, N_in_t, N_in_f, M_in, N_div, N_rem, N_nb0, N_nb1, cond_true, cond_false, Bool.not_true, Bool.not_false, Bool.and_true, Bool.true_and, Bool.and_false, Bool.false_and, decide_true, decide_false, Option.bind_some, Option.bind_none, fw]
            rw [show nN (wt A j) = Int32.ofInt ((wt A j : Nat) : Int) from rfl, iz_add]
            rw [show ((sm j (wlB A Q p g r 1) + wt A j : Nat) - ((sm j (wlB A Q p g r 0) : Nat)) : Int) = ((sm j (wlB A Q p g r 1) : Nat) - (sm j (wlB A Q p g r 0) : Nat) : Int) + ((wt A j : Nat) : Int) by omega] at ih2
            exact ih2
        · have z1 : wlB A Q p g r 1 j = 0 := by unfold wlB; rw [if_neg]; rintro ⟨-, -, t⟩; exact q2 t
          have z0 : wlB A Q p g r 0 j = 0 := by unfold wlB; rw [if_neg]; rintro ⟨-, -, t⟩; exact q2 t
          rw [z1, z0, Nat.add_zero, Nat.add_zero] at ih2
          rw [seen_dg, hh] at q2
          rw [hp, if_neg q2]
          simp (disch := omega) only [L_0, L_1, L_2, L_3, L_4, L_5, L_6, L_7, L_8, L_9, L_10, L_11, L_12, L_13, L_14, L_15, L_16, L_17, L_18, L_19, L_20, L_21, L_22, L_23, L_24, L_25, L_26, L_27, L_28, L_29, L_30, L_31, L_32, L_33, L_34, L_35, L_40, L_41, L_42, L_43, L_44, L_45, L_47, L_48, L_50, L_53, L_57, L_59, L_60, L_61, L_63, L_64, L_97, L_100, L_101, L_102, L_103, L_122, L_130, L_216, L_255, L_364, L_400, L_402, L_420, L_728, L_768, L_999, L_1000, L_1093, L_1872, L_2000, L_9999, L_12345, L_252645135, L_858993459, L_1103515245, L_1431655765, Lm_1, Lm_2, Lm_8, N_zero, N_cast, N_add, N_mul, N_sub, N_addM, N_lt_tp, N_lt_fp, N_le_tp, N_le_fp, N_eq_tp, N_eq_fp, MN_ltp, MN_lep, NM_ltp, NM_lep, NM_eqp, MN_eqp, MM_lt_tp, MM_lt_fp, MM_le_tp, MM_le_fp, MM_eq_tp, MM_eq_fp, N_cl, N_in_t, N_in_f, M_in, N_div, N_rem, N_nb0, N_nb1, cond_true, cond_false, Bool.not_true, Bool.not_false, Bool.and_true, Bool.true_and, Bool.and_false, Bool.false_and, decide_true, decide_false, Option.bind_some, Option.bind_none]
          exact ih2
      · have z1 : wlB A Q p g r 1 j = 0 := by unfold wlB; rw [if_neg]; rintro ⟨-, t, -⟩; rw [hh] at t; exact q1 t
        have z0 : wlB A Q p g r 0 j = 0 := by unfold wlB; rw [if_neg]; rintro ⟨-, t, -⟩; rw [hh] at t; exact q1 t
        rw [z1, z0, Nat.add_zero, Nat.add_zero] at ih2
        simp (disch := omega) only [L_0, L_1, L_2, L_3, L_4, L_5, L_6, L_7, L_8, L_9, L_10, L_11, L_12, L_13, L_14, L_15, L_16, L_17, L_18, L_19, L_20, L_21, L_22, L_23, L_24, L_25, L_26, L_27, L_28, L_29, L_30, L_31, L_32, L_33, L_34, L_35, L_40, L_41, L_42, L_43, L_44, L_45, L_47, L_48, L_50, L_53, L_57, L_59, L_60, L_61, L_63, L_64, L_97, L_100, L_101, L_102, L_103, L_122, L_130, L_216, L_255, L_364, L_400, L_402, L_420, L_728, L_768, L_999, L_1000, L_1093, L_1872, L_2000, L_9999, L_12345, L_252645135, L_858993459, L_1103515245, L_1431655765, Lm_1, Lm_2, Lm_8, N_zero, N_cast, N_add, N_mul, N_sub, N_addM, N_lt_tp, N_lt_fp, N_le_tp, N_le_fp, N_eq_tp, N_eq_fp, MN_ltp, MN_lep, NM_ltp, NM_lep, NM_eqp, MN_eqp, MM_lt_tp, MM_lt_fp, MM_le_tp, MM_le_fp, MM_eq_tp, MM_eq_fp, N_cl, N_in_t, N_in_f, M_in, N_div, N_rem, N_nb0, N_nb1, cond_true, cond_false, Bool.not_true, Bool.not_false, Bool.and_true, Bool.true_and, Bool.and_false, Bool.false_and, decide_true, decide_false, Option.bind_some, Option.bind_none]
        exact ih2
theorem M_wiseOf (hA : wa_ok A) (hM : MA h s l A) {i g r p : Nat} {Q : Nat → Nat} (hi : i < an A) (hp : apl A i = p) (hh : aho A p = i) (hg : g ≤ 1) (hr : ∀ p, p < 6 → h.1 99 0 p = nN (dg r p)) (hx : ∀ w, w < nw A → ∀ p, p < 6 → h.1 97 0 (6 * w + p) = nN (dg (Q w) p)) (hw : ∀ w, w < nw A → h.1 98 0 w = nN (wt A w)) :
    q_M_wiseOf sc h (nN i) (nN g) = some (nN (wzW A (fun w => Q w % 3 ^ p) p g (r % 3 ^ p)), h) := by
  rw [q_M_wiseOf_eq]
  exact M_wiseOf_L hA hM hi hp hh hg hr hx hw (nw A) 0 (Nat.zero_add _)
theorem M_lawOf (hA : wa_ok A) (hM : MA h s l A) {i g r p : Nat} (hi : i < an A) (hp : apl A i = p) (hh : aho A p = i) (hb : ahb A i = 6) (hg : g ≤ 1) (hr : ∀ p, p < 6 → h.1 99 0 p = nN (dg r p)) :
    Ok (q_M_lawOf sc h (nN i) (nN g)) (fun x => x.1 = nN (alw A i g (cd 1 (seen A p (r % 3 ^ p)) (sk A p)) (cd 0 (seen A p (r % 3 ^ p)) (sk A p)) (if p = 0 then 0 else if r % 3 ^ p % 3 = 1 then 2 else 1)) ∧ Fr [93, 94, 1046] h x.2) := by
  subst hp
  have h6 := hA.1
  have h8 := hA.2.2.1 i hi
  have h7 := hA.2.2.2.2.2.1 i hi
  have s1 := hM.1
  rw [seen_sq, seen_sq, hh, q_M_lawOf_eq, M_plainOf hg]
  simp (disch := omega) only [L_0, L_1, L_2, L_3, L_4, L_5, L_6, L_7, L_8, L_9, L_10, L_11, L_12, L_13, L_14, L_15, L_16, L_17, L_18, L_19, L_20, L_21, L_22, L_23, L_24, L_25, L_26, L_27, L_28, L_29, L_30, L_31, L_32, L_33, L_34, L_35, L_40, L_41, L_42, L_43, L_44, L_45, L_47, L_48, L_50, L_53, L_57, L_59, L_60, L_61, L_63, L_64, L_97, L_100, L_101, L_102, L_103, L_122, L_130, L_216, L_255, L_364, L_400, L_402, L_420, L_728, L_768, L_999, L_1000, L_1093, L_1872, L_2000, L_9999, L_12345, L_252645135, L_858993459, L_1103515245, L_1431655765, Lm_1, Lm_2, Lm_8, N_zero, N_cast, N_add, N_mul, N_sub, N_addM, N_lt_tp, N_lt_fp, N_le_tp, N_le_fp, N_eq_tp, N_eq_fp, MN_ltp, MN_lep, NM_ltp, NM_lep, NM_eqp, MN_eqp, MM_lt_tp, MM_lt_fp, MM_le_tp, MM_le_fp, MM_eq_tp, MM_eq_fp, N_cl, N_in_t, N_in_f, M_in, N_div, N_rem, N_nb0, N_nb1, cond_true, cond_false, Bool.not_true, Bool.not_false, Bool.and_true, Bool.true_and, Bool.and_false, Bool.false_and, decide_true, decide_false, Option.bind_some, Option.bind_none, wb_iu_1, wb_iu_2, wb_lu_1, wb_lu_2, wb_lu_3, wb_mu_1, wb_mu_2, wb_mu_3, wb_fi_1, wb_fi_2, if_true, if_false, and_true, true_and, false_and, and_false, Nat.reduceEqDiff, reduceIte, Nat.reduceLT, Nat.reduceAdd, Nat.reduceMul, Nat.reduceSub]
  generalize e1 : wb_iu h 93 0 0 (nN g) = k1
  have F1 : Fr [93, 94, 1046] h k1 := by rw [← e1]; exact Fr_iu rfl
  have c0 : k1.1 93 0 0 = nN g := by rw [← e1]; rfl
  rw [M_seenOf hA (MA_fr F1 rfl hM) hi (by decide) (fun p hp => (Fr_i F1 (by rfl)).trans (hr p hp))]
  simp only [Option.bind_some]
  generalize hu : sq r (apl A i - ase A i) (apl A i - (apl A i - ase A i)) 1 = u
  generalize e2 : wb_iu k1 93 0 1 (nN u) = k2
  have F2 : Fr [93, 94, 1046] k1 k2 := by rw [← e2]; exact Fr_iu rfl
  have d0 : k2.1 93 0 0 = nN g := by rw [← e2]; exact c0
  have d1 : k2.1 93 0 1 = nN u := by rw [← e2]; rfl
  have F12 := Fr_trans F1 F2
  rw [M_seenOf hA (MA_fr F12 rfl hM) hi (by decide) (fun p hp => (Fr_i F12 (by rfl)).trans (hr p hp))]
  simp only [Option.bind_some]
  generalize hv : sq r (apl A i - ase A i) (apl A i - (apl A i - ase A i)) 0 = v
  have M2 := MA_fr F12 rfl hM
  have l2 := M2.2.1
  have z2 := M2.2.2.2.2.2.2.2.1 i hi
  simp (disch := omega) only [L_0, L_1, L_2, L_3, L_4, L_5, L_6, L_7, L_8, L_9, L_10, L_11, L_12, L_13, L_14, L_15, L_16, L_17, L_18, L_19, L_20, L_21, L_22, L_23, L_24, L_25, L_26, L_27, L_28, L_29, L_30, L_31, L_32, L_33, L_34, L_35, L_40, L_41, L_42, L_43, L_44, L_45, L_47, L_48, L_50, L_53, L_57, L_59, L_60, L_61, L_63, L_64, L_97, L_100, L_101, L_102, L_103, L_122, L_130, L_216, L_255, L_364, L_400, L_402, L_420, L_728, L_768, L_999, L_1000, L_1093, L_1872, L_2000, L_9999, L_12345, L_252645135, L_858993459, L_1103515245, L_1431655765, Lm_1, Lm_2, Lm_8, N_zero, N_cast, N_add, N_mul, N_sub, N_addM, N_lt_tp, N_lt_fp, N_le_tp, N_le_fp, N_eq_tp, N_eq_fp, MN_ltp, MN_lep, NM_ltp, NM_lep, NM_eqp, MN_eqp, MM_lt_tp, MM_lt_fp, MM_le_tp, MM_le_fp, MM_eq_tp, MM_eq_fp, N_cl, N_in_t, N_in_f, M_in, N_div, N_rem, N_nb0, N_nb1, cond_true, cond_false, Bool.not_true, Bool.not_false, Bool.and_true, Bool.true_and, Bool.and_false, Bool.false_and, decide_true, decide_false, Option.bind_some, Option.bind_none, wb_iu_1, wb_iu_2, wb_lu_1, wb_lu_2, wb_lu_3, wb_mu_1, wb_mu_2, wb_mu_3, wb_fi_1, wb_fi_2, if_true, if_false, and_true, true_and, false_and, and_false, Nat.reduceEqDiff, reduceIte, Nat.reduceLT, Nat.reduceAdd, Nat.reduceMul, Nat.reduceSub, l2, z2]
  generalize e3 : wb_iu (wb_iu k2 93 0 2 (nN v)) 93 0 3 (nN (ase A i)) = k3
  have F3 : Fr [93, 94, 1046] k2 k3 := by rw [← e3]; exact Fr_trans (Fr_iu rfl) (Fr_iu rfl)
  have f0 : k3.1 93 0 0 = nN g := by rw [← e3]; exact d0
  have f1 : k3.1 93 0 1 = nN u := by rw [← e3]; exact d1
  have f2 : k3.1 93 0 2 = nN v := by rw [← e3]; rfl
  have f3 : k3.1 93 0 3 = nN (ase A i) := by rw [← e3]; rfl
  have F13 := Fr_trans F12 F3
  have M3 := MA_fr F13 rfl hM
  rw [M_sureNow hA M3 hi, Option.bind_some]
  have l3 := M3.2.1
  have p3 := M3.2.2.2.2.2.2.1 i hi
  have r3 : k3.1 99 0 0 = nN (dg r 0) := (Fr_i F13 (by rfl)).trans (hr 0 (by decide))
  have g3 := dg_le r 0
  have bu := sq_le r (apl A i - ase A i) (apl A i - (apl A i - ase A i)) 1
  have bv := sq_le r (apl A i - ase A i) (apl A i - (apl A i - ase A i)) 0
  have buv : u + v ≤ apl A i - (apl A i - ase A i) := by
    rw [← hu, ← hv]
    unfold sq
    rw [← sm_add]
    have : ∀ n, sm n (fun _ => 1) = n := by
      intro n
      induction n with
      | zero => rfl
      | succ n ih => rw [sm, ih]
    refine Nat.le_trans (sm_le (g := fun _ => 1) fun q _ => ?_) (Nat.le_of_eq (this _))
    by_cases t : dg r (apl A i - ase A i + q) = 1
    · rw [if_pos t, if_neg (by omega)]; exact Nat.le_refl _
    · rw [if_neg t]; split <;> omega
  have fin : ∀ d, d ≤ 2 → ∀ k4 : wb_H, k4 = wb_iu (wb_iu (wb_iu (wb_iu k3 93 0 4 (nN (asu A i))) 93 0 5 (nN i)) 93 0 6 (if d = 0 then nM 1 else nN (d - 1))) 21 0 46 (nN 0) →
      Ok (q_M_lawOf_L131 sc k4 (nN (6 * s + i)) (k4.1 78 0 (6 * s + i))) (fun x => x.1 = nN (alw A i g u v d) ∧ Fr [93, 94, 1046] h x.2) := by
    intro d hd k4 e4
    have F4 : Fr [93, 94, 1046] k3 k4 := by rw [e4]; exact Fr_trans (Fr_trans (Fr_trans (Fr_iu rfl) (Fr_iu rfl)) (Fr_iu rfl)) (Fr_iu rfl)
    have F14 := Fr_trans F13 F4
    refine Ok_w (hM.2.2.2.2.2.2.2.2.2.2.2 sc i g u v d hi hb hg (by omega) (by omega) hd k4 (Agl_fr F14 rfl) (by rw [e4]; exact f0) (by rw [e4]; exact f1) (by rw [e4]; exact f2) (by rw [e4]; exact f3) (by rw [e4]; rfl) (by rw [e4]; rfl) (by rw [e4]; rfl) (by rw [e4]; rfl)) ?_
    rintro x ⟨x1, x2⟩
    exact ⟨x1, Fr_trans F14 (Fr_mono x2 rfl)⟩
  by_cases q : apl A i = 0
  · rw [if_pos q]
    rw [q] at p3
    simp (disch := omega) only [L_0, L_1, L_2, L_3, L_4, L_5, L_6, L_7, L_8, L_9, L_10, L_11, L_12, L_13, L_14, L_15, L_16, L_17, L_18, L_19, L_20, L_21, L_22, L_23, L_24, L_25, L_26, L_27, L_28, L_29, L_30, L_31, L_32, L_33, L_34, L_35, L_40, L_41, L_42, L_43, L_44, L_45, L_47, L_48, L_50, L_53, L_57, L_59, L_60, L_61, L_63, L_64, L_97, L_100, L_101, L_102, L_103, L_122, L_130, L_216, L_255, L_364, L_400, L_402, L_420, L_728, L_768, L_999, L_1000, L_1093, L_1872, L_2000, L_9999, L_12345, L_252645135, L_858993459, L_1103515245, L_1431655765, Lm_1, Lm_2, Lm_8, N_zero, N_cast, N_add, N_mul, N_sub, N_addM, N_lt_tp, N_lt_fp, N_le_tp, N_le_fp, N_eq_tp, N_eq_fp, MN_ltp, MN_lep, NM_ltp, NM_lep, NM_eqp, MN_eqp, MM_lt_tp, MM_lt_fp, MM_le_tp, MM_le_fp, MM_eq_tp, MM_eq_fp, N_cl, N_in_t, N_in_f, M_in, N_div, N_rem, N_nb0, N_nb1, cond_true, cond_false, Bool.not_true, Bool.not_false, Bool.and_true, Bool.true_and, Bool.and_false, Bool.false_and, decide_true, decide_false, Option.bind_some, Option.bind_none, wb_iu_1, wb_iu_2, wb_lu_1, wb_lu_2, wb_lu_3, wb_mu_1, wb_mu_2, wb_mu_3, wb_fi_1, wb_fi_2, if_true, if_false, and_true, true_and, false_and, and_false, Nat.reduceEqDiff, reduceIte, Nat.reduceLT, Nat.reduceAdd, Nat.reduceMul, Nat.reduceSub, l3, p3]
    refine fin 0 (by decide) _ ?_
    rfl
  · rw [if_neg q]
    have e9 : r % 3 ^ apl A i % 3 = dg r 0 := by rw [← dg_zero, dg_mod (by omega)]
    rw [e9]
    by_cases q2 : dg r 0 = 1
    · rw [if_pos q2]
      rw [q2] at r3
      simp (disch := omega) only [L_0, L_1, L_2, L_3, L_4, L_5, L_6, L_7, L_8, L_9, L_10, L_11, L_12, L_13, L_14, L_15, L_16, L_17, L_18, L_19, L_20, L_21, L_22, L_23, L_24, L_25, L_26, L_27, L_28, L_29, L_30, L_31, L_32, L_33, L_34, L_35, L_40, L_41, L_42, L_43, L_44, L_45, L_47, L_48, L_50, L_53, L_57, L_59, L_60, L_61, L_63, L_64, L_97, L_100, L_101, L_102, L_103, L_122, L_130, L_216, L_255, L_364, L_400, L_402, L_420, L_728, L_768, L_999, L_1000, L_1093, L_1872, L_2000, L_9999, L_12345, L_252645135, L_858993459, L_1103515245, L_1431655765, Lm_1, Lm_2, Lm_8, N_zero, N_cast, N_add, N_mul, N_sub, N_addM, N_lt_tp, N_lt_fp, N_le_tp, N_le_fp, N_eq_tp, N_eq_fp, MN_ltp, MN_lep, NM_ltp, NM_lep, NM_eqp, MN_eqp, MM_lt_tp, MM_lt_fp, MM_le_tp, MM_le_fp, MM_eq_tp, MM_eq_fp, N_cl, N_in_t, N_in_f, M_in, N_div, N_rem, N_nb0, N_nb1, cond_true, cond_false, Bool.not_true, Bool.not_false, Bool.and_true, Bool.true_and, Bool.and_false, Bool.false_and, decide_true, decide_false, Option.bind_some, Option.bind_none, wb_iu_1, wb_iu_2, wb_lu_1, wb_lu_2, wb_lu_3, wb_mu_1, wb_mu_2, wb_mu_3, wb_fi_1, wb_fi_2, if_true, if_false, and_true, true_and, false_and, and_false, Nat.reduceEqDiff, reduceIte, Nat.reduceLT, Nat.reduceAdd, Nat.reduceMul, Nat.reduceSub, l3, p3, r3]
      refine fin 2 (by decide) _ ?_
      rfl
    · rw [if_neg q2]
      simp (disch := omega) only [L_0, L_1, L_2, L_3, L_4, L_5, L_6, L_7, L_8, L_9, L_10, L_11, L_12, L_13, L_14, L_15, L_16, L_17, L_18, L_19, L_20, L_21, L_22, L_23, L_24, L_25, L_26, L_27, L_28, L_29, L_30, L_31, L_32, L_33, L_34, L_35, L_40, L_41, L_42, L_43, L_44, L_45, L_47, L_48, L_50, L_53, L_57, L_59, L_60, L_61, L_63, L_64, L_97, L_100, L_101, L_102, L_103, L_122, L_130, L_216, L_255, L_364, L_400, L_402, L_420, L_728, L_768, L_999, L_1000, L_1093, L_1872, L_2000, L_9999, L_12345, L_252645135, L_858993459, L_1103515245, L_1431655765, Lm_1, Lm_2, Lm_8, N_zero, N_cast, N_add, N_mul, N_sub, N_addM, N_lt_tp, N_lt_fp, N_le_tp, N_le_fp, N_eq_tp, N_eq_fp, MN_ltp, MN_lep, NM_ltp, NM_lep, NM_eqp, MN_eqp, MM_lt_tp, MM_lt_fp, MM_le_tp, MM_le_fp, MM_eq_tp, MM_eq_fp, N_cl, N_in_t, N_in_f, M_in, N_div, N_rem, N_nb0, N_nb1, cond_true, cond_false, Bool.not_true, Bool.not_false, Bool.and_true, Bool.true_and, Bool.and_false, Bool.false_and, decide_true, decide_false, Option.bind_some, Option.bind_none, wb_iu_1, wb_iu_2, wb_lu_1, wb_lu_2, wb_lu_3, wb_mu_1, wb_mu_2, wb_mu_3, wb_fi_1, wb_fi_2, if_true, if_false, and_true, true_and, false_and, and_false, Nat.reduceEqDiff, reduceIte, Nat.reduceLT, Nat.reduceAdd, Nat.reduceMul, Nat.reduceSub, l3, p3, r3]
      refine fin 1 (by decide) _ ?_
      rfl
theorem M_putOf (hA : wa_ok A) (hM : MA h s l A) {i g r p : Nat} {Q : Nat → Nat} (hi : i < an A) (hp : apl A i = p) (hh : aho A p = i) (hg : g ≤ 1) (hr : ∀ p, p < 6 → h.1 99 0 p = nN (dg r p)) (hx : ∀ w, w < nw A → ∀ p, p < 6 → h.1 97 0 (6 * w + p) = nN (dg (Q w) p)) (hw : ∀ w, w < nw A → h.1 98 0 w = nN (wt A w)) :
    Ok (q_M_putOf sc h (nN i) (nN g)) (fun x => x.1 = nN (abin A (wzW A (fun w => Q w % 3 ^ p) p) p g (r % 3 ^ p)) ∧ Fr [93, 94, 1046] h x.2) := by
  have h6 := hA.1
  have h8 := hA.2.2.1 i hi
  have h7 := hA.2.2.2.2.2.1 i hi
  have s1 := hM.1
  rw [q_M_putOf_eq, M_habitNow hA hM hi, Option.bind_some]
  have hi' : aho A p < an A := by rw [hh]; exact hi
  rcases (show ahb A i = 0 ∨ ahb A i = 1 ∨ ahb A i = 2 ∨ ahb A i = 3 ∨ ahb A i = 4 ∨ ahb A i = 5 ∨ ahb A i = 6 by omega) with e | e | e | e | e | e | e
  · rw [abin_0 (by rw [hh]; exact e), e]
    simp (disch := omega) only [L_0, L_1, L_2, L_3, L_4, L_5, L_6, L_7, L_8, L_9, L_10, L_11, L_12, L_13, L_14, L_15, L_16, L_17, L_18, L_19, L_20, L_21, L_22, L_23, L_24, L_25, L_26, L_27, L_28, L_29, L_30, L_31, L_32, L_33, L_34, L_35, L_40, L_41, L_42, L_43, L_44, L_45, L_47, L_48, L_50, L_53, L_57, L_59, L_60, L_61, L_63, L_64, L_97, L_100, L_101, L_102, L_103, L_122, L_130, L_216, L_255, L_364, L_400, L_402, L_420, L_728, L_768, L_999, L_1000, L_1093, L_1872, L_2000, L_9999, L_12345, L_252645135, L_858993459, L_1103515245, L_1431655765, Lm_1, Lm_2, Lm_8, N_zero, N_cast, N_add, N_mul, N_sub, N_addM, N_lt_tp, N_lt_fp, N_le_tp, N_le_fp, N_eq_tp, N_eq_fp, MN_ltp, MN_lep, NM_ltp, NM_lep, NM_eqp, MN_eqp, MM_lt_tp, MM_lt_fp, MM_le_tp, MM_le_fp, MM_eq_tp, MM_eq_fp, N_cl, N_in_t, N_in_f, M_in, N_div, N_rem, N_nb0, N_nb1, cond_true, cond_false, Bool.not_true, Bool.not_false, Bool.and_true, Bool.true_and, Bool.and_false, Bool.false_and, decide_true, decide_false, Option.bind_some, Option.bind_none, M_plainOf hg]
    exact Ok_some ⟨rfl, Fr_refl _ _⟩
  · rw [abin_1 (by rw [hh]; exact e), e]
    simp (disch := omega) only [L_0, L_1, L_2, L_3, L_4, L_5, L_6, L_7, L_8, L_9, L_10, L_11, L_12, L_13, L_14, L_15, L_16, L_17, L_18, L_19, L_20, L_21, L_22, L_23, L_24, L_25, L_26, L_27, L_28, L_29, L_30, L_31, L_32, L_33, L_34, L_35, L_40, L_41, L_42, L_43, L_44, L_45, L_47, L_48, L_50, L_53, L_57, L_59, L_60, L_61, L_63, L_64, L_97, L_100, L_101, L_102, L_103, L_122, L_130, L_216, L_255, L_364, L_400, L_402, L_420, L_728, L_768, L_999, L_1000, L_1093, L_1872, L_2000, L_9999, L_12345, L_252645135, L_858993459, L_1103515245, L_1431655765, Lm_1, Lm_2, Lm_8, N_zero, N_cast, N_add, N_mul, N_sub, N_addM, N_lt_tp, N_lt_fp, N_le_tp, N_le_fp, N_eq_tp, N_eq_fp, MN_ltp, MN_lep, NM_ltp, NM_lep, NM_eqp, MN_eqp, MM_lt_tp, MM_lt_fp, MM_le_tp, MM_le_fp, MM_eq_tp, MM_eq_fp, N_cl, N_in_t, N_in_f, M_in, N_div, N_rem, N_nb0, N_nb1, cond_true, cond_false, Bool.not_true, Bool.not_false, Bool.and_true, Bool.true_and, Bool.and_false, Bool.false_and, decide_true, decide_false, Option.bind_some, Option.bind_none]
    rw [M_mostOf hA hM hi hg hr rfl rfl, seen_sq, seen_sq, hh, hp]
    exact Ok_some ⟨rfl, Fr_refl _ _⟩
  · rw [abin_2 (by rw [hh]; exact e), e]
    simp (disch := omega) only [L_0, L_1, L_2, L_3, L_4, L_5, L_6, L_7, L_8, L_9, L_10, L_11, L_12, L_13, L_14, L_15, L_16, L_17, L_18, L_19, L_20, L_21, L_22, L_23, L_24, L_25, L_26, L_27, L_28, L_29, L_30, L_31, L_32, L_33, L_34, L_35, L_40, L_41, L_42, L_43, L_44, L_45, L_47, L_48, L_50, L_53, L_57, L_59, L_60, L_61, L_63, L_64, L_97, L_100, L_101, L_102, L_103, L_122, L_130, L_216, L_255, L_364, L_400, L_402, L_420, L_728, L_768, L_999, L_1000, L_1093, L_1872, L_2000, L_9999, L_12345, L_252645135, L_858993459, L_1103515245, L_1431655765, Lm_1, Lm_2, Lm_8, N_zero, N_cast, N_add, N_mul, N_sub, N_addM, N_lt_tp, N_lt_fp, N_le_tp, N_le_fp, N_eq_tp, N_eq_fp, MN_ltp, MN_lep, NM_ltp, NM_lep, NM_eqp, MN_eqp, MM_lt_tp, MM_lt_fp, MM_le_tp, MM_le_fp, MM_eq_tp, MM_eq_fp, N_cl, N_in_t, N_in_f, M_in, N_div, N_rem, N_nb0, N_nb1, cond_true, cond_false, Bool.not_true, Bool.not_false, Bool.and_true, Bool.true_and, Bool.and_false, Bool.false_and, decide_true, decide_false, Option.bind_some, Option.bind_none]
    rw [M_asOne hA hM hi hg (by decide) hr, hp]
    by_cases q : p = 0
    · rw [if_pos q, if_pos (by omega)]
      exact Ok_some ⟨rfl, Fr_refl _ _⟩
    · rw [if_neg q, if_neg (by omega), ← dg_zero, dg_mod (by omega)]
      exact Ok_some ⟨rfl, Fr_refl _ _⟩
  · rw [abin_3 (by rw [hh]; exact e), e, hh]
    have hmo := h7.2.2 e
    have hmp := hA.2.2.1 _ hmo
    have c1 := hM.2.2.2.2.2.2.2.2.2.2.1 i hi e
    have c2 := hM.2.2.2.2.2.2.1 _ hmo
    have c3 := hM.2.1
    simp (disch := omega) only [L_0, L_1, L_2, L_3, L_4, L_5, L_6, L_7, L_8, L_9, L_10, L_11, L_12, L_13, L_14, L_15, L_16, L_17, L_18, L_19, L_20, L_21, L_22, L_23, L_24, L_25, L_26, L_27, L_28, L_29, L_30, L_31, L_32, L_33, L_34, L_35, L_40, L_41, L_42, L_43, L_44, L_45, L_47, L_48, L_50, L_53, L_57, L_59, L_60, L_61, L_63, L_64, L_97, L_100, L_101, L_102, L_103, L_122, L_130, L_216, L_255, L_364, L_400, L_402, L_420, L_728, L_768, L_999, L_1000, L_1093, L_1872, L_2000, L_9999, L_12345, L_252645135, L_858993459, L_1103515245, L_1431655765, Lm_1, Lm_2, Lm_8, N_zero, N_cast, N_add, N_mul, N_sub, N_addM, N_lt_tp, N_lt_fp, N_le_tp, N_le_fp, N_eq_tp, N_eq_fp, MN_ltp, MN_lep, NM_ltp, NM_lep, NM_eqp, MN_eqp, MM_lt_tp, MM_lt_fp, MM_le_tp, MM_le_fp, MM_eq_tp, MM_eq_fp, N_cl, N_in_t, N_in_f, M_in, N_div, N_rem, N_nb0, N_nb1, cond_true, cond_false, Bool.not_true, Bool.not_false, Bool.and_true, Bool.true_and, Bool.and_false, Bool.false_and, decide_true, decide_false, Option.bind_some, Option.bind_none, c1, c2, c3]
    rw [M_asOne hA hM hi hg (by omega) hr, hp]
    by_cases q : p ≤ apl A (amo A i)
    · rw [if_pos q, if_pos q]
      exact Ok_some ⟨rfl, Fr_refl _ _⟩
    · rw [if_neg q, if_neg q, dg_mod (by omega)]
      exact Ok_some ⟨rfl, Fr_refl _ _⟩
  · rw [abin_4 (by rw [hh]; exact e), e]
    simp (disch := omega) only [L_0, L_1, L_2, L_3, L_4, L_5, L_6, L_7, L_8, L_9, L_10, L_11, L_12, L_13, L_14, L_15, L_16, L_17, L_18, L_19, L_20, L_21, L_22, L_23, L_24, L_25, L_26, L_27, L_28, L_29, L_30, L_31, L_32, L_33, L_34, L_35, L_40, L_41, L_42, L_43, L_44, L_45, L_47, L_48, L_50, L_53, L_57, L_59, L_60, L_61, L_63, L_64, L_97, L_100, L_101, L_102, L_103, L_122, L_130, L_216, L_255, L_364, L_400, L_402, L_420, L_728, L_768, L_999, L_1000, L_1093, L_1872, L_2000, L_9999, L_12345, L_252645135, L_858993459, L_1103515245, L_1431655765, Lm_1, Lm_2, Lm_8, N_zero, N_cast, N_add, N_mul, N_sub, N_addM, N_lt_tp, N_lt_fp, N_le_tp, N_le_fp, N_eq_tp, N_eq_fp, MN_ltp, MN_lep, NM_ltp, NM_lep, NM_eqp, MN_eqp, MM_lt_tp, MM_lt_fp, MM_le_tp, MM_le_fp, MM_eq_tp, MM_eq_fp, N_cl, N_in_t, N_in_f, M_in, N_div, N_rem, N_nb0, N_nb1, cond_true, cond_false, Bool.not_true, Bool.not_false, Bool.and_true, Bool.true_and, Bool.and_false, Bool.false_and, decide_true, decide_false, Option.bind_some, Option.bind_none]
    rw [M_wiseOf hA hM hi hp hh hg hr hx hw]
    exact Ok_some ⟨rfl, Fr_refl _ _⟩
  · rw [abin_5 (by rw [hh]; exact e), e]
    simp (disch := omega) only [L_0, L_1, L_2, L_3, L_4, L_5, L_6, L_7, L_8, L_9, L_10, L_11, L_12, L_13, L_14, L_15, L_16, L_17, L_18, L_19, L_20, L_21, L_22, L_23, L_24, L_25, L_26, L_27, L_28, L_29, L_30, L_31, L_32, L_33, L_34, L_35, L_40, L_41, L_42, L_43, L_44, L_45, L_47, L_48, L_50, L_53, L_57, L_59, L_60, L_61, L_63, L_64, L_97, L_100, L_101, L_102, L_103, L_122, L_130, L_216, L_255, L_364, L_400, L_402, L_420, L_728, L_768, L_999, L_1000, L_1093, L_1872, L_2000, L_9999, L_12345, L_252645135, L_858993459, L_1103515245, L_1431655765, Lm_1, Lm_2, Lm_8, N_zero, N_cast, N_add, N_mul, N_sub, N_addM, N_lt_tp, N_lt_fp, N_le_tp, N_le_fp, N_eq_tp, N_eq_fp, MN_ltp, MN_lep, NM_ltp, NM_lep, NM_eqp, MN_eqp, MM_lt_tp, MM_lt_fp, MM_le_tp, MM_le_fp, MM_eq_tp, MM_eq_fp, N_cl, N_in_t, N_in_f, M_in, N_div, N_rem, N_nb0, N_nb1, cond_true, cond_false, Bool.not_true, Bool.not_false, Bool.and_true, Bool.true_and, Bool.and_false, Bool.false_and, decide_true, decide_false, Option.bind_some, Option.bind_none]
    exact Ok_some ⟨rfl, Fr_refl _ _⟩
  · rw [abin_6 (by rw [hh]; exact e), e, hh]
    simp (disch := omega) only [L_0, L_1, L_2, L_3, L_4, L_5, L_6, L_7, L_8, L_9, L_10, L_11, L_12, L_13, L_14, L_15, L_16, L_17, L_18, L_19, L_20, L_21, L_22, L_23, L_24, L_25, L_26, L_27, L_28, L_29, L_30, L_31, L_32, L_33, L_34, L_35, L_40, L_41, L_42, L_43, L_44, L_45, L_47, L_48, L_50, L_53, L_57, L_59, L_60, L_61, L_63, L_64, L_97, L_100, L_101, L_102, L_103, L_122, L_130, L_216, L_255, L_364, L_400, L_402, L_420, L_728, L_768, L_999, L_1000, L_1093, L_1872, L_2000, L_9999, L_12345, L_252645135, L_858993459, L_1103515245, L_1431655765, Lm_1, Lm_2, Lm_8, N_zero, N_cast, N_add, N_mul, N_sub, N_addM, N_lt_tp, N_lt_fp, N_le_tp, N_le_fp, N_eq_tp, N_eq_fp, MN_ltp, MN_lep, NM_ltp, NM_lep, NM_eqp, MN_eqp, MM_lt_tp, MM_lt_fp, MM_le_tp, MM_le_fp, MM_eq_tp, MM_eq_fp, N_cl, N_in_t, N_in_f, M_in, N_div, N_rem, N_nb0, N_nb1, cond_true, cond_false, Bool.not_true, Bool.not_false, Bool.and_true, Bool.true_and, Bool.and_false, Bool.false_and, decide_true, decide_false, Option.bind_some, Option.bind_none]
    exact Ok_bind (M_lawOf hA hM hi hp hh e hg hr) (fun x hx => Ok_some hx)
end
