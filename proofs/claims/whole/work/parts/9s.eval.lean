/-! What codes tell; the class goes through them. -/
def opv (k : Nat) (l r : Int32) : Int32 := if k = 2 then l + r else if k = 3 then l - r else if k = 4 then l * r else l / r
def evO (k : Nat) : List Int32 → Option (List Int32)
  | r :: l :: st => if k = 5 ∧ r = nN 0 then none else some (opv k l r :: st)
  | _ => none
theorem evO_e (k : Nat) (r l : Int32) (st : List Int32) : evO k (r :: l :: st) = if k = 5 ∧ r = nN 0 then none else some (opv k l r :: st) := rfl
def evC (var : Nat → Int32) : List (Nat × Int32) → List Int32 → Option (List Int32)
  | [], st => some st
  | c :: cs, st => if c.1 = 0 then evC var cs (c.2 :: st) else if c.1 = 1 then evC var cs (var c.2.toNatClampNeg :: st) else (evO c.1 st).bind fun s => evC var cs s
theorem two_of {st : List Int32} (h : 2 ≤ st.length) : ∃ r l st', st = r :: l :: st' := by
  cases st with
  | nil => exact absurd h (by decide)
  | cons r t =>
    cases t with
    | nil => exact absurd (show 2 ≤ 1 from h) (by decide)
    | cons l st' => exact ⟨r, l, st', rfl⟩
theorem ev_len {var : Nat → Int32} {lim : Nat} : ∀ (cs : List (Nat × Int32)) (st : List Int32), wfd lim st.length cs → evC var cs st = none ∨ ∃ st' : List Int32, evC var cs st = some st' ∧ st'.length = dpt st.length cs
  | [], st, _ => Or.inr ⟨st, rfl, rfl⟩
  | c :: cs, st, h => by
    obtain ⟨h1, h2, h3, h4, h5⟩ := h
    rw [evC, dpt]
    by_cases z0 : c.1 = 0
    · rw [if_pos z0]
      rw [if_pos (by omega)] at h5 ⊢
      exact ev_len cs (c.2 :: st) h5
    · rw [if_neg z0]
      by_cases z1 : c.1 = 1
      · rw [if_pos z1]
        rw [if_pos (by omega)] at h5 ⊢
        exact ev_len cs (var c.2.toNatClampNeg :: st) h5
      · rw [if_neg z1]
        have h4' := h4 (by omega)
        rw [if_neg (by omega)] at h5 ⊢
        obtain ⟨r, l, st', rfl⟩ := two_of h4'
        rw [evO_e]
        by_cases z5 : c.1 = 5 ∧ r = nN 0
        · rw [if_pos z5]
          exact Or.inl rfl
        · rw [if_neg z5]
          exact ev_len cs (opv c.1 l r :: st') h5
theorem ev_app {var : Nat → Int32} {lim : Nat} (base : List Int32) : ∀ (cs : List (Nat × Int32)) (st : List Int32), wfd lim st.length cs → evC var cs (st ++ base) = (evC var cs st).map (fun l => l ++ base)
  | [], st, _ => rfl
  | c :: cs, st, h => by
    obtain ⟨h1, h2, h3, h4, h5⟩ := h
    rw [evC, evC]
    by_cases z0 : c.1 = 0
    · rw [if_pos z0, if_pos z0]
      rw [if_pos (by omega)] at h5
      exact ev_app base cs (c.2 :: st) h5
    · rw [if_neg z0, if_neg z0]
      by_cases z1 : c.1 = 1
      · rw [if_pos z1, if_pos z1]
        rw [if_pos (by omega)] at h5
        exact ev_app base cs (var c.2.toNatClampNeg :: st) h5
      · rw [if_neg z1, if_neg z1]
        have h4' := h4 (by omega)
        rw [if_neg (by omega)] at h5
        obtain ⟨r, l, st', rfl⟩ := two_of h4'
        rw [List.cons_append, List.cons_append, evO_e, evO_e]
        by_cases z5 : c.1 = 5 ∧ r = nN 0
        · rw [if_pos z5, if_pos z5]
          rfl
        · rw [if_neg z5, if_neg z5]
          exact ev_app base cs (opv c.1 l r :: st') h5
theorem wfd_up {lim : Nat} (k : Nat) : ∀ {cs : List (Nat × Int32)} {d : Nat}, wfd lim d cs → wfd (lim + k) (d + k) cs
  | [], d, h => Nat.add_le_add_right h k
  | c :: cs, d, h => by
    obtain ⟨h1, h2, h3, h4, h5⟩ := h
    refine ⟨by omega, h2, h3, fun y => by have := h4 y; omega, ?_⟩
    have ih := wfd_up k h5
    by_cases z : c.1 < 2
    · rw [if_pos z] at ih ⊢
      rw [show d + k + 1 = d + 1 + k by omega]
      exact ih
    · rw [if_neg z] at ih ⊢
      have := h4 (by omega)
      rw [show d + k - 1 = d - 1 + k by omega]
      exact ih
/-- the number that a term tells -/
def vC (var : Nat → Int32) (cs : List (Nat × Int32)) : Option Int32 := match evC var cs [] with
  | some (v :: _) => some v
  | _ => none
theorem vC_e {var : Nat → Int32} {cs : List (Nat × Int32)} (hw : wfd 20 0 cs) (hd : dpt 0 cs = 1) : (evC var cs [] = none ∧ vC var cs = none) ∨ ∃ v, evC var cs [] = some [v] ∧ vC var cs = some v := by
  rcases ev_len (var := var) cs [] hw with e | ⟨st, e, l⟩
  · refine Or.inl ⟨e, ?_⟩
    unfold vC
    rw [e]
  · have l1 : st.length = 1 := l.trans hd
    match st, l1, e with
    | [v], _, e =>
      refine Or.inr ⟨v, e, ?_⟩
      unfold vC
      rw [e]
    | [], l1, _ => exact absurd l1 (by decide)
    | _ :: _ :: _, l1, _ => exact absurd l1 (by intro y; have : (_ : Nat) + 1 + 1 = 1 := y; omega)
def lawV (var : Nat → Int32) : List (CL × (CL × CL)) → CL → Int32
  | [], t => match vC var t with
    | some v => v
    | none => nN 0
  | c :: r, t => match vC var c.1, vC var c.2.1 with
    | some a, some b => if a < b then (match vC var c.2.2 with
      | some v => v
      | none => nN 0) else lawV var r t
    | _, _ => nN 0
def F45 (q : Nat) (x x' : wb_H) : Prop := ∀ t o k, ¬ (t = 45 ∧ o = q) → x'.1 t o k = x.1 t o k ∧ x'.2.1 t o k = x.2.1 t o k ∧ x'.2.2 t o k = x.2.2 t o k
theorem F45_refl (q : Nat) (x : wb_H) : F45 q x x := fun _ _ _ _ => ⟨rfl, rfl, rfl⟩
theorem F45_trans {q : Nat} {x x1 x2 : wb_H} (a : F45 q x x1) (b : F45 q x1 x2) : F45 q x x2 := fun t o k n => ⟨(b t o k n).1.trans (a t o k n).1, (b t o k n).2.1.trans (a t o k n).2.1, (b t o k n).2.2.trans (a t o k n).2.2⟩
theorem F45_iu {q k : Nat} {x : wb_H} {v : Int32} : F45 q x (wb_iu x 45 q k v) := fun t o k' n => ⟨by
  rw [wb_iu_1, if_neg]
  rintro ⟨rfl, rfl, -⟩
  exact n ⟨rfl, rfl⟩, rfl, rfl⟩
theorem F45_i {q : Nat} {x x' : wb_H} (a : F45 q x x') {t o k : Nat} (h : t ≠ 45) : x'.1 t o k = x.1 t o k := (a t o k (fun y => h y.1)).1
def StX (x : wb_H) (q : Nat) : List Int32 → Prop
  | [] => True
  | v :: r => x.1 45 q r.length = v ∧ StX x q r
theorem StX_keep {x x' : wb_H} {q : Nat} : ∀ {l : List Int32}, (∀ j, j < l.length → x'.1 45 q j = x.1 45 q j) → StX x q l → StX x' q l
  | [], _, _ => trivial
  | _ :: r, e, h => ⟨(e _ (Nat.lt_succ_self _)).trans h.1, StX_keep (l := r) (fun j hj => e j (Nat.lt_succ_of_lt hj)) h.2⟩
theorem CodX_45 {q : Nat} {x x' : wb_H} (a : F45 q x x') {z : Nat} {cs : List (Nat × Int32)} (h : CodX x q z cs) : CodX x' q z cs := CodX_keep (e := z + cs.length) (fun j _ => ⟨F45_i a (by decide), F45_i a (by decide)⟩) (Nat.le_refl _) h
section
variable {sc : wb_X} {q : Nat}
theorem X_push {x : wb_H} {z d sz : Nat} (hq : q < 2) (h13 : x.1 13 q 6 = nN sz) (hsz : sz ≤ 402) (hz : z < sz) (hd : d < 40) (k : Nat) (v : Int32) (h41 : x.1 41 q z = nN k) (hk : (k = 0 ∧ v = x.1 42 q z) ∨ (k = 1 ∧ ∃ i, i < 7 ∧ x.1 42 q z = nN i ∧ v = x.1 44 q i)) : q_Laws_run_L4 sc x q (nN d) (nN z) = q_Laws_run_L4 sc (wb_iu x 45 q d v) q (nN (d + 1)) (nN (z + 1)) := by
  have g : decide (q < 2) = true := decide_eq_true hq
  rw [q_Laws_run_L4_eq]
  rcases hk with ⟨rfl, rfl⟩ | ⟨rfl, i, hi, e42, rfl⟩
  · simp (disch := omega) only [L_0, L_1, L_2, L_3, L_4, L_5, L_6, L_7, L_8, L_9, L_10, L_11, L_12, L_13, L_14, L_15, L_16, L_17, L_18, L_19, L_20, L_21, L_22, L_23, L_24, L_25, L_26, L_27, L_28, L_29, L_30, L_31, L_32, L_33, L_34, L_35, L_40, L_41, L_42, L_43, L_44, L_45, L_47, L_48, L_50, L_53, L_57, L_59, L_60, L_61, L_63, L_64, L_97, L_100, L_101, L_102, L_103, L_122, L_130, L_216, L_255, L_364, L_400, L_402, L_420, L_728, L_768, L_999, L_1000, L_1093, L_1872, L_2000, L_9999, L_12345, L_252645135, L_858993459, L_1103515245, L_1431655765, Lm_1, Lm_2, Lm_8, N_zero, N_cast, N_add, N_mul, N_sub, N_addM, N_lt_tp, N_lt_fp, N_le_tp, N_le_fp, N_eq_tp, N_eq_fp, MN_ltp, MN_lep, NM_ltp, NM_lep, NM_eqp, MN_eqp, MM_lt_tp, MM_lt_fp, MM_le_tp, MM_le_fp, MM_eq_tp, MM_eq_fp, N_cl, N_in_t, N_in_f, M_in, N_div, N_rem, N_nb0, N_nb1, cond_true, cond_false, Bool.not_true, Bool.not_false, Bool.and_true, Bool.true_and, Bool.and_false, Bool.false_and, decide_true, decide_false, Option.bind_some, Option.bind_none, g, h13, h41]
    rw [q_Laws_run_L45_eq]
    simp (disch := omega) only [L_0, L_1, L_2, L_3, L_4, L_5, L_6, L_7, L_8, L_9, L_10, L_11, L_12, L_13, L_14, L_15, L_16, L_17, L_18, L_19, L_20, L_21, L_22, L_23, L_24, L_25, L_26, L_27, L_28, L_29, L_30, L_31, L_32, L_33, L_34, L_35, L_40, L_41, L_42, L_43, L_44, L_45, L_47, L_48, L_50, L_53, L_57, L_59, L_60, L_61, L_63, L_64, L_97, L_100, L_101, L_102, L_103, L_122, L_130, L_216, L_255, L_364, L_400, L_402, L_420, L_728, L_768, L_999, L_1000, L_1093, L_1872, L_2000, L_9999, L_12345, L_252645135, L_858993459, L_1103515245, L_1431655765, Lm_1, Lm_2, Lm_8, N_zero, N_cast, N_add, N_mul, N_sub, N_addM, N_lt_tp, N_lt_fp, N_le_tp, N_le_fp, N_eq_tp, N_eq_fp, MN_ltp, MN_lep, NM_ltp, NM_lep, NM_eqp, MN_eqp, MM_lt_tp, MM_lt_fp, MM_le_tp, MM_le_fp, MM_eq_tp, MM_eq_fp, N_cl, N_in_t, N_in_f, M_in, N_div, N_rem, N_nb0, N_nb1, cond_true, cond_false, Bool.not_true, Bool.not_false, Bool.and_true, Bool.true_and, Bool.and_false, Bool.false_and, decide_true, decide_false, Option.bind_some, Option.bind_none, g]
    rw [q_Laws_run_L182_eq]
    simp (disch := omega) only [L_0, L_1, L_2, L_3, L_4, L_5, L_6, L_7, L_8, L_9, L_10, L_11, L_12, L_13, L_14, L_15, L_16, L_17, L_18, L_19, L_20, L_21, L_22, L_23, L_24, L_25, L_26, L_27, L_28, L_29, L_30, L_31, L_32, L_33, L_34, L_35, L_40, L_41, L_42, L_43, L_44, L_45, L_47, L_48, L_50, L_53, L_57, L_59, L_60, L_61, L_63, L_64, L_97, L_100, L_101, L_102, L_103, L_122, L_130, L_216, L_255, L_364, L_400, L_402, L_420, L_728, L_768, L_999, L_1000, L_1093, L_1872, L_2000, L_9999, L_12345, L_252645135, L_858993459, L_1103515245, L_1431655765, Lm_1, Lm_2, Lm_8, N_zero, N_cast, N_add, N_mul, N_sub, N_addM, N_lt_tp, N_lt_fp, N_le_tp, N_le_fp, N_eq_tp, N_eq_fp, MN_ltp, MN_lep, NM_ltp, NM_lep, NM_eqp, MN_eqp, MM_lt_tp, MM_lt_fp, MM_le_tp, MM_le_fp, MM_eq_tp, MM_eq_fp, N_cl, N_in_t, N_in_f, M_in, N_div, N_rem, N_nb0, N_nb1]
  · simp (disch := omega) only [L_0, L_1, L_2, L_3, L_4, L_5, L_6, L_7, L_8, L_9, L_10, L_11, L_12, L_13, L_14, L_15, L_16, L_17, L_18, L_19, L_20, L_21, L_22, L_23, L_24, L_25, L_26, L_27, L_28, L_29, L_30, L_31, L_32, L_33, L_34, L_35, L_40, L_41, L_42, L_43, L_44, L_45, L_47, L_48, L_50, L_53, L_57, L_59, L_60, L_61, L_63, L_64, L_97, L_100, L_101, L_102, L_103, L_122, L_130, L_216, L_255, L_364, L_400, L_402, L_420, L_728, L_768, L_999, L_1000, L_1093, L_1872, L_2000, L_9999, L_12345, L_252645135, L_858993459, L_1103515245, L_1431655765, Lm_1, Lm_2, Lm_8, N_zero, N_cast, N_add, N_mul, N_sub, N_addM, N_lt_tp, N_lt_fp, N_le_tp, N_le_fp, N_eq_tp, N_eq_fp, MN_ltp, MN_lep, NM_ltp, NM_lep, NM_eqp, MN_eqp, MM_lt_tp, MM_lt_fp, MM_le_tp, MM_le_fp, MM_eq_tp, MM_eq_fp, N_cl, N_in_t, N_in_f, M_in, N_div, N_rem, N_nb0, N_nb1, cond_true, cond_false, Bool.not_true, Bool.not_false, Bool.and_true, Bool.true_and, Bool.and_false, Bool.false_and, decide_true, decide_false, Option.bind_some, Option.bind_none, g, h13, h41]
    rw [q_Laws_run_L45_eq]
    simp (disch := omega) only [L_0, L_1, L_2, L_3, L_4, L_5, L_6, L_7, L_8, L_9, L_10, L_11, L_12, L_13, L_14, L_15, L_16, L_17, L_18, L_19, L_20, L_21, L_22, L_23, L_24, L_25, L_26, L_27, L_28, L_29, L_30, L_31, L_32, L_33, L_34, L_35, L_40, L_41, L_42, L_43, L_44, L_45, L_47, L_48, L_50, L_53, L_57, L_59, L_60, L_61, L_63, L_64, L_97, L_100, L_101, L_102, L_103, L_122, L_130, L_216, L_255, L_364, L_400, L_402, L_420, L_728, L_768, L_999, L_1000, L_1093, L_1872, L_2000, L_9999, L_12345, L_252645135, L_858993459, L_1103515245, L_1431655765, Lm_1, Lm_2, Lm_8, N_zero, N_cast, N_add, N_mul, N_sub, N_addM, N_lt_tp, N_lt_fp, N_le_tp, N_le_fp, N_eq_tp, N_eq_fp, MN_ltp, MN_lep, NM_ltp, NM_lep, NM_eqp, MN_eqp, MM_lt_tp, MM_lt_fp, MM_le_tp, MM_le_fp, MM_eq_tp, MM_eq_fp, N_cl, N_in_t, N_in_f, M_in, N_div, N_rem, N_nb0, N_nb1, cond_true, cond_false, Bool.not_true, Bool.not_false, Bool.and_true, Bool.true_and, Bool.and_false, Bool.false_and, decide_true, decide_false, Option.bind_some, Option.bind_none, g, e42]
    rw [q_Laws_run_L182_eq]
    simp (disch := omega) only [L_0, L_1, L_2, L_3, L_4, L_5, L_6, L_7, L_8, L_9, L_10, L_11, L_12, L_13, L_14, L_15, L_16, L_17, L_18, L_19, L_20, L_21, L_22, L_23, L_24, L_25, L_26, L_27, L_28, L_29, L_30, L_31, L_32, L_33, L_34, L_35, L_40, L_41, L_42, L_43, L_44, L_45, L_47, L_48, L_50, L_53, L_57, L_59, L_60, L_61, L_63, L_64, L_97, L_100, L_101, L_102, L_103, L_122, L_130, L_216, L_255, L_364, L_400, L_402, L_420, L_728, L_768, L_999, L_1000, L_1093, L_1872, L_2000, L_9999, L_12345, L_252645135, L_858993459, L_1103515245, L_1431655765, Lm_1, Lm_2, Lm_8, N_zero, N_cast, N_add, N_mul, N_sub, N_addM, N_lt_tp, N_lt_fp, N_le_tp, N_le_fp, N_eq_tp, N_eq_fp, MN_ltp, MN_lep, NM_ltp, NM_lep, NM_eqp, MN_eqp, MM_lt_tp, MM_lt_fp, MM_le_tp, MM_le_fp, MM_eq_tp, MM_eq_fp, N_cl, N_in_t, N_in_f, M_in, N_div, N_rem, N_nb0, N_nb1]
theorem X_op {x : wb_H} {z d sz k : Nat} {l r : Int32} (hq : q < 2) (h13 : x.1 13 q 6 = nN sz) (hsz : sz ≤ 402) (hz : z < sz) (hd : d + 2 ≤ 40) (h41 : x.1 41 q z = nN (xo k)) (hk2 : 2 ≤ k) (hk5 : k ≤ 5) (hl : x.1 45 q d = l) (hr : x.1 45 q (d + 1) = r) : (k = 5 ∧ r = nN 0 → q_Laws_run_L4 sc x q (nN (d + 2)) (nN z) = some (nN 0, x)) ∧ (¬ (k = 5 ∧ r = nN 0) → q_Laws_run_L4 sc x q (nN (d + 2)) (nN z) = q_Laws_run_L4 sc (wb_iu x 45 q d (opv k l r)) q (nN (d + 1)) (nN (z + 1))) := by
  have g : decide (q < 2) = true := decide_eq_true hq
  have e2 : d + 2 - 2 = d := by omega
  have e1 : d + 2 - 1 = d + 1 := by omega
  rcases (show k = 2 ∨ k = 3 ∨ k = 4 ∨ k = 5 by omega) with e | e | e | e
  · subst e
    have h41' : x.1 41 q z = nN 43 := h41
    refine ⟨fun y => absurd y.1 (by decide), fun _ => ?_⟩
    rw [q_Laws_run_L4_eq]
    simp (disch := omega) only [L_0, L_1, L_2, L_3, L_4, L_5, L_6, L_7, L_8, L_9, L_10, L_11, L_12, L_13, L_14, L_15, L_16, L_17, L_18, L_19, L_20, L_21, L_22, L_23, L_24, L_25, L_26, L_27, L_28, L_29, L_30, L_31, L_32, L_33, L_34, L_35, L_40, L_41, L_42, L_43, L_44, L_45, L_47, L_48, L_50, L_53, L_57, L_59, L_60, L_61, L_63, L_64, L_97, L_100, L_101, L_102, L_103, L_122, L_130, L_216, L_255, L_364, L_400, L_402, L_420, L_728, L_768, L_999, L_1000, L_1093, L_1872, L_2000, L_9999, L_12345, L_252645135, L_858993459, L_1103515245, L_1431655765, Lm_1, Lm_2, Lm_8, N_zero, N_cast, N_add, N_mul, N_sub, N_addM, N_lt_tp, N_lt_fp, N_le_tp, N_le_fp, N_eq_tp, N_eq_fp, MN_ltp, MN_lep, NM_ltp, NM_lep, NM_eqp, MN_eqp, MM_lt_tp, MM_lt_fp, MM_le_tp, MM_le_fp, MM_eq_tp, MM_eq_fp, N_cl, N_in_t, N_in_f, M_in, N_div, N_rem, N_nb0, N_nb1, cond_true, cond_false, Bool.not_true, Bool.not_false, Bool.and_true, Bool.true_and, Bool.and_false, Bool.false_and, decide_true, decide_false, Option.bind_some, Option.bind_none, g, h13, h41']
    rw [q_Laws_run_L91_eq]
    simp (disch := omega) only [L_0, L_1, L_2, L_3, L_4, L_5, L_6, L_7, L_8, L_9, L_10, L_11, L_12, L_13, L_14, L_15, L_16, L_17, L_18, L_19, L_20, L_21, L_22, L_23, L_24, L_25, L_26, L_27, L_28, L_29, L_30, L_31, L_32, L_33, L_34, L_35, L_40, L_41, L_42, L_43, L_44, L_45, L_47, L_48, L_50, L_53, L_57, L_59, L_60, L_61, L_63, L_64, L_97, L_100, L_101, L_102, L_103, L_122, L_130, L_216, L_255, L_364, L_400, L_402, L_420, L_728, L_768, L_999, L_1000, L_1093, L_1872, L_2000, L_9999, L_12345, L_252645135, L_858993459, L_1103515245, L_1431655765, Lm_1, Lm_2, Lm_8, N_zero, N_cast, N_add, N_mul, N_sub, N_addM, N_lt_tp, N_lt_fp, N_le_tp, N_le_fp, N_eq_tp, N_eq_fp, MN_ltp, MN_lep, NM_ltp, NM_lep, NM_eqp, MN_eqp, MM_lt_tp, MM_lt_fp, MM_le_tp, MM_le_fp, MM_eq_tp, MM_eq_fp, N_cl, N_in_t, N_in_f, M_in, N_div, N_rem, N_nb0, N_nb1, cond_true, cond_false, Bool.not_true, Bool.not_false, Bool.and_true, Bool.true_and, Bool.and_false, Bool.false_and, decide_true, decide_false, Option.bind_some, Option.bind_none, g, e1, e2, hl, hr]
    rw [q_Laws_run_L130_eq, q_Laws_reckon_eq]
    simp (disch := omega) only [L_0, L_1, L_2, L_3, L_4, L_5, L_6, L_7, L_8, L_9, L_10, L_11, L_12, L_13, L_14, L_15, L_16, L_17, L_18, L_19, L_20, L_21, L_22, L_23, L_24, L_25, L_26, L_27, L_28, L_29, L_30, L_31, L_32, L_33, L_34, L_35, L_40, L_41, L_42, L_43, L_44, L_45, L_47, L_48, L_50, L_53, L_57, L_59, L_60, L_61, L_63, L_64, L_97, L_100, L_101, L_102, L_103, L_122, L_130, L_216, L_255, L_364, L_400, L_402, L_420, L_728, L_768, L_999, L_1000, L_1093, L_1872, L_2000, L_9999, L_12345, L_252645135, L_858993459, L_1103515245, L_1431655765, Lm_1, Lm_2, Lm_8, N_zero, N_cast, N_add, N_mul, N_sub, N_addM, N_lt_tp, N_lt_fp, N_le_tp, N_le_fp, N_eq_tp, N_eq_fp, MN_ltp, MN_lep, NM_ltp, NM_lep, NM_eqp, MN_eqp, MM_lt_tp, MM_lt_fp, MM_le_tp, MM_le_fp, MM_eq_tp, MM_eq_fp, N_cl, N_in_t, N_in_f, M_in, N_div, N_rem, N_nb0, N_nb1, cond_true, cond_false, Bool.not_true, Bool.not_false, Bool.and_true, Bool.true_and, Bool.and_false, Bool.false_and, decide_true, decide_false, Option.bind_some, Option.bind_none, g, e1, e2]
    rw [q_Laws_run_L182_eq]
    simp (disch := omega) only [L_0, L_1, L_2, L_3, L_4, L_5, L_6, L_7, L_8, L_9, L_10, L_11, L_12, L_13, L_14, L_15, L_16, L_17, L_18, L_19, L_20, L_21, L_22, L_23, L_24, L_25, L_26, L_27, L_28, L_29, L_30, L_31, L_32, L_33, L_34, L_35, L_40, L_41, L_42, L_43, L_44, L_45, L_47, L_48, L_50, L_53, L_57, L_59, L_60, L_61, L_63, L_64, L_97, L_100, L_101, L_102, L_103, L_122, L_130, L_216, L_255, L_364, L_400, L_402, L_420, L_728, L_768, L_999, L_1000, L_1093, L_1872, L_2000, L_9999, L_12345, L_252645135, L_858993459, L_1103515245, L_1431655765, Lm_1, Lm_2, Lm_8, N_zero, N_cast, N_add, N_mul, N_sub, N_addM, N_lt_tp, N_lt_fp, N_le_tp, N_le_fp, N_eq_tp, N_eq_fp, MN_ltp, MN_lep, NM_ltp, NM_lep, NM_eqp, MN_eqp, MM_lt_tp, MM_lt_fp, MM_le_tp, MM_le_fp, MM_eq_tp, MM_eq_fp, N_cl, N_in_t, N_in_f, M_in, N_div, N_rem, N_nb0, N_nb1, e1]
    rfl
  · subst e
    have h41' : x.1 41 q z = nN 45 := h41
    refine ⟨fun y => absurd y.1 (by decide), fun _ => ?_⟩
    rw [q_Laws_run_L4_eq]
    simp (disch := omega) only [L_0, L_1, L_2, L_3, L_4, L_5, L_6, L_7, L_8, L_9, L_10, L_11, L_12, L_13, L_14, L_15, L_16, L_17, L_18, L_19, L_20, L_21, L_22, L_23, L_24, L_25, L_26, L_27, L_28, L_29, L_30, L_31, L_32, L_33, L_34, L_35, L_40, L_41, L_42, L_43, L_44, L_45, L_47, L_48, L_50, L_53, L_57, L_59, L_60, L_61, L_63, L_64, L_97, L_100, L_101, L_102, L_103, L_122, L_130, L_216, L_255, L_364, L_400, L_402, L_420, L_728, L_768, L_999, L_1000, L_1093, L_1872, L_2000, L_9999, L_12345, L_252645135, L_858993459, L_1103515245, L_1431655765, Lm_1, Lm_2, Lm_8, N_zero, N_cast, N_add, N_mul, N_sub, N_addM, N_lt_tp, N_lt_fp, N_le_tp, N_le_fp, N_eq_tp, N_eq_fp, MN_ltp, MN_lep, NM_ltp, NM_lep, NM_eqp, MN_eqp, MM_lt_tp, MM_lt_fp, MM_le_tp, MM_le_fp, MM_eq_tp, MM_eq_fp, N_cl, N_in_t, N_in_f, M_in, N_div, N_rem, N_nb0, N_nb1, cond_true, cond_false, Bool.not_true, Bool.not_false, Bool.and_true, Bool.true_and, Bool.and_false, Bool.false_and, decide_true, decide_false, Option.bind_some, Option.bind_none, g, h13, h41']
    rw [q_Laws_run_L91_eq]
    simp (disch := omega) only [L_0, L_1, L_2, L_3, L_4, L_5, L_6, L_7, L_8, L_9, L_10, L_11, L_12, L_13, L_14, L_15, L_16, L_17, L_18, L_19, L_20, L_21, L_22, L_23, L_24, L_25, L_26, L_27, L_28, L_29, L_30, L_31, L_32, L_33, L_34, L_35, L_40, L_41, L_42, L_43, L_44, L_45, L_47, L_48, L_50, L_53, L_57, L_59, L_60, L_61, L_63, L_64, L_97, L_100, L_101, L_102, L_103, L_122, L_130, L_216, L_255, L_364, L_400, L_402, L_420, L_728, L_768, L_999, L_1000, L_1093, L_1872, L_2000, L_9999, L_12345, L_252645135, L_858993459, L_1103515245, L_1431655765, Lm_1, Lm_2, Lm_8, N_zero, N_cast, N_add, N_mul, N_sub, N_addM, N_lt_tp, N_lt_fp, N_le_tp, N_le_fp, N_eq_tp, N_eq_fp, MN_ltp, MN_lep, NM_ltp, NM_lep, NM_eqp, MN_eqp, MM_lt_tp, MM_lt_fp, MM_le_tp, MM_le_fp, MM_eq_tp, MM_eq_fp, N_cl, N_in_t, N_in_f, M_in, N_div, N_rem, N_nb0, N_nb1, cond_true, cond_false, Bool.not_true, Bool.not_false, Bool.and_true, Bool.true_and, Bool.and_false, Bool.false_and, decide_true, decide_false, Option.bind_some, Option.bind_none, g, e1, e2, hl, hr]
    rw [q_Laws_run_L130_eq, q_Laws_reckon_eq]
    simp (disch := omega) only [L_0, L_1, L_2, L_3, L_4, L_5, L_6, L_7, L_8, L_9, L_10, L_11, L_12, L_13, L_14, L_15, L_16, L_17, L_18, L_19, L_20, L_21, L_22, L_23, L_24, L_25, L_26, L_27, L_28, L_29, L_30, L_31, L_32, L_33, L_34, L_35, L_40, L_41, L_42, L_43, L_44, L_45, L_47, L_48, L_50, L_53, L_57, L_59, L_60, L_61, L_63, L_64, L_97, L_100, L_101, L_102, L_103, L_122, L_130, L_216, L_255, L_364, L_400, L_402, L_420, L_728, L_768, L_999, L_1000, L_1093, L_1872, L_2000, L_9999, L_12345, L_252645135, L_858993459, L_1103515245, L_1431655765, Lm_1, Lm_2, Lm_8, N_zero, N_cast, N_add, N_mul, N_sub, N_addM, N_lt_tp, N_lt_fp, N_le_tp, N_le_fp, N_eq_tp, N_eq_fp, MN_ltp, MN_lep, NM_ltp, NM_lep, NM_eqp, MN_eqp, MM_lt_tp, MM_lt_fp, MM_le_tp, MM_le_fp, MM_eq_tp, MM_eq_fp, N_cl, N_in_t, N_in_f, M_in, N_div, N_rem, N_nb0, N_nb1, cond_true, cond_false, Bool.not_true, Bool.not_false, Bool.and_true, Bool.true_and, Bool.and_false, Bool.false_and, decide_true, decide_false, Option.bind_some, Option.bind_none, g, e1, e2]
    rw [q_Laws_run_L182_eq]
    simp (disch := omega) only [L_0, L_1, L_2, L_3, L_4, L_5, L_6, L_7, L_8, L_9, L_10, L_11, L_12, L_13, L_14, L_15, L_16, L_17, L_18, L_19, L_20, L_21, L_22, L_23, L_24, L_25, L_26, L_27, L_28, L_29, L_30, L_31, L_32, L_33, L_34, L_35, L_40, L_41, L_42, L_43, L_44, L_45, L_47, L_48, L_50, L_53, L_57, L_59, L_60, L_61, L_63, L_64, L_97, L_100, L_101, L_102, L_103, L_122, L_130, L_216, L_255, L_364, L_400, L_402, L_420, L_728, L_768, L_999, L_1000, L_1093, L_1872, L_2000, L_9999, L_12345, L_252645135, L_858993459, L_1103515245, L_1431655765, Lm_1, Lm_2, Lm_8, N_zero, N_cast, N_add, N_mul, N_sub, N_addM, N_lt_tp, N_lt_fp, N_le_tp, N_le_fp, N_eq_tp, N_eq_fp, MN_ltp, MN_lep, NM_ltp, NM_lep, NM_eqp, MN_eqp, MM_lt_tp, MM_lt_fp, MM_le_tp, MM_le_fp, MM_eq_tp, MM_eq_fp, N_cl, N_in_t, N_in_f, M_in, N_div, N_rem, N_nb0, N_nb1, e1]
    rfl
  · subst e
    have h41' : x.1 41 q z = nN 42 := h41
    refine ⟨fun y => absurd y.1 (by decide), fun _ => ?_⟩
    rw [q_Laws_run_L4_eq]
    simp (disch := omega) only [L_0, L_1, L_2, L_3, L_4, L_5, L_6, L_7, L_8, L_9, L_10, L_11, L_12, L_13, L_14, L_15, L_16, L_17, L_18, L_19, L_20, L_21, L_22, L_23, L_24, L_25, L_26, L_27, L_28, L_29, L_30, L_31, L_32, L_33, L_34, L_35, L_40, L_41, L_42, L_43, L_44, L_45, L_47, L_48, L_50, L_53, L_57, L_59, L_60, L_61, L_63, L_64, L_97, L_100, L_101, L_102, L_103, L_122, L_130, L_216, L_255, L_364, L_400, L_402, L_420, L_728, L_768, L_999, L_1000, L_1093, L_1872, L_2000, L_9999, L_12345, L_252645135, L_858993459, L_1103515245, L_1431655765, Lm_1, Lm_2, Lm_8, N_zero, N_cast, N_add, N_mul, N_sub, N_addM, N_lt_tp, N_lt_fp, N_le_tp, N_le_fp, N_eq_tp, N_eq_fp, MN_ltp, MN_lep, NM_ltp, NM_lep, NM_eqp, MN_eqp, MM_lt_tp, MM_lt_fp, MM_le_tp, MM_le_fp, MM_eq_tp, MM_eq_fp, N_cl, N_in_t, N_in_f, M_in, N_div, N_rem, N_nb0, N_nb1, cond_true, cond_false, Bool.not_true, Bool.not_false, Bool.and_true, Bool.true_and, Bool.and_false, Bool.false_and, decide_true, decide_false, Option.bind_some, Option.bind_none, g, h13, h41']
    rw [q_Laws_run_L91_eq]
    simp (disch := omega) only [L_0, L_1, L_2, L_3, L_4, L_5, L_6, L_7, L_8, L_9, L_10, L_11, L_12, L_13, L_14, L_15, L_16, L_17, L_18, L_19, L_20, L_21, L_22, L_23, L_24, L_25, L_26, L_27, L_28, L_29, L_30, L_31, L_32, L_33, L_34, L_35, L_40, L_41, L_42, L_43, L_44, L_45, L_47, L_48, L_50, L_53, L_57, L_59, L_60, L_61, L_63, L_64, L_97, L_100, L_101, L_102, L_103, L_122, L_130, L_216, L_255, L_364, L_400, L_402, L_420, L_728, L_768, L_999, L_1000, L_1093, L_1872, L_2000, L_9999, L_12345, L_252645135, L_858993459, L_1103515245, L_1431655765, Lm_1, Lm_2, Lm_8, N_zero, N_cast, N_add, N_mul, N_sub, N_addM, N_lt_tp, N_lt_fp, N_le_tp, N_le_fp, N_eq_tp, N_eq_fp, MN_ltp, MN_lep, NM_ltp, NM_lep, NM_eqp, MN_eqp, MM_lt_tp, MM_lt_fp, MM_le_tp, MM_le_fp, MM_eq_tp, MM_eq_fp, N_cl, N_in_t, N_in_f, M_in, N_div, N_rem, N_nb0, N_nb1, cond_true, cond_false, Bool.not_true, Bool.not_false, Bool.and_true, Bool.true_and, Bool.and_false, Bool.false_and, decide_true, decide_false, Option.bind_some, Option.bind_none, g, e1, e2, hl, hr]
    rw [q_Laws_run_L130_eq, q_Laws_reckon_eq]
    simp (disch := omega) only [L_0, L_1, L_2, L_3, L_4, L_5, L_6, L_7, L_8, L_9, L_10, L_11, L_12, L_13, L_14, L_15, L_16, L_17, L_18, L_19, L_20, L_21, L_22, L_23, L_24, L_25, L_26, L_27, L_28, L_29, L_30, L_31, L_32, L_33, L_34, L_35, L_40, L_41, L_42, L_43, L_44, L_45, L_47, L_48, L_50, L_53, L_57, L_59, L_60, L_61, L_63, L_64, L_97, L_100, L_101, L_102, L_103, L_122, L_130, L_216, L_255, L_364, L_400, L_402, L_420, L_728, L_768, L_999, L_1000, L_1093, L_1872, L_2000, L_9999, L_12345, L_252645135, L_858993459, L_1103515245, L_1431655765, Lm_1, Lm_2, Lm_8, N_zero, N_cast, N_add, N_mul, N_sub, N_addM, N_lt_tp, N_lt_fp, N_le_tp, N_le_fp, N_eq_tp, N_eq_fp, MN_ltp, MN_lep, NM_ltp, NM_lep, NM_eqp, MN_eqp, MM_lt_tp, MM_lt_fp, MM_le_tp, MM_le_fp, MM_eq_tp, MM_eq_fp, N_cl, N_in_t, N_in_f, M_in, N_div, N_rem, N_nb0, N_nb1, cond_true, cond_false, Bool.not_true, Bool.not_false, Bool.and_true, Bool.true_and, Bool.and_false, Bool.false_and, decide_true, decide_false, Option.bind_some, Option.bind_none, g, e1, e2]
    rw [q_Laws_run_L182_eq]
    simp (disch := omega) only [L_0, L_1, L_2, L_3, L_4, L_5, L_6, L_7, L_8, L_9, L_10, L_11, L_12, L_13, L_14, L_15, L_16, L_17, L_18, L_19, L_20, L_21, L_22, L_23, L_24, L_25, L_26, L_27, L_28, L_29, L_30, L_31, L_32, L_33, L_34, L_35, L_40, L_41, L_42, L_43, L_44, L_45, L_47, L_48, L_50, L_53, L_57, L_59, L_60, L_61, L_63, L_64, L_97, L_100, L_101, L_102, L_103, L_122, L_130, L_216, L_255, L_364, L_400, L_402, L_420, L_728, L_768, L_999, L_1000, L_1093, L_1872, L_2000, L_9999, L_12345, L_252645135, L_858993459, L_1103515245, L_1431655765, Lm_1, Lm_2, Lm_8, N_zero, N_cast, N_add, N_mul, N_sub, N_addM, N_lt_tp, N_lt_fp, N_le_tp, N_le_fp, N_eq_tp, N_eq_fp, MN_ltp, MN_lep, NM_ltp, NM_lep, NM_eqp, MN_eqp, MM_lt_tp, MM_lt_fp, MM_le_tp, MM_le_fp, MM_eq_tp, MM_eq_fp, N_cl, N_in_t, N_in_f, M_in, N_div, N_rem, N_nb0, N_nb1, e1]
    rfl
  · subst e
    have h41' : x.1 41 q z = nN 47 := h41
    refine ⟨fun y => ?_, fun y => ?_⟩
    · have r0 := y.2
      rw [q_Laws_run_L4_eq]
      simp (disch := omega) only [L_0, L_1, L_2, L_3, L_4, L_5, L_6, L_7, L_8, L_9, L_10, L_11, L_12, L_13, L_14, L_15, L_16, L_17, L_18, L_19, L_20, L_21, L_22, L_23, L_24, L_25, L_26, L_27, L_28, L_29, L_30, L_31, L_32, L_33, L_34, L_35, L_40, L_41, L_42, L_43, L_44, L_45, L_47, L_48, L_50, L_53, L_57, L_59, L_60, L_61, L_63, L_64, L_97, L_100, L_101, L_102, L_103, L_122, L_130, L_216, L_255, L_364, L_400, L_402, L_420, L_728, L_768, L_999, L_1000, L_1093, L_1872, L_2000, L_9999, L_12345, L_252645135, L_858993459, L_1103515245, L_1431655765, Lm_1, Lm_2, Lm_8, N_zero, N_cast, N_add, N_mul, N_sub, N_addM, N_lt_tp, N_lt_fp, N_le_tp, N_le_fp, N_eq_tp, N_eq_fp, MN_ltp, MN_lep, NM_ltp, NM_lep, NM_eqp, MN_eqp, MM_lt_tp, MM_lt_fp, MM_le_tp, MM_le_fp, MM_eq_tp, MM_eq_fp, N_cl, N_in_t, N_in_f, M_in, N_div, N_rem, N_nb0, N_nb1, cond_true, cond_false, Bool.not_true, Bool.not_false, Bool.and_true, Bool.true_and, Bool.and_false, Bool.false_and, decide_true, decide_false, Option.bind_some, Option.bind_none, g, h13, h41']
      rw [q_Laws_run_L91_eq]
      simp (disch := omega) only [L_0, L_1, L_2, L_3, L_4, L_5, L_6, L_7, L_8, L_9, L_10, L_11, L_12, L_13, L_14, L_15, L_16, L_17, L_18, L_19, L_20, L_21, L_22, L_23, L_24, L_25, L_26, L_27, L_28, L_29, L_30, L_31, L_32, L_33, L_34, L_35, L_40, L_41, L_42, L_43, L_44, L_45, L_47, L_48, L_50, L_53, L_57, L_59, L_60, L_61, L_63, L_64, L_97, L_100, L_101, L_102, L_103, L_122, L_130, L_216, L_255, L_364, L_400, L_402, L_420, L_728, L_768, L_999, L_1000, L_1093, L_1872, L_2000, L_9999, L_12345, L_252645135, L_858993459, L_1103515245, L_1431655765, Lm_1, Lm_2, Lm_8, N_zero, N_cast, N_add, N_mul, N_sub, N_addM, N_lt_tp, N_lt_fp, N_le_tp, N_le_fp, N_eq_tp, N_eq_fp, MN_ltp, MN_lep, NM_ltp, NM_lep, NM_eqp, MN_eqp, MM_lt_tp, MM_lt_fp, MM_le_tp, MM_le_fp, MM_eq_tp, MM_eq_fp, N_cl, N_in_t, N_in_f, M_in, N_div, N_rem, N_nb0, N_nb1, cond_true, cond_false, Bool.not_true, Bool.not_false, Bool.and_true, Bool.true_and, Bool.and_false, Bool.false_and, decide_true, decide_false, Option.bind_some, Option.bind_none, g, e1, e2, hl, hr, r0]
    · have r0 : ¬ (r = nN 0) := fun e => y ⟨rfl, e⟩
      rw [q_Laws_run_L4_eq]
      simp (disch := omega) only [L_0, L_1, L_2, L_3, L_4, L_5, L_6, L_7, L_8, L_9, L_10, L_11, L_12, L_13, L_14, L_15, L_16, L_17, L_18, L_19, L_20, L_21, L_22, L_23, L_24, L_25, L_26, L_27, L_28, L_29, L_30, L_31, L_32, L_33, L_34, L_35, L_40, L_41, L_42, L_43, L_44, L_45, L_47, L_48, L_50, L_53, L_57, L_59, L_60, L_61, L_63, L_64, L_97, L_100, L_101, L_102, L_103, L_122, L_130, L_216, L_255, L_364, L_400, L_402, L_420, L_728, L_768, L_999, L_1000, L_1093, L_1872, L_2000, L_9999, L_12345, L_252645135, L_858993459, L_1103515245, L_1431655765, Lm_1, Lm_2, Lm_8, N_zero, N_cast, N_add, N_mul, N_sub, N_addM, N_lt_tp, N_lt_fp, N_le_tp, N_le_fp, N_eq_tp, N_eq_fp, MN_ltp, MN_lep, NM_ltp, NM_lep, NM_eqp, MN_eqp, MM_lt_tp, MM_lt_fp, MM_le_tp, MM_le_fp, MM_eq_tp, MM_eq_fp, N_cl, N_in_t, N_in_f, M_in, N_div, N_rem, N_nb0, N_nb1, cond_true, cond_false, Bool.not_true, Bool.not_false, Bool.and_true, Bool.true_and, Bool.and_false, Bool.false_and, decide_true, decide_false, Option.bind_some, Option.bind_none, g, h13, h41']
      rw [q_Laws_run_L91_eq]
      simp (disch := omega) only [L_0, L_1, L_2, L_3, L_4, L_5, L_6, L_7, L_8, L_9, L_10, L_11, L_12, L_13, L_14, L_15, L_16, L_17, L_18, L_19, L_20, L_21, L_22, L_23, L_24, L_25, L_26, L_27, L_28, L_29, L_30, L_31, L_32, L_33, L_34, L_35, L_40, L_41, L_42, L_43, L_44, L_45, L_47, L_48, L_50, L_53, L_57, L_59, L_60, L_61, L_63, L_64, L_97, L_100, L_101, L_102, L_103, L_122, L_130, L_216, L_255, L_364, L_400, L_402, L_420, L_728, L_768, L_999, L_1000, L_1093, L_1872, L_2000, L_9999, L_12345, L_252645135, L_858993459, L_1103515245, L_1431655765, Lm_1, Lm_2, Lm_8, N_zero, N_cast, N_add, N_mul, N_sub, N_addM, N_lt_tp, N_lt_fp, N_le_tp, N_le_fp, N_eq_tp, N_eq_fp, MN_ltp, MN_lep, NM_ltp, NM_lep, NM_eqp, MN_eqp, MM_lt_tp, MM_lt_fp, MM_le_tp, MM_le_fp, MM_eq_tp, MM_eq_fp, N_cl, N_in_t, N_in_f, M_in, N_div, N_rem, N_nb0, N_nb1, cond_true, cond_false, Bool.not_true, Bool.not_false, Bool.and_true, Bool.true_and, Bool.and_false, Bool.false_and, decide_true, decide_false, Option.bind_some, Option.bind_none, g, e1, e2, hl, hr, eq_false r0]
      rw [q_Laws_run_L130_eq, q_Laws_reckon_eq]
      simp (disch := omega) only [L_0, L_1, L_2, L_3, L_4, L_5, L_6, L_7, L_8, L_9, L_10, L_11, L_12, L_13, L_14, L_15, L_16, L_17, L_18, L_19, L_20, L_21, L_22, L_23, L_24, L_25, L_26, L_27, L_28, L_29, L_30, L_31, L_32, L_33, L_34, L_35, L_40, L_41, L_42, L_43, L_44, L_45, L_47, L_48, L_50, L_53, L_57, L_59, L_60, L_61, L_63, L_64, L_97, L_100, L_101, L_102, L_103, L_122, L_130, L_216, L_255, L_364, L_400, L_402, L_420, L_728, L_768, L_999, L_1000, L_1093, L_1872, L_2000, L_9999, L_12345, L_252645135, L_858993459, L_1103515245, L_1431655765, Lm_1, Lm_2, Lm_8, N_zero, N_cast, N_add, N_mul, N_sub, N_addM, N_lt_tp, N_lt_fp, N_le_tp, N_le_fp, N_eq_tp, N_eq_fp, MN_ltp, MN_lep, NM_ltp, NM_lep, NM_eqp, MN_eqp, MM_lt_tp, MM_lt_fp, MM_le_tp, MM_le_fp, MM_eq_tp, MM_eq_fp, N_cl, N_in_t, N_in_f, M_in, N_div, N_rem, N_nb0, N_nb1, cond_true, cond_false, Bool.not_true, Bool.not_false, Bool.and_true, Bool.true_and, Bool.and_false, Bool.false_and, decide_true, decide_false, Option.bind_some, Option.bind_none, g, e1, e2, eq_false r0]
      rw [q_Laws_run_L182_eq]
      simp (disch := omega) only [L_0, L_1, L_2, L_3, L_4, L_5, L_6, L_7, L_8, L_9, L_10, L_11, L_12, L_13, L_14, L_15, L_16, L_17, L_18, L_19, L_20, L_21, L_22, L_23, L_24, L_25, L_26, L_27, L_28, L_29, L_30, L_31, L_32, L_33, L_34, L_35, L_40, L_41, L_42, L_43, L_44, L_45, L_47, L_48, L_50, L_53, L_57, L_59, L_60, L_61, L_63, L_64, L_97, L_100, L_101, L_102, L_103, L_122, L_130, L_216, L_255, L_364, L_400, L_402, L_420, L_728, L_768, L_999, L_1000, L_1093, L_1872, L_2000, L_9999, L_12345, L_252645135, L_858993459, L_1103515245, L_1431655765, Lm_1, Lm_2, Lm_8, N_zero, N_cast, N_add, N_mul, N_sub, N_addM, N_lt_tp, N_lt_fp, N_le_tp, N_le_fp, N_eq_tp, N_eq_fp, MN_ltp, MN_lep, NM_ltp, NM_lep, NM_eqp, MN_eqp, MM_lt_tp, MM_lt_fp, MM_le_tp, MM_le_fp, MM_eq_tp, MM_eq_fp, N_cl, N_in_t, N_in_f, M_in, N_div, N_rem, N_nb0, N_nb1, e1]
      rfl
theorem X_seg {sz lim : Nat} {var : Nat → Int32} (hq : q < 2) (hsz : sz ≤ 402) (hl : lim ≤ 40) : ∀ (cs : List (Nat × Int32)) (z : Nat) (st : List Int32) (x : wb_H), x.1 13 q 6 = nN sz → (∀ i, i < 7 → x.1 44 q i = var i) → StX x q st → CodX x q z cs → z + cs.length ≤ sz → wfd lim st.length cs → (evC var cs st = none → Ok (q_Laws_run_L4 sc x q (nN st.length) (nN z)) (fun r => r.1 = nN 0 ∧ F45 q x r.2)) ∧ (∀ st', evC var cs st = some st' → ∃ x', F45 q x x' ∧ StX x' q st' ∧ q_Laws_run_L4 sc x q (nN st.length) (nN z) = q_Laws_run_L4 sc x' q (nN st'.length) (nN (z + cs.length))) := by
  intro cs
  induction cs with
  | nil =>
    intro z st x h13 h44 hS hC hz hw
    refine ⟨fun y => absurd y (fun h => by cases h), fun st' e => ?_⟩
    have e' : st = st' := Option.some.inj e
    subst e'
    exact ⟨x, F45_refl q x, hS, rfl⟩
  | cons c cs ih =>
    intro z st x h13 h44 hS hC hz hw
    obtain ⟨h1, h2, h3, h4, h5⟩ := hw
    obtain ⟨⟨c1, c2⟩, c3⟩ := hC
    rw [List.length_cons] at hz
    rw [evC]
    have fin : ∀ (st1 : List Int32) (x1 : wb_H), F45 q x x1 → StX x1 q st1 → wfd lim st1.length cs → q_Laws_run_L4 sc x q (nN st.length) (nN z) = q_Laws_run_L4 sc x1 q (nN st1.length) (nN (z + 1)) → (evC var cs st1 = none → Ok (q_Laws_run_L4 sc x q (nN st.length) (nN z)) (fun r => r.1 = nN 0 ∧ F45 q x r.2)) ∧ (∀ st', evC var cs st1 = some st' → ∃ x', F45 q x x' ∧ StX x' q st' ∧ q_Laws_run_L4 sc x q (nN st.length) (nN z) = q_Laws_run_L4 sc x' q (nN st'.length) (nN (z + (c :: cs).length))) := by
      intro st1 x1 F S1 w1 e
      obtain ⟨i1, i2⟩ := ih (z + 1) st1 x1 ((F45_i F (by decide)).trans h13) (fun i hi => (F45_i F (by decide)).trans (h44 i hi)) S1 (CodX_45 F c3) (by omega) w1
      refine ⟨fun y => ?_, fun st' y => ?_⟩
      · rw [e]
        refine Ok_w (i1 y) ?_
        rintro r ⟨a, b⟩
        exact ⟨a, F45_trans F b⟩
      · obtain ⟨x', F', S', e'⟩ := i2 st' y
        refine ⟨x', F45_trans F F', S', ?_⟩
        rw [e, e', List.length_cons, show z + 1 + cs.length = z + (cs.length + 1) by omega]
    by_cases z0 : c.1 = 0
    · rw [if_pos z0]
      rw [if_pos (by omega)] at h5
      have h41 : x.1 41 q z = nN 0 := by rw [c1, z0]; rfl
      have d40 : st.length < 40 := by
        cases cs with
        | nil => have : st.length + 1 ≤ lim := h5; omega
        | cons c' cs' => have := h5.1; omega
      exact fin (c.2 :: st) (wb_iu x 45 q st.length c.2) F45_iu ⟨iu_at, StX_keep (fun j hj => iu_ne (by omega)) hS⟩ h5 (X_push hq h13 hsz (by omega) d40 0 c.2 h41 (Or.inl ⟨rfl, c2.symm⟩))
    · rw [if_neg z0]
      by_cases z1 : c.1 = 1
      · rw [if_pos z1]
        rw [if_pos (by omega)] at h5
        have h41 : x.1 41 q z = nN 1 := by rw [c1, z1]; rfl
        obtain ⟨i, hi, ei⟩ := h3 z1
        have d40 : st.length < 40 := by
          cases cs with
          | nil => have : st.length + 1 ≤ lim := h5; omega
          | cons c' cs' => have := h5.1; omega
        have ev : var c.2.toNatClampNeg = x.1 44 q i := by rw [ei, N_cl (by omega), h44 i hi]
        exact fin (var c.2.toNatClampNeg :: st) (wb_iu x 45 q st.length (var c.2.toNatClampNeg)) F45_iu ⟨iu_at, StX_keep (fun j hj => iu_ne (by omega)) hS⟩ h5 (X_push hq h13 hsz (by omega) d40 1 _ h41 (Or.inr ⟨rfl, i, hi, c2.trans ei, ev⟩))
      · rw [if_neg z1]
        have h4' := h4 (by omega)
        rw [if_neg (by omega)] at h5
        obtain ⟨r, l, st', est⟩ := two_of h4'
        subst est
        rw [List.length_cons, List.length_cons] at h1
        obtain ⟨o1, o2⟩ := X_op (sc := sc) (k := c.1) (l := l) (r := r) hq h13 hsz (show z < sz by omega) (show st'.length + 2 ≤ 40 by omega) c1 (by omega) h2 hS.2.1 hS.1
        rw [evO_e]
        by_cases z5 : c.1 = 5 ∧ r = nN 0
        · rw [if_pos z5]
          refine ⟨fun _ => ?_, fun s y => absurd y (fun h => by cases h)⟩
          rw [List.length_cons, List.length_cons, o1 z5]
          exact Ok_some ⟨rfl, F45_refl q x⟩
        · rw [if_neg z5]
          exact fin (opv c.1 l r :: st') (wb_iu x 45 q st'.length (opv c.1 l r)) F45_iu ⟨iu_at, StX_keep (fun j hj => iu_ne (by omega)) hS.2.2⟩ h5 (o2 z5)
end
