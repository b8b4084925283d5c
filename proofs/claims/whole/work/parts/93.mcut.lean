/-! The reference cuts the text. -/
def CM (h h' : wb_H) (c : Nat) : Prop := Fr [67, 68, 69, 70, 1010] h h' ∧ ∀ j, j < c → h'.1 67 0 j = h.1 67 0 j ∧ h'.1 68 0 j = h.1 68 0 j ∧ h'.1 69 0 j = h.1 69 0 j ∧ h'.2.1 70 0 j = h.2.1 70 0 j
def TM (h : wb_H) : Nat → List (Nat × (Nat × Int)) → Prop
  | _, [] => True
  | c, x :: r => (h.1 67 0 c = nN x.1 ∧ h.1 68 0 c = nN x.2.1 ∧ (x.1 = 2 → h.1 69 0 c = Int32.ofInt x.2.2) ∧ (x.1 = 1 ∨ 20 ≤ x.1 → h.2.1 70 0 c = Int64.ofInt x.2.2)) ∧ TM h (c + 1) r
theorem run_pos {g b : Nat → Nat} {k i : Nat} (h : g (b i) = 1) (hk : 0 < k) : 1 ≤ run g b k i := by
  obtain ⟨m, rfl⟩ : ∃ m, k = m + 1 := ⟨k - 1, by omega⟩
  rw [run, if_pos h]
  omega
theorem tok_cons {h h1 h' : wb_H} {c k i : Nat} {iv kd : Int32} {v64 : Int64} {v : Int} {rest : List (Nat × (Nat × Int))} (H : tkM h h1 c kd (nN i) iv v64) (hk : kd = nN k) (h2 : k = 2 → iv = Int32.ofInt v) (h3 : k = 1 ∨ 20 ≤ k → v64 = Int64.ofInt v) (C : CM h1 h' (c + 1)) (R : TM h' (c + 1) rest) : CM h h' c ∧ TM h' c ((k, (i, v)) :: rest) := by
  obtain ⟨H1, H2, H3, H4, H5, H6, H7⟩ := H
  obtain ⟨C1, C2⟩ := C
  obtain ⟨d1, d2, d3, d4⟩ := C2 c (Nat.lt_succ_self _)
  refine ⟨⟨Fr_trans H1 C1, fun j hj => ?_⟩, ⟨d1.trans (H3.trans hk), d2.trans H4, fun e => d3.trans (H5.trans (h2 e)), fun e => d4.trans (H6.trans (h3 e))⟩, R⟩
  obtain ⟨a1, a2, a3, a4⟩ := C2 j (by omega)
  obtain ⟨b1, b2, b3, b4⟩ := H7 j (by omega)
  exact ⟨a1.trans b1, a2.trans b2, a3.trans b3, a4.trans b4⟩
theorem isB_or {b : Nat} (h : isB b ≠ 1) : b ≠ 9 ∧ b ≠ 10 ∧ b ≠ 13 ∧ b ≠ 32 := by
  unfold isB at h
  by_cases z : b = 9 ∨ b = 10 ∨ b = 13 ∨ b = 32
  · rw [if_pos z] at h; exact absurd rfl h
  · omega
theorem sgM_small (b : Nat) : sgM b ≠ 2 ∧ ¬ (sgM b = 1 ∨ 20 ≤ sgM b) := by
  unfold sgM
  repeat' split
  all_goals omega
theorem kmF_or {v : Int64} : ∀ r k a, (a = 1 ∨ 20 ≤ a) → kmF v r k a = 1 ∨ 20 ≤ kmF v r k a
  | 0, _, _, h => h
  | r + 1, k, a, h => by
    rw [kmF]
    split
    · exact kmF_or r (k + 1) _ (Or.inr (by omega))
    · exact kmF_or r (k + 1) _ h
section
variable {sc : wb_X}
theorem M_cut7 {t : Nat} {g : Nat → Int32} (ht : t ≤ 2000) : ∀ f i c h, i ≤ t → t < i + f → c ≤ 401 → h.1 66 0 = g → h.1 21 0 4 = nN t → h.1 21 0 10 = nN c → (∀ k, k < 22 → h.2.1 71 0 k = mk k) → Ok (q_M_cut_L7 sc h (nN i)) (fun h' => CM h h' c ∧ TM h' c ((cutP (txt g t) t f i ++ [(0, (t, 0))]).take (401 - c))) := by
  intro f
  induction f with
  | zero => intro i c h h1 h2; omega
  | succ f ih =>
    intro i c h hi hf hc hg h4 h10 hk
    by_cases c4 : c = 401
    · subst c4
      rw [q_M_cut_L7_eq]
      simp (disch := omega) only [L_0, L_1, L_2, L_3, L_4, L_5, L_6, L_7, L_8, L_9, L_10, L_11, L_12, L_13, L_14, L_15, L_16, L_17, L_18, L_19, L_20, L_21, L_22, L_23, L_24, L_25, L_26, L_27, L_28, L_29, L_30, L_31, L_32, L_33, L_34, L_35, L_40, L_41, L_42, L_43, L_44, L_45, L_47, L_48, L_50, L_53, L_57, L_59, L_60, L_61, L_63, L_64, L_97, L_100, L_101, L_102, L_103, L_122, L_130, L_216, L_255, L_364, L_400, L_402, L_420, L_728, L_768, L_999, L_1000, L_1093, L_1872, L_2000, L_9999, L_12345, L_252645135, L_858993459, L_1103515245, L_1431655765, Lm_1, Lm_2, Lm_8, N_lt_tp, h10, cond_true, cond_false, Bool.not_true, Bool.not_false, Bool.and_true, Bool.true_and, Bool.and_false, Bool.false_and, decide_true, decide_false, Option.bind_some, Option.bind_none]
      exact Ok_some ⟨⟨Fr_refl _ _, fun _ _ => ⟨rfl, rfl, rfl, rfl⟩⟩, trivial⟩
    · have hm : 401 - c = (400 - c) + 1 := by omega
      have hm2 : 401 - (c + 1) = 400 - c := by omega
      have bl := txt_le g t i
      have at1 := M_at (sc := sc) ht h4 (show i ≤ 5000 by omega)
      rw [hg] at at1
      have next : ∀ (h1 : wb_H) (kd iv : Int32) (v64 : Int64) (k i' : Nat) (v : Int), tkM h h1 c kd (nN i) iv v64 → kd = nN k → (k = 2 → iv = Int32.ofInt v) → (k = 1 ∨ 20 ≤ k → v64 = Int64.ofInt v) → i' ≤ t → i < i' → Ok (q_M_cut_L7 sc h1 (nN i')) (fun h' => CM h h' c ∧ TM h' c (((k, (i, v)) :: cutP (txt g t) t f i' ++ [(0, (t, 0))]).take (401 - c))) := by
        intro h1 kd iv v64 k i' v H e1 e2 e3 l1 l2
        have F := H.1
        refine Ok_w (ih i' (c + 1) h1 l1 (by omega) (by omega) ?_ ((Fr_i F (by rfl)).trans h4) H.2.1 (fun k hk' => (Fr_l F (by rfl)).trans (hk k hk'))) ?_
        · rw [← hg]; funext j; exact Fr_i F (by rfl)
        · rintro h' ⟨C, R⟩
          rw [hm2] at R
          rw [hm, List.cons_append, List.take_succ_cons]
          exact tok_cons H e1 e2 e3 C R
      rw [q_M_cut_L7_eq]
      by_cases z : t ≤ i
      · have e : i = t := by omega
        rw [cutP, if_pos z]
        simp (disch := omega) only [L_0, L_1, L_2, L_3, L_4, L_5, L_6, L_7, L_8, L_9, L_10, L_11, L_12, L_13, L_14, L_15, L_16, L_17, L_18, L_19, L_20, L_21, L_22, L_23, L_24, L_25, L_26, L_27, L_28, L_29, L_30, L_31, L_32, L_33, L_34, L_35, L_40, L_41, L_42, L_43, L_44, L_45, L_47, L_48, L_50, L_53, L_57, L_59, L_60, L_61, L_63, L_64, L_97, L_100, L_101, L_102, L_103, L_122, L_130, L_216, L_255, L_364, L_400, L_402, L_420, L_728, L_768, L_999, L_1000, L_1093, L_1872, L_2000, L_9999, L_12345, L_252645135, L_858993459, L_1103515245, L_1431655765, Lm_1, Lm_2, Lm_8, N_lt_fp, h10, at1, h4, cond_true, cond_false, Bool.not_true, Bool.not_false, Bool.and_true, Bool.true_and, Bool.and_false, Bool.false_and, decide_true, decide_false, Option.bind_some, Option.bind_none]
        refine Ok_bind (M_token (by omega) h10 _ _ _ _) ?_
        intro h' H
        refine Ok_some ?_
        rw [List.nil_append, hm, List.take_succ_cons, List.take_nil]
        exact tok_cons (h' := h') (rest := []) H rfl (fun y => absurd y (by decide)) (fun y => absurd y (by omega)) ⟨Fr_refl _ _, fun _ _ => ⟨rfl, rfl, rfl, rfl⟩⟩ trivial
      · rw [cutP, if_neg z]
        by_cases y : isB (txt g t i) = 1
        · rw [if_pos y]
          have IH := ih (i + 1) c h (by omega) (by omega) hc hg h4 h10 hk
          have yb : txt g t i = 9 ∨ txt g t i = 10 ∨ txt g t i = 13 ∨ txt g t i = 32 := by
            unfold isB at y
            by_cases w : txt g t i = 9 ∨ txt g t i = 10 ∨ txt g t i = 13 ∨ txt g t i = 32
            · exact w
            · rw [if_neg w] at y; omega
          rcases yb with w | w | w | w
          · simp (disch := omega) only [L_0, L_1, L_2, L_3, L_4, L_5, L_6, L_7, L_8, L_9, L_10, L_11, L_12, L_13, L_14, L_15, L_16, L_17, L_18, L_19, L_20, L_21, L_22, L_23, L_24, L_25, L_26, L_27, L_28, L_29, L_30, L_31, L_32, L_33, L_34, L_35, L_40, L_41, L_42, L_43, L_44, L_45, L_47, L_48, L_50, L_53, L_57, L_59, L_60, L_61, L_63, L_64, L_97, L_100, L_101, L_102, L_103, L_122, L_130, L_216, L_255, L_364, L_400, L_402, L_420, L_728, L_768, L_999, L_1000, L_1093, L_1872, L_2000, L_9999, L_12345, L_252645135, L_858993459, L_1103515245, L_1431655765, Lm_1, Lm_2, Lm_8, N_lt_fp, N_lt_tp, N_eq_tp, N_eq_fp, N_add, h10, at1, w, h4, cond_true, cond_false, Bool.not_true, Bool.not_false, Bool.and_true, Bool.true_and, Bool.and_false, Bool.false_and, decide_true, decide_false, Option.bind_some, Option.bind_none]
            exact IH
          · simp (disch := omega) only [L_0, L_1, L_2, L_3, L_4, L_5, L_6, L_7, L_8, L_9, L_10, L_11, L_12, L_13, L_14, L_15, L_16, L_17, L_18, L_19, L_20, L_21, L_22, L_23, L_24, L_25, L_26, L_27, L_28, L_29, L_30, L_31, L_32, L_33, L_34, L_35, L_40, L_41, L_42, L_43, L_44, L_45, L_47, L_48, L_50, L_53, L_57, L_59, L_60, L_61, L_63, L_64, L_97, L_100, L_101, L_102, L_103, L_122, L_130, L_216, L_255, L_364, L_400, L_402, L_420, L_728, L_768, L_999, L_1000, L_1093, L_1872, L_2000, L_9999, L_12345, L_252645135, L_858993459, L_1103515245, L_1431655765, Lm_1, Lm_2, Lm_8, N_lt_fp, N_lt_tp, N_eq_tp, N_eq_fp, N_add, h10, at1, w, h4, cond_true, cond_false, Bool.not_true, Bool.not_false, Bool.and_true, Bool.true_and, Bool.and_false, Bool.false_and, decide_true, decide_false, Option.bind_some, Option.bind_none]
            exact IH
          · simp (disch := omega) only [L_0, L_1, L_2, L_3, L_4, L_5, L_6, L_7, L_8, L_9, L_10, L_11, L_12, L_13, L_14, L_15, L_16, L_17, L_18, L_19, L_20, L_21, L_22, L_23, L_24, L_25, L_26, L_27, L_28, L_29, L_30, L_31, L_32, L_33, L_34, L_35, L_40, L_41, L_42, L_43, L_44, L_45, L_47, L_48, L_50, L_53, L_57, L_59, L_60, L_61, L_63, L_64, L_97, L_100, L_101, L_102, L_103, L_122, L_130, L_216, L_255, L_364, L_400, L_402, L_420, L_728, L_768, L_999, L_1000, L_1093, L_1872, L_2000, L_9999, L_12345, L_252645135, L_858993459, L_1103515245, L_1431655765, Lm_1, Lm_2, Lm_8, N_lt_fp, N_lt_tp, N_eq_tp, N_eq_fp, N_add, h10, at1, w, h4, cond_true, cond_false, Bool.not_true, Bool.not_false, Bool.and_true, Bool.true_and, Bool.and_false, Bool.false_and, decide_true, decide_false, Option.bind_some, Option.bind_none]
            exact IH
          · simp (disch := omega) only [L_0, L_1, L_2, L_3, L_4, L_5, L_6, L_7, L_8, L_9, L_10, L_11, L_12, L_13, L_14, L_15, L_16, L_17, L_18, L_19, L_20, L_21, L_22, L_23, L_24, L_25, L_26, L_27, L_28, L_29, L_30, L_31, L_32, L_33, L_34, L_35, L_40, L_41, L_42, L_43, L_44, L_45, L_47, L_48, L_50, L_53, L_57, L_59, L_60, L_61, L_63, L_64, L_97, L_100, L_101, L_102, L_103, L_122, L_130, L_216, L_255, L_364, L_400, L_402, L_420, L_728, L_768, L_999, L_1000, L_1093, L_1872, L_2000, L_9999, L_12345, L_252645135, L_858993459, L_1103515245, L_1431655765, Lm_1, Lm_2, Lm_8, N_lt_fp, N_lt_tp, N_eq_tp, N_eq_fp, N_add, h10, at1, w, h4, cond_true, cond_false, Bool.not_true, Bool.not_false, Bool.and_true, Bool.true_and, Bool.and_false, Bool.false_and, decide_true, decide_false, Option.bind_some, Option.bind_none]
            exact IH
        · rw [if_neg y]
          obtain ⟨y1, y2, y3, y4⟩ := isB_or y
          by_cases u : isL (txt g t i) = 1
          · rw [if_pos u]
            simp (disch := omega) only [L_0, L_1, L_2, L_3, L_4, L_5, L_6, L_7, L_8, L_9, L_10, L_11, L_12, L_13, L_14, L_15, L_16, L_17, L_18, L_19, L_20, L_21, L_22, L_23, L_24, L_25, L_26, L_27, L_28, L_29, L_30, L_31, L_32, L_33, L_34, L_35, L_40, L_41, L_42, L_43, L_44, L_45, L_47, L_48, L_50, L_53, L_57, L_59, L_60, L_61, L_63, L_64, L_97, L_100, L_101, L_102, L_103, L_122, L_130, L_216, L_255, L_364, L_400, L_402, L_420, L_728, L_768, L_999, L_1000, L_1093, L_1872, L_2000, L_9999, L_12345, L_252645135, L_858993459, L_1103515245, L_1431655765, Lm_1, Lm_2, Lm_8, N_lt_fp, N_lt_tp, N_eq_fp, N_eq_tp, N_add, h10, at1, h4, M_isL bl, u, cond_true, cond_false, Bool.not_true, Bool.not_false, Bool.and_true, Bool.true_and, Bool.and_false, Bool.false_and, decide_true, decide_false, Option.bind_some, Option.bind_none]
            obtain ⟨-, -, r3⟩ := run_spec (g := isL) (b := txt g t) (t := t) (by rw [txt_end]; decide) (t - i) i (by omega)
            have r0 := run_pos (g := isL) (b := txt g t) (k := t - i) u (by omega)
            generalize eK : run isL (txt g t) (t - i) i = K at *
            refine M_cutWord (K := K) hk (by omega) h10 ht h4 (by omega) (by rw [hg]; exact eK) ?_
            intro h1 kd v p1 p2 H
            by_cases w : K ≤ 8
            · obtain ⟨v1, k1⟩ := p1 w
              rw [hg] at v1
              rw [v1] at k1
              rw [if_pos w]
              refine next h1 kd (nN 0) v _ (i + K) (wvz (txt g t) i K) H k1 (fun e => ?_) (fun _ => v1) (by omega) (by omega)
              exfalso
              have ko := kmF_or (v := Int64.ofInt (wvz (txt g t) i K)) 22 0 1 (Or.inl rfl)
              split at e <;> omega
            · rw [if_neg w]
              exact next h1 kd (nN 0) v 3 (i + K) _ H (p2 w) (fun e => absurd e (by decide)) (fun e => absurd e (by decide)) (by omega) (by omega)
          · rw [if_neg u]
            have u0 : isL (txt g t i) = 0 := by have := isL_le (txt g t i); omega
            by_cases d : isD (txt g t i) = 1
            · rw [if_pos d]
              simp (disch := omega) only [L_0, L_1, L_2, L_3, L_4, L_5, L_6, L_7, L_8, L_9, L_10, L_11, L_12, L_13, L_14, L_15, L_16, L_17, L_18, L_19, L_20, L_21, L_22, L_23, L_24, L_25, L_26, L_27, L_28, L_29, L_30, L_31, L_32, L_33, L_34, L_35, L_40, L_41, L_42, L_43, L_44, L_45, L_47, L_48, L_50, L_53, L_57, L_59, L_60, L_61, L_63, L_64, L_97, L_100, L_101, L_102, L_103, L_122, L_130, L_216, L_255, L_364, L_400, L_402, L_420, L_728, L_768, L_999, L_1000, L_1093, L_1872, L_2000, L_9999, L_12345, L_252645135, L_858993459, L_1103515245, L_1431655765, Lm_1, Lm_2, Lm_8, N_lt_fp, N_lt_tp, N_eq_fp, N_eq_tp, N_add, h10, at1, h4, M_isL bl, u0, M_isD bl, d, cond_true, cond_false, Bool.not_true, Bool.not_false, Bool.and_true, Bool.true_and, Bool.and_false, Bool.false_and, decide_true, decide_false, Option.bind_some, Option.bind_none]
              obtain ⟨-, -, r3⟩ := run_spec (g := isD) (b := txt g t) (t := t) (by rw [txt_end]; decide) (t - i) i (by omega)
              have r0 := run_pos (g := isD) (b := txt g t) (k := t - i) d (by omega)
              generalize eK : run isD (txt g t) (t - i) i = K at *
              refine M_cutInt (K := K) (by omega) h10 ht h4 (by omega) (by rw [hg]; exact eK) ?_
              intro h1 kd iv p1 p2 H
              by_cases w : K ≤ 4
              · obtain ⟨k1, v1⟩ := p1 w
                rw [hg] at v1
                rw [if_pos w]
                exact next h1 kd iv _ 2 (i + K) _ H k1 (fun _ => v1) (fun e => absurd e (by decide)) (by omega) (by omega)
              · rw [if_neg w]
                exact next h1 kd iv _ 3 (i + K) _ H (p2 w) (fun e => absurd e (by decide)) (fun e => absurd e (by decide)) (by omega) (by omega)
            · rw [if_neg d]
              have d0 : isD (txt g t i) = 0 := by have := isD_le (txt g t i); omega
              have at2 := M_at (sc := sc) ht h4 (show i + 1 ≤ 5000 by omega)
              simp (disch := omega) only [L_0, L_1, L_2, L_3, L_4, L_5, L_6, L_7, L_8, L_9, L_10, L_11, L_12, L_13, L_14, L_15, L_16, L_17, L_18, L_19, L_20, L_21, L_22, L_23, L_24, L_25, L_26, L_27, L_28, L_29, L_30, L_31, L_32, L_33, L_34, L_35, L_40, L_41, L_42, L_43, L_44, L_45, L_47, L_48, L_50, L_53, L_57, L_59, L_60, L_61, L_63, L_64, L_97, L_100, L_101, L_102, L_103, L_122, L_130, L_216, L_255, L_364, L_400, L_402, L_420, L_728, L_768, L_999, L_1000, L_1093, L_1872, L_2000, L_9999, L_12345, L_252645135, L_858993459, L_1103515245, L_1431655765, Lm_1, Lm_2, Lm_8, N_lt_fp, N_lt_tp, N_eq_fp, N_eq_tp, N_add, h10, at1, at2, h4, M_isL bl, u0, M_isD bl, d0, cond_true, cond_false, Bool.not_true, Bool.not_false, Bool.and_true, Bool.true_and, Bool.and_false, Bool.false_and, decide_true, decide_false, Option.bind_some, Option.bind_none]
              refine Ok_bind (M_sign (by omega) h10 bl _ _) ?_
              rintro ⟨x, h1⟩ ⟨x1, H⟩
              simp only at x1 H ⊢
              rw [x1, N_add]
              obtain ⟨q1, q2⟩ := sgM_small (txt g t i)
              exact next h1 _ _ _ (sgM (txt g t i)) (i + 1) 0 H rfl (fun e => absurd e q1) (fun e => absurd e q2) (by omega) (by omega)
end
