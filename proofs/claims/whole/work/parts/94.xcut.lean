/-! The class cuts the text: till the first thing that is no token. -/
def upB : List (Nat × (Nat × Int)) → List (Nat × (Nat × Int))
  | [] => []
  | x :: r => if x.1 = 3 then [x] else x :: upB r
def CX (h h' : wb_H) (c : Nat) : Prop := Fr [57, 58, 59, 6004] h h' ∧ ∀ j, j < c → h'.1 57 0 j = h.1 57 0 j ∧ h'.1 58 0 j = h.1 58 0 j ∧ h'.2.1 59 0 j = h.2.1 59 0 j
def TX (h : wb_H) : Nat → List (Nat × (Nat × Int)) → Prop
  | _, [] => True
  | c, x :: r => (h.1 57 0 c = nN (kap x.1) ∧ h.1 58 0 c = nN x.2.1 ∧ (x.1 = 1 ∨ x.1 = 2 ∨ 20 ≤ x.1 → h.2.1 59 0 c = Int64.ofInt x.2.2)) ∧ TX h (c + 1) r
theorem tokX_cons {h h1 h' : wb_H} {c k i : Nat} {kd : Int32} {v64 : Int64} {v : Int} {rest : List (Nat × (Nat × Int))} (H : tkX h h1 c kd (nN i) v64) (hk : kd = nN (kap k)) (h2 : k = 1 ∨ k = 2 ∨ 20 ≤ k → v64 = Int64.ofInt v) (C : CX h1 h' (c + 1)) (R : TX h' (c + 1) rest) : CX h h' c ∧ TX h' c ((k, (i, v)) :: rest) := by
  obtain ⟨H1, H2, H3, H4, H5, H6⟩ := H
  obtain ⟨C1, C2⟩ := C
  obtain ⟨d1, d2, d3⟩ := C2 c (Nat.lt_succ_self _)
  refine ⟨⟨Fr_trans H1 C1, fun j hj => ?_⟩, ⟨d1.trans (H3.trans hk), d2.trans H4, fun e => d3.trans (H5.trans (h2 e))⟩, R⟩
  obtain ⟨a1, a2, a3⟩ := C2 j (by omega)
  obtain ⟨b1, b2, b3⟩ := H6 j (by omega)
  exact ⟨a1.trans b1, a2.trans b2, a3.trans b3⟩
theorem cutP_end {b : Nat → Nat} {t : Nat} : ∀ f, cutP b t f t = []
  | 0 => rfl
  | f + 1 => by rw [cutP, if_pos (Nat.le_refl _)]
section
variable {sc : wb_X}
theorem X_cut9 {t : Nat} {g : Nat → Int32} (ht : t ≤ 2000) : ∀ f i s c h, i ≤ t → t < i + f → s ≤ i → c ≤ 401 → h.1 55 0 = g → h.1 18 0 1 = nN t → h.1 19 0 4 = nN c → (∀ k, k < 22 → h.2.1 56 0 k = xw k) → Ok (q_Tokens_cut_L9 sc h (nN i) (nN s)) (fun h' => CX h h' c ∧ TX h' c ((upB (cutP (txt g t) t f i)).take (401 - c) ++ [(0, (t, 0))]) ∧ h'.1 19 0 4 = nN (c + ((upB (cutP (txt g t) t f i)).take (401 - c)).length + 1)) := by
  intro f
  induction f with
  | zero => intro i s c h h1 h2; omega
  | succ f ih =>
    intro i s c h hi hf hs hc hg h1 h4 hk
    have stop : ∀ l : List (Nat × (Nat × Int)), l.take (401 - c) = [] → Ok ((q_Tokens_add sc h (nN 103) (nN t) (Int64.ofNat 0)).bind fun h1 => some h1) (fun h' => CX h h' c ∧ TX h' c (l.take (401 - c) ++ [(0, (t, 0))]) ∧ h'.1 19 0 4 = nN (c + (l.take (401 - c)).length + 1)) := fun l hl => by
      refine Ok_bind (X_add hc h4 _ _ _) ?_
      intro h' H
      rw [hl]
      have := tokX_cons (h' := h') (v := 0) (k := 0) (rest := []) H rfl (fun y => absurd y (by omega)) ⟨Fr_refl _ _, fun _ _ => ⟨rfl, rfl, rfl⟩⟩ trivial
      exact Ok_some ⟨this.1, this.2, H.2.1⟩
    by_cases c4 : c = 401
    · subst c4
      have st := stop (upB (cutP (txt g t) t (f + 1) i)) (by rw [Nat.sub_self, List.take_zero])
      rw [q_Tokens_cut_L9_eq]
      by_cases y1 : 2000 ≤ s
      · simp (disch := omega) only [L_0, L_1, L_2, L_3, L_4, L_5, L_6, L_7, L_8, L_9, L_10, L_11, L_12, L_13, L_14, L_15, L_16, L_17, L_18, L_19, L_20, L_21, L_22, L_23, L_24, L_25, L_26, L_27, L_28, L_29, L_30, L_31, L_32, L_33, L_34, L_35, L_40, L_41, L_42, L_43, L_44, L_45, L_47, L_48, L_50, L_53, L_57, L_59, L_60, L_61, L_63, L_64, L_97, L_100, L_101, L_102, L_103, L_122, L_130, L_216, L_255, L_364, L_400, L_402, L_420, L_728, L_768, L_999, L_1000, L_1093, L_1872, L_2000, L_9999, L_12345, L_252645135, L_858993459, L_1103515245, L_1431655765, Lm_1, Lm_2, Lm_8, N_le_tp, h1, decide_true, cond_true]
        exact st
      · by_cases y2 : t ≤ i
        · simp (disch := omega) only [L_0, L_1, L_2, L_3, L_4, L_5, L_6, L_7, L_8, L_9, L_10, L_11, L_12, L_13, L_14, L_15, L_16, L_17, L_18, L_19, L_20, L_21, L_22, L_23, L_24, L_25, L_26, L_27, L_28, L_29, L_30, L_31, L_32, L_33, L_34, L_35, L_40, L_41, L_42, L_43, L_44, L_45, L_47, L_48, L_50, L_53, L_57, L_59, L_60, L_61, L_63, L_64, L_97, L_100, L_101, L_102, L_103, L_122, L_130, L_216, L_255, L_364, L_400, L_402, L_420, L_728, L_768, L_999, L_1000, L_1093, L_1872, L_2000, L_9999, L_12345, L_252645135, L_858993459, L_1103515245, L_1431655765, Lm_1, Lm_2, Lm_8, N_le_fp, N_le_tp, h1, decide_true, decide_false, cond_true, cond_false]
          exact st
        · simp (disch := omega) only [L_0, L_1, L_2, L_3, L_4, L_5, L_6, L_7, L_8, L_9, L_10, L_11, L_12, L_13, L_14, L_15, L_16, L_17, L_18, L_19, L_20, L_21, L_22, L_23, L_24, L_25, L_26, L_27, L_28, L_29, L_30, L_31, L_32, L_33, L_34, L_35, L_40, L_41, L_42, L_43, L_44, L_45, L_47, L_48, L_50, L_53, L_57, L_59, L_60, L_61, L_63, L_64, L_97, L_100, L_101, L_102, L_103, L_122, L_130, L_216, L_255, L_364, L_400, L_402, L_420, L_728, L_768, L_999, L_1000, L_1093, L_1872, L_2000, L_9999, L_12345, L_252645135, L_858993459, L_1103515245, L_1431655765, Lm_1, Lm_2, Lm_8, N_le_fp, N_lt_tp, h1, h4, decide_true, decide_false, cond_true, cond_false]
          exact st
    · have hm : 401 - c = (400 - c) + 1 := by omega
      have hm2 : 401 - (c + 1) = 400 - c := by omega
      have bl := txt_le g t i
      rw [q_Tokens_cut_L9_eq]
      by_cases z : t ≤ i
      · have st := stop (upB (cutP (txt g t) t (f + 1) i)) (by rw [cutP, if_pos z]; exact List.take_nil)
        by_cases y1 : 2000 ≤ s
        · simp (disch := omega) only [L_0, L_1, L_2, L_3, L_4, L_5, L_6, L_7, L_8, L_9, L_10, L_11, L_12, L_13, L_14, L_15, L_16, L_17, L_18, L_19, L_20, L_21, L_22, L_23, L_24, L_25, L_26, L_27, L_28, L_29, L_30, L_31, L_32, L_33, L_34, L_35, L_40, L_41, L_42, L_43, L_44, L_45, L_47, L_48, L_50, L_53, L_57, L_59, L_60, L_61, L_63, L_64, L_97, L_100, L_101, L_102, L_103, L_122, L_130, L_216, L_255, L_364, L_400, L_402, L_420, L_728, L_768, L_999, L_1000, L_1093, L_1872, L_2000, L_9999, L_12345, L_252645135, L_858993459, L_1103515245, L_1431655765, Lm_1, Lm_2, Lm_8, N_le_tp, h1, decide_true, cond_true]
          exact st
        · simp (disch := omega) only [L_0, L_1, L_2, L_3, L_4, L_5, L_6, L_7, L_8, L_9, L_10, L_11, L_12, L_13, L_14, L_15, L_16, L_17, L_18, L_19, L_20, L_21, L_22, L_23, L_24, L_25, L_26, L_27, L_28, L_29, L_30, L_31, L_32, L_33, L_34, L_35, L_40, L_41, L_42, L_43, L_44, L_45, L_47, L_48, L_50, L_53, L_57, L_59, L_60, L_61, L_63, L_64, L_97, L_100, L_101, L_102, L_103, L_122, L_130, L_216, L_255, L_364, L_400, L_402, L_420, L_728, L_768, L_999, L_1000, L_1093, L_1872, L_2000, L_9999, L_12345, L_252645135, L_858993459, L_1103515245, L_1431655765, Lm_1, Lm_2, Lm_8, N_le_fp, N_le_tp, h1, decide_true, decide_false, cond_true, cond_false]
          exact st
      · have at1 := X_at (sc := sc) ht h1 (show i < t by omega)
        rw [hg] at at1
        have next : ∀ (h2 : wb_H) (kd : Int32) (v64 : Int64) (k i' : Nat) (v : Int), tkX h h2 c kd (nN i) v64 → kd = nN (kap k) → (k = 1 ∨ k = 2 ∨ 20 ≤ k → v64 = Int64.ofInt v) → k ≠ 3 → i' ≤ t → i < i' → Ok (q_Tokens_cut_L9 sc h2 (nN i') (nN (s + 1))) (fun h' => CX h h' c ∧ TX h' c ((upB ((k, (i, v)) :: cutP (txt g t) t f i')).take (401 - c) ++ [(0, (t, 0))]) ∧ h'.1 19 0 4 = nN (c + ((upB ((k, (i, v)) :: cutP (txt g t) t f i')).take (401 - c)).length + 1)) := by
          intro h2 kd v64 k i' v H e1 e2 n3 l1 l2
          have F := H.1
          refine Ok_w (ih i' (s + 1) (c + 1) h2 l1 (by omega) (by omega) (by omega) ?_ ((Fr_i F (by rfl)).trans h1) H.2.1 (fun k hk' => (Fr_l F (by rfl)).trans (hk k hk'))) ?_
          · rw [← hg]; funext j; exact Fr_i F (by rfl)
          · rintro h' ⟨C, R, N⟩
            rw [hm2] at R N
            have e : upB ((k, (i, v)) :: cutP (txt g t) t f i') = (k, (i, v)) :: upB (cutP (txt g t) t f i') := if_neg n3
            rw [e, hm, List.take_succ_cons, List.cons_append, List.length_cons]
            have tc := tokX_cons H e1 e2 C R
            exact ⟨tc.1, tc.2, by rw [N]; congr 1; omega⟩
        have bad : ∀ (h2 : wb_H) (v : Int) (rest : List (Nat × (Nat × Int))), tkX h h2 c (nN 102) (nN i) (Int64.ofNat 0) → Ok (q_Tokens_cut_L9 sc h2 (nN t) (nN (s + 1))) (fun h' => CX h h' c ∧ TX h' c ((upB ((3, (i, v)) :: rest)).take (401 - c) ++ [(0, (t, 0))]) ∧ h'.1 19 0 4 = nN (c + ((upB ((3, (i, v)) :: rest)).take (401 - c)).length + 1)) := by
          intro h2 v rest H
          have F := H.1
          refine Ok_w (ih t (s + 1) (c + 1) h2 (Nat.le_refl _) (by omega) (by omega) (by omega) ?_ ((Fr_i F (by rfl)).trans h1) H.2.1 (fun k hk' => (Fr_l F (by rfl)).trans (hk k hk'))) ?_
          · rw [← hg]; funext j; exact Fr_i F (by rfl)
          · rintro h' ⟨C, R, N⟩
            rw [cutP_end] at R N
            have e0 : (upB []).take (401 - (c + 1)) = [] := List.take_nil
            rw [e0] at R N
            have e : upB ((3, (i, v)) :: rest) = [(3, (i, v))] := if_pos rfl
            rw [e, hm, List.take_succ_cons, List.take_nil, List.cons_append]
            have tc := tokX_cons (k := 3) (v := v) H rfl (fun y => absurd y (by omega)) C R
            exact ⟨tc.1, tc.2, N⟩
        rw [cutP, if_neg z]
        by_cases y : isB (txt g t i) = 1
        · rw [if_pos y]
          have IH := ih (i + 1) (s + 1) c h (by omega) (by omega) (by omega) hc hg h1 h4 hk
          simp (disch := omega) only [L_0, L_1, L_2, L_3, L_4, L_5, L_6, L_7, L_8, L_9, L_10, L_11, L_12, L_13, L_14, L_15, L_16, L_17, L_18, L_19, L_20, L_21, L_22, L_23, L_24, L_25, L_26, L_27, L_28, L_29, L_30, L_31, L_32, L_33, L_34, L_35, L_40, L_41, L_42, L_43, L_44, L_45, L_47, L_48, L_50, L_53, L_57, L_59, L_60, L_61, L_63, L_64, L_97, L_100, L_101, L_102, L_103, L_122, L_130, L_216, L_255, L_364, L_400, L_402, L_420, L_728, L_768, L_999, L_1000, L_1093, L_1872, L_2000, L_9999, L_12345, L_252645135, L_858993459, L_1103515245, L_1431655765, Lm_1, Lm_2, Lm_8, N_le_fp, N_lt_fp, N_eq_fp, N_add, h1, h4, at1, X_isB bl, y, cond_true, cond_false, Bool.not_true, Bool.not_false, Bool.and_true, Bool.true_and, Bool.and_false, Bool.false_and, decide_true, decide_false, Option.bind_some, Option.bind_none]
          exact IH
        · rw [if_neg y]
          have y0 : isB (txt g t i) = 0 := by
            unfold isB at y ⊢
            by_cases w : txt g t i = 9 ∨ txt g t i = 10 ∨ txt g t i = 13 ∨ txt g t i = 32
            · rw [if_pos w] at y; exact absurd rfl y
            · rw [if_neg w]
          simp (disch := omega) only [L_0, L_1, L_2, L_3, L_4, L_5, L_6, L_7, L_8, L_9, L_10, L_11, L_12, L_13, L_14, L_15, L_16, L_17, L_18, L_19, L_20, L_21, L_22, L_23, L_24, L_25, L_26, L_27, L_28, L_29, L_30, L_31, L_32, L_33, L_34, L_35, L_40, L_41, L_42, L_43, L_44, L_45, L_47, L_48, L_50, L_53, L_57, L_59, L_60, L_61, L_63, L_64, L_97, L_100, L_101, L_102, L_103, L_122, L_130, L_216, L_255, L_364, L_400, L_402, L_420, L_728, L_768, L_999, L_1000, L_1093, L_1872, L_2000, L_9999, L_12345, L_252645135, L_858993459, L_1103515245, L_1431655765, Lm_1, Lm_2, Lm_8, N_le_fp, N_lt_fp, N_eq_tp, N_add, h1, h4, at1, X_isB bl, y0, cond_true, cond_false, Bool.not_true, Bool.not_false, Bool.and_true, Bool.true_and, Bool.and_false, Bool.false_and, decide_true, decide_false, Option.bind_some, Option.bind_none]
          rw [q_Tokens_cutOne_eq]
          by_cases u : isL (txt g t i) = 1
          · rw [if_pos u]
            simp (disch := omega) only [L_0, L_1, L_2, L_3, L_4, L_5, L_6, L_7, L_8, L_9, L_10, L_11, L_12, L_13, L_14, L_15, L_16, L_17, L_18, L_19, L_20, L_21, L_22, L_23, L_24, L_25, L_26, L_27, L_28, L_29, L_30, L_31, L_32, L_33, L_34, L_35, L_40, L_41, L_42, L_43, L_44, L_45, L_47, L_48, L_50, L_53, L_57, L_59, L_60, L_61, L_63, L_64, L_97, L_100, L_101, L_102, L_103, L_122, L_130, L_216, L_255, L_364, L_400, L_402, L_420, L_728, L_768, L_999, L_1000, L_1093, L_1872, L_2000, L_9999, L_12345, L_252645135, L_858993459, L_1103515245, L_1431655765, Lm_1, Lm_2, Lm_8, N_eq_fp, at1, X_isL bl, u, cond_true, cond_false, Bool.not_true, Bool.not_false, Bool.and_true, Bool.true_and, Bool.and_false, Bool.false_and, decide_true, decide_false, Option.bind_some, Option.bind_none]
            obtain ⟨r1, -, r3⟩ := run_spec (g := isL) (b := txt g t) (t := t) (by rw [txt_end]; decide) (t - i) i (by omega)
            have r0 := run_pos (g := isL) (b := txt g t) (k := t - i) u (by omega)
            have W := X_cutWord (sc := sc) (h := h) (c := c) (t := t) (i := i) hk (by omega) h4 ht h1 (by omega)
            rw [hg] at W
            generalize eK : run isL (txt g t) (t - i) i = K at *
            rw [Option.bind_assoc]
            refine Ok_bind W ?_
            rintro ⟨x, h2⟩ ⟨w1, w2⟩
            simp only [Option.bind_some] at w1 w2 ⊢
            by_cases w : K ≤ 8
            · obtain ⟨x1, H⟩ := w1 w
              rw [if_pos w, x1]
              have ko := kmF_or (v := Int64.ofInt (wvz (txt g t) i K)) 22 0 1 (Or.inl rfl)
              refine next h2 _ _ _ (i + K) _ H ?_ (fun _ => rfl) (by split <;> omega) (by omega) (by omega)
              by_cases w7 : 7 < K
              · have e8 : K = 8 := by omega
                rw [if_pos w7]
                subst e8
                rw [key_8 (fun j hj => r1 j hj)]
                rfl
              · rw [if_neg w7, kap_key]
            · obtain ⟨x1, H⟩ := w2 w
              rw [if_neg w, x1]
              exact bad h2 _ _ H
          · rw [if_neg u]
            have u0 : isL (txt g t i) = 0 := by have := isL_le (txt g t i); omega
            by_cases d : isD (txt g t i) = 1
            · rw [if_pos d]
              simp (disch := omega) only [L_0, L_1, L_2, L_3, L_4, L_5, L_6, L_7, L_8, L_9, L_10, L_11, L_12, L_13, L_14, L_15, L_16, L_17, L_18, L_19, L_20, L_21, L_22, L_23, L_24, L_25, L_26, L_27, L_28, L_29, L_30, L_31, L_32, L_33, L_34, L_35, L_40, L_41, L_42, L_43, L_44, L_45, L_47, L_48, L_50, L_53, L_57, L_59, L_60, L_61, L_63, L_64, L_97, L_100, L_101, L_102, L_103, L_122, L_130, L_216, L_255, L_364, L_400, L_402, L_420, L_728, L_768, L_999, L_1000, L_1093, L_1872, L_2000, L_9999, L_12345, L_252645135, L_858993459, L_1103515245, L_1431655765, Lm_1, Lm_2, Lm_8, N_eq_fp, N_eq_tp, at1, X_isL bl, u0, X_isD bl, d, cond_true, cond_false, Bool.not_true, Bool.not_false, Bool.and_true, Bool.true_and, Bool.and_false, Bool.false_and, decide_true, decide_false, Option.bind_some, Option.bind_none]
              obtain ⟨-, -, r3⟩ := run_spec (g := isD) (b := txt g t) (t := t) (by rw [txt_end]; decide) (t - i) i (by omega)
              have r0 := run_pos (g := isD) (b := txt g t) (k := t - i) d (by omega)
              have W := X_cutInt (sc := sc) (h := h) (c := c) (t := t) (i := i) (by omega) h4 ht h1 (by omega)
              rw [hg] at W
              generalize eK : run isD (txt g t) (t - i) i = K at *
              rw [Option.bind_assoc]
              refine Ok_bind W ?_
              rintro ⟨x, h2⟩ ⟨w1, w2⟩
              simp only [Option.bind_some] at w1 w2 ⊢
              by_cases w : K ≤ 4
              · obtain ⟨x1, H⟩ := w1 w
                rw [if_pos w, x1]
                exact next h2 _ _ 2 (i + K) _ H rfl (fun _ => rfl) (by decide) (by omega) (by omega)
              · obtain ⟨x1, H⟩ := w2 w
                rw [if_neg w, x1]
                exact bad h2 _ _ H
            · rw [if_neg d]
              have d0 : isD (txt g t i) = 0 := by have := isD_le (txt g t i); omega
              have fx := fx_sg (txt g t i) (by omega)
              simp (disch := omega) only [L_0, L_1, L_2, L_3, L_4, L_5, L_6, L_7, L_8, L_9, L_10, L_11, L_12, L_13, L_14, L_15, L_16, L_17, L_18, L_19, L_20, L_21, L_22, L_23, L_24, L_25, L_26, L_27, L_28, L_29, L_30, L_31, L_32, L_33, L_34, L_35, L_40, L_41, L_42, L_43, L_44, L_45, L_47, L_48, L_50, L_53, L_57, L_59, L_60, L_61, L_63, L_64, L_97, L_100, L_101, L_102, L_103, L_122, L_130, L_216, L_255, L_364, L_400, L_402, L_420, L_728, L_768, L_999, L_1000, L_1093, L_1872, L_2000, L_9999, L_12345, L_252645135, L_858993459, L_1103515245, L_1431655765, Lm_1, Lm_2, Lm_8, N_eq_tp, at1, X_isL bl, u0, X_isD bl, d0, ch_b (txt g t i) (show txt g t i < 256 by omega), X_index h bl, cond_true, cond_false, Bool.not_true, Bool.not_false, Bool.and_true, Bool.true_and, Bool.and_false, Bool.false_and, decide_true, decide_false, Option.bind_some, Option.bind_none]
              by_cases w : sgM (txt g t i) = 3
              · have e := eq_true (fx.mpr w)
                simp only [e, decide_true, cond_true]
                rw [Option.bind_assoc, w]
                refine Ok_bind (X_noTok (by omega) h4 h1 _) ?_
                rintro ⟨x, h2⟩ ⟨x1, H⟩
                simp only [Option.bind_some] at x1 H ⊢
                rw [x1]
                exact bad h2 _ _ H
              · have e := eq_false (fun q => w (fx.mp q))
                simp only [e, decide_false, cond_false]
                rw [Option.bind_assoc]
                refine Ok_bind (X_add (by omega) h4 _ _ _) ?_
                intro h2 H
                simp only [Option.bind_some, N_add]
                obtain ⟨q1, q2⟩ := sgM_small (txt g t i)
                exact next h2 _ _ (sgM (txt g t i)) (i + 1) 0 H (by rw [kap_sg _ (by omega) w]) (fun y => absurd y (by omega)) w (by omega) (by omega)
end
