/-! Reading: how it begins on either side. -/
noncomputable def rdX (sc : wb_X) (h1 : wb_H) : Option (Int32 × wb_H) := bif (!decide (((wb_iu h1 18 0 1 (Int32.ofInt 0)).1 16 0 8) = (Int32.ofInt 0))) then some (((wb_iu h1 18 0 1 (Int32.ofInt 0)).1 16 0 8), (wb_iu h1 18 0 1 (Int32.ofInt 0))) else bif (decide (0 < (wb_iu h1 18 0 1 (Int32.ofInt 0)).2.2 20 0 3)) then bif (decide (((wb_iu h1 18 0 1 (Int32.ofInt 0)).2.2 20 0 3 - 1) < 2)) then ((q_Plan_reckonLaws sc (wb_iu h1 18 0 1 (Int32.ofInt 0)) ((wb_iu h1 18 0 1 (Int32.ofInt 0)).2.2 20 0 3 - 1)).bind fun h2 => bif (decide (0 < h2.2.2 20 0 2)) then bif (decide (0 < h2.2.2 20 0 3)) then bif (decide ((h2.2.2 20 0 3 - 1) < 2)) then bif (decide ((h2.2.2 20 0 2 - 1) < 2)) then ((q_X_startAnew sc (wb_mu (wb_mu h2 20 0 2 ((h2.2.2 20 0 3 - 1) + 1)) 20 0 3 ((h2.2.2 20 0 2 - 1) + 1))).bind fun h3 => some ((h3.1 16 0 8), h3)) else none else none else none else none) else none else none
def LPX : List Nat := [53, 57, 58, 59, 4002, 4003, 4004, 4005, 4006, 4007, 4008, 4009, 6004, 5001]
def LPQ : List Nat := [13, 15, 41, 42, 43, 44, 45, 46, 48, 49, 50, 51, 52]
def LRX : List Nat := [53, 57, 58, 59, 4002, 4003, 4004, 4005, 4006, 4007, 4008, 4009, 6004, 5001, 13, 15, 41, 42, 43, 44, 45, 46, 48, 49, 50, 51, 52]
def PXf (q : Nat) (h h' : wb_H) : Prop := ∀ t o k, ¬ (wb_mem (kc t k) LPX = true ∨ (o = q ∧ wb_mem t LPQ = true)) → h'.1 t o k = h.1 t o k ∧ h'.2.1 t o k = h.2.1 t o k ∧ h'.2.2 t o k = h.2.2 t o k
theorem PXf_trans {q : Nat} {h h1 h2 : wb_H} (a : PXf q h h1) (b : PXf q h1 h2) : PXf q h h2 := fun t o k n => ⟨(b t o k n).1.trans (a t o k n).1, (b t o k n).2.1.trans (a t o k n).2.1, (b t o k n).2.2.trans (a t o k n).2.2⟩
theorem PXf_fr {q : Nat} {L : List Nat} {h h' : wb_H} (a : Fr L h h') (s : wb_subl L LPX = true) : PXf q h h' := fun t o k n => by
  have e : wb_mem (kc t k) LPX = false := by
    cases e : wb_mem (kc t k) LPX with
    | false => rfl
    | true => exact absurd (Or.inl e) n
  exact a t o k (wb_mem_subl s e)
theorem mem_up {l L : List Nat} (s : wb_subl l L = true) {x : Nat} (h : wb_mem x l = true) : wb_mem x L = true := by
  cases e : wb_mem x L with
  | true => rfl
  | false =>
    rw [wb_mem_subl s e] at h
    exact Bool.noConfusion h
theorem PXf_fx {q : Nat} {h h' : wb_H} (a : FX q h h') : PXf q h h' := fun t o k n => a t o k (fun y => n (by
  rcases y with y | ⟨y1, y2⟩
  · exact Or.inl (mem_up (l := LXR) rfl y)
  · exact Or.inr ⟨y1, mem_up (l := LXP) rfl y2⟩))
theorem PXf_fy {q : Nat} {h h' : wb_H} (a : FY q h h') : PXf q h h' := fun t o k n => a t o k (fun y => n (Or.inr ⟨y.1, by rcases y.2 with e | e | e <;> subst e <;> rfl⟩))
theorem PXf_iu {q t k : Nat} {h : wb_H} {v : Int32} (m : wb_mem t LPQ = true) : PXf q h (wb_iu h t q k v) := fun t' o k' n => ⟨by
  rw [wb_iu_1, if_neg]
  rintro ⟨rfl, rfl, rfl⟩
  exact n (Or.inr ⟨rfl, m⟩), rfl, rfl⟩
theorem kc_q {t k : Nat} (h : wb_mem t LPQ = true) : kc t k = t := by
  have all : ∀ t, t < 53 → wb_mem t LPQ = true → t = 13 ∨ t = 15 ∨ (41 ≤ t ∧ t ≤ 46) ∨ (48 ≤ t ∧ t ≤ 52) := by decide +kernel
  have lt : t < 53 := by
    refine Nat.lt_of_not_le fun y => ?_
    have n : ∀ c, c < 53 → Nat.beq t c = false := fun c hc => by
      cases e : Nat.beq t c with
      | false => rfl
      | true =>
        have := Nat.eq_of_beq_eq_true e
        omega
    simp only [LPQ, wb_mem, n 13 (by decide), n 15 (by decide), n 41 (by decide), n 42 (by decide), n 43 (by decide), n 44 (by decide), n 45 (by decide), n 46 (by decide), n 48 (by decide), n 49 (by decide), n 50 (by decide), n 51 (by decide), n 52 (by decide), cond_false] at h
    exact Bool.noConfusion h
  rcases all t lt h with e | e | e | e
  · subst e; rfl
  · subst e; rfl
  · rcases (show t = 41 ∨ t = 42 ∨ t = 43 ∨ t = 44 ∨ t = 45 ∨ t = 46 by omega) with r | r | r | r | r | r <;> subst r <;> rfl
  · rcases (show t = 48 ∨ t = 49 ∨ t = 50 ∨ t = 51 ∨ t = 52 by omega) with r | r | r | r | r <;> subst r <;> rfl
theorem PXf_Fr {q : Nat} {h h' : wb_H} (a : PXf q h h') : Fr LRX h h' := fun t o k n => a t o k (fun y => by
  rcases y with y | ⟨-, y⟩
  · rw [mem_up (l := LPX) rfl y] at n
    exact Bool.noConfusion n
  · have e := kc_q (k := k) y
    rw [e, mem_up (l := LPQ) rfl y] at n
    exact Bool.noConfusion n)
theorem PXf_o {q o t k : Nat} {h h' : wb_H} (a : PXf q h h') (e : wb_mem (kc t k) LPX = false) (ho : o ≠ q) : h'.1 t o k = h.1 t o k := (a t o k (fun y => by
  rcases y with y | ⟨y, -⟩
  · rw [e] at y; exact Bool.noConfusion y
  · exact ho y)).1
def LPM : List Nat := [66, 67, 68, 69, 70, 72, 92, 1002, 1004, 1010, 1011, 1012, 1013, 1014, 1015, 1016, 1017, 1019, 1033, 1039, 1043]
def LRM : List Nat := [66, 67, 68, 69, 70, 72, 92, 1002, 1004, 1010, 1011, 1012, 1013, 1014, 1015, 1016, 1017, 1019, 1033, 1039, 1043, 73, 74, 75, 76, 77, 78, 79, 80, 81, 82, 83, 84, 85, 86, 87, 88, 89, 90, 91]
def PMf (s : Nat) (h h' : wb_H) : Prop := ∀ t o k, ¬ (wb_mem (kc t k) LPM = true ∨ MSd s t k) → h'.1 t o k = h.1 t o k ∧ h'.2.1 t o k = h.2.1 t o k ∧ h'.2.2 t o k = h.2.2 t o k
theorem PMf_trans {s : Nat} {h h1 h2 : wb_H} (a : PMf s h h1) (b : PMf s h1 h2) : PMf s h h2 := fun t o k n => ⟨(b t o k n).1.trans (a t o k n).1, (b t o k n).2.1.trans (a t o k n).2.1, (b t o k n).2.2.trans (a t o k n).2.2⟩
theorem PMf_fr {s : Nat} {L : List Nat} {h h' : wb_H} (a : Fr L h h') (e : wb_subl L LPM = true) : PMf s h h' := fun t o k n => by
  have e2 : wb_mem (kc t k) LPM = false := by
    cases e2 : wb_mem (kc t k) LPM with
    | false => rfl
    | true => exact absurd (Or.inl e2) n
  exact a t o k (wb_mem_subl e e2)
theorem PMf_fm {s : Nat} {h h' : wb_H} (a : FM s h h') : PMf s h h' := fun t o k n => a t o k (fun y => n (by
  rcases y with y | y
  · exact Or.inl (mem_up (l := LMR) rfl y)
  · exact Or.inr y))
theorem PMf_Fr {s : Nat} {h h' : wb_H} (a : PMf s h h') : Fr LRM h h' := fun t o k n => a t o k (fun y => by
  rcases y with y | y
  · rw [mem_up (l := LPM) rfl y] at n
    exact Bool.noConfusion n
  · have e : kc t k = t ∧ wb_mem t LRM = true := by
      unfold MSd at y
      rcases (show t = 73 ∨ t = 74 ∨ t = 75 ∨ t = 76 ∨ t = 77 ∨ t = 78 ∨ t = 79 ∨ t = 80 ∨ t = 81 ∨ t = 82 ∨ t = 83 ∨ t = 84 ∨ t = 85 ∨ t = 86 ∨ t = 87 ∨ t = 88 ∨ t = 89 ∨ t = 90 ∨ t = 91 by omega) with r | r | r | r | r | r | r | r | r | r | r | r | r | r | r | r | r | r | r <;> subst r <;> exact ⟨rfl, rfl⟩
    rw [e.1, e.2] at n
    exact Bool.noConfusion n)
theorem PMf_i {s t k : Nat} {h h' : wb_H} (a : PMf s h h') (e : wb_mem (kc t k) LPM = false) (ho : ¬ MSd s t k) : h'.1 t 0 k = h.1 t 0 k := (a t 0 k (fun y => by
  rcases y with y | y
  · rw [e] at y; exact Bool.noConfusion y
  · exact ho y)).1
section
variable {sc : wb_X} {q s : Nat}
def Set0 (f : Nat → Int32) : Prop := f 0 = nN 5 ∧ f 1 = nN 10 ∧ f 2 = nN 5 ∧ f 3 = nN 3 ∧ f 4 = nN 0
theorem X_pre {h : wb_H} {t : Nat} (hq : q < 2) (ht : t ≤ 2000) (h18 : h.1 18 0 1 = nN t) (hk : ∀ k, k < 22 → h.2.1 56 0 k = xw k) : ∃ x0, q_Reader_parse sc h q = q_Reader_parse_L55 sc x0 (nN 0) ∧ PXf q h x0 ∧ TKX x0 (kdT (cutP (txt (h.1 55 0) t) t (t + 1) 0) t) (plT (cutP (txt (h.1 55 0) t) t (t + 1) 0) t) (vlT (cutP (txt (h.1 55 0) t) t (t + 1) 0) t) ∧ x0.2.2 16 0 2 = q + 1 ∧ x0.1 16 0 3 = nN 0 ∧ x0.1 16 0 4 = nN (kap (kdT (cutP (txt (h.1 55 0) t) t (t + 1) 0) t 0)) ∧ x0.1 16 0 8 = nN 0 ∧ x0.1 16 0 9 = nM 1 ∧ x0.1 16 0 6 = nN 0 ∧ x0.1 15 q 0 = nN 0 ∧ x0.1 13 q 6 = nN 0 ∧ Set0 (fun j => x0.1 15 q (7 + j)) := by
  have g : decide (q < 2) = true := decide_eq_true hq
  have g1 : decide (0 < q + 1) = true := decide_eq_true (by omega)
  have F0 : Fr [6004] h (wb_iu h 19 0 4 (nN 0)) := Fr_iu rfl
  obtain ⟨h1, e1, C1, T1, N1⟩ := X_cut9 (sc := sc) (g := h.1 55 0) ht (t + 1) 0 0 0 (wb_iu h 19 0 4 (nN 0)) (Nat.zero_le _) (by omega) (Nat.le_refl _) (by decide) (by funext j; exact Fr_i F0 (by rfl)) ((Fr_i F0 (by rfl)).trans h18) iu_at (fun k hk' => (Fr_l F0 (by rfl)).trans (hk k hk'))
  have TK := TKX_cut T1 N1
  rw [q_Reader_parse_eq, q_Tokens_cut_eq]
  simp only [L_0, L_1, L_2, L_3, L_4, L_5, L_6, L_7, L_8, L_9, L_10, L_11, L_12, L_13, L_14, L_15, L_16, L_17, L_18, L_19, L_20, L_21, L_22, L_23, L_24, L_25, L_26, L_27, L_28, L_29, L_30, L_31, L_32, L_33, L_34, L_35, L_40, L_41, L_42, L_43, L_44, L_45, L_47, L_48, L_50, L_53, L_57, L_59, L_60, L_61, L_63, L_64, L_97, L_100, L_101, L_102, L_103, L_122, L_130, L_216, L_255, L_364, L_400, L_402, L_420, L_728, L_768, L_999, L_1000, L_1093, L_1872, L_2000, L_9999, L_12345, L_252645135, L_858993459, L_1103515245, L_1431655765, Lm_1, Lm_2, Lm_8]
  rw [e1]
  have m2 : (wb_mu h1 16 0 2 (q + 1)).2.2 16 0 2 = q + 1 := by rw [wb_mu_3, if_pos ⟨rfl, rfl, rfl⟩]
  simp only [Option.bind_some, g, m2, g1, Nat.add_sub_cancel, cond_true]
  have F1 : Fr [57, 58, 59, 6004] h h1 := Fr_trans (Fr_mono F0 rfl) C1.1
  have F2 : Fr [57, 58, 59, 6004, 4002] h (wb_mu h1 16 0 2 (q + 1)) := Fr_trans (Fr_mono F1 rfl) (Fr_mu rfl)
  have TK2 : TKX (wb_mu h1 16 0 2 (q + 1)) (kdT (cutP (txt (h.1 55 0) t) t (t + 1) 0) t) (plT (cutP (txt (h.1 55 0) t) t (t + 1) 0) t) (vlT (cutP (txt (h.1 55 0) t) t (t + 1) 0) t) := TK
  generalize wb_mu h1 16 0 2 (q + 1) = h2 at *
  rw [q_Plan_clear_eq]
  simp only [g, cond_true, L_0, L_1, L_2, L_3, L_4, L_5, L_6, L_7, L_8, L_9, L_10, L_11, L_12, L_13, L_14, L_15, L_16, L_17, L_18, L_19, L_20, L_21, L_22, L_23, L_24, L_25, L_26, L_27, L_28, L_29, L_30, L_31, L_32, L_33, L_34, L_35, L_40, L_41, L_42, L_43, L_44, L_45, L_47, L_48, L_50, L_53, L_57, L_59, L_60, L_61, L_63, L_64, L_97, L_100, L_101, L_102, L_103, L_122, L_130, L_216, L_255, L_364, L_400, L_402, L_420, L_728, L_768, L_999, L_1000, L_1093, L_1872, L_2000, L_9999, L_12345, L_252645135, L_858993459, L_1103515245, L_1431655765, Lm_1, Lm_2, Lm_8]
  rw [q_Laws_clear_eq]
  simp (disch := omega) only [L_0, L_1, L_2, L_3, L_4, L_5, L_6, L_7, L_8, L_9, L_10, L_11, L_12, L_13, L_14, L_15, L_16, L_17, L_18, L_19, L_20, L_21, L_22, L_23, L_24, L_25, L_26, L_27, L_28, L_29, L_30, L_31, L_32, L_33, L_34, L_35, L_40, L_41, L_42, L_43, L_44, L_45, L_47, L_48, L_50, L_53, L_57, L_59, L_60, L_61, L_63, L_64, L_97, L_100, L_101, L_102, L_103, L_122, L_130, L_216, L_255, L_364, L_400, L_402, L_420, L_728, L_768, L_999, L_1000, L_1093, L_1872, L_2000, L_9999, L_12345, L_252645135, L_858993459, L_1103515245, L_1431655765, Lm_1, Lm_2, Lm_8, N_zero, N_cast, N_add, N_mul, N_sub, N_addM, N_lt_tp, N_lt_fp, N_le_tp, N_le_fp, N_eq_tp, N_eq_fp, MN_ltp, MN_lep, NM_ltp, NM_lep, NM_eqp, MN_eqp, MM_lt_tp, MM_lt_fp, MM_le_tp, MM_le_fp, MM_eq_tp, MM_eq_fp, N_cl, N_in_t, N_in_f, M_in, N_div, N_rem, N_nb0, N_nb1, cond_true, cond_false, Bool.not_true, Bool.not_false, Bool.and_true, Bool.true_and, Bool.and_false, Bool.false_and, decide_true, decide_false, Option.bind_some, Option.bind_none, g]
  have ok0 : okT (kdT (cutP (txt (h.1 55 0) t) t (t + 1) 0) t) 0 := ⟨Nat.zero_le _, fun j hj => absurd hj (Nat.not_lt_zero j)⟩
  have F3 : FX q h2 (wb_iu (wb_iu (wb_iu (wb_iu (wb_iu (wb_iu (wb_iu h2 15 q 0 (nN 0)) 13 q 6 (nN 0)) 15 q 7 (nN 5)) 15 q 8 (nN 10)) 15 q 9 (nN 5)) 15 q 10 (nN 3)) 15 q 11 (nN 0)) := FX_trans (FX_trans (FX_trans (FX_trans (FX_trans (FX_trans (FX_iu (Or.inr ⟨rfl, rfl⟩)) (FX_iu (Or.inr ⟨rfl, rfl⟩))) (FX_iu (Or.inr ⟨rfl, rfl⟩))) (FX_iu (Or.inr ⟨rfl, rfl⟩))) (FX_iu (Or.inr ⟨rfl, rfl⟩))) (FX_iu (Or.inr ⟨rfl, rfl⟩))) (FX_iu (Or.inr ⟨rfl, rfl⟩))
  have a0 : (wb_iu (wb_iu (wb_iu (wb_iu (wb_iu (wb_iu (wb_iu h2 15 q 0 (nN 0)) 13 q 6 (nN 0)) 15 q 7 (nN 5)) 15 q 8 (nN 10)) 15 q 9 (nN 5)) 15 q 10 (nN 3)) 15 q 11 (nN 0)).1 15 q 0 = nN 0 := by rw [iu_ne (by decide), iu_ne (by decide), iu_ne (by decide), iu_ne (by decide), iu_ne (by decide), iu_nt (by decide), iu_at]
  have a13 : (wb_iu (wb_iu (wb_iu (wb_iu (wb_iu (wb_iu (wb_iu h2 15 q 0 (nN 0)) 13 q 6 (nN 0)) 15 q 7 (nN 5)) 15 q 8 (nN 10)) 15 q 9 (nN 5)) 15 q 10 (nN 3)) 15 q 11 (nN 0)).1 13 q 6 = nN 0 := by rw [iu_nt (by decide), iu_nt (by decide), iu_nt (by decide), iu_nt (by decide), iu_nt (by decide), iu_at]
  have aS : Set0 (fun j => (wb_iu (wb_iu (wb_iu (wb_iu (wb_iu (wb_iu (wb_iu h2 15 q 0 (nN 0)) 13 q 6 (nN 0)) 15 q 7 (nN 5)) 15 q 8 (nN 10)) 15 q 9 (nN 5)) 15 q 10 (nN 3)) 15 q 11 (nN 0)).1 15 q (7 + j)) := by
    refine ⟨?_, ?_, ?_, ?_, ?_⟩
    · show (wb_iu (wb_iu (wb_iu (wb_iu (wb_iu _ 15 q 7 (nN 5)) 15 q 8 (nN 10)) 15 q 9 (nN 5)) 15 q 10 (nN 3)) 15 q 11 (nN 0)).1 15 q 7 = nN 5
      rw [iu_ne (by decide), iu_ne (by decide), iu_ne (by decide), iu_ne (by decide), iu_at]
    · show (wb_iu (wb_iu (wb_iu (wb_iu _ 15 q 8 (nN 10)) 15 q 9 (nN 5)) 15 q 10 (nN 3)) 15 q 11 (nN 0)).1 15 q 8 = nN 10
      rw [iu_ne (by decide), iu_ne (by decide), iu_ne (by decide), iu_at]
    · show (wb_iu (wb_iu (wb_iu _ 15 q 9 (nN 5)) 15 q 10 (nN 3)) 15 q 11 (nN 0)).1 15 q 9 = nN 5
      rw [iu_ne (by decide), iu_ne (by decide), iu_at]
    · show (wb_iu (wb_iu _ 15 q 10 (nN 3)) 15 q 11 (nN 0)).1 15 q 10 = nN 3
      rw [iu_ne (by decide), iu_at]
    · exact iu_at
  generalize wb_iu (wb_iu (wb_iu (wb_iu (wb_iu (wb_iu (wb_iu h2 15 q 0 (nN 0)) 13 q 6 (nN 0)) 15 q 7 (nN 5)) 15 q 8 (nN 10)) 15 q 9 (nN 5)) 15 q 10 (nN 3)) 15 q 11 (nN 0) = h3 at *
  have TK3 := TKX_fx F3 TK2
  have k0 := (TK3.1 0 ok0).1
  have e57 : (wb_iu h3 16 0 3 (nN 0)).1 57 0 0 = nN (kap (kdT (cutP (txt (h.1 55 0) t) t (t + 1) 0) t 0)) := by rw [iu_nt (by decide)]; exact k0
  simp only [e57]
  have F4 : Fr [4003, 4004, 4006, 4008, 4009] h3 (wb_iu (wb_iu (wb_iu (wb_iu (wb_iu h3 16 0 3 (nN 0)) 16 0 4 (nN (kap (kdT (cutP (txt (h.1 55 0) t) t (t + 1) 0) t 0)))) 16 0 8 (nN 0)) 16 0 9 (nM 1)) 16 0 6 (nN 0)) := Fr_trans (Fr_trans (Fr_trans (Fr_trans (Fr_iu rfl) (Fr_iu rfl)) (Fr_iu rfl)) (Fr_iu rfl)) (Fr_iu rfl)
  refine ⟨_, rfl, PXf_trans (PXf_fr F2 rfl) (PXf_trans (PXf_fx F3) (PXf_fr F4 rfl)), TKX_fx (FX_fr F4 rfl : FX q _ _) TK3, (Fr_m F4 (by rfl)).trans ((FX_m F3 (by rfl) (by rfl)).trans m2), ?_, ?_, ?_, ?_, iu_at, (Fr_i F4 (by rfl)).trans a0, (Fr_i F4 (by rfl)).trans a13, ?_⟩
  · rw [iu_ne (by decide), iu_ne (by decide), iu_ne (by decide), iu_ne (by decide), iu_at]
  · rw [iu_ne (by decide), iu_ne (by decide), iu_ne (by decide), iu_at]
  · rw [iu_ne (by decide), iu_ne (by decide), iu_at]
  · rw [iu_ne (by decide), iu_at]
  · obtain ⟨s0, s1, s2, s3, s4⟩ := aS
    exact ⟨(Fr_i F4 (by rfl)).trans s0, (Fr_i F4 (by rfl)).trans s1, (Fr_i F4 (by rfl)).trans s2, (Fr_i F4 (by rfl)).trans s3, (Fr_i F4 (by rfl)).trans s4⟩
theorem M_pre {m : wb_H} {t l : Nat} (hl : l < 2) (ht : t ≤ 2000) (h2 : m.1 21 0 2 = nN t) (h18 : m.1 21 0 18 = nN l) (hk : ∀ k, k < 22 → m.2.1 71 0 k = mk k) : ∃ m0, q_M_read sc m = q_M_read_L107 sc m0 ∧ PMf (1 - l) m m0 ∧ TKM m0 (kdT (cutP (txt (m.1 65 0) t) t (t + 1) 0) t) (plT (cutP (txt (m.1 65 0) t) t (t + 1) 0) t) (vlT (cutP (txt (m.1 65 0) t) t (t + 1) 0) t) ∧ m0.1 21 0 11 = nN 0 ∧ m0.1 21 0 12 = nN 0 ∧ m0.1 21 0 13 = nN 0 ∧ m0.1 21 0 15 = nN 0 ∧ m0.1 21 0 19 = nN (1 - l) ∧ m0.1 21 0 33 = nN (130 * (1 - l)) ∧ m0.1 21 0 39 = nN (420 * (1 - l)) ∧ m0.1 21 0 2 = nN 0 ∧ m0.1 73 0 (1 - l) = nN 0 ∧ Set0 (fun j => m0.1 (80 + j) 0 (1 - l)) := by
  have copy : ∀ k j m1, j + k = t → Fr [66, 1004] m m1 → m1.1 21 0 4 = nN t → (∀ i, i < j → m1.1 66 0 i = (m.1 65 0 i).toInt8.toInt32) → ∃ m2, q_M_read_L10 sc m1 (nN j) = q_M_read_L10 sc m2 (nN t) ∧ Fr [66, 1004] m m2 ∧ m2.1 21 0 4 = nN t ∧ ∀ i, i < t → m2.1 66 0 i = (m.1 65 0 i).toInt8.toInt32 := by
    intro k
    induction k with
    | zero =>
      intro j m1 hj F e A
      rw [Nat.add_zero] at hj
      subst hj
      exact ⟨m1, rfl, F, e, A⟩
    | succ k ih =>
      intro j m1 hj F e A
      have e65 : m1.1 65 0 j = m.1 65 0 j := Fr_i F (by rfl)
      have F' : Fr [66] m1 (wb_iu m1 66 0 j ((m.1 65 0 j).toInt8.toInt32)) := Fr_iu rfl
      obtain ⟨m2, e2, F2, c2, A2⟩ := ih (j + 1) (wb_iu m1 66 0 j ((m.1 65 0 j).toInt8.toInt32)) (by omega) (Fr_trans F (Fr_mono F' rfl)) ((Fr_i F' (by rfl)).trans e) (fun i hi => by
        by_cases ij : i = j
        · subst ij
          exact iu_at
        · rw [iu_ne ij]
          exact A i (by omega))
      refine ⟨m2, ?_, F2, c2, A2⟩
      rw [q_M_read_L10_eq]
      simp (disch := omega) only [L_0, L_1, L_2, L_3, L_4, L_5, L_6, L_7, L_8, L_9, L_10, L_11, L_12, L_13, L_14, L_15, L_16, L_17, L_18, L_19, L_20, L_21, L_22, L_23, L_24, L_25, L_26, L_27, L_28, L_29, L_30, L_31, L_32, L_33, L_34, L_35, L_40, L_41, L_42, L_43, L_44, L_45, L_47, L_48, L_50, L_53, L_57, L_59, L_60, L_61, L_63, L_64, L_97, L_100, L_101, L_102, L_103, L_122, L_130, L_216, L_255, L_364, L_400, L_402, L_420, L_728, L_768, L_999, L_1000, L_1093, L_1872, L_2000, L_9999, L_12345, L_252645135, L_858993459, L_1103515245, L_1431655765, Lm_1, Lm_2, Lm_8, N_zero, N_cast, N_add, N_mul, N_sub, N_addM, N_lt_tp, N_lt_fp, N_le_tp, N_le_fp, N_eq_tp, N_eq_fp, MN_ltp, MN_lep, NM_ltp, NM_lep, NM_eqp, MN_eqp, MM_lt_tp, MM_lt_fp, MM_le_tp, MM_le_fp, MM_eq_tp, MM_eq_fp, N_cl, N_in_t, N_in_f, M_in, N_div, N_rem, N_nb0, N_nb1, cond_true, cond_false, Bool.not_true, Bool.not_false, Bool.and_true, Bool.true_and, Bool.and_false, Bool.false_and, decide_true, decide_false, Option.bind_some, Option.bind_none, e, e65, vp_nar_byte]
      exact e2
  have F0 : Fr [1004] m (wb_iu m 21 0 4 (nN t)) := Fr_iu rfl
  obtain ⟨m2, e2, F2, c2, A2⟩ := copy t 0 (wb_iu m 21 0 4 (nN t)) (Nat.zero_add _) (Fr_mono F0 rfl) iu_at (fun i hi => absurd hi (Nat.not_lt_zero i))
  rw [q_M_read_eq, h2]
  simp only [L_0, L_1, L_2, L_3, L_4, L_5, L_6, L_7, L_8, L_9, L_10, L_11, L_12, L_13, L_14, L_15, L_16, L_17, L_18, L_19, L_20, L_21, L_22, L_23, L_24, L_25, L_26, L_27, L_28, L_29, L_30, L_31, L_32, L_33, L_34, L_35, L_40, L_41, L_42, L_43, L_44, L_45, L_47, L_48, L_50, L_53, L_57, L_59, L_60, L_61, L_63, L_64, L_97, L_100, L_101, L_102, L_103, L_122, L_130, L_216, L_255, L_364, L_400, L_402, L_420, L_728, L_768, L_999, L_1000, L_1093, L_1872, L_2000, L_9999, L_12345, L_252645135, L_858993459, L_1103515245, L_1431655765, Lm_1, Lm_2, Lm_8]
  rw [e2, q_M_read_L10_eq]
  simp (disch := omega) only [L_0, L_1, L_2, L_3, L_4, L_5, L_6, L_7, L_8, L_9, L_10, L_11, L_12, L_13, L_14, L_15, L_16, L_17, L_18, L_19, L_20, L_21, L_22, L_23, L_24, L_25, L_26, L_27, L_28, L_29, L_30, L_31, L_32, L_33, L_34, L_35, L_40, L_41, L_42, L_43, L_44, L_45, L_47, L_48, L_50, L_53, L_57, L_59, L_60, L_61, L_63, L_64, L_97, L_100, L_101, L_102, L_103, L_122, L_130, L_216, L_255, L_364, L_400, L_402, L_420, L_728, L_768, L_999, L_1000, L_1093, L_1872, L_2000, L_9999, L_12345, L_252645135, L_858993459, L_1103515245, L_1431655765, Lm_1, Lm_2, Lm_8, N_zero, N_cast, N_add, N_mul, N_sub, N_addM, N_lt_tp, N_lt_fp, N_le_tp, N_le_fp, N_eq_tp, N_eq_fp, MN_ltp, MN_lep, NM_ltp, NM_lep, NM_eqp, MN_eqp, MM_lt_tp, MM_lt_fp, MM_le_tp, MM_le_fp, MM_eq_tp, MM_eq_fp, N_cl, N_in_t, N_in_f, M_in, N_div, N_rem, N_nb0, N_nb1, cond_true, cond_false, Bool.not_true, Bool.not_false, Bool.and_true, Bool.true_and, Bool.and_false, Bool.false_and, decide_true, decide_false, Option.bind_some, Option.bind_none, c2]
  have F3 : Fr [66, 1002, 1004] m (wb_iu m2 21 0 2 (nN 0)) := Fr_trans (Fr_mono F2 rfl) (Fr_iu rfl)
  have d4 : (wb_iu m2 21 0 2 (nN 0)).1 21 0 4 = nN t := by rw [iu_ne (by decide)]; exact c2
  have d2 : (wb_iu m2 21 0 2 (nN 0)).1 21 0 2 = nN 0 := iu_at
  have d66 : ∀ i, i < t → (wb_iu m2 21 0 2 (nN 0)).1 66 0 i = (m.1 65 0 i).toInt8.toInt32 := fun i hi => by rw [iu_nt (by decide)]; exact A2 i hi
  generalize wb_iu m2 21 0 2 (nN 0) = m3 at *
  have tx : txt (m3.1 66 0) t = txt (m.1 65 0) t := by
    funext i
    unfold txt
    by_cases z : i < t
    · rw [if_pos z, if_pos z, d66 i z, byt_nar]
    · rw [if_neg z, if_neg z]
  have F4 : Fr [1010] m3 (wb_iu m3 21 0 10 (nN 0)) := Fr_iu rfl
  have F34 : Fr [66, 1002, 1004, 1010] m (wb_iu m3 21 0 10 (nN 0)) := Fr_trans (Fr_mono F3 rfl) (Fr_mono F4 rfl)
  obtain ⟨m5, e5, C5, T5⟩ := M_cut7 (sc := sc) (g := (wb_iu m3 21 0 10 (nN 0)).1 66 0) ht (t + 1) 0 0 (wb_iu m3 21 0 10 (nN 0)) (Nat.zero_le _) (by omega) (by decide) rfl ((Fr_i F4 (by rfl)).trans d4) iu_at (fun k hk' => (Fr_l F34 (by rfl)).trans (hk k hk'))
  have tx2 : txt ((wb_iu m3 21 0 10 (nN 0)).1 66 0) t = txt (m.1 65 0) t := by
    rw [← tx]
    congr 1
  rw [tx2] at T5
  have TK := TKM_cut T5
  rw [q_M_cut_eq]
  simp only [L_0, L_1, L_2, L_3, L_4, L_5, L_6, L_7, L_8, L_9, L_10, L_11, L_12, L_13, L_14, L_15, L_16, L_17, L_18, L_19, L_20, L_21, L_22, L_23, L_24, L_25, L_26, L_27, L_28, L_29, L_30, L_31, L_32, L_33, L_34, L_35, L_40, L_41, L_42, L_43, L_44, L_45, L_47, L_48, L_50, L_53, L_57, L_59, L_60, L_61, L_63, L_64, L_97, L_100, L_101, L_102, L_103, L_122, L_130, L_216, L_255, L_364, L_400, L_402, L_420, L_728, L_768, L_999, L_1000, L_1093, L_1872, L_2000, L_9999, L_12345, L_252645135, L_858993459, L_1103515245, L_1431655765, Lm_1, Lm_2, Lm_8]
  rw [e5]
  have F5 : Fr [66, 67, 68, 69, 70, 1002, 1004, 1010] m m5 := Fr_trans (Fr_mono F34 rfl) (Fr_mono C5.1 rfl)
  have h185 : m5.1 21 0 18 = nN l := (Fr_i F5 (by rfl)).trans h18
  have c25 : m5.1 21 0 2 = nN 0 := (Fr_i C5.1 (by rfl)).trans ((Fr_i F4 (by rfl)).trans d2)
  simp (disch := omega) only [L_0, L_1, L_2, L_3, L_4, L_5, L_6, L_7, L_8, L_9, L_10, L_11, L_12, L_13, L_14, L_15, L_16, L_17, L_18, L_19, L_20, L_21, L_22, L_23, L_24, L_25, L_26, L_27, L_28, L_29, L_30, L_31, L_32, L_33, L_34, L_35, L_40, L_41, L_42, L_43, L_44, L_45, L_47, L_48, L_50, L_53, L_57, L_59, L_60, L_61, L_63, L_64, L_97, L_100, L_101, L_102, L_103, L_122, L_130, L_216, L_255, L_364, L_400, L_402, L_420, L_728, L_768, L_999, L_1000, L_1093, L_1872, L_2000, L_9999, L_12345, L_252645135, L_858993459, L_1103515245, L_1431655765, Lm_1, Lm_2, Lm_8, N_zero, N_cast, N_add, N_mul, N_sub, N_addM, N_lt_tp, N_lt_fp, N_le_tp, N_le_fp, N_eq_tp, N_eq_fp, MN_ltp, MN_lep, NM_ltp, NM_lep, NM_eqp, MN_eqp, MM_lt_tp, MM_lt_fp, MM_le_tp, MM_le_fp, MM_eq_tp, MM_eq_fp, N_cl, N_in_t, N_in_f, M_in, N_div, N_rem, N_nb0, N_nb1, cond_true, cond_false, Bool.not_true, Bool.not_false, Bool.and_true, Bool.true_and, Bool.and_false, Bool.false_and, decide_true, decide_false, Option.bind_some, Option.bind_none, iu_ne (show 18 ≠ 15 by decide), iu_ne (show 18 ≠ 13 by decide), iu_ne (show 18 ≠ 12 by decide), iu_ne (show 18 ≠ 11 by decide), h185]
  have F6 : Fr [1011, 1012, 1013, 1015, 1019] m5 (wb_iu (wb_iu (wb_iu (wb_iu (wb_iu m5 21 0 11 (nN 0)) 21 0 12 (nN 0)) 21 0 13 (nN 0)) 21 0 15 (nN 0)) 21 0 19 (nN (1 - l))) := Fr_trans (Fr_trans (Fr_trans (Fr_trans (Fr_iu rfl) (Fr_iu rfl)) (Fr_iu rfl)) (Fr_iu rfl)) (Fr_iu rfl)
  have b11 : (wb_iu (wb_iu (wb_iu (wb_iu (wb_iu m5 21 0 11 (nN 0)) 21 0 12 (nN 0)) 21 0 13 (nN 0)) 21 0 15 (nN 0)) 21 0 19 (nN (1 - l))).1 21 0 11 = nN 0 := by rw [iu_ne (by decide), iu_ne (by decide), iu_ne (by decide), iu_ne (by decide), iu_at]
  have b12 : (wb_iu (wb_iu (wb_iu (wb_iu (wb_iu m5 21 0 11 (nN 0)) 21 0 12 (nN 0)) 21 0 13 (nN 0)) 21 0 15 (nN 0)) 21 0 19 (nN (1 - l))).1 21 0 12 = nN 0 := by rw [iu_ne (by decide), iu_ne (by decide), iu_ne (by decide), iu_at]
  have b13 : (wb_iu (wb_iu (wb_iu (wb_iu (wb_iu m5 21 0 11 (nN 0)) 21 0 12 (nN 0)) 21 0 13 (nN 0)) 21 0 15 (nN 0)) 21 0 19 (nN (1 - l))).1 21 0 13 = nN 0 := by rw [iu_ne (by decide), iu_ne (by decide), iu_at]
  have b15 : (wb_iu (wb_iu (wb_iu (wb_iu (wb_iu m5 21 0 11 (nN 0)) 21 0 12 (nN 0)) 21 0 13 (nN 0)) 21 0 15 (nN 0)) 21 0 19 (nN (1 - l))).1 21 0 15 = nN 0 := by rw [iu_ne (by decide), iu_at]
  have b19 : (wb_iu (wb_iu (wb_iu (wb_iu (wb_iu m5 21 0 11 (nN 0)) 21 0 12 (nN 0)) 21 0 13 (nN 0)) 21 0 15 (nN 0)) 21 0 19 (nN (1 - l))).1 21 0 19 = nN (1 - l) := iu_at
  generalize wb_iu (wb_iu (wb_iu (wb_iu (wb_iu m5 21 0 11 (nN 0)) 21 0 12 (nN 0)) 21 0 13 (nN 0)) 21 0 15 (nN 0)) 21 0 19 (nN (1 - l)) = m6 at *
  rw [q_M_read_L75_eq, b19, q_M_plain_eq]
  simp (disch := omega) only [L_0, L_1, L_2, L_3, L_4, L_5, L_6, L_7, L_8, L_9, L_10, L_11, L_12, L_13, L_14, L_15, L_16, L_17, L_18, L_19, L_20, L_21, L_22, L_23, L_24, L_25, L_26, L_27, L_28, L_29, L_30, L_31, L_32, L_33, L_34, L_35, L_40, L_41, L_42, L_43, L_44, L_45, L_47, L_48, L_50, L_53, L_57, L_59, L_60, L_61, L_63, L_64, L_97, L_100, L_101, L_102, L_103, L_122, L_130, L_216, L_255, L_364, L_400, L_402, L_420, L_728, L_768, L_999, L_1000, L_1093, L_1872, L_2000, L_9999, L_12345, L_252645135, L_858993459, L_1103515245, L_1431655765, Lm_1, Lm_2, Lm_8, N_zero, N_cast, N_add, N_mul, N_sub, N_addM, N_lt_tp, N_lt_fp, N_le_tp, N_le_fp, N_eq_tp, N_eq_fp, MN_ltp, MN_lep, NM_ltp, NM_lep, NM_eqp, MN_eqp, MM_lt_tp, MM_lt_fp, MM_le_tp, MM_le_fp, MM_eq_tp, MM_eq_fp, N_cl, N_in_t, N_in_f, M_in, N_div, N_rem, N_nb0, N_nb1, cond_true, cond_false, Bool.not_true, Bool.not_false, Bool.and_true, Bool.true_and, Bool.and_false, Bool.false_and, decide_true, decide_false, Option.bind_some, Option.bind_none, iu_nt (show 21 ≠ 73 by decide), iu_nt (show 21 ≠ 80 by decide), iu_nt (show 21 ≠ 81 by decide), iu_nt (show 21 ≠ 82 by decide), iu_nt (show 21 ≠ 83 by decide), iu_nt (show 21 ≠ 84 by decide), b19, iu_ne (show 19 ≠ 33 by decide)]
  have F7 : FM (1 - l) m6 (wb_iu (wb_iu (wb_iu (wb_iu (wb_iu (wb_iu m6 73 0 (1 - l) (nN 0)) 80 0 (1 - l) (nN 5)) 81 0 (1 - l) (nN 10)) 82 0 (1 - l) (nN 5)) 83 0 (1 - l) (nN 3)) 84 0 (1 - l) (nN 0)) := FM_trans (FM_trans (FM_trans (FM_trans (FM_trans (FM_iu (Or.inr (by unfold MSd; omega))) (FM_iu (Or.inr (by unfold MSd; omega)))) (FM_iu (Or.inr (by unfold MSd; omega)))) (FM_iu (Or.inr (by unfold MSd; omega)))) (FM_iu (Or.inr (by unfold MSd; omega)))) (FM_iu (Or.inr (by unfold MSd; omega)))
  have e73 : (wb_iu (wb_iu (wb_iu (wb_iu (wb_iu (wb_iu m6 73 0 (1 - l) (nN 0)) 80 0 (1 - l) (nN 5)) 81 0 (1 - l) (nN 10)) 82 0 (1 - l) (nN 5)) 83 0 (1 - l) (nN 3)) 84 0 (1 - l) (nN 0)).1 73 0 (1 - l) = nN 0 := by rw [iu_nt (by decide), iu_nt (by decide), iu_nt (by decide), iu_nt (by decide), iu_nt (by decide), iu_at]
  have eS : Set0 (fun j => (wb_iu (wb_iu (wb_iu (wb_iu (wb_iu (wb_iu m6 73 0 (1 - l) (nN 0)) 80 0 (1 - l) (nN 5)) 81 0 (1 - l) (nN 10)) 82 0 (1 - l) (nN 5)) 83 0 (1 - l) (nN 3)) 84 0 (1 - l) (nN 0)).1 (80 + j) 0 (1 - l)) := by
    refine ⟨?_, ?_, ?_, ?_, ?_⟩
    · show (wb_iu (wb_iu (wb_iu (wb_iu (wb_iu _ 80 0 (1 - l) (nN 5)) 81 0 (1 - l) (nN 10)) 82 0 (1 - l) (nN 5)) 83 0 (1 - l) (nN 3)) 84 0 (1 - l) (nN 0)).1 80 0 (1 - l) = nN 5
      rw [iu_nt (by decide), iu_nt (by decide), iu_nt (by decide), iu_nt (by decide), iu_at]
    · show (wb_iu (wb_iu (wb_iu (wb_iu _ 81 0 (1 - l) (nN 10)) 82 0 (1 - l) (nN 5)) 83 0 (1 - l) (nN 3)) 84 0 (1 - l) (nN 0)).1 81 0 (1 - l) = nN 10
      rw [iu_nt (by decide), iu_nt (by decide), iu_nt (by decide), iu_at]
    · show (wb_iu (wb_iu (wb_iu _ 82 0 (1 - l) (nN 5)) 83 0 (1 - l) (nN 3)) 84 0 (1 - l) (nN 0)).1 82 0 (1 - l) = nN 5
      rw [iu_nt (by decide), iu_nt (by decide), iu_at]
    · show (wb_iu (wb_iu _ 83 0 (1 - l) (nN 3)) 84 0 (1 - l) (nN 0)).1 83 0 (1 - l) = nN 3
      rw [iu_nt (by decide), iu_at]
    · exact iu_at
  have k : ∀ c, (wb_iu (wb_iu (wb_iu (wb_iu (wb_iu (wb_iu m6 73 0 (1 - l) (nN 0)) 80 0 (1 - l) (nN 5)) 81 0 (1 - l) (nN 10)) 82 0 (1 - l) (nN 5)) 83 0 (1 - l) (nN 3)) 84 0 (1 - l) (nN 0)).1 21 0 c = m6.1 21 0 c := fun c => by rw [iu_nt (by decide), iu_nt (by decide), iu_nt (by decide), iu_nt (by decide), iu_nt (by decide), iu_nt (by decide)]
  generalize wb_iu (wb_iu (wb_iu (wb_iu (wb_iu (wb_iu m6 73 0 (1 - l) (nN 0)) 80 0 (1 - l) (nN 5)) 81 0 (1 - l) (nN 10)) 82 0 (1 - l) (nN 5)) 83 0 (1 - l) (nN 3)) 84 0 (1 - l) (nN 0) = m7 at *
  have F8 : Fr [1033, 1039] m7 (wb_iu (wb_iu m7 21 0 33 (nN (130 * (1 - l)))) 21 0 39 (nN (420 * (1 - l)))) := Fr_trans (Fr_iu rfl) (Fr_iu rfl)
  have M8 : FM (1 - l) m7 (wb_iu (wb_iu m7 21 0 33 (nN (130 * (1 - l)))) 21 0 39 (nN (420 * (1 - l)))) := FM_fr F8 rfl
  have TK6 : TKM m6 (kdT (cutP (txt (m.1 65 0) t) t (t + 1) 0) t) (plT (cutP (txt (m.1 65 0) t) t (t + 1) 0) t) (vlT (cutP (txt (m.1 65 0) t) t (t + 1) 0) t) := by
    intro p hp
    obtain ⟨a, b, c, d⟩ := TK p hp
    exact ⟨(Fr_i F6 (by rfl)).trans a, (Fr_i F6 (by rfl)).trans b, fun y => (Fr_i F6 (by rfl)).trans (c y), fun y => (Fr_l F6 (by rfl)).trans (d y)⟩
  refine ⟨_, rfl, PMf_trans (PMf_fr F5 rfl) (PMf_trans (PMf_fr F6 rfl) (PMf_trans (PMf_fm F7) (PMf_fm M8))), TKM_fm M8 (TKM_fm F7 TK6), ?_, ?_, ?_, ?_, ?_, ?_, iu_at, ?_, (Fr_i F8 (by rfl)).trans e73, ?_⟩
  · exact (Fr_i F8 (by rfl)).trans ((k 11).trans b11)
  · exact (Fr_i F8 (by rfl)).trans ((k 12).trans b12)
  · exact (Fr_i F8 (by rfl)).trans ((k 13).trans b13)
  · exact (Fr_i F8 (by rfl)).trans ((k 15).trans b15)
  · exact (Fr_i F8 (by rfl)).trans ((k 19).trans b19)
  · rw [iu_ne (by decide), iu_at]
  · exact (Fr_i F8 (by rfl)).trans ((k 2).trans ((Fr_i F6 (by rfl)).trans c25))
  · obtain ⟨s0, s1, s2, s3, s4⟩ := eS
    exact ⟨(Fr_i F8 (by rfl)).trans s0, (Fr_i F8 (by rfl)).trans s1, (Fr_i F8 (by rfl)).trans s2, (Fr_i F8 (by rfl)).trans s3, (Fr_i F8 (by rfl)).trans s4⟩
end
