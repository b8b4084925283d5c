/-! Codes in postfix order and signs that wait, on both sides. -/
def xo (k : Nat) : Nat := if k = 0 then 0 else if k = 1 then 1 else if k = 2 then 43 else if k = 3 then 45 else if k = 4 then 42 else 47
def CodX (x : wb_H) (q : Nat) : Nat → List (Nat × Int32) → Prop
  | _, [] => True
  | z, c :: r => (x.1 41 q z = nN (xo c.1) ∧ x.1 42 q z = c.2) ∧ CodX x q (z + 1) r
def CodM (m : wb_H) : Nat → List (Nat × Int32) → Prop
  | _, [] => True
  | z, c :: r => (m.1 90 0 z = nN c.1 ∧ m.1 91 0 z = c.2) ∧ CodM m (z + 1) r
theorem CodX_snoc {x : wb_H} {q : Nat} {c : Nat × Int32} : ∀ {l : List (Nat × Int32)} {z : Nat}, CodX x q z l → x.1 41 q (z + l.length) = nN (xo c.1) → x.1 42 q (z + l.length) = c.2 → CodX x q z (l ++ [c])
  | [], z, _, a, b => ⟨⟨a, b⟩, trivial⟩
  | d :: l, z, h, a, b => by
    rw [List.length_cons, show z + (l.length + 1) = z + 1 + l.length by omega] at a b
    exact ⟨h.1, CodX_snoc (l := l) h.2 a b⟩
theorem CodM_snoc {m : wb_H} {c : Nat × Int32} : ∀ {l : List (Nat × Int32)} {z : Nat}, CodM m z l → m.1 90 0 (z + l.length) = nN c.1 → m.1 91 0 (z + l.length) = c.2 → CodM m z (l ++ [c])
  | [], z, _, a, b => ⟨⟨a, b⟩, trivial⟩
  | d :: l, z, h, a, b => by
    rw [List.length_cons, show z + (l.length + 1) = z + 1 + l.length by omega] at a b
    exact ⟨h.1, CodM_snoc (l := l) h.2 a b⟩
def Kp (q e : Nat) (x x' : wb_H) : Prop := ∀ j, j < e → x'.1 41 q j = x.1 41 q j ∧ x'.1 42 q j = x.1 42 q j
def Km (e : Nat) (m m' : wb_H) : Prop := ∀ j, j < e → m'.1 90 0 j = m.1 90 0 j ∧ m'.1 91 0 j = m.1 91 0 j
theorem Kp_refl (q e : Nat) (x : wb_H) : Kp q e x x := fun _ _ => ⟨rfl, rfl⟩
theorem Km_refl (e : Nat) (m : wb_H) : Km e m m := fun _ _ => ⟨rfl, rfl⟩
theorem Kp_trans {q e : Nat} {x x1 x2 : wb_H} (a : Kp q e x x1) (b : Kp q e x1 x2) : Kp q e x x2 := fun j hj => ⟨(b j hj).1.trans (a j hj).1, (b j hj).2.trans (a j hj).2⟩
theorem Km_trans {e : Nat} {x x1 x2 : wb_H} (a : Km e x x1) (b : Km e x1 x2) : Km e x x2 := fun j hj => ⟨(b j hj).1.trans (a j hj).1, (b j hj).2.trans (a j hj).2⟩
theorem Kp_le {q e e' : Nat} {x x' : wb_H} (h : e' ≤ e) (a : Kp q e x x') : Kp q e' x x' := fun j hj => a j (by omega)
theorem Km_le {e e' : Nat} {x x' : wb_H} (h : e' ≤ e) (a : Km e x x') : Km e' x x' := fun j hj => a j (by omega)
theorem Kp_fr {L : List Nat} {q e : Nat} {x x' : wb_H} (F : Fr L x x') (a : wb_dj [41, 42] L = true) : Kp q e x x' := fun j _ => ⟨Fr_i F (by exact wb_dj_mem a (x := 41) rfl), Fr_i F (by exact wb_dj_mem a (x := 42) rfl)⟩
theorem Km_fr {L : List Nat} {e : Nat} {x x' : wb_H} (F : Fr L x x') (a : wb_dj [90, 91] L = true) : Km e x x' := fun j _ => ⟨Fr_i F (by exact wb_dj_mem a (x := 90) rfl), Fr_i F (by exact wb_dj_mem a (x := 91) rfl)⟩
theorem CodX_keep {x x' : wb_H} {q e : Nat} (k : Kp q e x x') : ∀ {l : List (Nat × Int32)} {z : Nat}, z + l.length ≤ e → CodX x q z l → CodX x' q z l
  | [], _, _, _ => trivial
  | d :: l, z, hz, h => by
    rw [List.length_cons] at hz
    obtain ⟨a, b⟩ := k z (by omega)
    exact ⟨⟨a.trans h.1.1, b.trans h.1.2⟩, CodX_keep k (l := l) (by omega) h.2⟩
theorem CodM_keep {x x' : wb_H} {e : Nat} (k : Km e x x') : ∀ {l : List (Nat × Int32)} {z : Nat}, z + l.length ≤ e → CodM x z l → CodM x' z l
  | [], _, _, _ => trivial
  | d :: l, z, hz, h => by
    rw [List.length_cons] at hz
    obtain ⟨a, b⟩ := k z (by omega)
    exact ⟨⟨a.trans h.1.1, b.trans h.1.2⟩, CodM_keep k (l := l) (by omega) h.2⟩
/-- so many numbers lie on the pile behind these codes -/
def dpt : Nat → List (Nat × Int32) → Nat
  | d, [] => d
  | d, c :: r => dpt (if c.1 < 2 then d + 1 else d - 1) r
/-- there are always enough of them, and never too many; what is looked at is there -/
def wfd (lim : Nat) : Nat → List (Nat × Int32) → Prop
  | d, [] => d ≤ lim
  | d, c :: r => d ≤ lim ∧ c.1 ≤ 5 ∧ (c.1 = 1 → ∃ i, i < 7 ∧ c.2 = nN i) ∧ (2 ≤ c.1 → 2 ≤ d) ∧ wfd lim (if c.1 < 2 then d + 1 else d - 1) r
theorem dpt_snoc (c : Nat × Int32) : ∀ (l : List (Nat × Int32)) (d : Nat), dpt d (l ++ [c]) = if c.1 < 2 then dpt d l + 1 else dpt d l - 1
  | [], _ => rfl
  | _ :: l, _ => dpt_snoc c l _
theorem wfd_snoc {lim : Nat} {c : Nat × Int32} (h5 : c.1 ≤ 5) (h1 : c.1 = 1 → ∃ i, i < 7 ∧ c.2 = nN i) : ∀ {l : List (Nat × Int32)} {d : Nat}, wfd lim d l → (c.1 < 2 → dpt d l + 1 ≤ lim) → (2 ≤ c.1 → 2 ≤ dpt d l) → wfd lim d (l ++ [c])
  | [], d, h, a, b => by
    refine ⟨h, h5, h1, b, ?_⟩
    show (if c.1 < 2 then d + 1 else d - 1) ≤ lim
    have h' : d ≤ lim := h
    split
    · rename_i z
      exact a z
    · omega
  | e :: l, d, h, a, b => ⟨h.1, h.2.1, h.2.2.1, h.2.2.2.1, wfd_snoc h5 h1 (l := l) h.2.2.2.2 a b⟩
def bnk (k : Nat) : Nat := if k = 8 ∨ k = 9 then 1 else if k = 10 ∨ k = 15 then 2 else 0
def oc (k : Nat) : Nat := if k = 8 then 2 else if k = 9 then 3 else if k = 10 then 4 else 5
def okW (k : Nat) : Prop := k = 6 ∨ k = 8 ∨ k = 9 ∨ k = 10 ∨ k = 15
def binW : List Nat → Nat
  | [] => 0
  | k :: r => binW r + (if k = 6 then 0 else 1)
def opnW : List Nat → Nat
  | [] => 0
  | k :: r => opnW r + (if k = 6 then 1 else 0)
def tbW : List Nat → Nat
  | [] => 0
  | k :: _ => bnk k
def shp : List Nat → Prop
  | [] => True
  | k :: r => okW k ∧ (bnk k ≠ 0 → tbW r < bnk k) ∧ shp r
theorem bnk_le (k : Nat) : bnk k ≤ 2 := by
  unfold bnk
  repeat' split
  all_goals omega
theorem tbW_le : ∀ l, tbW l ≤ 2
  | [] => by decide
  | k :: _ => bnk_le k
theorem shp_bin : ∀ {l : List Nat}, shp l → binW l ≤ 2 * opnW l + tbW l
  | [], _ => Nat.le_refl _
  | k :: r, h => by
    have ih := shp_bin h.2.2
    have t2 := tbW_le r
    have b2 := bnk_le k
    obtain ⟨h1, h2, -⟩ := h
    show binW r + (if k = 6 then 0 else 1) ≤ 2 * (opnW r + (if k = 6 then 1 else 0)) + bnk k
    by_cases z : k = 6
    · rw [if_pos z, if_pos z]
      omega
    · rw [if_neg z, if_neg z]
      have n0 : bnk k ≠ 0 := by
        unfold okW at h1
        unfold bnk
        repeat' split
        all_goals omega
      have := h2 n0
      omega
theorem len_W : ∀ l : List Nat, l.length = binW l + opnW l
  | [] => rfl
  | k :: r => by
    have ih := len_W r
    show r.length + 1 = binW r + (if k = 6 then 0 else 1) + (opnW r + (if k = 6 then 1 else 0))
    split <;> omega
theorem shp_nil {l : List Nat} (h : shp l) (h1 : tbW l < 1) (h2 : opnW l = 0) : l = [] := by
  cases l with
  | nil => rfl
  | cons k r =>
    exfalso
    have a := h.1
    have b : bnk k < 1 := h1
    have c : opnW r + (if k = 6 then 1 else 0) = 0 := h2
    unfold okW at a
    unfold bnk at b
    by_cases z : k = 6
    · rw [if_pos z] at c; omega
    · repeat' split at b
      all_goals omega
def WsX (x : wb_H) : List Nat → Prop
  | [] => True
  | k :: r => x.1 53 0 r.length = nN (kap k) ∧ WsX x r
def WsM (m : wb_H) : List Nat → Prop
  | [] => True
  | k :: r => m.1 92 0 r.length = nN k ∧ WsM m r
theorem WsX_keep {x x' : wb_H} : ∀ {l : List Nat}, (∀ j, j < l.length → x'.1 53 0 j = x.1 53 0 j) → WsX x l → WsX x' l
  | [], _, _ => trivial
  | k :: r, e, h => ⟨(e _ (Nat.lt_succ_self _)).trans h.1, WsX_keep (l := r) (fun j hj => e j (Nat.lt_succ_of_lt hj)) h.2⟩
theorem WsM_keep {x x' : wb_H} : ∀ {l : List Nat}, (∀ j, j < l.length → x'.1 92 0 j = x.1 92 0 j) → WsM x l → WsM x' l
  | [], _, _ => trivial
  | k :: r, e, h => ⟨(e _ (Nat.lt_succ_self _)).trans h.1, WsM_keep (l := r) (fun j hj => e j (Nat.lt_succ_of_lt hj)) h.2⟩
def Cd (q z0 y0 : Nat) (cs : List (Nat × Int32)) (x m : wb_H) : Prop := x.1 13 q 6 = nN (z0 + cs.length) ∧ m.1 21 0 39 = nN (y0 + cs.length) ∧ CodX x q z0 cs ∧ CodM m y0 cs ∧ wfd 20 0 cs
def Wt (ws : List Nat) (x m : wb_H) : Prop := x.1 16 0 5 = nN ws.length ∧ m.1 21 0 43 = nN ws.length ∧ WsX x ws ∧ WsM m ws ∧ shp ws
theorem Cd_fr {L K : List Nat} {q z0 y0 : Nat} {cs : List (Nat × Int32)} {x m x' m' : wb_H} (F : Fr L x x') (G : Fr K m m') (a : wb_dj [13, 41, 42] L = true) (b : wb_dj [90, 91, 1039] K = true) (H : Cd q z0 y0 cs x m) : Cd q z0 y0 cs x' m' := by
  obtain ⟨h1, h2, h3, h4, h5⟩ := H
  have g : ∀ y, wb_mem y [13, 41, 42] = true → wb_mem y L = false := fun y hy => wb_dj_mem a hy
  have k : ∀ y, wb_mem y [90, 91, 1039] = true → wb_mem y K = false := fun y hy => wb_dj_mem b hy
  refine ⟨(Fr_i F (by exact g 13 rfl)).trans h1, (Fr_i G (by exact k 1039 rfl)).trans h2, CodX_keep (e := z0 + cs.length) (fun j _ => ⟨Fr_i F (by exact g 41 rfl), Fr_i F (by exact g 42 rfl)⟩) (Nat.le_refl _) h3, CodM_keep (e := y0 + cs.length) (fun j _ => ⟨Fr_i G (by exact k 90 rfl), Fr_i G (by exact k 91 rfl)⟩) (Nat.le_refl _) h4, h5⟩
theorem Wt_fr {L K : List Nat} {ws : List Nat} {x m x' m' : wb_H} (F : Fr L x x') (G : Fr K m m') (a : wb_dj [53, 4005] L = true) (b : wb_dj [92, 1043] K = true) (H : Wt ws x m) : Wt ws x' m' := by
  obtain ⟨h1, h2, h3, h4, h5⟩ := H
  have g : ∀ y, wb_mem y [53, 4005] = true → wb_mem y L = false := fun y hy => wb_dj_mem a hy
  have k : ∀ y, wb_mem y [92, 1043] = true → wb_mem y K = false := fun y hy => wb_dj_mem b hy
  exact ⟨(Fr_i F (by exact g 4005 rfl)).trans h1, (Fr_i G (by exact k 1043 rfl)).trans h2, WsX_keep (fun j _ => Fr_i F (by exact g 53 rfl)) h3, WsM_keep (fun j _ => Fr_i G (by exact k 92 rfl)) h4, h5⟩
def bX (v : Int32) : Int32 := bif decide (v = nN 43) then nN 1 else bif decide (v = nN 45) then nN 1 else bif decide (v = nN 42) then nN 2 else bif decide (v = nN 47) then nN 2 else nN 0
theorem bX_all : ∀ k, k < 42 → okB k = true → bX (nN (kap k)) = nN (bnk k) := by decide +kernel
theorem xo_oc : ∀ k, k < 42 → (Nat.beq (bnk k) 0 || Nat.beq (xo (oc k)) (kap k)) = true := by decide +kernel
theorem oc_2 (k : Nat) : 2 ≤ oc k ∧ oc k ≤ 5 := by
  unfold oc
  repeat' split
  all_goals omega
section
variable {sc : wb_X} {q s : Nat} {kd pl : Nat → Nat} {vl : Nat → Int} {p w : Nat}
theorem X_bnd (x : wb_H) {k : Nat} (hk : kOk k) : q_Reader_bindingOf sc x (nN (kap k)) = some (nN (bnk k), x) := by
  obtain ⟨b1, b2⟩ := okB_of hk
  rw [← bX_all k b2 b1, q_Reader_bindingOf_eq]
  generalize nN (kap k) = v
  unfold bX
  by_cases y1 : v = nN 43
  · simp only [L_0, L_1, L_2, L_3, L_4, L_5, L_6, L_7, L_8, L_9, L_10, L_11, L_12, L_13, L_14, L_15, L_16, L_17, L_18, L_19, L_20, L_21, L_22, L_23, L_24, L_25, L_26, L_27, L_28, L_29, L_30, L_31, L_32, L_33, L_34, L_35, L_40, L_41, L_42, L_43, L_44, L_45, L_47, L_48, L_50, L_53, L_57, L_59, L_60, L_61, L_63, L_64, L_97, L_100, L_101, L_102, L_103, L_122, L_130, L_216, L_255, L_364, L_400, L_402, L_420, L_728, L_768, L_999, L_1000, L_1093, L_1872, L_2000, L_9999, L_12345, L_252645135, L_858993459, L_1103515245, L_1431655765, Lm_1, Lm_2, Lm_8, eq_true y1, cond_true, cond_false, Bool.not_true, Bool.not_false, Bool.and_true, Bool.true_and, Bool.and_false, Bool.false_and, decide_true, decide_false, Option.bind_some, Option.bind_none]
  · by_cases y2 : v = nN 45
    · simp only [L_0, L_1, L_2, L_3, L_4, L_5, L_6, L_7, L_8, L_9, L_10, L_11, L_12, L_13, L_14, L_15, L_16, L_17, L_18, L_19, L_20, L_21, L_22, L_23, L_24, L_25, L_26, L_27, L_28, L_29, L_30, L_31, L_32, L_33, L_34, L_35, L_40, L_41, L_42, L_43, L_44, L_45, L_47, L_48, L_50, L_53, L_57, L_59, L_60, L_61, L_63, L_64, L_97, L_100, L_101, L_102, L_103, L_122, L_130, L_216, L_255, L_364, L_400, L_402, L_420, L_728, L_768, L_999, L_1000, L_1093, L_1872, L_2000, L_9999, L_12345, L_252645135, L_858993459, L_1103515245, L_1431655765, Lm_1, Lm_2, Lm_8, eq_false y1, eq_true y2, cond_true, cond_false, Bool.not_true, Bool.not_false, Bool.and_true, Bool.true_and, Bool.and_false, Bool.false_and, decide_true, decide_false, Option.bind_some, Option.bind_none]
    · by_cases y3 : v = nN 42
      · simp only [L_0, L_1, L_2, L_3, L_4, L_5, L_6, L_7, L_8, L_9, L_10, L_11, L_12, L_13, L_14, L_15, L_16, L_17, L_18, L_19, L_20, L_21, L_22, L_23, L_24, L_25, L_26, L_27, L_28, L_29, L_30, L_31, L_32, L_33, L_34, L_35, L_40, L_41, L_42, L_43, L_44, L_45, L_47, L_48, L_50, L_53, L_57, L_59, L_60, L_61, L_63, L_64, L_97, L_100, L_101, L_102, L_103, L_122, L_130, L_216, L_255, L_364, L_400, L_402, L_420, L_728, L_768, L_999, L_1000, L_1093, L_1872, L_2000, L_9999, L_12345, L_252645135, L_858993459, L_1103515245, L_1431655765, Lm_1, Lm_2, Lm_8, eq_false y1, eq_false y2, eq_true y3, cond_true, cond_false, Bool.not_true, Bool.not_false, Bool.and_true, Bool.true_and, Bool.and_false, Bool.false_and, decide_true, decide_false, Option.bind_some, Option.bind_none]
      · by_cases y4 : v = nN 47
        · simp only [L_0, L_1, L_2, L_3, L_4, L_5, L_6, L_7, L_8, L_9, L_10, L_11, L_12, L_13, L_14, L_15, L_16, L_17, L_18, L_19, L_20, L_21, L_22, L_23, L_24, L_25, L_26, L_27, L_28, L_29, L_30, L_31, L_32, L_33, L_34, L_35, L_40, L_41, L_42, L_43, L_44, L_45, L_47, L_48, L_50, L_53, L_57, L_59, L_60, L_61, L_63, L_64, L_97, L_100, L_101, L_102, L_103, L_122, L_130, L_216, L_255, L_364, L_400, L_402, L_420, L_728, L_768, L_999, L_1000, L_1093, L_1872, L_2000, L_9999, L_12345, L_252645135, L_858993459, L_1103515245, L_1431655765, Lm_1, Lm_2, Lm_8, eq_false y1, eq_false y2, eq_false y3, eq_true y4, cond_true, cond_false, Bool.not_true, Bool.not_false, Bool.and_true, Bool.true_and, Bool.and_false, Bool.false_and, decide_true, decide_false, Option.bind_some, Option.bind_none]
        · simp only [L_0, L_1, L_2, L_3, L_4, L_5, L_6, L_7, L_8, L_9, L_10, L_11, L_12, L_13, L_14, L_15, L_16, L_17, L_18, L_19, L_20, L_21, L_22, L_23, L_24, L_25, L_26, L_27, L_28, L_29, L_30, L_31, L_32, L_33, L_34, L_35, L_40, L_41, L_42, L_43, L_44, L_45, L_47, L_48, L_50, L_53, L_57, L_59, L_60, L_61, L_63, L_64, L_97, L_100, L_101, L_102, L_103, L_122, L_130, L_216, L_255, L_364, L_400, L_402, L_420, L_728, L_768, L_999, L_1000, L_1093, L_1872, L_2000, L_9999, L_12345, L_252645135, L_858993459, L_1103515245, L_1431655765, Lm_1, Lm_2, Lm_8, eq_false y1, eq_false y2, eq_false y3, eq_false y4, cond_true, cond_false, Bool.not_true, Bool.not_false, Bool.and_true, Bool.true_and, Bool.and_false, Bool.false_and, decide_true, decide_false, Option.bind_some, Option.bind_none]
theorem okW_ok {k : Nat} (h : okW k) : kOk k := by unfold okW at h; unfold kOk; omega
/-- one code more on both sides -/
theorem ls_emit {x m : wb_H} {z0 y0 : Nat} {cs : List (Nat × Int32)} {k : Nat} {v : Int32} (hq : q < 2) (hs : s < 2) (C : Cd q z0 y0 cs x m) (hz : z0 + cs.length ≤ 401) (hy : 420 * s ≤ y0) (hy2 : y0 + cs.length < 420 * s + 420) (h5 : k ≤ 5) (h1 : k = 1 → ∃ i, i < 7 ∧ v = nN i) (hd1 : k < 2 → dpt 0 cs + 1 ≤ 20) (hd2 : 2 ≤ k → 2 ≤ dpt 0 cs) : Both (q_Laws_emit sc x q (nN (xo k)) v) (q_M_emit sc m (nN k) v) (fun r m' => Fr [13, 41, 42] x r.2 ∧ FX q x r.2 ∧ Fr [90, 91, 1039] m m' ∧ FM s m m' ∧ Kp q z0 x r.2 ∧ Km y0 m m' ∧ Cd q z0 y0 (cs ++ [(k, v)]) r.2 m') := by
  obtain ⟨c1, c2, c3, c4, c5⟩ := C
  rw [X_emit hq hz c1, q_M_emit_eq]
  simp (disch := omega) only [L_0, L_1, L_2, L_3, L_4, L_5, L_6, L_7, L_8, L_9, L_10, L_11, L_12, L_13, L_14, L_15, L_16, L_17, L_18, L_19, L_20, L_21, L_22, L_23, L_24, L_25, L_26, L_27, L_28, L_29, L_30, L_31, L_32, L_33, L_34, L_35, L_40, L_41, L_42, L_43, L_44, L_45, L_47, L_48, L_50, L_53, L_57, L_59, L_60, L_61, L_63, L_64, L_97, L_100, L_101, L_102, L_103, L_122, L_130, L_216, L_255, L_364, L_400, L_402, L_420, L_728, L_768, L_999, L_1000, L_1093, L_1872, L_2000, L_9999, L_12345, L_252645135, L_858993459, L_1103515245, L_1431655765, Lm_1, Lm_2, Lm_8, N_zero, N_cast, N_add, N_mul, N_sub, N_addM, N_lt_tp, N_lt_fp, N_le_tp, N_le_fp, N_eq_tp, N_eq_fp, MN_ltp, MN_lep, NM_ltp, NM_lep, NM_eqp, MN_eqp, MM_lt_tp, MM_lt_fp, MM_le_tp, MM_le_fp, MM_eq_tp, MM_eq_fp, N_cl, N_in_t, N_in_f, M_in, N_div, N_rem, N_nb0, N_nb1, cond_true, cond_false, Bool.not_true, Bool.not_false, Bool.and_true, Bool.true_and, Bool.and_false, Bool.false_and, decide_true, decide_false, Option.bind_some, Option.bind_none, c2, iu_nt (show 21 ≠ 90 by decide), iu_nt (show 21 ≠ 91 by decide), q_M_emit_L30_eq]
  refine Both_some ⟨Fr_trans (Fr_trans (Fr_iu rfl) (Fr_iu rfl)) (Fr_iu rfl), FX_trans (FX_trans (FX_iu (Or.inr ⟨rfl, rfl⟩)) (FX_iu (Or.inr ⟨rfl, rfl⟩))) (FX_iu (Or.inr ⟨rfl, rfl⟩)), Fr_trans (Fr_trans (Fr_iu rfl) (Fr_iu rfl)) (Fr_iu rfl), FM_trans (FM_trans (FM_iu (Or.inr (by unfold MSd; omega))) (FM_iu (Or.inr (by unfold MSd; omega)))) (FM_iu (Or.inl rfl)), fun j hj => ⟨?_, ?_⟩, fun j hj => ⟨?_, ?_⟩, ?_, ?_, ?_, ?_, ?_⟩
  · rw [iu_nt (by decide), iu_nt (by decide), iu_ne (by omega)]
  · rw [iu_nt (by decide), iu_ne (by omega), iu_nt (by decide)]
  · rw [iu_nt (by decide), iu_nt (by decide), iu_ne (by omega)]
  · rw [iu_nt (by decide), iu_ne (by omega), iu_nt (by decide)]
  · rw [iu_at, List.length_append]; rfl
  · rw [iu_at, List.length_append]; rfl
  · refine CodX_snoc (CodX_keep (x := x) (e := z0 + cs.length) (fun j hj => ⟨?_, ?_⟩) (Nat.le_refl _) c3) ?_ ?_
    · rw [iu_nt (by decide), iu_nt (by decide), iu_ne (by omega)]
    · rw [iu_nt (by decide), iu_ne (by omega), iu_nt (by decide)]
    · rw [iu_nt (by decide), iu_nt (by decide), iu_at]
    · rw [iu_nt (by decide), iu_at]
  · refine CodM_snoc (CodM_keep (x := m) (e := y0 + cs.length) (fun j hj => ⟨?_, ?_⟩) (Nat.le_refl _) c4) ?_ ?_
    · rw [iu_nt (by decide), iu_nt (by decide), iu_ne (by omega)]
    · rw [iu_nt (by decide), iu_ne (by omega), iu_nt (by decide)]
    · rw [iu_nt (by decide), iu_nt (by decide), iu_at]
    · rw [iu_nt (by decide), iu_at]
  · exact wfd_snoc h5 h1 c5 hd1 hd2
end
