/-! The tokens of a text, as both sides see them. -/
def tkE (C : List (Nat × (Nat × Int))) (t : Nat) : List (Nat × (Nat × Int)) := C ++ [(0, (t, 0))]
def kdT (C : List (Nat × (Nat × Int))) (t j : Nat) : Nat := (tkAt (tkE C t) j).1
def plT (C : List (Nat × (Nat × Int))) (t j : Nat) : Nat := (tkAt (tkE C t) j).2.1
def vlT (C : List (Nat × (Nat × Int))) (t j : Nat) : Int := (tkAt (tkE C t) j).2.2
/-- so far no end, and nothing that is no token -/
def okT (kd : Nat → Nat) (p : Nat) : Prop := p ≤ 400 ∧ ∀ j, j < p → kd j ≠ 0 ∧ kd j ≠ 3
theorem okT_succ {kd : Nat → Nat} {p : Nat} (h : okT kd p) (h4 : p < 400) (h0 : kd p ≠ 0) (h3 : kd p ≠ 3) : okT kd (p + 1) := by
  refine ⟨by omega, fun j hj => ?_⟩
  by_cases e : j = p
  · rw [e]; exact ⟨h0, h3⟩
  · exact h.2 j (by omega)
theorem tk_take : ∀ (l : List (Nat × (Nat × Int))) (n j : Nat), j < n → tkAt (l.take n) j = tkAt l j
  | [], n, j, _ => by rw [List.take_nil]
  | x :: r, 0, j, h => absurd h (Nat.not_lt_zero _)
  | x :: r, n + 1, 0, _ => rfl
  | x :: r, n + 1, j + 1, h => tk_take r n j (by omega)
theorem tk_len (t : Nat) : ∀ (C : List (Nat × (Nat × Int))) (p : Nat), (∀ j, j < p → kdT C t j ≠ 0) → p ≤ C.length
  | [], p, h => by
    by_cases e : p = 0
    · rw [e]; exact Nat.zero_le _
    · exact absurd rfl (h 0 (by omega))
  | x :: r, 0, _ => Nat.zero_le _
  | x :: r, p + 1, h => Nat.succ_le_succ (tk_len t r p (fun j hj => h (j + 1) (by omega)))
theorem tk_x (t : Nat) : ∀ (C : List (Nat × (Nat × Int))) (n p : Nat), p < n → (∀ j, j < p → kdT C t j ≠ 0 ∧ kdT C t j ≠ 3) → tkAt ((upB C).take n ++ [(0, (t, 0))]) p = tkAt (tkE C t) p ∧ p < ((upB C).take n).length + 1 ∧ (kdT C t p ≠ 0 → kdT C t p ≠ 3 → p + 1 < ((upB C).take n).length + 1)
  | [], n, p, hn, h => by
    have e : p = 0 := by
      have := tk_len t [] p (fun j hj => (h j hj).1)
      exact Nat.le_zero.mp this
    subst e
    have e2 : (upB []).take n = [] := List.take_nil
    rw [e2]
    exact ⟨rfl, by decide, fun y => absurd rfl y⟩
  | x :: r, 0, p, hn, _ => absurd hn (Nat.not_lt_zero _)
  | x :: r, n + 1, p, hn, h => by
    by_cases z : x.1 = 3
    · have e2 : (upB (x :: r)).take (n + 1) = [x] := by
        have : upB (x :: r) = [x] := if_pos z
        rw [this, List.take_succ_cons, List.take_nil]
      rw [e2]
      have e : p = 0 := by
        by_cases e : p = 0
        · exact e
        · exact absurd z ((h 0 (by omega)).2)
      subst e
      exact ⟨rfl, Nat.succ_pos _, fun _ y => absurd z y⟩
    · have e2 : (upB (x :: r)).take (n + 1) = x :: (upB r).take n := by
        have : upB (x :: r) = x :: upB r := if_neg z
        rw [this, List.take_succ_cons]
      rw [e2, List.length_cons]
      cases p with
      | zero => exact ⟨rfl, by omega, fun _ _ => by omega⟩
      | succ p =>
        obtain ⟨a, b, c⟩ := tk_x t r n p (by omega) (fun j hj => h (j + 1) (by omega))
        exact ⟨a, by omega, fun y1 y2 => by have := c y1 y2; omega⟩
def srt : Nat → List (Nat × (Nat × Int)) → Prop
  | _, [] => True
  | i, x :: r => i ≤ x.2.1 ∧ srt (x.2.1 + 1) r
theorem srt_le {i i' : Nat} (hi : i' ≤ i) : ∀ {l : List (Nat × (Nat × Int))}, srt i l → srt i' l
  | [], _ => trivial
  | _ :: _, h => ⟨Nat.le_trans hi h.1, h.2⟩
theorem cut_srt {b : Nat → Nat} {t : Nat} (hb : b t = 0) : ∀ f i, i ≤ t → srt i (cutP b t f i ++ [(0, (t, 0))])
  | 0, i, h => ⟨h, trivial⟩
  | f + 1, i, h => by
    have zl : isL (b t) ≠ 1 := by rw [hb]; decide
    have zd : isD (b t) ≠ 1 := by rw [hb]; decide
    rw [cutP]
    by_cases z : t ≤ i
    · rw [if_pos z]
      exact ⟨h, trivial⟩
    · rw [if_neg z]
      by_cases y : isB (b i) = 1
      · rw [if_pos y]
        exact srt_le (Nat.le_succ i) (cut_srt hb f (i + 1) (by omega))
      · rw [if_neg y]
        by_cases u : isL (b i) = 1
        · rw [if_pos u]
          obtain ⟨-, -, r3⟩ := run_spec (g := isL) (b := b) (t := t) zl (t - i) i (by omega)
          have r0 := run_pos (g := isL) (b := b) (k := t - i) u (by omega)
          exact ⟨Nat.le_refl _, srt_le (by show i + 1 ≤ i + run isL b (t - i) i; omega) (cut_srt hb f _ (by omega))⟩
        · rw [if_neg u]
          by_cases d : isD (b i) = 1
          · rw [if_pos d]
            obtain ⟨-, -, r3⟩ := run_spec (g := isD) (b := b) (t := t) zd (t - i) i (by omega)
            have r0 := run_pos (g := isD) (b := b) (k := t - i) d (by omega)
            exact ⟨Nat.le_refl _, srt_le (by show i + 1 ≤ i + run isD b (t - i) i; omega) (cut_srt hb f _ (by omega))⟩
          · rw [if_neg d]
            exact ⟨Nat.le_refl _, cut_srt hb f (i + 1) (by omega)⟩
theorem srt_at : ∀ {l : List (Nat × (Nat × Int))} {i j : Nat}, srt i l → j < l.length → i ≤ (tkAt l j).2.1
  | [], _, _, _, hj => absurd hj (Nat.not_lt_zero _)
  | _ :: _, _, 0, h, _ => h.1
  | x :: r, i, j + 1, h, hj => by
    have := srt_at (j := j) h.2 (Nat.lt_of_succ_lt_succ hj)
    have h1 := h.1
    show i ≤ (tkAt r j).2.1
    omega
theorem srt_lt : ∀ {l : List (Nat × (Nat × Int))} {i j k : Nat}, srt i l → j < k → k < l.length → (tkAt l j).2.1 < (tkAt l k).2.1
  | [], _, _, _, _, _, hk => absurd hk (Nat.not_lt_zero _)
  | _ :: _, _, _, 0, _, hj, _ => absurd hj (Nat.not_lt_zero _)
  | x :: r, i, 0, k + 1, h, _, hk => srt_at (j := k) h.2 (Nat.lt_of_succ_lt_succ hk)
  | x :: r, i, j + 1, k + 1, h, hj, hk => srt_lt (l := r) h.2 (Nat.lt_of_succ_lt_succ hj) (Nat.lt_of_succ_lt_succ hk)
theorem tk_mem : ∀ {l : List (Nat × (Nat × Int))} {j : Nat}, tkAt l j ∈ l ∨ tkAt l j = (0, (0, 0))
  | [], _ => Or.inr rfl
  | _ :: _, 0 => Or.inl List.mem_cons_self
  | x :: r, j + 1 => by
    rcases tk_mem (l := r) (j := j) with h | h
    · exact Or.inl (List.mem_cons_of_mem _ h)
    · exact Or.inr h
theorem nvz_le {b : Nat → Nat} {i K : Nat} (hK : K ≤ 4) (h : ∀ j, j < K → isD (b (i + j)) = 1) : 0 ≤ nvz b i K ∧ nvz b i K ≤ 9999 := by
  have l : ∀ j, j < K → 48 ≤ b (i + j) ∧ b (i + j) ≤ 57 := fun j hj => isD_b (h j hj)
  have e0 : nvz b i 0 = 0 := rfl
  have e1 : nvz b i 1 = 10 * nvz b i 0 + (b (i + 0) : Int) - 48 := rfl
  have e2 : nvz b i 2 = 10 * nvz b i 1 + (b (i + 1) : Int) - 48 := rfl
  have e3 : nvz b i 3 = 10 * nvz b i 2 + (b (i + 2) : Int) - 48 := rfl
  have e4 : nvz b i 4 = 10 * nvz b i 3 + (b (i + 3) : Int) - 48 := rfl
  rcases (show K = 0 ∨ K = 1 ∨ K = 2 ∨ K = 3 ∨ K = 4 by omega) with e | e | e | e | e <;> subst e
  · omega
  · have l0 := l 0 (by decide)
    omega
  · have l0 := l 0 (by decide)
    have l1 := l 1 (by decide)
    omega
  · have l0 := l 0 (by decide)
    have l1 := l 1 (by decide)
    have l2 := l 2 (by decide)
    omega
  · have l0 := l 0 (by decide)
    have l1 := l 1 (by decide)
    have l2 := l 2 (by decide)
    have l3 := l 3 (by decide)
    omega
theorem cut_int {b : Nat → Nat} {t : Nat} (hb : b t = 0) : ∀ f i, i ≤ t → ∀ x, x ∈ cutP b t f i → x.1 = 2 → 0 ≤ x.2.2 ∧ x.2.2 ≤ 9999
  | 0, _, _, x, h, _ => absurd h List.not_mem_nil
  | f + 1, i, hi, x, h, h2 => by
    have zl : isL (b t) ≠ 1 := by rw [hb]; decide
    have zd : isD (b t) ≠ 1 := by rw [hb]; decide
    rw [cutP] at h
    by_cases z : t ≤ i
    · rw [if_pos z] at h
      exact absurd h List.not_mem_nil
    · rw [if_neg z] at h
      by_cases y : isB (b i) = 1
      · rw [if_pos y] at h
        exact cut_int hb f _ (by omega) x h h2
      · rw [if_neg y] at h
        by_cases u : isL (b i) = 1
        · rw [if_pos u] at h
          obtain ⟨-, -, r3⟩ := run_spec (g := isL) (b := b) (t := t) zl (t - i) i (by omega)
          rcases List.mem_cons.mp h with e | e
          · exfalso
            rw [e] at h2
            have ko := kmF_or (v := Int64.ofInt (wvz b i (run isL b (t - i) i))) 22 0 1 (Or.inl rfl)
            simp only at h2
            split at h2
            · split at h2 <;> omega
            · omega
          · exact cut_int hb f _ (by omega) x e h2
        · rw [if_neg u] at h
          by_cases d : isD (b i) = 1
          · rw [if_pos d] at h
            obtain ⟨r1, -, r3⟩ := run_spec (g := isD) (b := b) (t := t) zd (t - i) i (by omega)
            rcases List.mem_cons.mp h with e | e
            · rw [e] at h2 ⊢
              by_cases k4 : run isD b (t - i) i ≤ 4
              · exact nvz_le k4 r1
              · exfalso
                simp only [if_neg k4] at h2
                omega
            · exact cut_int hb f _ (by omega) x e h2
          · rw [if_neg d] at h
            rcases List.mem_cons.mp h with e | e
            · exfalso
              rw [e] at h2
              exact (sgM_small (b i)).1 h2
            · exact cut_int hb f _ (by omega) x e h2
/-- what the tokens are like -/
def TKS (kd pl : Nat → Nat) (vl : Nat → Int) : Prop := (∀ p, kOk (kd p)) ∧ (∀ p, pl p ≤ 2000) ∧ (∀ j p, j < p → okT kd p → pl j < pl p) ∧ (∀ p, kd p = 2 → 0 ≤ vl p ∧ vl p ≤ 9999)
def TKX (h : wb_H) (kd pl : Nat → Nat) (vl : Nat → Int) : Prop := (∀ p, okT kd p → h.1 57 0 p = nN (kap (kd p)) ∧ h.1 58 0 p = nN (pl p) ∧ (kd p = 1 ∨ kd p = 2 ∨ 20 ≤ kd p → h.2.1 59 0 p = Int64.ofInt (vl p))) ∧ ∃ z, z ≤ 402 ∧ h.1 19 0 4 = nN z ∧ ∀ p, okT kd p → kd p ≠ 0 → kd p ≠ 3 → p + 1 < z
def TKM (h : wb_H) (kd pl : Nat → Nat) (vl : Nat → Int) : Prop := ∀ p, okT kd p → h.1 67 0 p = nN (kd p) ∧ h.1 68 0 p = nN (pl p) ∧ (kd p = 2 → h.1 69 0 p = Int32.ofInt (vl p)) ∧ (kd p = 1 ∨ 20 ≤ kd p → h.2.1 70 0 p = Int64.ofInt (vl p))
theorem TKS_cut {b : Nat → Nat} {t f : Nat} (hb : b t = 0) (ht : t ≤ 2000) : TKS (kdT (cutP b t f 0) t) (plT (cutP b t f 0) t) (vlT (cutP b t f 0) t) := by
  have me : ∀ p, tkAt (tkE (cutP b t f 0) t) p ∈ cutP b t f 0 ∨ tkAt (tkE (cutP b t f 0) t) p = (0, (t, 0)) ∨ tkAt (tkE (cutP b t f 0) t) p = (0, (0, 0)) := by
    intro p
    rcases tk_mem (l := tkE (cutP b t f 0) t) (j := p) with h | h
    · rcases List.mem_append.mp h with h | h
      · exact Or.inl h
      · exact Or.inr (Or.inl (List.mem_singleton.mp h))
    · exact Or.inr (Or.inr h)
  have k0 : kOk 0 := Or.inl (by decide)
  refine ⟨fun p => ?_, fun p => ?_, fun j p hj hp => ?_, fun p h2 => ?_⟩
  · unfold kdT
    rcases me p with h | h | h
    · exact (cutP_ok ht f 0 _ h).1
    · rw [h]; exact k0
    · rw [h]; exact k0
  · unfold plT
    rcases me p with h | h | h
    · have := (cutP_ok ht f 0 _ h).2
      omega
    · rw [h]; exact ht
    · rw [h]; exact Nat.zero_le _
  · have l := tk_len t (cutP b t f 0) p (fun j hj => (hp.2 j hj).1)
    refine srt_lt (cut_srt hb f 0 (Nat.zero_le _)) hj ?_
    show p < (cutP b t f 0 ++ [(0, (t, 0))]).length
    rw [List.length_append]
    show p < (cutP b t f 0).length + 1
    omega
  · unfold kdT at h2
    unfold vlT
    rcases me p with h | h | h
    · exact cut_int hb f 0 (Nat.zero_le _) _ h h2
    · rw [h] at h2; exact absurd (show (0 : Nat) = 2 from h2) (by decide)
    · rw [h] at h2; exact absurd (show (0 : Nat) = 2 from h2) (by decide)
theorem TKX_cut {h : wb_H} {C : List (Nat × (Nat × Int))} {t : Nat} (H : TX h 0 ((upB C).take (401 - 0) ++ [(0, (t, 0))])) (N : h.1 19 0 4 = nN (0 + ((upB C).take (401 - 0)).length + 1)) : TKX h (kdT C t) (plT C t) (vlT C t) := by
  refine ⟨fun p hp => ?_, ?_⟩
  · obtain ⟨a, b, c⟩ := tk_x t C 401 p (by have := hp.1; omega) hp.2
    have T := TX_at (j := p) H (by rw [List.length_append]; exact b)
    rw [Nat.zero_add] at T
    have a' : tkAt ((upB C).take (401 - 0) ++ [(0, (t, 0))]) p = tkAt (tkE C t) p := a
    rw [a'] at T
    exact T
  · refine ⟨_, ?_, N, fun p hp h0 h3 => ?_⟩
    · have : ((upB C).take (401 - 0)).length ≤ 401 := by rw [List.length_take]; exact Nat.min_le_left _ _
      omega
    · have := (tk_x t C 401 p (by have := hp.1; omega) hp.2).2.2 h0 h3
      have e : ((upB C).take (401 - 0)).length = ((upB C).take 401).length := rfl
      omega
theorem TKM_cut {h : wb_H} {C : List (Nat × (Nat × Int))} {t : Nat} (H : TM h 0 ((C ++ [(0, (t, 0))]).take (401 - 0))) : TKM h (kdT C t) (plT C t) (vlT C t) := by
  intro p hp
  have l := tk_len t C p (fun j hj => (hp.2 j hj).1)
  have p4 := hp.1
  have T := TM_at (j := p) H (by
    rw [List.length_take, List.length_append]
    show p < min 401 (C.length + 1)
    omega)
  rw [Nat.zero_add, tk_take _ _ _ (by omega)] at T
  exact T
