/-! The tokens one by one; which there are. -/
def tkAt : List (Nat × (Nat × Int)) → Nat → Nat × (Nat × Int)
  | [], _ => (0, (0, 0))
  | x :: _, 0 => x
  | _ :: r, j + 1 => tkAt r j
theorem TX_at {h : wb_H} : ∀ {l : List (Nat × (Nat × Int))} {c j : Nat}, TX h c l → j < l.length → h.1 57 0 (c + j) = nN (kap (tkAt l j).1) ∧ h.1 58 0 (c + j) = nN (tkAt l j).2.1 ∧ ((tkAt l j).1 = 1 ∨ (tkAt l j).1 = 2 ∨ 20 ≤ (tkAt l j).1 → h.2.1 59 0 (c + j) = Int64.ofInt (tkAt l j).2.2)
  | [], _, j, _, hj => absurd hj (Nat.not_lt_zero _)
  | x :: r, c, 0, H, _ => H.1
  | x :: r, c, j + 1, H, hj => by
    have := TX_at (j := j) H.2 (Nat.lt_of_succ_lt_succ hj)
    rw [show c + 1 + j = c + (j + 1) by omega] at this
    exact this
theorem TM_at {h : wb_H} : ∀ {l : List (Nat × (Nat × Int))} {c j : Nat}, TM h c l → j < l.length → h.1 67 0 (c + j) = nN (tkAt l j).1 ∧ h.1 68 0 (c + j) = nN (tkAt l j).2.1 ∧ ((tkAt l j).1 = 2 → h.1 69 0 (c + j) = Int32.ofInt (tkAt l j).2.2) ∧ ((tkAt l j).1 = 1 ∨ 20 ≤ (tkAt l j).1 → h.2.1 70 0 (c + j) = Int64.ofInt (tkAt l j).2.2)
  | [], _, j, _, hj => absurd hj (Nat.not_lt_zero _)
  | x :: r, c, 0, H, _ => H.1
  | x :: r, c, j + 1, H, hj => by
    have := TM_at (j := j) H.2 (Nat.lt_of_succ_lt_succ hj)
    rw [show c + 1 + j = c + (j + 1) by omega] at this
    exact this
/-- kinds there are -/
def kOk (k : Nat) : Prop := k ≤ 10 ∨ k = 13 ∨ k = 15 ∨ (20 ≤ k ∧ k < 42)
theorem kmF_lt {v : Int64} : ∀ r k a, k + r = 22 → kOk a → kOk (kmF v r k a)
  | 0, _, _, _, h => h
  | r + 1, k, a, e, h => by
    rw [kmF]
    split
    · exact kmF_lt r (k + 1) _ (by omega) (Or.inr (Or.inr (Or.inr (by omega))))
    · exact kmF_lt r (k + 1) _ (by omega) h
theorem sgM_ok (b : Nat) : kOk (sgM b) := by
  unfold sgM kOk
  repeat' split
  all_goals omega
/-- kinds tell one another apart in the class's numbers too -/
def okB (k : Nat) : Bool := Nat.ble k 10 || Nat.beq k 13 || Nat.beq k 15 || Nat.ble 20 k
theorem kap_in : ∀ a, a < 42 → ∀ b, b < 42 → (okB a && okB b && Nat.beq (kap a) (kap b)) = true → a = b := by decide +kernel
theorem okB_of {k : Nat} (h : kOk k) : okB k = true ∧ k < 42 := by
  unfold kOk at h
  refine ⟨?_, by omega⟩
  unfold okB
  simp only [Bool.or_eq_true, Nat.ble_eq, Nat.beq_eq]
  omega
theorem kap_inj {a b : Nat} (ha : kOk a) (hb : kOk b) (h : kap a = kap b) : a = b := by
  obtain ⟨a1, a2⟩ := okB_of ha
  obtain ⟨b1, b2⟩ := okB_of hb
  refine kap_in a a2 b b2 ?_
  rw [a1, b1, h]
  simp only [Bool.and_self, Bool.true_and, Nat.beq_eq]
theorem cutP_ok {b : Nat → Nat} {t : Nat} (ht : t ≤ 2000) : ∀ f i, ∀ x, x ∈ cutP b t f i → kOk x.1 ∧ x.2.1 < t
  | 0, _, x, h => absurd h List.not_mem_nil
  | f + 1, i, x, h => by
    rw [cutP] at h
    by_cases z : t ≤ i
    · rw [if_pos z] at h
      exact absurd h List.not_mem_nil
    · rw [if_neg z] at h
      by_cases y : isB (b i) = 1
      · rw [if_pos y] at h
        exact cutP_ok ht f _ x h
      · rw [if_neg y] at h
        by_cases u : isL (b i) = 1
        · rw [if_pos u] at h
          rcases List.mem_cons.mp h with e | e
          · rw [e]
            refine ⟨?_, by show i < t; omega⟩
            show kOk (if run isL b (t - i) i ≤ 8 then (if 7 < run isL b (t - i) i then 1 else kmF (Int64.ofInt (wvz b i (run isL b (t - i) i))) 22 0 1) else 3)
            have k1 : kOk 1 := Or.inl (by decide)
            have k3 : kOk 3 := Or.inl (by decide)
            split
            · split
              · exact k1
              · exact kmF_lt 22 0 1 rfl k1
            · exact k3
          · exact cutP_ok ht f _ x e
        · rw [if_neg u] at h
          by_cases d : isD (b i) = 1
          · rw [if_pos d] at h
            rcases List.mem_cons.mp h with e | e
            · rw [e]
              refine ⟨?_, by show i < t; omega⟩
              show kOk (if run isD b (t - i) i ≤ 4 then 2 else 3)
              have k2 : kOk 2 := Or.inl (by decide)
              have k3 : kOk 3 := Or.inl (by decide)
              split
              · exact k2
              · exact k3
            · exact cutP_ok ht f _ x e
          · rw [if_neg d] at h
            rcases List.mem_cons.mp h with e | e
            · rw [e]
              exact ⟨sgM_ok (b i), by show i < t; omega⟩
            · exact cutP_ok ht f _ x e
