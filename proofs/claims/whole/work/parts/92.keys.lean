/-! Which keyword is which; the text as a list of tokens. -/
def kapl : List Nat := [103, 100, 101, 102, 59, 61, 40, 41, 43, 45, 42, 0, 0, 60, 0, 47, 0, 0, 0, 0, 0, 6, 7, 8, 9, 10, 11, 1, 2, 3, 4, 5, 12, 13, 14, 15, 16, 17, 18, 19, 20, 21]
/-- the class's number of a kind, by the reference's -/
def kap (k : Nat) : Nat := wb_nth 0 kapl k
theorem kap_all : ∀ k, k < 22 → kxF (xw k) 22 0 = kap (kmF (xw k) 22 0 1) := by decide +kernel
theorem kap_mk : ∀ j, j < 22 → kap (20 + j) < 22 ∧ xw (kap (20 + j)) = mk j := by decide +kernel
theorem kap_sg : ∀ b, b < 256 → sgM b ≠ 3 → kap (sgM b) = b := by decide +kernel
theorem kxF_none {v : Int64} : ∀ r k, (∀ j, k ≤ j → j < k + r → xw j ≠ v) → kxF v r k = 100
  | 0, _, _ => rfl
  | r + 1, k, h => by
    rw [kxF, if_neg (h k (Nat.le_refl _) (by omega))]
    exact kxF_none r (k + 1) (fun j h1 h2 => h j (by omega) (by omega))
theorem kmF_none {v : Int64} : ∀ r k a, (∀ j, k ≤ j → j < k + r → mk j ≠ v) → kmF v r k a = a
  | 0, _, _, _ => rfl
  | r + 1, k, a, h => by
    rw [kmF, if_neg (h k (Nat.le_refl _) (by omega))]
    exact kmF_none r (k + 1) a (fun j h1 h2 => h j (by omega) (by omega))
theorem kap_key (v : Int64) : kxF v 22 0 = kap (kmF v 22 0 1) := by
  by_cases h : ∃ k, k < 22 ∧ xw k = v
  · obtain ⟨k, hk, rfl⟩ := h
    exact kap_all k hk
  · have hx : ∀ j, j < 22 → xw j ≠ v := fun j hj e => h ⟨j, hj, e⟩
    rw [kxF_none 22 0 (fun j _ h2 => hx j (by omega)), kmF_none 22 0 1 (fun j _ h2 e => by
      obtain ⟨k1, k2⟩ := kap_mk j (by omega)
      exact hx _ k1 (k2.trans e))]
    rfl
theorem xw_small : ∀ k, k < 22 → wb_nth 0 xwl k ≤ 4721448845 := by decide +kernel
/-- no keyword has eight letters -/
theorem key_8 {b : Nat → Nat} {i : Nat} (hb : ∀ j, j < 8 → isL (b (i + j)) = 1) : kxF (Int64.ofInt (wvz b i 8)) 22 0 = 100 := by
  have l : ∀ j, j < 8 → 97 ≤ b (i + j) ∧ b (i + j) ≤ 122 := fun j hj => isL_b (hb j hj)
  have e0 : wvz b i 0 = 0 := rfl
  have e1 : wvz b i 1 = 27 * wvz b i 0 + (b (i + 0) : Int) - 96 := rfl
  have e2 : wvz b i 2 = 27 * wvz b i 1 + (b (i + 1) : Int) - 96 := rfl
  have e3 : wvz b i 3 = 27 * wvz b i 2 + (b (i + 2) : Int) - 96 := rfl
  have e4 : wvz b i 4 = 27 * wvz b i 3 + (b (i + 3) : Int) - 96 := rfl
  have e5 : wvz b i 5 = 27 * wvz b i 4 + (b (i + 4) : Int) - 96 := rfl
  have e6 : wvz b i 6 = 27 * wvz b i 5 + (b (i + 5) : Int) - 96 := rfl
  have e7 : wvz b i 7 = 27 * wvz b i 6 + (b (i + 6) : Int) - 96 := rfl
  have e8 : wvz b i 8 = 27 * wvz b i 7 + (b (i + 7) : Int) - 96 := rfl
  have l0 := l 0 (by decide)
  have l1 := l 1 (by decide)
  have l2 := l 2 (by decide)
  have l3 := l 3 (by decide)
  have l4 := l 4 (by decide)
  have l5 := l 5 (by decide)
  have l6 := l 6 (by decide)
  have l7 := l 7 (by decide)
  have big : 4721448845 < wvz b i 8 ∧ wvz b i 8 < 1000000000000 := by omega
  refine kxF_none 22 0 fun j _ h2 e => ?_
  have s := xw_small j (by omega)
  have e' : Int64.ofInt ((wb_nth 0 xwl j : Nat) : Int) = Int64.ofInt (wvz b i 8) := e
  have := lz_inj (by omega) (by omega) (by omega) (by omega) e'
  omega
/-- the text as tokens: kind (the reference's number), where it begins, value -/
def cutP (b : Nat → Nat) (t : Nat) : Nat → Nat → List (Nat × (Nat × Int))
  | 0, _ => []
  | f + 1, i => if t ≤ i then [] else if isB (b i) = 1 then cutP b t f (i + 1) else if isL (b i) = 1 then ((if run isL b (t - i) i ≤ 8 then (if 7 < run isL b (t - i) i then 1 else kmF (Int64.ofInt (wvz b i (run isL b (t - i) i))) 22 0 1) else 3), (i, wvz b i (run isL b (t - i) i))) :: cutP b t f (i + run isL b (t - i) i) else if isD (b i) = 1 then ((if run isD b (t - i) i ≤ 4 then 2 else 3), (i, nvz b i (run isD b (t - i) i))) :: cutP b t f (i + run isD b (t - i) i) else (sgM (b i), (i, 0)) :: cutP b t f (i + 1)
