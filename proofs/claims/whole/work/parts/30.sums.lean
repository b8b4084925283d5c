/-! Sums over worlds. -/
def sm : Nat → (Nat → Nat) → Nat
  | 0, _ => 0
  | n + 1, f => sm n f + f n
theorem sm_congr : ∀ {n : Nat} {f g : Nat → Nat}, (∀ i, i < n → f i = g i) → sm n f = sm n g
  | 0, _, _, _ => rfl
  | n + 1, f, g, h => by rw [sm, sm, sm_congr (fun i hi => h i (by omega)), h n (by omega)]
theorem sm_zero : ∀ (n : Nat), sm n (fun _ => 0) = 0
  | 0 => rfl
  | n + 1 => by rw [sm, sm_zero n]
theorem sm_zero' {n : Nat} {f : Nat → Nat} (h : ∀ i, i < n → f i = 0) : sm n f = 0 := by rw [sm_congr h, sm_zero]
theorem sm_add : ∀ (n : Nat) (f g : Nat → Nat), sm n (fun i => f i + g i) = sm n f + sm n g
  | 0, _, _ => rfl
  | n + 1, f, g => by rw [sm, sm, sm, sm_add n f g]; omega
theorem sm_mul : ∀ (n : Nat) (c : Nat) (f : Nat → Nat), sm n (fun i => c * f i) = c * sm n f
  | 0, c, f => rfl
  | n + 1, c, f => by rw [sm, sm, sm_mul n c f, Nat.mul_add]
theorem sm_mul' (n c : Nat) (f : Nat → Nat) : sm n (fun i => f i * c) = sm n f * c := by
  rw [Nat.mul_comm, ← sm_mul]; exact sm_congr fun i _ => Nat.mul_comm _ _
theorem sm_comm : ∀ (n m : Nat) (f : Nat → Nat → Nat), sm n (fun i => sm m (f i)) = sm m (fun j => sm n (fun i => f i j))
  | 0, m, f => by rw [sm]; exact (sm_zero m).symm
  | n + 1, m, f => by
    rw [sm, sm_comm n m f, ← sm_add]
    rfl
theorem sm_le : ∀ {n : Nat} {f g : Nat → Nat}, (∀ i, i < n → f i ≤ g i) → sm n f ≤ sm n g
  | 0, _, _, _ => Nat.le_refl _
  | n + 1, f, g, h => by
    rw [sm, sm]
    exact Nat.add_le_add (sm_le (fun i hi => h i (by omega))) (h n (by omega))
theorem sm_mem : ∀ {n : Nat} {f : Nat → Nat} {k : Nat}, k < n → f k ≤ sm n f
  | 0, _, _, h => by omega
  | n + 1, f, k, h => by
    rw [sm]
    by_cases hk : k = n
    · subst hk; omega
    · exact Nat.le_trans (sm_mem (by omega : k < n)) (Nat.le_add_right _ _)
/-- just one -/
theorem sm_one : ∀ {n : Nat} {k : Nat} (hk : k < n) (c : Nat), sm n (fun i => if i = k then c else 0) = c
  | 0, k, hk, c => by omega
  | n + 1, k, hk, c => by
    rw [sm]
    by_cases h : k = n
    · subst h
      rw [if_pos rfl, sm_zero' (fun i hi => if_neg (by omega)), Nat.zero_add]
    · rw [if_neg (fun q => h q.symm), sm_one (by omega) c, Nat.add_zero]
theorem sm_pt {n : Nat} {k : Nat} (hk : k < n) (f : Nat → Nat) : sm n (fun i => if i = k then f i else 0) = f k := by
  rw [← sm_one hk (f k)]
  exact sm_congr fun i _ => by
    by_cases h : i = k
    · rw [if_pos h, if_pos h, h]
    · rw [if_neg h, if_neg h]
/-- by what class each is of -/
theorem sm_part (N m : Nat) (g : Nat → Nat) (f : Nat → Nat) (hg : ∀ i, i < N → g i < m) : sm N f = sm m (fun r => sm N (fun i => if g i = r then f i else 0)) := by
  rw [← sm_comm]
  refine sm_congr fun i hi => ?_
  refine (sm_pt (hg i hi) (fun _ => f i)).symm.trans ?_
  refine sm_congr fun r _ => ?_
  by_cases h : r = g i
  · rw [if_pos h, if_pos h.symm]
  · rw [if_neg h, if_neg (fun q => h q.symm)]
theorem sm_split (a b : Nat) (f : Nat → Nat) : sm (a + b) f = sm a f + sm b (fun i => f (a + i)) := by
  induction b with
  | zero => rfl
  | succ b ih => rw [← Nat.add_assoc, sm, ih, sm]; omega
theorem sm_two (n : Nat) (f : Nat → Nat) : sm (2 * n) f = sm n (fun x => f (2 * x) + f (2 * x + 1)) := by
  induction n with
  | zero => rfl
  | succ n ih => rw [show 2 * (n + 1) = 2 * n + 1 + 1 by omega, sm, sm, ih, sm]; omega
/-- a world with a bit put in -/
def wins (k b x : Nat) : Nat := x / 2 ^ k * 2 ^ (k + 1) + b * 2 ^ k + x % 2 ^ k
theorem wins_zero (b x : Nat) : wins 0 b x = 2 * x + b := by simp [wins, Nat.mod_one]; omega
theorem wins_succ_even (k b x : Nat) : wins (k + 1) b (2 * x) = 2 * wins k b x := by
  unfold wins
  have h1 : 2 * x / 2 ^ (k + 1) = x / 2 ^ k := by rw [Nat.pow_succ, Nat.mul_comm (2 ^ k) 2, Nat.mul_div_mul_left _ _ (by decide)]
  have h2 : 2 * x % 2 ^ (k + 1) = 2 * (x % 2 ^ k) := by rw [Nat.pow_succ, Nat.mul_comm (2 ^ k) 2, Nat.mul_mod_mul_left]
  rw [h1, h2, Nat.pow_succ 2 (k + 1), Nat.pow_succ 2 k]
  generalize x / 2 ^ k = q
  generalize x % 2 ^ k = r
  generalize 2 ^ k = t
  rw [show q * (t * 2 * 2) = 2 * (q * (t * 2)) by rw [Nat.mul_comm (t * 2) 2, ← Nat.mul_assoc, Nat.mul_comm q 2, Nat.mul_assoc], show b * (t * 2) = 2 * (b * t) by rw [Nat.mul_comm t 2, ← Nat.mul_assoc, Nat.mul_comm b 2, Nat.mul_assoc]]
  omega
theorem wins_succ_odd (k b x : Nat) : wins (k + 1) b (2 * x + 1) = 2 * wins k b x + 1 := by
  unfold wins
  have hp : 0 < 2 ^ k := Nat.pow_pos (by decide)
  have h0 : (2 * x + 1) / 2 = x := by omega
  have h1 : (2 * x + 1) / 2 ^ (k + 1) = x / 2 ^ k := by rw [Nat.pow_succ, Nat.mul_comm (2 ^ k) 2, ← Nat.div_div_eq_div_mul, h0]
  have h2 : (2 * x + 1) % 2 ^ (k + 1) = 2 * (x % 2 ^ k) + 1 := by
    have e := Nat.div_add_mod (2 * x + 1) (2 ^ (k + 1))
    rw [h1] at e
    have e2 := Nat.div_add_mod x (2 ^ k)
    have e3 : 2 ^ (k + 1) * (x / 2 ^ k) = 2 * (2 ^ k * (x / 2 ^ k)) := by rw [Nat.pow_succ, Nat.mul_comm (2 ^ k) 2, Nat.mul_assoc]
    omega
  rw [h1, h2, Nat.pow_succ 2 (k + 1), Nat.pow_succ 2 k]
  generalize x / 2 ^ k = q
  generalize x % 2 ^ k = r
  generalize 2 ^ k = t
  rw [show q * (t * 2 * 2) = 2 * (q * (t * 2)) by rw [Nat.mul_comm (t * 2) 2, ← Nat.mul_assoc, Nat.mul_comm q 2, Nat.mul_assoc], show b * (t * 2) = 2 * (b * t) by rw [Nat.mul_comm t 2, ← Nat.mul_assoc, Nat.mul_comm b 2, Nat.mul_assoc]]
  omega
theorem sm_bit : ∀ (k m : Nat) (f : Nat → Nat), k ≤ m → sm (2 ^ (m + 1)) f = sm (2 ^ m) (fun x => f (wins k 0 x) + f (wins k 1 x))
  | 0, m, f, _ => by
    rw [Nat.pow_succ, Nat.mul_comm, sm_two]
    exact sm_congr fun x _ => by rw [wins_zero, wins_zero]; rfl
  | k + 1, 0, f, h => by omega
  | k + 1, m + 1, f, h => by
    rw [Nat.pow_succ, Nat.mul_comm, sm_two, sm_add, sm_bit k m (fun x => f (2 * x)) (by omega), sm_bit k m (fun x => f (2 * x + 1)) (by omega), ← sm_add]
    rw [Nat.pow_succ 2 m, Nat.mul_comm (2 ^ m) 2, sm_two]
    refine sm_congr fun x _ => ?_
    rw [wins_succ_even, wins_succ_even, wins_succ_odd, wins_succ_odd]
/-- products -/
def pm : Nat → (Nat → Nat) → Nat
  | 0, _ => 1
  | n + 1, f => pm n f * f n
theorem pm_congr : ∀ {n : Nat} {f g : Nat → Nat}, (∀ i, i < n → f i = g i) → pm n f = pm n g
  | 0, _, _, _ => rfl
  | n + 1, f, g, h => by rw [pm, pm, pm_congr (fun i hi => h i (by omega)), h n (by omega)]
theorem pm_out : ∀ {n : Nat} {k : Nat} (f : Nat → Nat), k < n → pm n f = f k * pm n (fun i => if i = k then 1 else f i)
  | 0, k, f, h => by omega
  | n + 1, k, f, h => by
    rw [pm, pm]
    by_cases hk : k = n
    · subst hk
      rw [if_pos rfl, Nat.mul_one, Nat.mul_comm]
      congr 1
      exact pm_congr fun i hi => (if_neg (by omega)).symm
    · rw [if_neg (fun q => hk q.symm), pm_out f (by omega : k < n), Nat.mul_assoc]
theorem wins_tb : ∀ k, k < 7 → ∀ x, x < 64 → ∀ j, j < 7 → j ≠ k → tb (wins k 0 x) j = tb (wins k 1 x) j := by decide +kernel
theorem wins_tb0 : ∀ k, k < 7 → ∀ x, x < 64 → tb (wins k 0 x) k = 0 ∧ tb (wins k 1 x) k = 1 := by decide +kernel
