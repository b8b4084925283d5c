/-! Numbers and heaps: the rules by which the equations are simplified. -/
theorem iz_toInt {a : Int} (h1 : -2147483648 ≤ a) (h2 : a ≤ 2147483647) : (Int32.ofInt a).toInt = a := by
  rw [Int32.toInt_ofInt, show Int32.size = 4294967296 from rfl]
  exact Int.bmod_eq_of_le (by omega) (by omega)
theorem iz_add (a b : Int) : Int32.ofInt a + Int32.ofInt b = Int32.ofInt (a + b) := (Int32.ofInt_add a b).symm
theorem iz_sub (a b : Int) : Int32.ofInt a - Int32.ofInt b = Int32.ofInt (a - b) := (Int32.ofInt_sub a b).symm
theorem iz_mul (a b : Int) : Int32.ofInt a * Int32.ofInt b = Int32.ofInt (a * b) := (Int32.ofInt_mul a b).symm
theorem iz_neg (a : Int) : -Int32.ofInt a = Int32.ofInt (-a) := (Int32.ofInt_neg a).symm
theorem iz_lt {a b : Int} (h1 : -2147483648 ≤ a) (h2 : a ≤ 2147483647) (h3 : -2147483648 ≤ b) (h4 : b ≤ 2147483647) : (Int32.ofInt a < Int32.ofInt b) ↔ a < b := by
  rw [Int32.lt_iff_toInt_lt, iz_toInt h1 h2, iz_toInt h3 h4]
theorem iz_le {a b : Int} (h1 : -2147483648 ≤ a) (h2 : a ≤ 2147483647) (h3 : -2147483648 ≤ b) (h4 : b ≤ 2147483647) : (Int32.ofInt a ≤ Int32.ofInt b) ↔ a ≤ b := by
  rw [Int32.le_iff_toInt_le, iz_toInt h1 h2, iz_toInt h3 h4]
theorem iz_eq {a b : Int} (h1 : -2147483648 ≤ a) (h2 : a ≤ 2147483647) (h3 : -2147483648 ≤ b) (h4 : b ≤ 2147483647) : (Int32.ofInt a = Int32.ofInt b) ↔ a = b := by
  constructor
  · intro h
    have := congrArg Int32.toInt h
    rwa [iz_toInt h1 h2, iz_toInt h3 h4] at this
  · intro h; rw [h]
theorem iz_cl {a : Int} (h1 : -2147483648 ≤ a) (h2 : a ≤ 2147483647) : (Int32.ofInt a).toNatClampNeg = a.toNat := by
  show (Int32.ofInt a).toInt.toNat = a.toNat
  rw [iz_toInt h1 h2]
theorem iz_in {a : Int} {n : Nat} (h1 : -2147483648 ≤ a) (h2 : a ≤ 2147483647) : wb_in (Int32.ofInt a) n = decide (0 ≤ a ∧ a < n) := by
  have e0 : (0 : Int32) = Int32.ofInt 0 := rfl
  unfold wb_in
  rw [e0, iz_cl h1 h2]
  have h3 : (Int32.ofInt a < Int32.ofInt 0) ↔ a < 0 := iz_lt h1 h2 (by decide) (by decide)
  simp only [h3]
  by_cases ha : a < 0
  · simp [ha]; omega
  · have : (a.toNat < n) ↔ a < n := by omega
    simp [ha, this]; omega
theorem iz_div {a b : Int} (h1 : 0 ≤ a) (h2 : a ≤ 2147483647) (h3 : 0 < b) (h4 : b ≤ 2147483647) : Int32.ofInt a / Int32.ofInt b = Int32.ofInt (a / b) := by
  apply Int32.toInt_inj.mp
  have hd : 0 ≤ a / b := Int.ediv_nonneg h1 (by omega)
  have hd2 : a / b ≤ a := Int.ediv_le_self b h1
  rw [Int32.toInt_div_of_ne_right _ _ (by
    intro h
    have := congrArg Int32.toInt h
    rw [iz_toInt (by omega) (by omega)] at this
    have e : (-1 : Int32).toInt = -1 := by decide
    rw [e] at this; omega), iz_toInt (by omega) h2, iz_toInt (by omega) h4, iz_toInt (by omega) (by omega), Int.tdiv_eq_ediv_of_nonneg h1]
theorem iz_rem {a b : Int} (h1 : 0 ≤ a) (h2 : a ≤ 2147483647) (h3 : 0 < b) (h4 : b ≤ 2147483647) : wb_rem (Int32.ofInt a) (Int32.ofInt b) = Int32.ofInt (a % b) := by
  unfold wb_rem
  rw [iz_div h1 h2 h3 h4, iz_mul, iz_sub]
  congr 1
  have := Int.mul_ediv_add_emod a b
  rw [Int.mul_comm] at this
  omega
theorem wb_iu_1 {h : wb_H} {t o k t' o' k' : Nat} {v : Int32} : (wb_iu h t o k v).1 t' o' k' = if t' = t ∧ o' = o ∧ k' = k then v else h.1 t' o' k' := rfl
theorem wb_iu_2 {h : wb_H} {t o k : Nat} {v : Int32} : (wb_iu h t o k v).2 = h.2 := rfl
theorem wb_lu_1 {h : wb_H} {t o k : Nat} {v : Int64} : (wb_lu h t o k v).1 = h.1 := rfl
theorem wb_lu_2 {h : wb_H} {t o k t' o' k' : Nat} {v : Int64} : (wb_lu h t o k v).2.1 t' o' k' = if t' = t ∧ o' = o ∧ k' = k then v else h.2.1 t' o' k' := rfl
theorem wb_lu_3 {h : wb_H} {t o k : Nat} {v : Int64} : (wb_lu h t o k v).2.2 = h.2.2 := rfl
theorem wb_mu_1 {h : wb_H} {t o k v : Nat} : (wb_mu h t o k v).1 = h.1 := rfl
theorem wb_mu_2 {h : wb_H} {t o k v : Nat} : (wb_mu h t o k v).2.1 = h.2.1 := rfl
theorem wb_mu_3 {h : wb_H} {t o k t' o' k' v : Nat} : (wb_mu h t o k v).2.2 t' o' k' = if t' = t ∧ o' = o ∧ k' = k then v else h.2.2 t' o' k' := rfl
/-- some cells of an array of ints anew -/
def wb_fi (h : wb_H) (t o a b : Nat) (f : Nat → Int32) : wb_H := (fun t' o' k' => if t' = t ∧ o' = o ∧ a ≤ k' ∧ k' < b then f k' else h.1 t' o' k', h.2)
theorem wb_fi_1 {h : wb_H} {t o a b t' o' k' : Nat} {f : Nat → Int32} : (wb_fi h t o a b f).1 t' o' k' = if t' = t ∧ o' = o ∧ a ≤ k' ∧ k' < b then f k' else h.1 t' o' k' := rfl
theorem wb_fi_2 {h : wb_H} {t o a b : Nat} {f : Nat → Int32} : (wb_fi h t o a b f).2 = h.2 := rfl
theorem wb_hext {h h' : wb_H} (h1 : ∀ t o k, h.1 t o k = h'.1 t o k) (h2 : h.2 = h'.2) : h = h' := by
  obtain ⟨a, b⟩ := h
  obtain ⟨a', b'⟩ := h'
  simp only at h1 h2
  rw [h2]
  congr 1
  funext t o k
  exact h1 t o k
theorem wb_fi_nil {h : wb_H} {t o a b : Nat} {f : Nat → Int32} (hab : b ≤ a) : wb_fi h t o a b f = h := by
  refine wb_hext (fun t' o' k' => ?_) rfl
  rw [wb_fi_1, if_neg]
  omega
theorem wb_fi_step {h : wb_H} {t o a b : Nat} {f : Nat → Int32} (hab : a < b) : wb_fi (wb_iu h t o a (f a)) t o (a + 1) b f = wb_fi h t o a b f := by
  refine wb_hext (fun t' o' k' => ?_) rfl
  rw [wb_fi_1, wb_fi_1, wb_iu_1]
  by_cases h1 : t' = t ∧ o' = o
  · obtain ⟨rfl, rfl⟩ := h1
    by_cases h2 : k' = a
    · subst h2; simp [hab]
    · by_cases h3 : a + 1 ≤ k' ∧ k' < b
      · rw [if_pos ⟨rfl, rfl, h3⟩, if_pos ⟨rfl, rfl, by omega, h3.2⟩]
      · rw [if_neg (fun q => h3 q.2.2), if_neg (fun q => h2 q.2.2), if_neg (fun q => h3 ⟨by omega, q.2.2.2⟩)]
  · rw [if_neg (fun q => h1 ⟨q.1, q.2.1⟩), if_neg (fun q => h1 ⟨q.1, q.2.1⟩), if_neg (fun q => h1 ⟨q.1, q.2.1⟩)]
/-! The numbers from 0 on and those below. -/
def nN (n : Nat) : Int32 := Int32.ofInt (n : Int)
def nM (n : Nat) : Int32 := Int32.ofInt (-(n : Int))
/-! The numbers written in the class and the reference. -/
theorem L_0 : Int32.ofInt 0 = nN 0 := rfl
theorem L_1 : Int32.ofInt 1 = nN 1 := rfl
theorem L_2 : Int32.ofInt 2 = nN 2 := rfl
theorem L_3 : Int32.ofInt 3 = nN 3 := rfl
theorem L_4 : Int32.ofInt 4 = nN 4 := rfl
theorem L_5 : Int32.ofInt 5 = nN 5 := rfl
theorem L_6 : Int32.ofInt 6 = nN 6 := rfl
theorem L_7 : Int32.ofInt 7 = nN 7 := rfl
theorem L_8 : Int32.ofInt 8 = nN 8 := rfl
theorem L_9 : Int32.ofInt 9 = nN 9 := rfl
theorem L_10 : Int32.ofInt 10 = nN 10 := rfl
theorem L_11 : Int32.ofInt 11 = nN 11 := rfl
theorem L_12 : Int32.ofInt 12 = nN 12 := rfl
theorem L_13 : Int32.ofInt 13 = nN 13 := rfl
theorem L_14 : Int32.ofInt 14 = nN 14 := rfl
theorem L_15 : Int32.ofInt 15 = nN 15 := rfl
theorem L_16 : Int32.ofInt 16 = nN 16 := rfl
theorem L_17 : Int32.ofInt 17 = nN 17 := rfl
theorem L_18 : Int32.ofInt 18 = nN 18 := rfl
theorem L_19 : Int32.ofInt 19 = nN 19 := rfl
theorem L_20 : Int32.ofInt 20 = nN 20 := rfl
theorem L_21 : Int32.ofInt 21 = nN 21 := rfl
theorem L_22 : Int32.ofInt 22 = nN 22 := rfl
theorem L_23 : Int32.ofInt 23 = nN 23 := rfl
theorem L_24 : Int32.ofInt 24 = nN 24 := rfl
theorem L_25 : Int32.ofInt 25 = nN 25 := rfl
theorem L_26 : Int32.ofInt 26 = nN 26 := rfl
theorem L_27 : Int32.ofInt 27 = nN 27 := rfl
theorem L_28 : Int32.ofInt 28 = nN 28 := rfl
theorem L_29 : Int32.ofInt 29 = nN 29 := rfl
theorem L_30 : Int32.ofInt 30 = nN 30 := rfl
theorem L_31 : Int32.ofInt 31 = nN 31 := rfl
theorem L_32 : Int32.ofInt 32 = nN 32 := rfl
theorem L_33 : Int32.ofInt 33 = nN 33 := rfl
theorem L_34 : Int32.ofInt 34 = nN 34 := rfl
theorem L_35 : Int32.ofInt 35 = nN 35 := rfl
theorem L_40 : Int32.ofInt 40 = nN 40 := rfl
theorem L_41 : Int32.ofInt 41 = nN 41 := rfl
theorem L_42 : Int32.ofInt 42 = nN 42 := rfl
theorem L_43 : Int32.ofInt 43 = nN 43 := rfl
theorem L_44 : Int32.ofInt 44 = nN 44 := rfl
theorem L_45 : Int32.ofInt 45 = nN 45 := rfl
theorem L_47 : Int32.ofInt 47 = nN 47 := rfl
theorem L_48 : Int32.ofInt 48 = nN 48 := rfl
theorem L_50 : Int32.ofInt 50 = nN 50 := rfl
theorem L_53 : Int32.ofInt 53 = nN 53 := rfl
theorem L_57 : Int32.ofInt 57 = nN 57 := rfl
theorem L_59 : Int32.ofInt 59 = nN 59 := rfl
theorem L_60 : Int32.ofInt 60 = nN 60 := rfl
theorem L_61 : Int32.ofInt 61 = nN 61 := rfl
theorem L_63 : Int32.ofInt 63 = nN 63 := rfl
theorem L_64 : Int32.ofInt 64 = nN 64 := rfl
theorem L_97 : Int32.ofInt 97 = nN 97 := rfl
theorem L_100 : Int32.ofInt 100 = nN 100 := rfl
theorem L_101 : Int32.ofInt 101 = nN 101 := rfl
theorem L_102 : Int32.ofInt 102 = nN 102 := rfl
theorem L_103 : Int32.ofInt 103 = nN 103 := rfl
theorem L_122 : Int32.ofInt 122 = nN 122 := rfl
theorem L_130 : Int32.ofInt 130 = nN 130 := rfl
theorem L_216 : Int32.ofInt 216 = nN 216 := rfl
theorem L_255 : Int32.ofInt 255 = nN 255 := rfl
theorem L_364 : Int32.ofInt 364 = nN 364 := rfl
theorem L_400 : Int32.ofInt 400 = nN 400 := rfl
theorem L_402 : Int32.ofInt 402 = nN 402 := rfl
theorem L_420 : Int32.ofInt 420 = nN 420 := rfl
theorem L_728 : Int32.ofInt 728 = nN 728 := rfl
theorem L_768 : Int32.ofInt 768 = nN 768 := rfl
theorem L_999 : Int32.ofInt 999 = nN 999 := rfl
theorem L_1000 : Int32.ofInt 1000 = nN 1000 := rfl
theorem L_1093 : Int32.ofInt 1093 = nN 1093 := rfl
theorem L_1872 : Int32.ofInt 1872 = nN 1872 := rfl
theorem L_2000 : Int32.ofInt 2000 = nN 2000 := rfl
theorem L_9999 : Int32.ofInt 9999 = nN 9999 := rfl
theorem L_12345 : Int32.ofInt 12345 = nN 12345 := rfl
theorem L_252645135 : Int32.ofInt 252645135 = nN 252645135 := rfl
theorem L_858993459 : Int32.ofInt 858993459 = nN 858993459 := rfl
theorem L_1103515245 : Int32.ofInt 1103515245 = nN 1103515245 := rfl
theorem L_1431655765 : Int32.ofInt 1431655765 = nN 1431655765 := rfl
theorem Lm_1 : Int32.ofInt (-1) = nM 1 := rfl
theorem Lm_2 : Int32.ofInt (-2) = nM 2 := rfl
theorem Lm_8 : Int32.ofInt (-8) = nM 8 := rfl
theorem N_zero : (0 : Int32) = nN 0 := rfl
theorem N_cast (n : Nat) : Int32.ofInt (n : Int) = nN n := rfl
theorem NM_all (a : Int32) : (∃ n, a = nN n ∧ n ≤ 2147483647) ∨ (∃ n, a = nM n ∧ 1 ≤ n ∧ n ≤ 2147483648) := by
  have h1 : a = Int32.ofInt a.toInt := (Int32.ofInt_toInt a).symm
  have h2 := Int32.le_toInt a
  have h3 := Int32.toInt_lt a
  by_cases h : 0 ≤ a.toInt
  · refine Or.inl ⟨a.toInt.toNat, ?_, by omega⟩
    rw [nN, Int.toNat_of_nonneg h]; exact h1
  · refine Or.inr ⟨(-a.toInt).toNat, ?_, by omega, by omega⟩
    rw [nM, Int.toNat_of_nonneg (by omega), Int.neg_neg]; exact h1
theorem N_add (a b : Nat) : nN a + nN b = nN (a + b) := iz_add _ _
theorem N_mul (a b : Nat) : nN a * nN b = nN (a * b) := iz_mul _ _
theorem N_sub {a b : Nat} (h : b ≤ a) : nN a - nN b = nN (a - b) := by
  unfold nN
  rw [iz_sub]
  congr 1
  omega
theorem N_sub_M {a b : Nat} (h : a < b) : nN a - nN b = nM (b - a) := by
  unfold nN nM
  rw [iz_sub]
  congr 1
  omega
theorem N_addM {a b : Nat} (h : b ≤ a) : nN a + nM b = nN (a - b) := by
  unfold nN nM
  rw [iz_add]
  congr 1
  omega
theorem M_neg (a : Nat) : -nN a = nM a := by
  unfold nN nM
  rw [iz_neg]
theorem M_negM (a : Nat) : -nM a = nN a := by
  unfold nN nM
  rw [iz_neg, Int.neg_neg]
theorem N_toInt {a : Nat} (h : a ≤ 2147483647) : (nN a).toInt = (a : Int) := iz_toInt (by omega) (by omega)
theorem M_toInt {a : Nat} (h : a ≤ 2147483648) : (nM a).toInt = -(a : Int) := iz_toInt (by omega) (by omega)
theorem N_lt_t {a b : Nat} (h : a < b) (hb : b ≤ 2147483647) : decide (nN a < nN b) = true := decide_eq_true ((iz_lt (by omega) (by omega) (by omega) (by omega)).mpr (by omega))
theorem N_lt_f {a b : Nat} (h : b ≤ a) (hb : a ≤ 2147483647) : decide (nN a < nN b) = false := decide_eq_false (fun q => by have := (iz_lt (by omega) (by omega) (by omega) (by omega)).mp q; omega)
theorem N_le_t {a b : Nat} (h : a ≤ b) (hb : b ≤ 2147483647) : decide (nN a ≤ nN b) = true := decide_eq_true ((iz_le (by omega) (by omega) (by omega) (by omega)).mpr (by omega))
theorem N_le_f {a b : Nat} (h : b < a) (hb : a ≤ 2147483647) : decide (nN a ≤ nN b) = false := decide_eq_false (fun q => by have := (iz_le (by omega) (by omega) (by omega) (by omega)).mp q; omega)
theorem N_eq_t {a b : Nat} (h : a = b) : decide (nN a = nN b) = true := decide_eq_true (by rw [h])
theorem N_inj {a b : Nat} (ha : a ≤ 2147483647) (hb : b ≤ 2147483647) (q : nN a = nN b) : a = b := by
  have := (iz_eq (by omega) (by omega) (by omega) (by omega)).mp q
  omega
theorem N_eq_f {a b : Nat} (h : a ≠ b) (ha : a ≤ 2147483647) (hb : b ≤ 2147483647) : decide (nN a = nN b) = false := decide_eq_false (fun q => h (N_inj ha hb q))
theorem MN_lt {a b : Nat} (h : 1 ≤ a) (ha : a ≤ 2147483648) (hb : b ≤ 2147483647) : decide (nM a < nN b) = true := decide_eq_true ((iz_lt (by omega) (by omega) (by omega) (by omega)).mpr (by omega))
theorem MN_le {a b : Nat} (h : 1 ≤ a) (ha : a ≤ 2147483648) (hb : b ≤ 2147483647) : decide (nM a ≤ nN b) = true := decide_eq_true ((iz_le (by omega) (by omega) (by omega) (by omega)).mpr (by omega))
theorem NM_lt {a b : Nat} (ha : a ≤ 2147483647) (hb : b ≤ 2147483648) : decide (nN a < nM b) = false := decide_eq_false (fun q => by have := (iz_lt (by omega) (by omega) (by omega) (by omega)).mp q; omega)
theorem NM_le {a b : Nat} (ha : a ≤ 2147483647) (h : 1 ≤ b) (hb : b ≤ 2147483648) : decide (nN a ≤ nM b) = false := decide_eq_false (fun q => by have := (iz_le (by omega) (by omega) (by omega) (by omega)).mp q; omega)
theorem NM_eq {a b : Nat} (ha : a ≤ 2147483647) (h : 1 ≤ b) (hb : b ≤ 2147483648) : decide (nN a = nM b) = false := decide_eq_false (fun q => by have := (iz_eq (by omega) (by omega) (by omega) (by omega)).mp q; omega)
theorem MN_eq {a b : Nat} (ha : a ≤ 2147483647) (h : 1 ≤ b) (hb : b ≤ 2147483648) : decide (nM b = nN a) = false := decide_eq_false (fun q => by have := (iz_eq (by omega) (by omega) (by omega) (by omega)).mp q; omega)
theorem MM_lt_t {a b : Nat} (h : b < a) (ha : a ≤ 2147483648) : decide (nM a < nM b) = true := decide_eq_true ((iz_lt (by omega) (by omega) (by omega) (by omega)).mpr (by omega))
theorem MM_lt_f {a b : Nat} (h : a ≤ b) (hb : b ≤ 2147483648) : decide (nM a < nM b) = false := decide_eq_false (fun q => by have := (iz_lt (by omega) (by omega) (by omega) (by omega)).mp q; omega)
theorem MM_le_t {a b : Nat} (h : b ≤ a) (ha : a ≤ 2147483648) : decide (nM a ≤ nM b) = true := decide_eq_true ((iz_le (by omega) (by omega) (by omega) (by omega)).mpr (by omega))
theorem MM_le_f {a b : Nat} (h : a < b) (hb : b ≤ 2147483648) : decide (nM a ≤ nM b) = false := decide_eq_false (fun q => by have := (iz_le (by omega) (by omega) (by omega) (by omega)).mp q; omega)
theorem MM_eq_t {a b : Nat} (h : a = b) : decide (nM a = nM b) = true := decide_eq_true (by rw [h])
theorem MM_eq_f {a b : Nat} (h : a ≠ b) (ha : a ≤ 2147483648) (hb : b ≤ 2147483648) : decide (nM a = nM b) = false := decide_eq_false (fun q => by have := (iz_eq (by omega) (by omega) (by omega) (by omega)).mp q; omega)
theorem N_lt_tp {a b : Nat} (h : a < b) (hb : b ≤ 2147483647) : (nN a < nN b) = True := eq_true (of_decide_eq_true (N_lt_t h hb))
theorem N_lt_fp {a b : Nat} (h : b ≤ a) (hb : a ≤ 2147483647) : (nN a < nN b) = False := eq_false (of_decide_eq_false (N_lt_f h hb))
theorem N_le_tp {a b : Nat} (h : a ≤ b) (hb : b ≤ 2147483647) : (nN a ≤ nN b) = True := eq_true (of_decide_eq_true (N_le_t h hb))
theorem N_le_fp {a b : Nat} (h : b < a) (hb : a ≤ 2147483647) : (nN a ≤ nN b) = False := eq_false (of_decide_eq_false (N_le_f h hb))
theorem N_eq_tp {a b : Nat} (h : a = b) : (nN a = nN b) = True := eq_true (of_decide_eq_true (N_eq_t h))
theorem N_eq_fp {a b : Nat} (h : a ≠ b) (ha : a ≤ 2147483647) (hb : b ≤ 2147483647) : (nN a = nN b) = False := eq_false (of_decide_eq_false (N_eq_f h ha hb))
theorem MN_ltp {a b : Nat} (h : 1 ≤ a) (ha : a ≤ 2147483648) (hb : b ≤ 2147483647) : (nM a < nN b) = True := eq_true (of_decide_eq_true (MN_lt h ha hb))
theorem MN_lep {a b : Nat} (h : 1 ≤ a) (ha : a ≤ 2147483648) (hb : b ≤ 2147483647) : (nM a ≤ nN b) = True := eq_true (of_decide_eq_true (MN_le h ha hb))
theorem NM_ltp {a b : Nat} (ha : a ≤ 2147483647) (hb : b ≤ 2147483648) : (nN a < nM b) = False := eq_false (of_decide_eq_false (NM_lt ha hb))
theorem NM_lep {a b : Nat} (ha : a ≤ 2147483647) (h : 1 ≤ b) (hb : b ≤ 2147483648) : (nN a ≤ nM b) = False := eq_false (of_decide_eq_false (NM_le ha h hb))
theorem NM_eqp {a b : Nat} (ha : a ≤ 2147483647) (h : 1 ≤ b) (hb : b ≤ 2147483648) : (nN a = nM b) = False := eq_false (of_decide_eq_false (NM_eq ha h hb))
theorem MN_eqp {a b : Nat} (ha : a ≤ 2147483647) (h : 1 ≤ b) (hb : b ≤ 2147483648) : (nM b = nN a) = False := eq_false (of_decide_eq_false (MN_eq ha h hb))
theorem MM_lt_tp {a b : Nat} (h : b < a) (ha : a ≤ 2147483648) : (nM a < nM b) = True := eq_true (of_decide_eq_true (MM_lt_t h ha))
theorem MM_lt_fp {a b : Nat} (h : a ≤ b) (hb : b ≤ 2147483648) : (nM a < nM b) = False := eq_false (of_decide_eq_false (MM_lt_f h hb))
theorem MM_le_tp {a b : Nat} (h : b ≤ a) (ha : a ≤ 2147483648) : (nM a ≤ nM b) = True := eq_true (of_decide_eq_true (MM_le_t h ha))
theorem MM_le_fp {a b : Nat} (h : a < b) (hb : b ≤ 2147483648) : (nM a ≤ nM b) = False := eq_false (of_decide_eq_false (MM_le_f h hb))
theorem MM_eq_tp {a b : Nat} (h : a = b) : (nM a = nM b) = True := eq_true (of_decide_eq_true (MM_eq_t h))
theorem MM_eq_fp {a b : Nat} (h : a ≠ b) (ha : a ≤ 2147483648) (hb : b ≤ 2147483648) : (nM a = nM b) = False := eq_false (of_decide_eq_false (MM_eq_f h ha hb))
theorem N_cl {a : Nat} (h : a ≤ 2147483647) : (nN a).toNatClampNeg = a := by
  rw [nN, iz_cl (by omega) (by omega), Int.toNat_natCast]
theorem N_in_t {a n : Nat} (h : a < n) (ha : a ≤ 2147483647) : wb_in (nN a) n = true := by
  rw [nN, iz_in (by omega) (by omega)]
  exact decide_eq_true (by omega)
theorem N_in_f {a n : Nat} (h : n ≤ a) (ha : a ≤ 2147483647) : wb_in (nN a) n = false := by
  rw [nN, iz_in (by omega) (by omega)]
  exact decide_eq_false (by omega)
theorem M_in {a n : Nat} (h : 1 ≤ a) (ha : a ≤ 2147483648) : wb_in (nM a) n = false := by
  rw [nM, iz_in (by omega) (by omega)]
  exact decide_eq_false (by omega)
theorem N_div {a b : Nat} (ha : a ≤ 2147483647) (h0 : 0 < b) (hb : b ≤ 2147483647) : nN a / nN b = nN (a / b) := by
  unfold nN
  rw [iz_div (by omega) (by omega) (by omega) (by omega)]
  rfl
theorem N_rem {a b : Nat} (ha : a ≤ 2147483647) (h0 : 0 < b) (hb : b ≤ 2147483647) : wb_rem (nN a) (nN b) = nN (a % b) := by
  unfold nN
  rw [iz_rem (by omega) (by omega) (by omega) (by omega)]
  rfl
theorem N_nb0 : wb_nb (nN 0) = true := rfl
theorem N_nb1 : wb_nb (nN 1) = true := rfl
theorem N_nb {n : Nat} (h : n ≤ 1) : wb_nb (nN n) = true := by
  rcases (show n = 0 ∨ n = 1 by omega) with rfl | rfl <;> rfl
/-! Frames: what is not named is as it was. -/
def kc (t k : Nat) : Nat := match t with
  | 21 => 1000 + k
  | 20 => 2000 + k
  | 11 => 3000 + k
  | 16 => 4000 + k
  | 18 => 5000 + k
  | 19 => 6000 + k
  | 10 => 7000 + k
  | 12 => 8000 + k
  | 14 => 9000 + k
  | t => t
def Fr (L : List Nat) (h h' : wb_H) : Prop := ∀ t o k, wb_mem (kc t k) L = false → h'.1 t o k = h.1 t o k ∧ h'.2.1 t o k = h.2.1 t o k ∧ h'.2.2 t o k = h.2.2 t o k
theorem Fr_refl (L : List Nat) (h : wb_H) : Fr L h h := fun _ _ _ _ => ⟨rfl, rfl, rfl⟩
theorem Fr_trans {L : List Nat} {h h1 h2 : wb_H} (a : Fr L h h1) (b : Fr L h1 h2) : Fr L h h2 := fun t o k ht =>
  ⟨(b t o k ht).1.trans (a t o k ht).1, (b t o k ht).2.1.trans (a t o k ht).2.1, (b t o k ht).2.2.trans (a t o k ht).2.2⟩
def wb_subl : List Nat → List Nat → Bool
  | [], _ => true
  | x :: l, L => wb_mem x L && wb_subl l L
theorem wb_mem_subl : ∀ {l L : List Nat}, wb_subl l L = true → ∀ {x : Nat}, wb_mem x L = false → wb_mem x l = false
  | [], _, _, _, _ => rfl
  | y :: l, L, h, x, hx => by
    simp only [wb_subl, Bool.and_eq_true] at h
    have ih := wb_mem_subl h.2 hx
    rw [wb_mem, ih]
    cases e : Nat.beq x y with
    | false => rfl
    | true =>
      have := Nat.eq_of_beq_eq_true e
      subst this
      rw [h.1] at hx
      cases hx
theorem Fr_mono {L L' : List Nat} {h h' : wb_H} (a : Fr L h h') (s : wb_subl L L' = true) : Fr L' h h' := fun t o k ht => a t o k (wb_mem_subl s ht)
theorem Fr_i {L : List Nat} {h h' : wb_H} (a : Fr L h h') {t o k : Nat} (ht : wb_mem (kc t k) L = false) : h'.1 t o k = h.1 t o k := (a t o k ht).1
theorem Fr_l {L : List Nat} {h h' : wb_H} (a : Fr L h h') {t o k : Nat} (ht : wb_mem (kc t k) L = false) : h'.2.1 t o k = h.2.1 t o k := (a t o k ht).2.1
theorem Fr_m {L : List Nat} {h h' : wb_H} (a : Fr L h h') {t o k : Nat} (ht : wb_mem (kc t k) L = false) : h'.2.2 t o k = h.2.2 t o k := (a t o k ht).2.2
theorem wb_mem_self {x : Nat} {L : List Nat} (h : wb_mem x L = true) {y : Nat} (hy : wb_mem y L = false) : x ≠ y := fun e => by rw [e, hy] at h; cases h
theorem Fr_iu {L : List Nat} {h : wb_H} {t o k : Nat} {v : Int32} (m : wb_mem (kc t k) L = true) : Fr L h (wb_iu h t o k v) := fun t' o' k' ht' => ⟨by
  rw [wb_iu_1, if_neg]
  rintro ⟨rfl, -, rfl⟩
  rw [m] at ht'; exact Bool.noConfusion ht', rfl, rfl⟩
theorem Fr_lu {L : List Nat} {h : wb_H} {t o k : Nat} {v : Int64} (m : wb_mem (kc t k) L = true) : Fr L h (wb_lu h t o k v) := fun t' o' k' ht' => ⟨rfl, by
  rw [wb_lu_2, if_neg]
  rintro ⟨rfl, -, rfl⟩
  rw [m] at ht'; exact Bool.noConfusion ht', rfl⟩
theorem Fr_mu {L : List Nat} {h : wb_H} {t o k : Nat} {v : Nat} (m : wb_mem (kc t k) L = true) : Fr L h (wb_mu h t o k v) := fun t' o' k' ht' => ⟨rfl, rfl, by
  rw [wb_mu_3, if_neg]
  rintro ⟨rfl, -, rfl⟩
  rw [m] at ht'; exact Bool.noConfusion ht'⟩
theorem Fr_cp {L : List Nat} {h : wb_H} {t o sp t2 o2 dp n : Nat} (m : ∀ k, wb_mem (kc t2 k) L = true) : Fr L h (wb_cp h.1 t o sp t2 o2 dp n, h.2) := fun t' o' k' ht' => ⟨by
  show wb_cp h.1 t o sp t2 o2 dp n t' o' k' = _
  rw [wb_cp, if_neg]
  rintro ⟨⟨rfl, -⟩, -⟩
  rw [m k'] at ht'; exact Bool.noConfusion ht', rfl, rfl⟩
theorem Fr_fi {L : List Nat} {h : wb_H} {t o a b : Nat} {f : Nat → Int32} (m : ∀ k, wb_mem (kc t k) L = true) : Fr L h (wb_fi h t o a b f) := fun t' o' k' ht' => ⟨by
  rw [wb_fi_1, if_neg]
  rintro ⟨rfl, -, -⟩
  rw [m k'] at ht'; exact Bool.noConfusion ht', rfl, rfl⟩
/-! Answers. -/
def Ok {α : Type} (x : Option α) (P : α → Prop) : Prop := ∃ a, x = some a ∧ P a
theorem Ok_some {α : Type} {a : α} {P : α → Prop} (h : P a) : Ok (some a) P := ⟨a, rfl, h⟩
theorem Ok_bind {α β : Type} {x : Option α} {f : α → Option β} {P : α → Prop} {Q : β → Prop} (h : Ok x P) (g : ∀ a, P a → Ok (f a) Q) : Ok (x.bind f) Q := by
  obtain ⟨a, rfl, ha⟩ := h
  exact g a ha
theorem Ok_w {α : Type} {x : Option α} {P Q : α → Prop} (h : Ok x P) (g : ∀ a, P a → Q a) : Ok x Q := by
  obtain ⟨a, rfl, ha⟩ := h
  exact ⟨a, rfl, g a ha⟩
theorem Ok_t {α : Type} {c : Bool} {x y : Option α} {P : α → Prop} (h : c = true) (g : Ok x P) : Ok (bif c then x else y) P := by subst h; exact g
theorem Ok_f {α : Type} {c : Bool} {x y : Option α} {P : α → Prop} (h : c = false) (g : Ok y P) : Ok (bif c then x else y) P := by subst h; exact g
theorem Ok_c {α : Type} {c : Bool} {x y : Option α} {P : α → Prop} (g1 : c = true → Ok x P) (g2 : c = false → Ok y P) : Ok (bif c then x else y) P := by
  cases c with
  | true => exact g1 rfl
  | false => exact g2 rfl
/-! Bits. -/
def tb (b i : Nat) : Nat := b / 2 ^ i % 2
theorem tb_lt (b i : Nat) : tb b i < 2 := Nat.mod_lt _ (by decide)
theorem bt_shr : ∀ w, w < 128 → ∀ i, i < 7 → ((nN w >>> (nN i &&& 31)) &&& nN 1) = nN (tb w i) := by decide +kernel
theorem bt_low : ∀ w, w < 128 → (nN w &&& nN 1) = nN (tb w 0) := by decide +kernel
theorem bt_get : ∀ b, b < 64 → ∀ i, i < 6 → ((nN b >>> (nN i &&& 31)) &&& nN 1) = nN (tb b i) := by decide +kernel
theorem bt_xor : ∀ b, b < 64 → ∀ i, i < 6 → (nN b ^^^ (nN 1 <<< (nN i &&& 31))) = nN (b ^^^ 2 ^ i) := by decide +kernel
theorem bt_or : ∀ b, b < 64 → ∀ i, i < 6 → (nN b ||| (nN 1 <<< (nN i &&& 31))) = nN (b ||| 2 ^ i) := by decide +kernel
theorem bt_one : ∀ i, i < 7 → (nN 1 <<< (nN i &&& 31)) = nN (2 ^ i) := by decide +kernel
theorem bt_two : ∀ i, i < 7 → (nN 2 <<< (nN i &&& 31)) = nN (2 ^ (i + 1)) := by decide +kernel
theorem bt_or2 : ∀ b, b < 64 → ∀ c, c < 64 → (nN b ||| nN c) = nN (b ||| c) := by decide +kernel
theorem bt_and2 : ∀ b, b < 64 → ∀ c, c < 64 → (nN b &&& nN c) = nN (b &&& c) := by decide +kernel
theorem bt_andn : ∀ b, b < 64 → ∀ c, c < 64 → (nN b &&& (nN c ^^^ Int32.ofInt (-1))) = nN (b &&& (63 ^^^ c)) := by decide +kernel
theorem bt_lt_or : ∀ b, b < 64 → ∀ c, c < 64 → b ||| c < 64 := by decide +kernel
theorem bt_lt_xor : ∀ b, b < 64 → ∀ i, i < 6 → b ^^^ 2 ^ i < 64 := by decide +kernel
/-! Loops that only read. -/
theorem nN_ge0 {n : Nat} (h : n ≤ 2147483647) : decide (nN n < nN 0) = false := N_lt_f (Nat.zero_le n) h
