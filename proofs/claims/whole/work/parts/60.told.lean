/-! What is told, and how things stand; the evening that comes of it. -/
abbrev wT : Type := (Nat × Nat) × ((Nat × (Nat × (Nat × Nat))) × (((Nat → Nat) × ((Nat → Nat) × ((Nat → Nat) × (Nat → Nat)))) × (Nat → Nat → Nat → Nat → Nat → Nat)))
def tn (T : wT) : Nat := T.1.1
def tB (T : wT) : Nat := T.1.2
def tF (T : wT) : Nat := T.2.1.1
def tO (T : wT) : Nat := T.2.1.2.1
def tP (T : wT) : Nat := T.2.1.2.2.1
def tS (T : wT) : Nat := T.2.1.2.2.2
def tsu (T : wT) : Nat → Nat := T.2.2.1.1
def tse (T : wT) : Nat → Nat := T.2.2.1.2.1
def tht (T : wT) : Nat → Nat := T.2.2.1.2.2.1
def tmo (T : wT) : Nat → Nat := T.2.2.1.2.2.2
def tlw (T : wT) : Nat → Nat → Nat → Nat → Nat → Nat := T.2.2.2
def T_ok (T : wT) : Prop := tn T ≤ 6 ∧ tB T ≤ 10 ∧ tF T ≤ 30 ∧ tO T ≤ 30 ∧ tP T ≤ 999 ∧ tS T ≤ 9999 ∧ (∀ i, i < tn T → tsu T i ≤ 10) ∧ (∀ i, i < tn T → tse T i ≤ 6) ∧ (∀ i, i < tn T → tht T i ≤ 6) ∧ (∀ i, i < tn T → tht T i = 3 → tmo T i < tn T) ∧ (∀ i s b u d, tlw T i s b u d ≤ 1)
abbrev wR : Type := (Nat → Nat) × ((Nat → Nat) × Nat)
def rpl (R : wR) : Nat → Nat := R.1
def rov (R : wR) : Nat → Nat := R.2.1
def rlf (R : wR) : Nat := R.2.2
def R_ok (T : wT) (R : wR) : Prop := (∀ i, i < tn T → rpl R i < tn T) ∧ (∀ i j, i < tn T → j < tn T → rpl R i = rpl R j → i = j) ∧ (∀ p, p < tn T → ∃ i, i < tn T ∧ rpl R i = p) ∧ (∀ i, i < tn T → (rov R i ≤ 5 ∧ rov R i ≠ 3) ∨ rov R i = 9) ∧ rlf R < 2 ^ tn T
def fnd (f : Nat → Nat) (p : Nat) : Nat → Nat
  | 0 => 0
  | k + 1 => if f k = p then k else fnd f p k
theorem fnd_eq {f : Nat → Nat} {p : Nat} : ∀ {n i : Nat}, i < n → f i = p → (∀ a b, a < n → b < n → f a = f b → a = b) → fnd f p n = i
  | 0, _, h, _, _ => absurd h (Nat.not_lt_zero _)
  | k + 1, i, h, e, g => by
    rw [fnd]
    by_cases t : f k = p
    · rw [if_pos t]
      exact g k i (by omega) h (t.trans e.symm)
    · rw [if_neg t]
      have : i ≠ k := fun z => t (by rw [← z]; exact e)
      exact fnd_eq (by omega) e (fun a b ha hb => g a b (by omega) (by omega))
def mkA (T : wT) (R : wR) : wa := ((tn T, tB T), ((rpl R, fun p => fnd (rpl R) p (tn T)), ((fun i => if tb (rlf R) i = 1 then 10 else tsu T i, (fun i => if tb (rlf R) i = 1 then 0 else if rov R i = 9 then tht T i else rov R i, (tse T, tmo T))), tlw T)))
theorem an_mk (T : wT) (R : wR) : an (mkA T R) = tn T := rfl
theorem aB_mk (T : wT) (R : wR) : aB (mkA T R) = tB T := rfl
theorem apl_mk (T : wT) (R : wR) (i : Nat) : apl (mkA T R) i = rpl R i := rfl
theorem aho_mk (T : wT) (R : wR) (p : Nat) : aho (mkA T R) p = fnd (rpl R) p (tn T) := rfl
theorem asu_mk (T : wT) (R : wR) (i : Nat) : asu (mkA T R) i = if tb (rlf R) i = 1 then 10 else tsu T i := rfl
theorem ahb_mk (T : wT) (R : wR) (i : Nat) : ahb (mkA T R) i = if tb (rlf R) i = 1 then 0 else if rov R i = 9 then tht T i else rov R i := rfl
theorem ase_mk (T : wT) (R : wR) (i : Nat) : ase (mkA T R) i = tse T i := rfl
theorem amo_mk (T : wT) (R : wR) (i : Nat) : amo (mkA T R) i = tmo T i := rfl
theorem alw_mk (T : wT) (R : wR) : alw (mkA T R) = tlw T := rfl
theorem fnd_pl {T : wT} {R : wR} (hR : R_ok T R) {i : Nat} (hi : i < tn T) : fnd (rpl R) (rpl R i) (tn T) = i := fnd_eq hi rfl hR.2.1
theorem mkA_ok {T : wT} {R : wR} (hT : T_ok T) (hR : R_ok T R) : wa_ok (mkA T R) := by
  obtain ⟨a1, a2, a3, a4, a5, a6, a7, a8, a9, a10, a11⟩ := hT
  refine ⟨a1, a2, fun i hi => ⟨hR.1 i hi, fnd_pl hR hi⟩, fun p hp => ?_, fun i hi => ?_, fun i hi => ⟨?_, a8 i hi, ?_⟩, fun i s b l d => a11 i s b l d⟩
  · obtain ⟨i, hi, e⟩ := hR.2.2.1 p hp
    rw [aho_mk, fnd_eq hi e hR.2.1]
    exact ⟨hi, e⟩
  · rw [asu_mk]
    split
    · exact Nat.le_refl _
    · exact a7 i hi
  · rw [ahb_mk]
    have := a9 i hi
    have := hR.2.2.2.1 i hi
    split
    · omega
    · split <;> omega
  · intro e
    rw [ahb_mk] at e
    have := hR.2.2.2.1 i hi
    refine a10 i hi ?_
    split at e
    · omega
    · split at e <;> omega
def ovI (v : Nat) : Int32 := if v = 9 then nM 1 else nN v
/-! The reference's side. -/
def LT (h : wb_H) (s : Nat) (T : wT) : Prop := ∀ (sc : wb_X) (i sg b u d : Nat), i < tn T → tht T i = 6 → sg ≤ 1 → b + u ≤ 5 → b + u ≤ tse T i → d ≤ 2 → ∀ h1 : wb_H, Agl s h h1 →
  h1.1 93 0 0 = nN sg → h1.1 93 0 1 = nN b → h1.1 93 0 2 = nN u → h1.1 93 0 3 = nN (tse T i) → h1.1 93 0 4 = nN (tsu T i) → h1.1 93 0 5 = nN i → h1.1 93 0 6 = (if d = 0 then nM 1 else nN (d - 1)) → h1.1 21 0 46 = nN 0 →
  Ok (q_M_lawOf_L131 sc h1 (nN (6 * s + i)) (h1.1 78 0 (6 * s + i))) (fun r => r.1 = nN (tlw T i sg b u d) ∧ Fr [94, 1046] h1 r.2)
def MT (h : wb_H) (s : Nat) (T : wT) : Prop :=
  s ≤ 1 ∧ h.1 21 0 18 = nN s ∧ h.1 73 0 s = nN (tn T) ∧ h.1 80 0 s = nN (tB T) ∧ h.1 81 0 s = nN (tF T) ∧ h.1 82 0 s = nN (tO T) ∧ h.1 83 0 s = nN (tP T) ∧ h.1 84 0 s = nN (tS T) ∧
  (∀ i, i < tn T → h.1 74 0 (6 * s + i) = nN (tsu T i)) ∧ (∀ i, i < tn T → h.1 75 0 (6 * s + i) = nN (tse T i)) ∧ (∀ i, i < tn T → h.1 76 0 (6 * s + i) = nN (tht T i)) ∧ (∀ i, i < tn T → tht T i = 3 → h.1 77 0 (6 * s + i) = nN (tmo T i)) ∧ LT h s T
theorem LT_agl {h h1 : wb_H} {s : Nat} {T : wT} (a : Agl s h h1) (hL : LT h s T) : LT h1 s T := fun sc i sg b u d h1 h2 h3 h4 h5 h6 g hg => hL sc i sg b u d h1 h2 h3 h4 h5 h6 g (Agl_trans a hg)
def TT1 : List Nat := [1018, 73, 74, 75, 76, 77, 80, 81, 82, 83, 84]
def TT2 : List Nat := [78, 79, 85, 86, 87, 88, 89, 90, 91]
theorem MT_fr {L : List Nat} {h h1 : wb_H} {s : Nat} {T : wT} (a : Fr L h h1) (d : wb_dj TT1 L = true) (d2 : wb_dj TT2 L = true) (hM : MT h s T) : MT h1 s T := by
  have g : ∀ x, wb_mem x TT1 = true → wb_mem x L = false := fun x hx => wb_dj_mem d hx
  obtain ⟨a1, a2, a3, a4, a5, a6, a7, a8, a9, a10, a11, a12, a13⟩ := hM
  exact ⟨a1, (Fr_i a (by exact g 1018 rfl)).trans a2, (Fr_i a (by exact g 73 rfl)).trans a3, (Fr_i a (by exact g 80 rfl)).trans a4, (Fr_i a (by exact g 81 rfl)).trans a5, (Fr_i a (by exact g 82 rfl)).trans a6, (Fr_i a (by exact g 83 rfl)).trans a7, (Fr_i a (by exact g 84 rfl)).trans a8,
    fun i hi => (Fr_i a (by exact g 74 rfl)).trans (a9 i hi), fun i hi => (Fr_i a (by exact g 75 rfl)).trans (a10 i hi), fun i hi => (Fr_i a (by exact g 76 rfl)).trans (a11 i hi), fun i hi e => (Fr_i a (by exact g 77 rfl)).trans (a12 i hi e), LT_agl (Agl_fr a d2) a13⟩
/-- a row of the reference, in the array of a tag from a cell on -/
def Row (h : wb_H) (t o : Nat) (T : wT) (R : wR) : Prop := (∀ i, i < tn T → h.1 t 0 (o + i) = nN (rpl R i)) ∧ (∀ i, i < tn T → h.1 t 0 (o + 6 + i) = ovI (rov R i)) ∧ h.1 t 0 (o + 12) = nN (rlf R)
theorem pow2_64 {n : Nat} (h : n ≤ 6) : 2 ^ n ≤ 64 := Nat.pow_le_pow_right (by decide) h
theorem MA_mk {h : wb_H} {s : Nat} {T : wT} {R : wR} (hT : T_ok T) (hR : R_ok T R) (hM : MT h s T) (hr : Row h 96 0 T R) : MA h s (rlf R) (mkA T R) := by
  have p64 := pow2_64 hT.1
  obtain ⟨a1, a2, a3, a4, a5, a6, a7, a8, a9, a10, a11, a12, a13⟩ := hM
  obtain ⟨r1, r2, r3⟩ := hr
  have rl := hR.2.2.2.2
  refine ⟨a1, a2, a3, a4, by omega, by rw [Nat.zero_add] at r3; exact r3, fun i hi => by have := r1 i hi; rw [Nat.zero_add] at this; exact this, a10, fun i hi e => ?_, fun i hi e => ⟨?_, ?_⟩, fun i hi e => ?_, ?_⟩
  · rw [asu_mk, ahb_mk, if_pos e, if_pos e]
    exact ⟨rfl, rfl⟩
  · rw [asu_mk, if_neg e]; exact a9 i hi
  · rw [ahb_mk, if_neg e]
    have k := r2 i hi
    rw [Nat.zero_add] at k
    unfold ovI at k
    by_cases z : rov R i = 9
    · rw [if_pos z] at k ⊢
      exact Or.inr ⟨k, a11 i hi⟩
    · rw [if_neg z] at k ⊢
      exact Or.inl k
  · rw [ahb_mk] at e
    have := hR.2.2.2.1 i hi
    refine a12 i hi ?_
    split at e
    · omega
    · split at e <;> omega
  · intro sc i sg b u d hi e
    have o := hR.2.2.2.1 i hi
    rw [ahb_mk] at e
    have e2 : tb (rlf R) i ≠ 1 := fun z => by rw [if_pos z] at e; omega
    rw [if_neg e2] at e
    have e3 : tht T i = 6 := by split at e <;> omega
    rw [asu_mk, if_neg e2]
    exact a13 sc i sg b u d hi e3
/-! The class's side. -/
def XT (h : wb_H) (q : Nat) (T : wT) : Prop :=
  q < 2 ∧ h.1 15 q 0 = nN (tn T) ∧ h.1 15 q 7 = nN (tB T) ∧ h.1 15 q 8 = nN (tF T) ∧ h.1 15 q 9 = nN (tO T) ∧ h.1 15 q 10 = nN (tP T) ∧ h.1 15 q 11 = nN (tS T) ∧
  (∀ i, i < tn T → h.1 49 q i = nN (tsu T i)) ∧ (∀ i, i < tn T → h.1 50 q i = nN (tse T i)) ∧ (∀ i, i < tn T → h.1 51 q i = nN (tht T i)) ∧ (∀ i, i < tn T → tht T i = 3 → h.1 52 q i = nN (tmo T i)) ∧
  (∀ i sg b u d, i < tn T → tht T i = 6 → sg ≤ 1 → b + u ≤ 5 → b + u ≤ tse T i → d ≤ 2 → h.1 46 q (i * 216 + ((b * 6 + u) * 2 + sg) * 3 + d) = nN (tlw T i sg b u d))
theorem XT_fr {L : List Nat} {h h1 : wb_H} {q : Nat} {T : wT} (a : Fr L h h1) (d : wb_dj [15, 49, 50, 51, 52, 46] L = true) (hX : XT h q T) : XT h1 q T := by
  have g : ∀ x, wb_mem x [15, 49, 50, 51, 52, 46] = true → wb_mem x L = false := fun x hx => wb_dj_mem d hx
  obtain ⟨a1, a2, a3, a4, a5, a6, a7, a8, a9, a10, a11, a12⟩ := hX
  exact ⟨a1, (Fr_i a (by exact g 15 rfl)).trans a2, (Fr_i a (by exact g 15 rfl)).trans a3, (Fr_i a (by exact g 15 rfl)).trans a4, (Fr_i a (by exact g 15 rfl)).trans a5, (Fr_i a (by exact g 15 rfl)).trans a6, (Fr_i a (by exact g 15 rfl)).trans a7,
    fun i hi => (Fr_i a (by exact g 49 rfl)).trans (a8 i hi), fun i hi => (Fr_i a (by exact g 50 rfl)).trans (a9 i hi), fun i hi => (Fr_i a (by exact g 51 rfl)).trans (a10 i hi), fun i hi e => (Fr_i a (by exact g 52 rfl)).trans (a11 i hi e), fun i sg b u d h1 h2 h3 h4 h5 h6 => (Fr_i a (by exact g 46 rfl)).trans (a12 i sg b u d h1 h2 h3 h4 h5 h6)⟩
/-- a standing of the class -/
def Std (h : wb_H) (o : Nat) (T : wT) (R : wR) : Prop := (∀ i, i < tn T → h.1 54 o i = nN (rpl R i)) ∧ (∀ i, i < tn T → h.1 54 o (6 + i) = ovI (rov R i)) ∧ h.1 17 o 2 = nN (rlf R)
/-- with these leaflets, some going by their own signs -/
def rwith (R : wR) (l own : Nat) : wR := (rpl R, (fun i => if tb own i = 1 then 0 else rov R i, l))
theorem rwith_ok {T : wT} {R : wR} (hR : R_ok T R) {l own : Nat} (hl : l < 2 ^ tn T) : R_ok T (rwith R l own) := by
  refine ⟨hR.1, hR.2.1, hR.2.2.1, fun i hi => ?_, hl⟩
  have := hR.2.2.2.1 i hi
  show ((if tb own i = 1 then 0 else rov R i) ≤ 5 ∧ (if tb own i = 1 then 0 else rov R i) ≠ 3) ∨ (if tb own i = 1 then 0 else rov R i) = 9
  split
  · exact Or.inl ⟨by decide, by decide⟩
  · exact this
theorem tb_or : ∀ l, l < 64 → ∀ o, o < 64 → ∀ i, i < 6 → (tb (l ||| o) i = if tb l i = 1 then 1 else tb o i) := by decide +kernel
def SA : List Nat := [27, 28, 29, 30, 31, 3000, 3001]
def inA (h0 h : wb_H) (q : Nat) (T : wT) (R' : wR) (j : Nat) : Prop := Fr SA h0 h ∧ h.2.2 11 0 0 = q + 1 ∧ h.1 11 0 1 = nN (tn T) ∧ (∀ i, i < j → h.1 29 0 i = nN (asu (mkA T R') i) ∧ h.1 30 0 i = nN (ahb (mkA T R') i) ∧ h.1 28 0 i = nN (rpl R' i) ∧ h.1 27 0 (rpl R' i) = nN i ∧ h.1 31 0 (rpl R' i) = nN (min (rpl R' i) (tse T i)))
section
variable {sc : wb_X} {q s : Nat} {T : wT} {R : wR}
theorem X_hasBit {h : wb_H} {b i : Nat} (hb : b < 64) (hi : i < 6) : q_X_hasBit sc h (nN b) (nN i) = some (nN (tb b i), h) := by
  rw [q_X_hasBit_eq]
  simp only [L_0, L_1, L_2, L_3, L_4, L_5, L_6, L_7, L_8, L_9, L_10, L_11, L_12, L_13, L_14, L_15, L_16, L_17, L_18, L_19, L_20, L_21, L_22, L_23, L_24, L_25, L_26, L_27, L_28, L_29, L_30, L_31, L_32, L_33, L_34, L_35, L_40, L_41, L_42, L_43, L_44, L_45, L_47, L_48, L_50, L_53, L_57, L_59, L_60, L_61, L_63, L_64, L_97, L_100, L_101, L_102, L_103, L_122, L_130, L_216, L_255, L_364, L_400, L_402, L_420, L_728, L_768, L_999, L_1000, L_1093, L_1872, L_2000, L_9999, L_12345, L_252645135, L_858993459, L_1103515245, L_1431655765, Lm_1, Lm_2, Lm_8, bt_get b hb i hi]
  rcases N01 (tb_lt b i) with e | e <;> rw [e] <;> rfl
theorem X_min {h : wb_H} {a b : Nat} (ha : a ≤ 2147483647) (hb : b ≤ 2147483647) : q_JMath_min sc h (nN a) (nN b) = some (nN (min a b), h) := by
  rw [q_JMath_min_eq]
  by_cases e : b < a
  · rw [Nat.min_eq_right (by omega)]
    simp (disch := omega) only [L_0, L_1, L_2, L_3, L_4, L_5, L_6, L_7, L_8, L_9, L_10, L_11, L_12, L_13, L_14, L_15, L_16, L_17, L_18, L_19, L_20, L_21, L_22, L_23, L_24, L_25, L_26, L_27, L_28, L_29, L_30, L_31, L_32, L_33, L_34, L_35, L_40, L_41, L_42, L_43, L_44, L_45, L_47, L_48, L_50, L_53, L_57, L_59, L_60, L_61, L_63, L_64, L_97, L_100, L_101, L_102, L_103, L_122, L_130, L_216, L_255, L_364, L_400, L_402, L_420, L_728, L_768, L_999, L_1000, L_1093, L_1872, L_2000, L_9999, L_12345, L_252645135, L_858993459, L_1103515245, L_1431655765, Lm_1, Lm_2, Lm_8, N_zero, N_cast, N_add, N_mul, N_sub, N_addM, N_lt_tp, N_lt_fp, N_le_tp, N_le_fp, N_eq_tp, N_eq_fp, MN_ltp, MN_lep, NM_ltp, NM_lep, NM_eqp, MN_eqp, MM_lt_tp, MM_lt_fp, MM_le_tp, MM_le_fp, MM_eq_tp, MM_eq_fp, N_cl, N_in_t, N_in_f, M_in, N_div, N_rem, N_nb0, N_nb1, cond_true, cond_false, Bool.not_true, Bool.not_false, Bool.and_true, Bool.true_and, Bool.and_false, Bool.false_and, decide_true, decide_false, Option.bind_some, Option.bind_none]
  · rw [Nat.min_eq_left (by omega)]
    simp (disch := omega) only [L_0, L_1, L_2, L_3, L_4, L_5, L_6, L_7, L_8, L_9, L_10, L_11, L_12, L_13, L_14, L_15, L_16, L_17, L_18, L_19, L_20, L_21, L_22, L_23, L_24, L_25, L_26, L_27, L_28, L_29, L_30, L_31, L_32, L_33, L_34, L_35, L_40, L_41, L_42, L_43, L_44, L_45, L_47, L_48, L_50, L_53, L_57, L_59, L_60, L_61, L_63, L_64, L_97, L_100, L_101, L_102, L_103, L_122, L_130, L_216, L_255, L_364, L_400, L_402, L_420, L_728, L_768, L_999, L_1000, L_1093, L_1872, L_2000, L_9999, L_12345, L_252645135, L_858993459, L_1103515245, L_1431655765, Lm_1, Lm_2, Lm_8, N_zero, N_cast, N_add, N_mul, N_sub, N_addM, N_lt_tp, N_lt_fp, N_le_tp, N_le_fp, N_eq_tp, N_eq_fp, MN_ltp, MN_lep, NM_ltp, NM_lep, NM_eqp, MN_eqp, MM_lt_tp, MM_lt_fp, MM_le_tp, MM_le_fp, MM_eq_tp, MM_eq_fp, N_cl, N_in_t, N_in_f, M_in, N_div, N_rem, N_nb0, N_nb1, cond_true, cond_false, Bool.not_true, Bool.not_false, Bool.and_true, Bool.true_and, Bool.and_false, Bool.false_and, decide_true, decide_false, Option.bind_some, Option.bind_none]
theorem X_moveTo {h : wb_H} {i p e : Nat} (hi : i < 6) (hp : p < 6) (h1 : h.2.2 11 0 0 = q + 1) (hq : q < 2) (h2 : h.1 50 q i = nN e) (he : e ≤ 6) : q_Evening_moveTo sc h (nN i) (nN p) = some (wb_iu (wb_iu (wb_iu h 28 0 i (nN p)) 27 0 p (nN i)) 31 0 p (nN (min p e))) := by
  have g1 : decide (0 < q + 1) = true := decide_eq_true (by omega)
  have g3 : decide (q < 2) = true := decide_eq_true hq
  rw [q_Evening_moveTo_eq]
  simp (disch := omega) only [wb_iu_2, h1, Nat.add_sub_cancel, g1, g3, L_0, L_1, L_2, L_3, L_4, L_5, L_6, L_7, L_8, L_9, L_10, L_11, L_12, L_13, L_14, L_15, L_16, L_17, L_18, L_19, L_20, L_21, L_22, L_23, L_24, L_25, L_26, L_27, L_28, L_29, L_30, L_31, L_32, L_33, L_34, L_35, L_40, L_41, L_42, L_43, L_44, L_45, L_47, L_48, L_50, L_53, L_57, L_59, L_60, L_61, L_63, L_64, L_97, L_100, L_101, L_102, L_103, L_122, L_130, L_216, L_255, L_364, L_400, L_402, L_420, L_728, L_768, L_999, L_1000, L_1093, L_1872, L_2000, L_9999, L_12345, L_252645135, L_858993459, L_1103515245, L_1431655765, Lm_1, Lm_2, Lm_8, N_zero, N_cast, N_add, N_mul, N_sub, N_addM, N_lt_tp, N_lt_fp, N_le_tp, N_le_fp, N_eq_tp, N_eq_fp, MN_ltp, MN_lep, NM_ltp, NM_lep, NM_eqp, MN_eqp, MM_lt_tp, MM_lt_fp, MM_le_tp, MM_le_fp, MM_eq_tp, MM_eq_fp, N_cl, N_in_t, N_in_f, M_in, N_div, N_rem, N_nb0, N_nb1, cond_true, cond_false, Bool.not_true, Bool.not_false, Bool.and_true, Bool.true_and, Bool.and_false, Bool.false_and, decide_true, decide_false, Option.bind_some, Option.bind_none, iu_nt (show 50 ≠ 27 by decide), iu_nt (show 50 ≠ 28 by decide), h2, X_min]
theorem X_stOf {h : wb_H} {o w i : Nat} (ho : o < 44) (hw : w ≤ 4) (hi : i < 6) : q_Standing_of sc h o (nN w) (nN i) = some (h.1 54 o (6 * w + i), h) := by
  have g : decide (o < 44) = true := decide_eq_true ho
  rw [q_Standing_of_eq]
  simp (disch := omega) only [g, L_0, L_1, L_2, L_3, L_4, L_5, L_6, L_7, L_8, L_9, L_10, L_11, L_12, L_13, L_14, L_15, L_16, L_17, L_18, L_19, L_20, L_21, L_22, L_23, L_24, L_25, L_26, L_27, L_28, L_29, L_30, L_31, L_32, L_33, L_34, L_35, L_40, L_41, L_42, L_43, L_44, L_45, L_47, L_48, L_50, L_53, L_57, L_59, L_60, L_61, L_63, L_64, L_97, L_100, L_101, L_102, L_103, L_122, L_130, L_216, L_255, L_364, L_400, L_402, L_420, L_728, L_768, L_999, L_1000, L_1093, L_1872, L_2000, L_9999, L_12345, L_252645135, L_858993459, L_1103515245, L_1431655765, Lm_1, Lm_2, Lm_8, N_zero, N_cast, N_add, N_mul, N_sub, N_addM, N_lt_tp, N_lt_fp, N_le_tp, N_le_fp, N_eq_tp, N_eq_fp, MN_ltp, MN_lep, NM_ltp, NM_lep, NM_eqp, MN_eqp, MM_lt_tp, MM_lt_fp, MM_le_tp, MM_le_fp, MM_eq_tp, MM_eq_fp, N_cl, N_in_t, N_in_f, M_in, N_div, N_rem, N_nb0, N_nb1, cond_true, cond_false, Bool.not_true, Bool.not_false, Bool.and_true, Bool.true_and, Bool.and_false, Bool.false_and, decide_true, decide_false, Option.bind_some, Option.bind_none]
  rw [Nat.mul_comm]
theorem X_sureOf {h : wb_H} {i b u : Nat} (hq : q < 2) (hi : i < 6) (hb : b < 2) (hu : h.1 49 q i = nN u) : q_Plan_sureOf sc h q (nN i) (nN b) = some (nN (if b = 1 then 10 else u), h) := by
  have g : decide (q < 2) = true := decide_eq_true hq
  rw [q_Plan_sureOf_eq]
  rcases N01 hb with e | e
  · rw [if_neg (by omega), e]
    simp (disch := omega) only [g, L_0, L_1, L_2, L_3, L_4, L_5, L_6, L_7, L_8, L_9, L_10, L_11, L_12, L_13, L_14, L_15, L_16, L_17, L_18, L_19, L_20, L_21, L_22, L_23, L_24, L_25, L_26, L_27, L_28, L_29, L_30, L_31, L_32, L_33, L_34, L_35, L_40, L_41, L_42, L_43, L_44, L_45, L_47, L_48, L_50, L_53, L_57, L_59, L_60, L_61, L_63, L_64, L_97, L_100, L_101, L_102, L_103, L_122, L_130, L_216, L_255, L_364, L_400, L_402, L_420, L_728, L_768, L_999, L_1000, L_1093, L_1872, L_2000, L_9999, L_12345, L_252645135, L_858993459, L_1103515245, L_1431655765, Lm_1, Lm_2, Lm_8, N_zero, N_cast, N_add, N_mul, N_sub, N_addM, N_lt_tp, N_lt_fp, N_le_tp, N_le_fp, N_eq_tp, N_eq_fp, MN_ltp, MN_lep, NM_ltp, NM_lep, NM_eqp, MN_eqp, MM_lt_tp, MM_lt_fp, MM_le_tp, MM_le_fp, MM_eq_tp, MM_eq_fp, N_cl, N_in_t, N_in_f, M_in, N_div, N_rem, N_nb0, N_nb1, cond_true, cond_false, Bool.not_true, Bool.not_false, Bool.and_true, Bool.true_and, Bool.and_false, Bool.false_and, decide_true, decide_false, Option.bind_some, Option.bind_none, hu]
  · rw [if_pos e, e]
    simp (disch := omega) only [L_0, L_1, L_2, L_3, L_4, L_5, L_6, L_7, L_8, L_9, L_10, L_11, L_12, L_13, L_14, L_15, L_16, L_17, L_18, L_19, L_20, L_21, L_22, L_23, L_24, L_25, L_26, L_27, L_28, L_29, L_30, L_31, L_32, L_33, L_34, L_35, L_40, L_41, L_42, L_43, L_44, L_45, L_47, L_48, L_50, L_53, L_57, L_59, L_60, L_61, L_63, L_64, L_97, L_100, L_101, L_102, L_103, L_122, L_130, L_216, L_255, L_364, L_400, L_402, L_420, L_728, L_768, L_999, L_1000, L_1093, L_1872, L_2000, L_9999, L_12345, L_252645135, L_858993459, L_1103515245, L_1431655765, Lm_1, Lm_2, Lm_8, N_zero, N_cast, N_add, N_mul, N_sub, N_addM, N_lt_tp, N_lt_fp, N_le_tp, N_le_fp, N_eq_tp, N_eq_fp, MN_ltp, MN_lep, NM_ltp, NM_lep, NM_eqp, MN_eqp, MM_lt_tp, MM_lt_fp, MM_le_tp, MM_le_fp, MM_eq_tp, MM_eq_fp, N_cl, N_in_t, N_in_f, M_in, N_div, N_rem, N_nb0, N_nb1, cond_true, cond_false, Bool.not_true, Bool.not_false, Bool.and_true, Bool.true_and, Bool.and_false, Bool.false_and, decide_true, decide_false, Option.bind_some, Option.bind_none]
theorem X_habitOf {h : wb_H} {i b u v : Nat} (hq : q < 2) (hi : i < 6) (hb : b < 2) (hu : h.1 51 q i = nN u) (hv : v ≤ 9) : q_Plan_habitOf sc h q (nN i) (nN b) (ovI v) = some (nN (if b = 1 then 0 else if v = 9 then u else v), h) := by
  have g : decide (q < 2) = true := decide_eq_true hq
  rw [q_Plan_habitOf_eq]
  unfold ovI
  rcases N01 hb with e | e
  · rw [if_neg (show ¬ b = 1 by omega), e]
    by_cases k : v = 9
    · rw [if_pos k, if_pos k]
      simp (disch := omega) only [g, L_0, L_1, L_2, L_3, L_4, L_5, L_6, L_7, L_8, L_9, L_10, L_11, L_12, L_13, L_14, L_15, L_16, L_17, L_18, L_19, L_20, L_21, L_22, L_23, L_24, L_25, L_26, L_27, L_28, L_29, L_30, L_31, L_32, L_33, L_34, L_35, L_40, L_41, L_42, L_43, L_44, L_45, L_47, L_48, L_50, L_53, L_57, L_59, L_60, L_61, L_63, L_64, L_97, L_100, L_101, L_102, L_103, L_122, L_130, L_216, L_255, L_364, L_400, L_402, L_420, L_728, L_768, L_999, L_1000, L_1093, L_1872, L_2000, L_9999, L_12345, L_252645135, L_858993459, L_1103515245, L_1431655765, Lm_1, Lm_2, Lm_8, N_zero, N_cast, N_add, N_mul, N_sub, N_addM, N_lt_tp, N_lt_fp, N_le_tp, N_le_fp, N_eq_tp, N_eq_fp, MN_ltp, MN_lep, NM_ltp, NM_lep, NM_eqp, MN_eqp, MM_lt_tp, MM_lt_fp, MM_le_tp, MM_le_fp, MM_eq_tp, MM_eq_fp, N_cl, N_in_t, N_in_f, M_in, N_div, N_rem, N_nb0, N_nb1, cond_true, cond_false, Bool.not_true, Bool.not_false, Bool.and_true, Bool.true_and, Bool.and_false, Bool.false_and, decide_true, decide_false, Option.bind_some, Option.bind_none, hu]
    · rw [if_neg k, if_neg k]
      simp (disch := omega) only [L_0, L_1, L_2, L_3, L_4, L_5, L_6, L_7, L_8, L_9, L_10, L_11, L_12, L_13, L_14, L_15, L_16, L_17, L_18, L_19, L_20, L_21, L_22, L_23, L_24, L_25, L_26, L_27, L_28, L_29, L_30, L_31, L_32, L_33, L_34, L_35, L_40, L_41, L_42, L_43, L_44, L_45, L_47, L_48, L_50, L_53, L_57, L_59, L_60, L_61, L_63, L_64, L_97, L_100, L_101, L_102, L_103, L_122, L_130, L_216, L_255, L_364, L_400, L_402, L_420, L_728, L_768, L_999, L_1000, L_1093, L_1872, L_2000, L_9999, L_12345, L_252645135, L_858993459, L_1103515245, L_1431655765, Lm_1, Lm_2, Lm_8, N_zero, N_cast, N_add, N_mul, N_sub, N_addM, N_lt_tp, N_lt_fp, N_le_tp, N_le_fp, N_eq_tp, N_eq_fp, MN_ltp, MN_lep, NM_ltp, NM_lep, NM_eqp, MN_eqp, MM_lt_tp, MM_lt_fp, MM_le_tp, MM_le_fp, MM_eq_tp, MM_eq_fp, N_cl, N_in_t, N_in_f, M_in, N_div, N_rem, N_nb0, N_nb1, cond_true, cond_false, Bool.not_true, Bool.not_false, Bool.and_true, Bool.true_and, Bool.and_false, Bool.false_and, decide_true, decide_false, Option.bind_some, Option.bind_none]
  · rw [if_pos e, e]
    simp (disch := omega) only [L_0, L_1, L_2, L_3, L_4, L_5, L_6, L_7, L_8, L_9, L_10, L_11, L_12, L_13, L_14, L_15, L_16, L_17, L_18, L_19, L_20, L_21, L_22, L_23, L_24, L_25, L_26, L_27, L_28, L_29, L_30, L_31, L_32, L_33, L_34, L_35, L_40, L_41, L_42, L_43, L_44, L_45, L_47, L_48, L_50, L_53, L_57, L_59, L_60, L_61, L_63, L_64, L_97, L_100, L_101, L_102, L_103, L_122, L_130, L_216, L_255, L_364, L_400, L_402, L_420, L_728, L_768, L_999, L_1000, L_1093, L_1872, L_2000, L_9999, L_12345, L_252645135, L_858993459, L_1103515245, L_1431655765, Lm_1, Lm_2, Lm_8, N_zero, N_cast, N_add, N_mul, N_sub, N_addM, N_lt_tp, N_lt_fp, N_le_tp, N_le_fp, N_eq_tp, N_eq_fp, MN_ltp, MN_lep, NM_ltp, NM_lep, NM_eqp, MN_eqp, MM_lt_tp, MM_lt_fp, MM_le_tp, MM_le_fp, MM_eq_tp, MM_eq_fp, N_cl, N_in_t, N_in_f, M_in, N_div, N_rem, N_nb0, N_nb1, cond_true, cond_false, Bool.not_true, Bool.not_false, Bool.and_true, Bool.true_and, Bool.and_false, Bool.false_and, decide_true, decide_false, Option.bind_some, Option.bind_none]
theorem X_arrange_L {h0 : wb_H} {l own : Nat} (hT : T_ok T) (hR : R_ok T R) (hX : XT h0 q T) (hS : Std h0 0 T R) (hl : l < 2 ^ tn T) (ho : own < 64) : ∀ k j, j + k = tn T → ∀ h, inA h0 h q T (rwith R l own) j → Ok (q_Evening_arrange_L16 sc h q 0 (nN l) (nN own) (nN j)) (fun h' => inA h0 h' q T (rwith R l own) (tn T)) := by
  have p64 := pow2_64 hT.1
  have n6 := hT.1
  intro k
  induction k with
  | zero =>
    intro j hj h I
    rw [Nat.add_zero] at hj
    subst hj
    rw [q_Evening_arrange_L16_eq]
    simp (disch := omega) only [L_0, L_1, L_2, L_3, L_4, L_5, L_6, L_7, L_8, L_9, L_10, L_11, L_12, L_13, L_14, L_15, L_16, L_17, L_18, L_19, L_20, L_21, L_22, L_23, L_24, L_25, L_26, L_27, L_28, L_29, L_30, L_31, L_32, L_33, L_34, L_35, L_40, L_41, L_42, L_43, L_44, L_45, L_47, L_48, L_50, L_53, L_57, L_59, L_60, L_61, L_63, L_64, L_97, L_100, L_101, L_102, L_103, L_122, L_130, L_216, L_255, L_364, L_400, L_402, L_420, L_728, L_768, L_999, L_1000, L_1093, L_1872, L_2000, L_9999, L_12345, L_252645135, L_858993459, L_1103515245, L_1431655765, Lm_1, Lm_2, Lm_8, N_zero, N_cast, N_add, N_mul, N_sub, N_addM, N_lt_tp, N_lt_fp, N_le_tp, N_le_fp, N_eq_tp, N_eq_fp, MN_ltp, MN_lep, NM_ltp, NM_lep, NM_eqp, MN_eqp, MM_lt_tp, MM_lt_fp, MM_le_tp, MM_le_fp, MM_eq_tp, MM_eq_fp, N_cl, N_in_t, N_in_f, M_in, N_div, N_rem, N_nb0, N_nb1, cond_true, cond_false, Bool.not_true, Bool.not_false, Bool.and_true, Bool.true_and, Bool.and_false, Bool.false_and, decide_true, decide_false, Option.bind_some, Option.bind_none, I.2.2.1]
    exact Ok_some I
  | succ k ih =>
    intro j hj h I
    obtain ⟨I1, I2, I3, I4⟩ := I
    have hjn : j < tn T := by omega
    have X1 := XT_fr I1 rfl hX
    obtain ⟨a1, a2, a3, a4, a5, a6, a7, a8, a9, a10, a11, a12⟩ := X1
    have g2 : decide (q < 2) = true := decide_eq_true a1
    have g44 : decide (0 < 44) = true := rfl
    have hp := hR.1 j hjn
    have hov := hR.2.2.2.1 j hjn
    have s0 : h.1 54 0 (6 * 0 + j) = nN (rpl R j) := by rw [Nat.mul_zero, Nat.zero_add]; exact (Fr_i I1 (by rfl)).trans (hS.1 j hjn)
    have s1 : h.1 54 0 (6 * 1 + j) = ovI (rov R j) := (Fr_i I1 (by rfl)).trans (hS.2.1 j hjn)
    rw [q_Evening_arrange_L16_eq]
    simp (disch := omega) only [L_0, L_1, L_2, L_3, L_4, L_5, L_6, L_7, L_8, L_9, L_10, L_11, L_12, L_13, L_14, L_15, L_16, L_17, L_18, L_19, L_20, L_21, L_22, L_23, L_24, L_25, L_26, L_27, L_28, L_29, L_30, L_31, L_32, L_33, L_34, L_35, L_40, L_41, L_42, L_43, L_44, L_45, L_47, L_48, L_50, L_53, L_57, L_59, L_60, L_61, L_63, L_64, L_97, L_100, L_101, L_102, L_103, L_122, L_130, L_216, L_255, L_364, L_400, L_402, L_420, L_728, L_768, L_999, L_1000, L_1093, L_1872, L_2000, L_9999, L_12345, L_252645135, L_858993459, L_1103515245, L_1431655765, Lm_1, Lm_2, Lm_8, N_zero, N_cast, N_add, N_mul, N_sub, N_addM, N_lt_tp, N_lt_fp, N_le_tp, N_le_fp, N_eq_tp, N_eq_fp, MN_ltp, MN_lep, NM_ltp, NM_lep, NM_eqp, MN_eqp, MM_lt_tp, MM_lt_fp, MM_le_tp, MM_le_fp, MM_eq_tp, MM_eq_fp, N_cl, N_in_t, N_in_f, M_in, N_div, N_rem, N_nb0, N_nb1, cond_true, cond_false, Bool.not_true, Bool.not_false, Bool.and_true, Bool.true_and, Bool.and_false, Bool.false_and, decide_true, decide_false, Option.bind_some, Option.bind_none, I3, g2, g44, X_hasBit (show l < 64 by omega) (show j < 6 by omega), bt_or2 l (show l < 64 by omega) own ho]
    rw [X_sureOf a1 (by omega) (tb_lt l j) (a8 j hjn)]
    simp (disch := omega) only [L_0, L_1, L_2, L_3, L_4, L_5, L_6, L_7, L_8, L_9, L_10, L_11, L_12, L_13, L_14, L_15, L_16, L_17, L_18, L_19, L_20, L_21, L_22, L_23, L_24, L_25, L_26, L_27, L_28, L_29, L_30, L_31, L_32, L_33, L_34, L_35, L_40, L_41, L_42, L_43, L_44, L_45, L_47, L_48, L_50, L_53, L_57, L_59, L_60, L_61, L_63, L_64, L_97, L_100, L_101, L_102, L_103, L_122, L_130, L_216, L_255, L_364, L_400, L_402, L_420, L_728, L_768, L_999, L_1000, L_1093, L_1872, L_2000, L_9999, L_12345, L_252645135, L_858993459, L_1103515245, L_1431655765, Lm_1, Lm_2, Lm_8, N_zero, N_cast, N_add, N_mul, N_sub, N_addM, N_lt_tp, N_lt_fp, N_le_tp, N_le_fp, N_eq_tp, N_eq_fp, MN_ltp, MN_lep, NM_ltp, NM_lep, NM_eqp, MN_eqp, MM_lt_tp, MM_lt_fp, MM_le_tp, MM_le_fp, MM_eq_tp, MM_eq_fp, N_cl, N_in_t, N_in_f, M_in, N_div, N_rem, N_nb0, N_nb1, cond_true, cond_false, Bool.not_true, Bool.not_false, Bool.and_true, Bool.true_and, Bool.and_false, Bool.false_and, decide_true, decide_false, Option.bind_some, Option.bind_none, X_hasBit (bt_lt_or l (show l < 64 by omega) own ho) (show j < 6 by omega)]
    generalize e1 : wb_iu h 29 0 j (nN (if tb l j = 1 then 10 else tsu T j)) = k1
    have t1 : k1.1 54 0 (6 * 1 + j) = ovI (rov R j) := by rw [← e1, iu_nt (by decide)]; exact s1
    have t2 : k1.1 51 q j = nN (tht T j) := by rw [← e1, iu_nt (by decide)]; exact a10 j hjn
    rw [X_stOf (by decide) (by decide) (by omega), t1]
    simp only [Option.bind_some]
    rw [X_habitOf a1 (by omega) (tb_lt _ j) t2 (by omega)]
    simp only [Option.bind_some]
    generalize e2 : wb_iu k1 30 0 j (nN (if tb (l ||| own) j = 1 then 0 else if rov R j = 9 then tht T j else rov R j)) = k2
    have u1 : k2.1 54 0 (6 * 0 + j) = nN (rpl R j) := by rw [← e2, iu_nt (by decide), ← e1, iu_nt (by decide)]; exact s0
    have u2 : k2.2.2 11 0 0 = q + 1 := by rw [← e2, ← e1]; exact I2
    have u3 : k2.1 50 q j = nN (tse T j) := by rw [← e2, iu_nt (by decide), ← e1, iu_nt (by decide)]; exact a9 j hjn
    rw [X_stOf (by decide) (by decide) (by omega), u1]
    simp only [Option.bind_some]
    rw [X_moveTo (by omega) (by omega) u2 a1 u3 (hT.2.2.2.2.2.2.2.1 j hjn)]
    simp only [Option.bind_some]
    have eh : (if tb (l ||| own) j = 1 then 0 else if rov R j = 9 then tht T j else rov R j) = ahb (mkA T (rwith R l own)) j := by
      rw [ahb_mk, tb_or l (by omega) own ho j (by omega)]
      show _ = if tb l j = 1 then 0 else if (if tb own j = 1 then 0 else rov R j) = 9 then tht T j else (if tb own j = 1 then 0 else rov R j)
      have := tb_lt own j
      by_cases z1 : tb l j = 1
      · simp [z1]
      · by_cases z2 : tb own j = 1
        · simp [z1, z2]
        · simp [z1, z2]
    have F12 : Fr SA h k2 := by rw [← e2, ← e1]; exact Fr_trans (Fr_iu rfl) (Fr_iu rfl)
    refine ih (j + 1) (by omega) _ ⟨Fr_trans I1 (Fr_trans F12 (Fr_trans (Fr_trans (Fr_iu rfl) (Fr_iu rfl)) (Fr_iu rfl))), u2, ?_, ?_⟩
    · rw [iu_nt (by decide), iu_nt (by decide), iu_nt (by decide), ← e2, iu_nt (by decide), ← e1, iu_nt (by decide)]; exact I3
    · intro i hi
      rw [iu_nt (show 29 ≠ 31 by decide), iu_nt (show 29 ≠ 27 by decide), iu_nt (show 29 ≠ 28 by decide), iu_nt (show 30 ≠ 31 by decide), iu_nt (show 30 ≠ 27 by decide), iu_nt (show 30 ≠ 28 by decide), iu_nt (show 28 ≠ 31 by decide), iu_nt (show 28 ≠ 27 by decide), iu_nt (show 27 ≠ 31 by decide)]
      have hrp : ∀ i, rpl (rwith R l own) i = rpl R i := fun _ => rfl
      rw [hrp]
      by_cases z : i = j
      · rw [z, ← e2, iu_nt (show 29 ≠ 30 by decide), ← e1, iu_at, iu_at, iu_at, iu_at, iu_at, eh]
        exact ⟨rfl, rfl, rfl, rfl, rfl⟩
      · have hin : i < j := by omega
        have hne : rpl R i ≠ rpl R j := fun y => z (hR.2.1 i j (by omega) hjn y)
        obtain ⟨v1, v2, v3, v4, v5⟩ := I4 i hin
        rw [hrp] at v3 v4 v5
        rw [← e2, iu_nt (show 29 ≠ 30 by decide), iu_ne z, ← e1, iu_ne z, iu_nt (show 30 ≠ 29 by decide), iu_ne z, iu_nt (show 28 ≠ 30 by decide), iu_nt (show 28 ≠ 29 by decide), iu_ne hne, iu_nt (show 27 ≠ 28 by decide), iu_nt (show 27 ≠ 30 by decide), iu_nt (show 27 ≠ 29 by decide), iu_ne hne, iu_nt (show 31 ≠ 27 by decide), iu_nt (show 31 ≠ 28 by decide), iu_nt (show 31 ≠ 30 by decide), iu_nt (show 31 ≠ 29 by decide)]
        exact ⟨v1, v2, v3, v4, v5⟩
theorem XA_mk {h0 h : wb_H} {R' : wR} (hT : T_ok T) (hR : R_ok T R') (hX : XT h0 q T) (I : inA h0 h q T R' (tn T)) : XA h q (mkA T R') := by
  obtain ⟨I1, I2, I3, I4⟩ := I
  obtain ⟨a1, a2, a3, a4, a5, a6, a7, a8, a9, a10, a11, a12⟩ := XT_fr I1 rfl hX
  refine ⟨a1, I2, I3, a3, fun p hp => ?_, fun p hp => ?_, fun i hi => (I4 i hi).2.2.1, fun i hi => (I4 i hi).1, fun i hi => (I4 i hi).2.1, fun i hi e => ?_, fun i sg b u d hi e => ?_⟩
  · obtain ⟨i, hi, e⟩ := hR.2.2.1 p hp
    rw [aho_mk, fnd_eq hi e hR.2.1, ← e]
    exact (I4 i hi).2.2.2.1
  · obtain ⟨i, hi, e⟩ := hR.2.2.1 p hp
    unfold sk
    rw [aho_mk, fnd_eq hi e hR.2.1, ← e]
    exact (I4 i hi).2.2.2.2
  · rw [ahb_mk] at e
    have := hR.2.2.2.1 i hi
    refine a11 i hi ?_
    split at e
    · omega
    · split at e <;> omega
  · have o := hR.2.2.2.1 i hi
    rw [ahb_mk] at e
    refine a12 i sg b u d hi ?_
    split at e
    · omega
    · split at e <;> omega
theorem X_arrange {h : wb_H} {l own : Nat} (hT : T_ok T) (hR : R_ok T R) (hX : XT h q T) (hS : Std h 0 T R) (hl : l < 2 ^ tn T) (ho : own < 64) : Ok (q_Evening_arrange sc h q 0 (nN l) (nN own)) (fun h' => Fr SA h h' ∧ inA h h' q T (rwith R l own) (tn T) ∧ XA h' q (mkA T (rwith R l own))) := by
  have g2 : decide (q < 2) = true := decide_eq_true hX.1
  rw [q_Evening_arrange_eq]
  simp only [g2, cond_true, L_0, L_1, L_2, L_3, L_4, L_5, L_6, L_7, L_8, L_9, L_10, L_11, L_12, L_13, L_14, L_15, L_16, L_17, L_18, L_19, L_20, L_21, L_22, L_23, L_24, L_25, L_26, L_27, L_28, L_29, L_30, L_31, L_32, L_33, L_34, L_35, L_40, L_41, L_42, L_43, L_44, L_45, L_47, L_48, L_50, L_53, L_57, L_59, L_60, L_61, L_63, L_64, L_97, L_100, L_101, L_102, L_103, L_122, L_130, L_216, L_255, L_364, L_400, L_402, L_420, L_728, L_768, L_999, L_1000, L_1093, L_1872, L_2000, L_9999, L_12345, L_252645135, L_858993459, L_1103515245, L_1431655765, Lm_1, Lm_2, Lm_8]
  have e : (wb_mu h 11 0 0 (q + 1)).1 15 q 0 = nN (tn T) := hX.2.1
  rw [e]
  refine Ok_w (X_arrange_L (sc := sc) hT hR hX hS hl ho (tn T) 0 (Nat.zero_add _) _ ⟨Fr_trans (Fr_mu rfl) (Fr_iu rfl), ?_, ?_, fun i hi => by omega⟩) ?_
  · rw [wb_iu_2, wb_mu_3, if_pos ⟨rfl, rfl, rfl⟩]
  · rw [iu_at]
  · intro h' I
    exact ⟨I.1, I, XA_mk hT (rwith_ok hR hl) hX I⟩
end
