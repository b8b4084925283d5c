/-! One night goes by, on both sides. -/
def mixI (a b : Int32) : Int32 := (((((a ^^^ b) * (Int32.ofInt 1103515245)) + (Int32.ofInt 12345)) ^^^ (((((a ^^^ b) * (Int32.ofInt 1103515245)) + (Int32.ofInt 12345))).toUInt32 >>> (((Int32.ofInt 15)).toUInt32 &&& Int32.toUInt32 31)).toInt32))
def LOT (s x : Int32) : Int32 := wb_rem ((mixI (mixI s (nN 53)) x).toUInt32 >>> (((Int32.ofInt 1)).toUInt32 &&& Int32.toUInt32 31)).toInt32 (nN 10)
def wN (A : wa) (L : Nat → Int32) (v : Nat) : Nat → Nat
  | 0 => if nN (aB A) ≤ L (16 * v) then 0 else 1
  | i + 1 => if nN (asu A i) ≤ L (16 * v + 1 + i) then wN A L v i else wN A L v i ||| 2 ^ (i + 1)
theorem tb_orh : ∀ w, w < 64 → ∀ k, k < 6 → ∀ j, j < 7 → (tb (w ||| 2 ^ (k + 1)) j = if j = k + 1 then 1 else tb w j) := by decide +kernel
theorem bt_or64 : ∀ w, w < 64 → ∀ i, i < 6 → (nN w ||| (nN 2 <<< (nN i &&& 31))) = nN (w ||| 2 ^ (i + 1)) := by decide +kernel
theorem tb_hi {w k : Nat} (h : w < 2 ^ k) : tb w k = 0 := by unfold tb; rw [Nat.div_eq_of_lt h]
theorem wN_lt (A : wa) (L : Nat → Int32) (v : Nat) : ∀ i, wN A L v i < 2 ^ (i + 1)
  | 0 => by rw [wN]; split <;> decide
  | i + 1 => by
    have ih := wN_lt A L v i
    have p : 2 ^ (i + 1) < 2 ^ (i + 1 + 1) := Nat.pow_lt_pow_right (by decide) (by omega)
    rw [wN]
    split
    · omega
    · exact Nat.or_lt_two_pow (by omega) p
theorem p2_64 {i : Nat} (h : i ≤ 5) : 2 ^ (i + 1) ≤ 64 := pow2_64 (show i + 1 ≤ 6 by omega)
theorem wN_keep {A : wa} {L : Nat → Int32} {v : Nat} : ∀ {k j : Nat}, k ≤ 6 → j ≤ k → tb (wN A L v k) j = tb (wN A L v j) j
  | 0, j, _, hj => by have : j = 0 := by omega
                      rw [this]
  | k + 1, j, hk, hj => by
    by_cases e : j = k + 1
    · rw [e]
    · have ih := wN_keep (A := A) (L := L) (v := v) (k := k) (j := j) (by omega) (by omega)
      have lt := wN_lt A L v k
      have := p2_64 (show k ≤ 5 by omega)
      rw [wN]
      split
      · exact ih
      · rw [tb_orh _ (by omega) k (by omega) j (by omega), if_neg e]
        exact ih
theorem wN_0 {A : wa} {L : Nat → Int32} {v n : Nat} (hn : n ≤ 6) : tb (wN A L v n) 0 = if nN (aB A) ≤ L (16 * v) then 0 else 1 := by
  rw [wN_keep hn (Nat.zero_le _), wN]
  split <;> rfl
theorem wN_i {A : wa} {L : Nat → Int32} {v n i : Nat} (hn : n ≤ 6) (hi : i < n) : tb (wN A L v n) (1 + i) = if nN (asu A i) ≤ L (16 * v + 1 + i) then 0 else 1 := by
  have lt := wN_lt A L v i
  have := p2_64 (show i ≤ 5 by omega)
  rw [Nat.add_comm 1 i, wN_keep hn (by omega), wN]
  split
  · exact tb_hi lt
  · rw [tb_orh _ (by omega) i (by omega) _ (by omega), if_pos rfl]
def feP (A : wa) (f o w p : Nat) : Nat := if fin A 0 w p = 2 then o else if fin A 0 w p ≠ tb w 0 then f else 0
theorem feP_le {A : wa} {f o w p : Nat} (hf : f ≤ 30) (ho : o ≤ 30) : feP A f o w p ≤ 30 := by unfold feP; split <;> (try split) <;> omega
def GL : List Nat := [37, 38, 3013, 3016, 3017]
theorem fin_binO {A : wa} (hA : wa_ok A) {p w : Nat} (hp : p < an A) : binO A p (sg w (aho A p)) (rr A 0 p w) = fin A 0 w p := by
  have e : (fun w => rr A 0 (an A) w % 3 ^ p) = rr A 0 p := funext fun w => rr_mod hA w (an A) p (by omega)
  have b := binO_W (r := rr A 0 p w) hA hp (sg_le w (aho A p))
  rw [e, Nat.mod_eq_of_lt (rr_lt hA 0 p w)] at b
  rw [fin_keep hA hp (by omega)]
  exact b.symm
theorem rr_next {A : wa} (hA : wa_ok A) {p w : Nat} (hp : p < an A) : rr A 0 (p + 1) w = rr A 0 p w + fin A 0 w p * 3 ^ p := by
  rw [rr_ne (by omega), ro_succ, fin_keep hA hp (by omega), Nat.mul_comm]
section
variable {sc : wb_X} {B : Nat}
theorem X_lot (h : wb_H) (a b : Int32) : q_Evening_lotOfTen sc h a b = some (LOT a b, h) := by
  rw [q_Evening_lotOfTen_eq, q_Evening_stir_eq]
  simp only [Option.bind_some]
  rw [q_Evening_stir_eq]
  rfl
theorem M_lot (h : wb_H) (b : Int32) : q_M_lotOf sc h b = some (LOT (h.1 21 0 49) b, h) := by
  rw [q_M_lotOf_eq, q_M_mixed_eq]
  simp only [Option.bind_some]
  rw [q_M_mixed_eq]
  rfl
theorem X_isWrong {h : wb_H} {i b x : Nat} (hi : i < 6) (hb : b < 2) (hx : x ≤ 2) (h1 : h.1 11 0 13 = nN b) (h2 : h.1 37 0 i = nN x) : q_Evening_isWrong sc h (nN i) = some (nN (if x < 2 ∧ x ≠ b then 1 else 0), h) := by
  rw [q_Evening_isWrong_eq]
  rcases N01 hb with e | e <;> subst e <;> rcases (show x = 0 ∨ x = 1 ∨ x = 2 by omega) with y | y | y <;> subst y <;> simp (disch := omega) only [L_0, L_1, L_2, L_3, L_4, L_5, L_6, L_7, L_8, L_9, L_10, L_11, L_12, L_13, L_14, L_15, L_16, L_17, L_18, L_19, L_20, L_21, L_22, L_23, L_24, L_25, L_26, L_27, L_28, L_29, L_30, L_31, L_32, L_33, L_34, L_35, L_40, L_41, L_42, L_43, L_44, L_45, L_47, L_48, L_50, L_53, L_57, L_59, L_60, L_61, L_63, L_64, L_97, L_100, L_101, L_102, L_103, L_122, L_130, L_216, L_255, L_364, L_400, L_402, L_420, L_728, L_768, L_999, L_1000, L_1093, L_1872, L_2000, L_9999, L_12345, L_252645135, L_858993459, L_1103515245, L_1431655765, Lm_1, Lm_2, Lm_8, N_zero, N_cast, N_add, N_mul, N_sub, N_addM, N_lt_tp, N_lt_fp, N_le_tp, N_le_fp, N_eq_tp, N_eq_fp, MN_ltp, MN_lep, NM_ltp, NM_lep, NM_eqp, MN_eqp, MM_lt_tp, MM_lt_fp, MM_le_tp, MM_le_fp, MM_eq_tp, MM_eq_fp, N_cl, N_in_t, N_in_f, M_in, N_div, N_rem, N_nb0, N_nb1, cond_true, cond_false, Bool.not_true, Bool.not_false, Bool.and_true, Bool.true_and, Bool.and_false, Bool.false_and, decide_true, decide_false, Option.bind_some, Option.bind_none, h1, h2] <;> rfl
theorem X_goBy {h : wb_H} {A : wa} {q v f o : Nat} {sd : Int32} {L : Nat → Int32} (hl : ∀ h x, q_Evening_lotOfTen sc h sd (nN x) = some (L x, h)) (hA : wa_ok A) (hX : XA h q A) (hE : XE h A 0) (hv : v ≤ 100000) (hf : f ≤ 30) (ho : o ≤ 30) (h8 : h.1 15 q 8 = nN f) (h9 : h.1 15 q 9 = nN o) : Ok (q_Evening_goBy sc h sd (nN v)) (fun h' => Fr GL h h' ∧ h'.1 11 0 13 = nN (tb (wN A L v (an A)) 0) ∧ h'.1 11 0 16 = nN (wrW A 0 (wN A L v (an A))) ∧ h'.1 11 0 17 = nN (sm (an A) (feP A f o (wN A L v (an A)))) ∧ ∀ i, i < an A → h'.1 37 0 i = nN (fin A 0 (wN A L v (an A)) (apl A i)) ∧ h'.1 38 0 i = nN (sg (wN A L v (an A)) i)) := by
  have n6 := hA.1
  have q2 := hX.1
  have g1 : decide (0 < q + 1) = true := decide_eq_true (by omega)
  have g3 : decide (q < 2) = true := decide_eq_true q2
  generalize ew : wN A L v (an A) = w
  have w0 : tb w 0 = if nN (aB A) ≤ L (16 * v) then 0 else 1 := by rw [← ew]; exact wN_0 n6
  have wi : ∀ i, i < an A → tb w (1 + i) = if nN (asu A i) ≤ L (16 * v + 1 + i) then 0 else 1 := fun i hi => by rw [← ew]; exact wN_i n6 hi
  have key : ∀ k p, p + k = an A → ∀ h', Fr GL h h' → h'.1 11 0 13 = nN (tb w 0) → h'.1 11 0 16 = nN (sm p (wrB A 0 w)) → h'.1 11 0 17 = nN (sm p (feP A f o w)) → (∀ p', p' < p → h'.1 37 0 (aho A p') = nN (fin A 0 w p') ∧ h'.1 38 0 (aho A p') = nN (sg w (aho A p'))) → Ok (q_Evening_goBy_L42 sc h' sd (nN v) (nN (rr A 0 p w)) (nN p)) (fun h' => Fr GL h h' ∧ h'.1 11 0 13 = nN (tb w 0) ∧ h'.1 11 0 16 = nN (wrW A 0 w) ∧ h'.1 11 0 17 = nN (sm (an A) (feP A f o w)) ∧ ∀ i, i < an A → h'.1 37 0 i = nN (fin A 0 w (apl A i)) ∧ h'.1 38 0 i = nN (sg w i)) := by
    intro k
    induction k with
    | zero =>
      intro p hp h' F r13 r16 r17 cells
      rw [Nat.add_zero] at hp
      subst hp
      have a3 := (XA_fr F rfl hX).2.2.1
      rw [q_Evening_goBy_L42_eq]
      simp (disch := omega) only [L_0, L_1, L_2, L_3, L_4, L_5, L_6, L_7, L_8, L_9, L_10, L_11, L_12, L_13, L_14, L_15, L_16, L_17, L_18, L_19, L_20, L_21, L_22, L_23, L_24, L_25, L_26, L_27, L_28, L_29, L_30, L_31, L_32, L_33, L_34, L_35, L_40, L_41, L_42, L_43, L_44, L_45, L_47, L_48, L_50, L_53, L_57, L_59, L_60, L_61, L_63, L_64, L_97, L_100, L_101, L_102, L_103, L_122, L_130, L_216, L_255, L_364, L_400, L_402, L_420, L_728, L_768, L_999, L_1000, L_1093, L_1872, L_2000, L_9999, L_12345, L_252645135, L_858993459, L_1103515245, L_1431655765, Lm_1, Lm_2, Lm_8, N_zero, N_cast, N_add, N_mul, N_sub, N_addM, N_lt_tp, N_lt_fp, N_le_tp, N_le_fp, N_eq_tp, N_eq_fp, MN_ltp, MN_lep, NM_ltp, NM_lep, NM_eqp, MN_eqp, MM_lt_tp, MM_lt_fp, MM_le_tp, MM_le_fp, MM_eq_tp, MM_eq_fp, N_cl, N_in_t, N_in_f, M_in, N_div, N_rem, N_nb0, N_nb1, cond_true, cond_false, Bool.not_true, Bool.not_false, Bool.and_true, Bool.true_and, Bool.and_false, Bool.false_and, decide_true, decide_false, Option.bind_some, Option.bind_none, a3]
      refine Ok_some ⟨F, r13, r16, r17, fun i hi => ?_⟩
      have hh := hA.2.2.1 i hi
      have := cells (apl A i) hh.1
      rw [hh.2] at this
      exact this
    | succ k ih =>
      intro p hp h' F r13 r16 r17 cells
      have hX' := XA_fr F rfl hX
      have a2 := hX'.2.1
      have a3 := hX'.2.2.1
      have a5 := hX'.2.2.2.2.1 p (by omega)
      have hh := hA.2.2.2.1 p (by omega)
      have a8 := hX'.2.2.2.2.2.2.2.1 (aho A p) hh.1
      have rl := rr_lt hA 0 p w
      have p3 : 3 ^ p ≤ 3 ^ 6 := Nat.pow_le_pow_right (by decide) (by omega)
      have e3 : (3 : Nat) ^ 6 = 729 := by decide
      have sl := sg_le w (aho A p)
      have fl := fin_le A 0 w p
      have tb0 := tb_lt w 0
      rw [q_Evening_goBy_L42_eq]
      simp (disch := omega) only [L_0, L_1, L_2, L_3, L_4, L_5, L_6, L_7, L_8, L_9, L_10, L_11, L_12, L_13, L_14, L_15, L_16, L_17, L_18, L_19, L_20, L_21, L_22, L_23, L_24, L_25, L_26, L_27, L_28, L_29, L_30, L_31, L_32, L_33, L_34, L_35, L_40, L_41, L_42, L_43, L_44, L_45, L_47, L_48, L_50, L_53, L_57, L_59, L_60, L_61, L_63, L_64, L_97, L_100, L_101, L_102, L_103, L_122, L_130, L_216, L_255, L_364, L_400, L_402, L_420, L_728, L_768, L_999, L_1000, L_1093, L_1872, L_2000, L_9999, L_12345, L_252645135, L_858993459, L_1103515245, L_1431655765, Lm_1, Lm_2, Lm_8, N_zero, N_cast, N_add, N_mul, N_sub, N_addM, N_lt_tp, N_lt_fp, N_le_tp, N_le_fp, N_eq_tp, N_eq_fp, MN_ltp, MN_lep, NM_ltp, NM_lep, NM_eqp, MN_eqp, MM_lt_tp, MM_lt_fp, MM_le_tp, MM_le_fp, MM_eq_tp, MM_eq_fp, N_cl, N_in_t, N_in_f, M_in, N_div, N_rem, N_nb0, N_nb1, cond_true, cond_false, Bool.not_true, Bool.not_false, Bool.and_true, Bool.true_and, Bool.and_false, Bool.false_and, decide_true, decide_false, Option.bind_some, Option.bind_none, a3, a5, hl, a8]
      have body : Ok (q_Evening_goBy_L122 sc h' sd (nN v) (nN (rr A 0 p w)) (nN p) (nN (aho A p)) (nN (sg w (aho A p))) (nN (sg w (aho A p))) (nN (aho A p))) (fun h' => Fr GL h h' ∧ h'.1 11 0 13 = nN (tb w 0) ∧ h'.1 11 0 16 = nN (wrW A 0 w) ∧ h'.1 11 0 17 = nN (sm (an A) (feP A f o w)) ∧ ∀ i, i < an A → h'.1 37 0 i = nN (fin A 0 w (apl A i)) ∧ h'.1 38 0 i = nN (sg w i)) := by
        rw [q_Evening_goBy_L122_eq]
        have F1 : Fr GL h' (wb_iu h' 38 0 (aho A p) (nN (sg w (aho A p)))) := Fr_iu rfl
        have bo := X_binO (sc := sc) (p := p) (s := sg w (aho A p)) (r := rr A 0 p w) hA (XA_fr F1 rfl hX') (XE_fr (Fr_trans F F1) rfl hE) (by omega) (by omega) sl
        rw [fin_binO hA (by omega)] at bo
        generalize e1 : wb_iu h' 38 0 (aho A p) (nN (sg w (aho A p))) = k1 at *
        simp (disch := omega) only [L_0, L_1, L_2, L_3, L_4, L_5, L_6, L_7, L_8, L_9, L_10, L_11, L_12, L_13, L_14, L_15, L_16, L_17, L_18, L_19, L_20, L_21, L_22, L_23, L_24, L_25, L_26, L_27, L_28, L_29, L_30, L_31, L_32, L_33, L_34, L_35, L_40, L_41, L_42, L_43, L_44, L_45, L_47, L_48, L_50, L_53, L_57, L_59, L_60, L_61, L_63, L_64, L_97, L_100, L_101, L_102, L_103, L_122, L_130, L_216, L_255, L_364, L_400, L_402, L_420, L_728, L_768, L_999, L_1000, L_1093, L_1872, L_2000, L_9999, L_12345, L_252645135, L_858993459, L_1103515245, L_1431655765, Lm_1, Lm_2, Lm_8, N_zero, N_cast, N_add, N_mul, N_sub, N_addM, N_lt_tp, N_lt_fp, N_le_tp, N_le_fp, N_eq_tp, N_eq_fp, MN_ltp, MN_lep, NM_ltp, NM_lep, NM_eqp, MN_eqp, MM_lt_tp, MM_lt_fp, MM_le_tp, MM_le_fp, MM_eq_tp, MM_eq_fp, N_cl, N_in_t, N_in_f, M_in, N_div, N_rem, N_nb0, N_nb1, cond_true, cond_false, Bool.not_true, Bool.not_false, Bool.and_true, Bool.true_and, Bool.and_false, Bool.false_and, decide_true, decide_false, Option.bind_some, Option.bind_none, e1, bo, t3_1, t3_2, iu_at]
        generalize e2 : wb_iu k1 37 0 (aho A p) (nN (fin A 0 w p)) = k2
        have F2 : Fr GL h k2 := by rw [← e2]; exact Fr_trans F (Fr_trans F1 (Fr_iu rfl))
        have s13 : k2.1 11 0 13 = nN (tb w 0) := by rw [← e2, iu_nt (by decide), ← e1, iu_nt (by decide)]; exact r13
        have s16 : k2.1 11 0 16 = nN (sm p (wrB A 0 w)) := by rw [← e2, iu_nt (by decide), ← e1, iu_nt (by decide)]; exact r16
        have s17 : k2.1 11 0 17 = nN (sm p (feP A f o w)) := by rw [← e2, iu_nt (by decide), ← e1, iu_nt (by decide)]; exact r17
        have s37 : k2.1 37 0 (aho A p) = nN (fin A 0 w p) := by rw [← e2, iu_at]
        have s2 : k2.2.2 11 0 0 = q + 1 := (XA_fr F2 rfl hX).2.1
        have s8 : k2.1 15 q 8 = nN f := (Fr_i F2 (by rfl)).trans h8
        have s9 : k2.1 15 q 9 = nN o := (Fr_i F2 (by rfl)).trans h9
        have cells2 : ∀ p', p' < p + 1 → k2.1 37 0 (aho A p') = nN (fin A 0 w p') ∧ k2.1 38 0 (aho A p') = nN (sg w (aho A p')) := fun p' hp' => by
          by_cases z : p' = p
          · rw [z]
            refine ⟨s37, ?_⟩
            rw [← e2, iu_nt (by decide), ← e1, iu_at]
          · have hh' := hA.2.2.2.1 p' (by omega)
            have ne : aho A p' ≠ aho A p := fun y => z (by rw [← hh'.2, ← hh.2, y])
            rw [← e2, iu_ne ne, iu_nt (show 38 ≠ 37 by decide), ← e1, iu_nt (show 37 ≠ 38 by decide), iu_ne ne]
            exact cells p' (by omega)
        have ih2 := ih (p + 1) (by omega)
        rw [rr_next hA (show p < an A by omega)] at ih2
        by_cases z2 : fin A 0 w p = 2
        · have eb : wrB A 0 w p = 0 := by unfold wrB; rw [if_neg (by omega)]
          have ef : feP A f o w p = o := by unfold feP; rw [if_pos z2]
          have ih3 := ih2 (wb_iu k2 11 0 17 (nN (sm p (feP A f o w) + o))) (Fr_trans F2 (Fr_iu rfl)) (by rw [iu_ne (by decide)]; exact s13) (by rw [iu_ne (by decide), sm, eb, Nat.add_zero]; exact s16) (by rw [iu_at, sm, ef]) (fun p' hp' => by rw [iu_nt (by decide), iu_nt (by decide)]; exact cells2 p' hp')
          rw [z2] at ih3
          simp (disch := omega) only [L_0, L_1, L_2, L_3, L_4, L_5, L_6, L_7, L_8, L_9, L_10, L_11, L_12, L_13, L_14, L_15, L_16, L_17, L_18, L_19, L_20, L_21, L_22, L_23, L_24, L_25, L_26, L_27, L_28, L_29, L_30, L_31, L_32, L_33, L_34, L_35, L_40, L_41, L_42, L_43, L_44, L_45, L_47, L_48, L_50, L_53, L_57, L_59, L_60, L_61, L_63, L_64, L_97, L_100, L_101, L_102, L_103, L_122, L_130, L_216, L_255, L_364, L_400, L_402, L_420, L_728, L_768, L_999, L_1000, L_1093, L_1872, L_2000, L_9999, L_12345, L_252645135, L_858993459, L_1103515245, L_1431655765, Lm_1, Lm_2, Lm_8, N_zero, N_cast, N_add, N_mul, N_sub, N_addM, N_lt_tp, N_lt_fp, N_le_tp, N_le_fp, N_eq_tp, N_eq_fp, MN_ltp, MN_lep, NM_ltp, NM_lep, NM_eqp, MN_eqp, MM_lt_tp, MM_lt_fp, MM_le_tp, MM_le_fp, MM_eq_tp, MM_eq_fp, N_cl, N_in_t, N_in_f, M_in, N_div, N_rem, N_nb0, N_nb1, cond_true, cond_false, Bool.not_true, Bool.not_false, Bool.and_true, Bool.true_and, Bool.and_false, Bool.false_and, decide_true, decide_false, Option.bind_some, Option.bind_none, z2, s2, Nat.add_sub_cancel, g1, g3, s17, s9]
          exact ih3
        · have iw := X_isWrong (sc := sc) (by omega) tb0 fl s13 s37
          by_cases z3 : fin A 0 w p = tb w 0
          · have eb : wrB A 0 w p = 0 := by unfold wrB; rw [if_neg (by omega)]
            have ef : feP A f o w p = 0 := by unfold feP; rw [if_neg z2, if_neg (by omega)]
            rw [if_neg (by omega)] at iw
            have ih3 := ih2 k2 F2 s13 (by rw [sm, eb, Nat.add_zero]; exact s16) (by rw [sm, ef, Nat.add_zero]; exact s17) cells2
            simp (disch := omega) only [L_0, L_1, L_2, L_3, L_4, L_5, L_6, L_7, L_8, L_9, L_10, L_11, L_12, L_13, L_14, L_15, L_16, L_17, L_18, L_19, L_20, L_21, L_22, L_23, L_24, L_25, L_26, L_27, L_28, L_29, L_30, L_31, L_32, L_33, L_34, L_35, L_40, L_41, L_42, L_43, L_44, L_45, L_47, L_48, L_50, L_53, L_57, L_59, L_60, L_61, L_63, L_64, L_97, L_100, L_101, L_102, L_103, L_122, L_130, L_216, L_255, L_364, L_400, L_402, L_420, L_728, L_768, L_999, L_1000, L_1093, L_1872, L_2000, L_9999, L_12345, L_252645135, L_858993459, L_1103515245, L_1431655765, Lm_1, Lm_2, Lm_8, N_zero, N_cast, N_add, N_mul, N_sub, N_addM, N_lt_tp, N_lt_fp, N_le_tp, N_le_fp, N_eq_tp, N_eq_fp, MN_ltp, MN_lep, NM_ltp, NM_lep, NM_eqp, MN_eqp, MM_lt_tp, MM_lt_fp, MM_le_tp, MM_le_fp, MM_eq_tp, MM_eq_fp, N_cl, N_in_t, N_in_f, M_in, N_div, N_rem, N_nb0, N_nb1, cond_true, cond_false, Bool.not_true, Bool.not_false, Bool.and_true, Bool.true_and, Bool.and_false, Bool.false_and, decide_true, decide_false, Option.bind_some, Option.bind_none, iw]
            exact ih3
          · have eb : wrB A 0 w p = 1 := by unfold wrB; rw [if_pos (by omega)]
            have ef : feP A f o w p = f := by unfold feP; rw [if_neg z2, if_pos z3]
            rw [if_pos (by omega)] at iw
            have ih3 := ih2 (wb_iu (wb_iu k2 11 0 17 (nN (sm p (feP A f o w) + f))) 11 0 16 (nN (sm p (wrB A 0 w) + 1))) (Fr_trans F2 (Fr_trans (Fr_iu rfl) (Fr_iu rfl))) (by rw [iu_ne (by decide), iu_ne (by decide)]; exact s13) (by rw [iu_at, sm, eb]) (by rw [iu_ne (by decide), iu_at, sm, ef]) (fun p' hp' => by rw [iu_nt (by decide), iu_nt (by decide), iu_nt (by decide), iu_nt (by decide)]; exact cells2 p' hp')
            simp (disch := omega) only [L_0, L_1, L_2, L_3, L_4, L_5, L_6, L_7, L_8, L_9, L_10, L_11, L_12, L_13, L_14, L_15, L_16, L_17, L_18, L_19, L_20, L_21, L_22, L_23, L_24, L_25, L_26, L_27, L_28, L_29, L_30, L_31, L_32, L_33, L_34, L_35, L_40, L_41, L_42, L_43, L_44, L_45, L_47, L_48, L_50, L_53, L_57, L_59, L_60, L_61, L_63, L_64, L_97, L_100, L_101, L_102, L_103, L_122, L_130, L_216, L_255, L_364, L_400, L_402, L_420, L_728, L_768, L_999, L_1000, L_1093, L_1872, L_2000, L_9999, L_12345, L_252645135, L_858993459, L_1103515245, L_1431655765, Lm_1, Lm_2, Lm_8, N_zero, N_cast, N_add, N_mul, N_sub, N_addM, N_lt_tp, N_lt_fp, N_le_tp, N_le_fp, N_eq_tp, N_eq_fp, MN_ltp, MN_lep, NM_ltp, NM_lep, NM_eqp, MN_eqp, MM_lt_tp, MM_lt_fp, MM_le_tp, MM_le_fp, MM_eq_tp, MM_eq_fp, N_cl, N_in_t, N_in_f, M_in, N_div, N_rem, N_nb0, N_nb1, cond_true, cond_false, Bool.not_true, Bool.not_false, Bool.and_true, Bool.true_and, Bool.and_false, Bool.false_and, decide_true, decide_false, Option.bind_some, Option.bind_none, iw, s2, Nat.add_sub_cancel, g1, g3, s17, s8, s16, iu_ne (show 16 ≠ 17 by decide)]
            exact ih3
      have tbi := wi (aho A p) hh.1
      have tbl := tb_lt w (1 + aho A p)
      have l88 : ∀ b, b = tb w (1 + aho A p) → Ok (q_Evening_goBy_L88 sc h' sd (nN v) (nN (rr A 0 p w)) (nN p) (nN (aho A p)) (nN b)) (fun h' => Fr GL h h' ∧ h'.1 11 0 13 = nN (tb w 0) ∧ h'.1 11 0 16 = nN (wrW A 0 w) ∧ h'.1 11 0 17 = nN (sm (an A) (feP A f o w)) ∧ ∀ i, i < an A → h'.1 37 0 i = nN (fin A 0 w (apl A i)) ∧ h'.1 38 0 i = nN (sg w i)) := fun b hb => by
        subst hb
        rw [q_Evening_goBy_L88_eq]
        by_cases z : tb w (1 + aho A p) = tb w 0
        · have e : sg w (aho A p) = 1 := by unfold sg; rw [if_pos z]
          rw [e] at body
          simp (disch := omega) only [L_0, L_1, L_2, L_3, L_4, L_5, L_6, L_7, L_8, L_9, L_10, L_11, L_12, L_13, L_14, L_15, L_16, L_17, L_18, L_19, L_20, L_21, L_22, L_23, L_24, L_25, L_26, L_27, L_28, L_29, L_30, L_31, L_32, L_33, L_34, L_35, L_40, L_41, L_42, L_43, L_44, L_45, L_47, L_48, L_50, L_53, L_57, L_59, L_60, L_61, L_63, L_64, L_97, L_100, L_101, L_102, L_103, L_122, L_130, L_216, L_255, L_364, L_400, L_402, L_420, L_728, L_768, L_999, L_1000, L_1093, L_1872, L_2000, L_9999, L_12345, L_252645135, L_858993459, L_1103515245, L_1431655765, Lm_1, Lm_2, Lm_8, N_zero, N_cast, N_add, N_mul, N_sub, N_addM, N_lt_tp, N_lt_fp, N_le_tp, N_le_fp, N_eq_tp, N_eq_fp, MN_ltp, MN_lep, NM_ltp, NM_lep, NM_eqp, MN_eqp, MM_lt_tp, MM_lt_fp, MM_le_tp, MM_le_fp, MM_eq_tp, MM_eq_fp, N_cl, N_in_t, N_in_f, M_in, N_div, N_rem, N_nb0, N_nb1, cond_true, cond_false, Bool.not_true, Bool.not_false, Bool.and_true, Bool.true_and, Bool.and_false, Bool.false_and, decide_true, decide_false, Option.bind_some, Option.bind_none, r13]
          exact body
        · have e : sg w (aho A p) = 0 := by unfold sg; rw [if_neg z]
          rw [e] at body
          simp (disch := omega) only [L_0, L_1, L_2, L_3, L_4, L_5, L_6, L_7, L_8, L_9, L_10, L_11, L_12, L_13, L_14, L_15, L_16, L_17, L_18, L_19, L_20, L_21, L_22, L_23, L_24, L_25, L_26, L_27, L_28, L_29, L_30, L_31, L_32, L_33, L_34, L_35, L_40, L_41, L_42, L_43, L_44, L_45, L_47, L_48, L_50, L_53, L_57, L_59, L_60, L_61, L_63, L_64, L_97, L_100, L_101, L_102, L_103, L_122, L_130, L_216, L_255, L_364, L_400, L_402, L_420, L_728, L_768, L_999, L_1000, L_1093, L_1872, L_2000, L_9999, L_12345, L_252645135, L_858993459, L_1103515245, L_1431655765, Lm_1, Lm_2, Lm_8, N_zero, N_cast, N_add, N_mul, N_sub, N_addM, N_lt_tp, N_lt_fp, N_le_tp, N_le_fp, N_eq_tp, N_eq_fp, MN_ltp, MN_lep, NM_ltp, NM_lep, NM_eqp, MN_eqp, MM_lt_tp, MM_lt_fp, MM_le_tp, MM_le_fp, MM_eq_tp, MM_eq_fp, N_cl, N_in_t, N_in_f, M_in, N_div, N_rem, N_nb0, N_nb1, cond_true, cond_false, Bool.not_true, Bool.not_false, Bool.and_true, Bool.true_and, Bool.and_false, Bool.false_and, decide_true, decide_false, Option.bind_some, Option.bind_none, r13]
          exact body
      by_cases y : nN (asu A (aho A p)) ≤ L (16 * v + 1 + aho A p)
      · rw [if_pos y] at tbi
        simp only [eq_true y, decide_true, cond_true]
        exact l88 0 tbi.symm
      · rw [if_neg y] at tbi
        simp only [eq_false y, decide_false, cond_false]
        exact l88 1 tbi.symm
  rw [q_Evening_goBy_eq]
  have a2 := hX.2.1
  have a4 := hX.2.2.2.1
  simp (disch := omega) only [L_0, L_1, L_2, L_3, L_4, L_5, L_6, L_7, L_8, L_9, L_10, L_11, L_12, L_13, L_14, L_15, L_16, L_17, L_18, L_19, L_20, L_21, L_22, L_23, L_24, L_25, L_26, L_27, L_28, L_29, L_30, L_31, L_32, L_33, L_34, L_35, L_40, L_41, L_42, L_43, L_44, L_45, L_47, L_48, L_50, L_53, L_57, L_59, L_60, L_61, L_63, L_64, L_97, L_100, L_101, L_102, L_103, L_122, L_130, L_216, L_255, L_364, L_400, L_402, L_420, L_728, L_768, L_999, L_1000, L_1093, L_1872, L_2000, L_9999, L_12345, L_252645135, L_858993459, L_1103515245, L_1431655765, Lm_1, Lm_2, Lm_8, N_zero, N_cast, N_add, N_mul, N_sub, N_addM, N_lt_tp, N_lt_fp, N_le_tp, N_le_fp, N_eq_tp, N_eq_fp, MN_ltp, MN_lep, NM_ltp, NM_lep, NM_eqp, MN_eqp, MM_lt_tp, MM_lt_fp, MM_le_tp, MM_le_fp, MM_eq_tp, MM_eq_fp, N_cl, N_in_t, N_in_f, M_in, N_div, N_rem, N_nb0, N_nb1, cond_true, cond_false, Bool.not_true, Bool.not_false, Bool.and_true, Bool.true_and, Bool.and_false, Bool.false_and, decide_true, decide_false, Option.bind_some, Option.bind_none, hl, a2, Nat.add_sub_cancel, g1, g3, a4]
  have start : ∀ b, b = tb w 0 → Ok (q_Evening_goBy_L42 sc (wb_iu (wb_iu (wb_iu h 11 0 13 (nN b)) 11 0 16 (nN 0)) 11 0 17 (nN 0)) sd (nN v) (nN 0) (nN 0)) (fun h' => Fr GL h h' ∧ h'.1 11 0 13 = nN (tb w 0) ∧ h'.1 11 0 16 = nN (wrW A 0 w) ∧ h'.1 11 0 17 = nN (sm (an A) (feP A f o w)) ∧ ∀ i, i < an A → h'.1 37 0 i = nN (fin A 0 w (apl A i)) ∧ h'.1 38 0 i = nN (sg w i)) := fun b hb => by
    subst hb
    have r0 : rr A 0 0 w = 0 := by have := rr_lt hA 0 0 w; rw [Nat.pow_zero] at this; omega
    have := key (an A) 0 (Nat.zero_add _) (wb_iu (wb_iu (wb_iu h 11 0 13 (nN (tb w 0))) 11 0 16 (nN 0)) 11 0 17 (nN 0)) (Fr_trans (Fr_trans (Fr_iu rfl) (Fr_iu rfl)) (Fr_iu rfl)) (by rw [iu_ne (by decide), iu_ne (by decide), iu_at]) (by rw [iu_ne (by decide), iu_at]; rfl) iu_at (fun p' hp' => absurd hp' (Nat.not_lt_zero _))
    rw [r0] at this
    exact this
  by_cases y : nN (aB A) ≤ L (16 * v)
  · rw [if_pos y] at w0
    simp only [eq_true y, decide_true, cond_true]
    exact start 0 w0.symm
  · rw [if_neg y] at w0
    simp only [eq_false y, decide_false, cond_false]
    exact start 1 w0.symm
end
