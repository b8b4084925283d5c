/-! Things done: leaflet, swap, habit. -/
theorem SR_upd {h h4 : wb_H} {T : wT} {R R' : wR} {v : Nat} (n6 : tn T ≤ 6) (S : SR h T 0 95 0 R v) (a1 : ∀ k, k < 8 → 1 ≤ k → k ≠ 2 → k ≠ 3 → h4.1 17 0 k = h.1 17 0 k) (a2 : h4.1 17 0 2 = nN (rlf R')) (a3 : h4.1 96 0 12 = nN (rlf R')) (a4 : h4.1 17 0 3 = h4.1 96 0 14)
    (b1 : ∀ i, i < tn T → h4.1 54 0 i = nN (rpl R' i)) (b2 : ∀ i, i < tn T → h4.1 96 0 i = nN (rpl R' i)) (b3 : ∀ i, i < tn T → h4.1 54 0 (6 + i) = ovI (rov R' i)) (b4 : ∀ i, i < tn T → h4.1 96 0 (6 + i) = ovI (rov R' i))
    (c1 : ∀ k, 12 ≤ k → k < 30 → h4.1 54 0 k = h.1 54 0 k) (c2 : ∀ k, 13 ≤ k → k ≠ 14 → k < 48 → h4.1 96 0 k = h.1 95 0 k) : SR h4 T 0 96 0 R' v := by
  obtain ⟨S1, S2, S3, S4, S5, S6, S7, S8, S9, S10, S11, S12⟩ := S
  simp only [Nat.zero_add] at S4 S5 S6 S8 S9 S10 S11 S12
  refine ⟨⟨b1, b3, a2⟩, ⟨fun i hi => by rw [Nat.zero_add]; exact b2 i hi, fun i hi => by rw [Nat.zero_add]; exact b4 i hi, by rw [Nat.zero_add]; exact a3⟩, ?_, ?_, ?_, ?_, ?_, ?_, fun hv => ?_, fun hv i hi => ?_, fun hv i hi => ?_, fun i hi => ?_⟩
  · rw [a1 1 (by decide) (by decide) (by decide) (by decide)]; exact S3
  · rw [Nat.zero_add, c2 13 (by decide) (by decide) (by decide)]; exact S4
  · exact a4
  · rw [a1 4 (by decide) (by decide) (by decide) (by decide), Nat.zero_add, c2 15 (by decide) (by decide) (by decide)]; exact S6
  · rw [a1 5 (by decide) (by decide) (by decide) (by decide)]; exact S7
  · rw [Nat.zero_add, c2 16 (by decide) (by decide) (by decide)]; exact S8
  · rw [a1 5 (by decide) (by decide) (by decide) (by decide), a1 6 (by decide) (by decide) (by decide) (by decide), a1 7 (by decide) (by decide) (by decide) (by decide), Nat.zero_add, Nat.zero_add, Nat.zero_add, c2 17 (by decide) (by decide) (by decide), c2 18 (by decide) (by decide) (by decide), c2 19 (by decide) (by decide) (by decide)]
    exact S9 hv
  · rw [Nat.zero_add, Nat.zero_add, c1 _ (by omega) (by omega), c1 _ (by omega) (by omega), c2 _ (by omega) (by omega) (by omega), c2 _ (by omega) (by omega) (by omega)]
    exact S10 hv i hi
  · rw [Nat.zero_add, Nat.zero_add, c2 _ (by omega) (by omega) (by omega), c2 _ (by omega) (by omega) (by omega)]
    exact S11 hv i hi
  · rw [Nat.zero_add, c1 _ (by omega) (by omega), c2 _ (by omega) (by omega) (by omega)]
    exact S12 i hi
def XD : List Nat := [17, 54, 9001, 9002, 62, 2014, 2015]
section
variable {sc : wb_X} {B : Nat}
theorem X_stSet {h : wb_H} {w i : Nat} {a : Int32} (hw : w ≤ 4) (hi : i < 6) : q_Standing_set sc h 0 (nN w) (nN i) a = some (wb_iu h 54 0 (6 * w + i) a) := by
  have g : decide (0 < 44) = true := rfl
  rw [q_Standing_set_eq]
  simp (disch := omega) only [g, L_0, L_1, L_2, L_3, L_4, L_5, L_6, L_7, L_8, L_9, L_10, L_11, L_12, L_13, L_14, L_15, L_16, L_17, L_18, L_19, L_20, L_21, L_22, L_23, L_24, L_25, L_26, L_27, L_28, L_29, L_30, L_31, L_32, L_33, L_34, L_35, L_40, L_41, L_42, L_43, L_44, L_45, L_47, L_48, L_50, L_53, L_57, L_59, L_60, L_61, L_63, L_64, L_97, L_100, L_101, L_102, L_103, L_122, L_130, L_216, L_255, L_364, L_400, L_402, L_420, L_728, L_768, L_999, L_1000, L_1093, L_1872, L_2000, L_9999, L_12345, L_252645135, L_858993459, L_1103515245, L_1431655765, Lm_1, Lm_2, Lm_8, N_zero, N_cast, N_add, N_mul, N_sub, N_addM, N_lt_tp, N_lt_fp, N_le_tp, N_le_fp, N_eq_tp, N_eq_fp, MN_ltp, MN_lep, NM_ltp, NM_lep, NM_eqp, MN_eqp, MM_lt_tp, MM_lt_fp, MM_le_tp, MM_le_fp, MM_eq_tp, MM_eq_fp, N_cl, N_in_t, N_in_f, M_in, N_div, N_rem, N_nb0, N_nb1, cond_true, cond_false, Bool.not_true, Bool.not_false, Bool.and_true, Bool.true_and, Bool.and_false, Bool.false_and, decide_true, decide_false, Option.bind_some, Option.bind_none]
  rw [Nat.mul_comm]
/-- the end of a thing done: X's part ends in h2, the reference's in keeping -/
theorem done {h h2 : wb_H} {T : wT} {R R' : wR} {v q s nx c : Nat} {M : wb_H → Option (Int32 × wb_H)} {X : wb_H → Option (Int32 × wb_H)} {a : Int32} (C : Core h T R v q s B) (hR : R_ok T R') (h1 : nx < 40) (hc : c ≤ 40) (h54 : h.1 21 0 54 = nN c) (hp : ∀ j, j < c → ∃ R v, R_ok T R ∧ v ≤ B ∧ SR h T (1 + (nx + 40 - c + j) % 40) 100 (48 * j) R v)
    (hX : X h = some (a, h2)) (FX : Fr XD h h2) (xp : XP h h2 nx c) (e1 : h2.1 20 0 15 = nN 0) (e2 : h2.1 20 0 14 = nM 1) (e3 : ∀ l, l < 64 → h2.1 62 0 l = nM 1)
    (hM : (∀ h4, Fr [96, 1049, 1050] h2 h4 → SR h4 T 0 96 0 R' v → Ok ((q_M_keeps sc h4).bind fun h5 => some (a, h5)) (fun r => r.1 = a ∧ MP h4 r.2 c) → Ok ((q_M_keeps sc h4).bind fun h5 => some (a, h5)) (fun r2 => r2.1 = a ∧ Inv r2.2 B)) → Ok (M h2) (fun r2 => r2.1 = a ∧ Inv r2.2 B)) : Same X M h B := by
  refine ⟨(a, h2), hX, ?_⟩
  refine hM fun h4 F4 S4 K => ?_
  refine Ok_w K ?_
  rintro ⟨y, h5⟩ ⟨y1, mp⟩
  refine ⟨y1, T, R', v, q, s, push C (Nat.le_refl _) C.2.2.1 hR h1 hc hp FX rfl rfl rfl rfl xp F4 rfl rfl rfl rfl mp S4, ?_⟩
  refine Cache_new C.1.1 ?_ ?_ fun l hl => ?_
  · rw [Fr_i mp.1 (t := 20) (by rfl), Fr_i F4 (t := 20) (by rfl)]; exact e1
  · rw [Fr_i mp.1 (t := 20) (by rfl), Fr_i F4 (t := 20) (by rfl)]; exact e2
  · rw [Fr_i mp.1 (t := 62) (by rfl), Fr_i F4 (t := 62) (by rfl)]; exact e3 l hl
theorem nothing {h : wb_H} {T : wT} {R : wR} {v q s : Nat} {X M : wb_H → Option (Int32 × wb_H)} {a : Int32} (C : Core h T R v q s B) (D : Cache h T R q) (hX : X h = some (a, h)) (hM : M h = some (a, h)) : Same X M h B :=
  pure_query C D hX ⟨_, hM, rfl, Fr_refl _ _⟩
theorem keepsK {h4 : wb_H} {c : Nat} (hc : c ≤ 40) (h54 : h4.1 21 0 54 = nN c) : Ok ((q_M_keeps sc h4).bind fun h5 => some (nN 1, h5)) (fun r => r.1 = nN 1 ∧ MP h4 r.2 c) := Ok_bind (M_keeps hc h54) (fun _ m => Ok_some ⟨rfl, m⟩)
theorem c_leaflet {h : wb_H} (I : Inv h B) (a : Int32) {g : Nat} (hg : g ≤ 1) : Same (fun h => q_X_leaflet sc h a (nN g)) (fun h => q_M_leaflet sc h a (nN g)) h B := by
  obtain ⟨T, R, v, q, s, C, D⟩ := I
  have n6 := C.1.1
  have p64 := pow2_64 n6
  have rl := C.2.1.2.2.2.2
  obtain ⟨e1, e2⟩ := X_ptr C
  have g1 : decide (0 < q + 1) = true := decide_eq_true (by omega)
  have g3 : decide (q < 2) = true := decide_eq_true e2
  have S := C.2.2.2.2.2.2.2.1
  have l17 : h.1 17 0 2 = nN (rlf R) := S.1.2.2
  have l95 : h.1 95 0 12 = nN (rlf R) := by have := S.2.1.2.2; rwa [Nat.zero_add] at this
  have co : h.1 17 0 3 = h.1 95 0 14 := S.2.2.2.2.1
  by_cases ha : hsP (tn T) a
  · obtain ⟨i, hi, rfl⟩ := ha
    have tb1 := tb_lt (rlf R) i
    by_cases z : tb (rlf R) i = g
    · refine nothing (a := nN 0) C D ?_ ?_
      · show q_X_leaflet sc h (nN i) (nN g) = _
        rw [q_X_leaflet_eq, X_isHouse_t C hi]
        simp (disch := omega) only [L_0, L_1, L_2, L_3, L_4, L_5, L_6, L_7, L_8, L_9, L_10, L_11, L_12, L_13, L_14, L_15, L_16, L_17, L_18, L_19, L_20, L_21, L_22, L_23, L_24, L_25, L_26, L_27, L_28, L_29, L_30, L_31, L_32, L_33, L_34, L_35, L_40, L_41, L_42, L_43, L_44, L_45, L_47, L_48, L_50, L_53, L_57, L_59, L_60, L_61, L_63, L_64, L_97, L_100, L_101, L_102, L_103, L_122, L_130, L_216, L_255, L_364, L_400, L_402, L_420, L_728, L_768, L_999, L_1000, L_1093, L_1872, L_2000, L_9999, L_12345, L_252645135, L_858993459, L_1103515245, L_1431655765, Lm_1, Lm_2, Lm_8, N_zero, N_cast, N_add, N_mul, N_sub, N_addM, N_lt_tp, N_lt_fp, N_le_tp, N_le_fp, N_eq_tp, N_eq_fp, MN_ltp, MN_lep, NM_ltp, NM_lep, NM_eqp, MN_eqp, MM_lt_tp, MM_lt_fp, MM_le_tp, MM_le_fp, MM_eq_tp, MM_eq_fp, N_cl, N_in_t, N_in_f, M_in, N_div, N_rem, N_nb0, N_nb1, cond_true, cond_false, Bool.not_true, Bool.not_false, Bool.and_true, Bool.true_and, Bool.and_false, Bool.false_and, decide_true, decide_false, Option.bind_some, Option.bind_none, l17, X_hasBit (sc := sc) (h := h) (show rlf R < 64 by omega) (show i < 6 by omega)]
      · show q_M_leaflet sc h (nN i) (nN g) = _
        rw [q_M_leaflet_eq, M_isHouse_t C hi]
        simp (disch := omega) only [L_0, L_1, L_2, L_3, L_4, L_5, L_6, L_7, L_8, L_9, L_10, L_11, L_12, L_13, L_14, L_15, L_16, L_17, L_18, L_19, L_20, L_21, L_22, L_23, L_24, L_25, L_26, L_27, L_28, L_29, L_30, L_31, L_32, L_33, L_34, L_35, L_40, L_41, L_42, L_43, L_44, L_45, L_47, L_48, L_50, L_53, L_57, L_59, L_60, L_61, L_63, L_64, L_97, L_100, L_101, L_102, L_103, L_122, L_130, L_216, L_255, L_364, L_400, L_402, L_420, L_728, L_768, L_999, L_1000, L_1093, L_1872, L_2000, L_9999, L_12345, L_252645135, L_858993459, L_1103515245, L_1431655765, Lm_1, Lm_2, Lm_8, N_zero, N_cast, N_add, N_mul, N_sub, N_addM, N_lt_tp, N_lt_fp, N_le_tp, N_le_fp, N_eq_tp, N_eq_fp, MN_ltp, MN_lep, NM_ltp, NM_lep, NM_eqp, MN_eqp, MM_lt_tp, MM_lt_fp, MM_le_tp, MM_le_fp, MM_eq_tp, MM_eq_fp, N_cl, N_in_t, N_in_f, M_in, N_div, N_rem, N_nb0, N_nb1, cond_true, cond_false, Bool.not_true, Bool.not_false, Bool.and_true, Bool.true_and, Bool.and_false, Bool.false_and, decide_true, decide_false, Option.bind_some, Option.bind_none, l95, bt_get (rlf R) (show rlf R < 64 by omega) i (show i < 6 by omega)]
        rcases N01 tb1 with t | t
        · rw [t] at z ⊢
          rw [← z]
          simp (disch := omega) only [L_0, L_1, L_2, L_3, L_4, L_5, L_6, L_7, L_8, L_9, L_10, L_11, L_12, L_13, L_14, L_15, L_16, L_17, L_18, L_19, L_20, L_21, L_22, L_23, L_24, L_25, L_26, L_27, L_28, L_29, L_30, L_31, L_32, L_33, L_34, L_35, L_40, L_41, L_42, L_43, L_44, L_45, L_47, L_48, L_50, L_53, L_57, L_59, L_60, L_61, L_63, L_64, L_97, L_100, L_101, L_102, L_103, L_122, L_130, L_216, L_255, L_364, L_400, L_402, L_420, L_728, L_768, L_999, L_1000, L_1093, L_1872, L_2000, L_9999, L_12345, L_252645135, L_858993459, L_1103515245, L_1431655765, Lm_1, Lm_2, Lm_8, N_zero, N_cast, N_add, N_mul, N_sub, N_addM, N_lt_tp, N_lt_fp, N_le_tp, N_le_fp, N_eq_tp, N_eq_fp, MN_ltp, MN_lep, NM_ltp, NM_lep, NM_eqp, MN_eqp, MM_lt_tp, MM_lt_fp, MM_le_tp, MM_le_fp, MM_eq_tp, MM_eq_fp, N_cl, N_in_t, N_in_f, M_in, N_div, N_rem, N_nb0, N_nb1, cond_true, cond_false, Bool.not_true, Bool.not_false, Bool.and_true, Bool.true_and, Bool.and_false, Bool.false_and, decide_true, decide_false, Option.bind_some, Option.bind_none]
        · rw [t] at z ⊢
          rw [← z]
          simp (disch := omega) only [L_0, L_1, L_2, L_3, L_4, L_5, L_6, L_7, L_8, L_9, L_10, L_11, L_12, L_13, L_14, L_15, L_16, L_17, L_18, L_19, L_20, L_21, L_22, L_23, L_24, L_25, L_26, L_27, L_28, L_29, L_30, L_31, L_32, L_33, L_34, L_35, L_40, L_41, L_42, L_43, L_44, L_45, L_47, L_48, L_50, L_53, L_57, L_59, L_60, L_61, L_63, L_64, L_97, L_100, L_101, L_102, L_103, L_122, L_130, L_216, L_255, L_364, L_400, L_402, L_420, L_728, L_768, L_999, L_1000, L_1093, L_1872, L_2000, L_9999, L_12345, L_252645135, L_858993459, L_1103515245, L_1431655765, Lm_1, Lm_2, Lm_8, N_zero, N_cast, N_add, N_mul, N_sub, N_addM, N_lt_tp, N_lt_fp, N_le_tp, N_le_fp, N_eq_tp, N_eq_fp, MN_ltp, MN_lep, NM_ltp, NM_lep, NM_eqp, MN_eqp, MM_lt_tp, MM_lt_fp, MM_le_tp, MM_le_fp, MM_eq_tp, MM_eq_fp, N_cl, N_in_t, N_in_f, M_in, N_div, N_rem, N_nb0, N_nb1, cond_true, cond_false, Bool.not_true, Bool.not_false, Bool.and_true, Bool.true_and, Bool.and_false, Bool.false_and, decide_true, decide_false, Option.bind_some, Option.bind_none]
    · obtain ⟨nx, c, p1, p2, p3, p4, p5, p6⟩ := C.2.2.2.2.2.2.2.2.1
      have hlt : rlf R ^^^ 2 ^ i < 2 ^ tn T := Nat.xor_lt_two_pow rl (Nat.pow_lt_pow_right (by decide) hi)
      have hR' : R_ok T (rpl R, (rov R, rlf R ^^^ 2 ^ i)) := ⟨C.2.1.1, C.2.1.2.1, C.2.1.2.2.1, C.2.1.2.2.2.1, hlt⟩
      obtain ⟨co2, hco⟩ : ∃ c, c = (if g = 0 then h.1 17 0 3 else h.1 17 0 3 + nN (tP T)) := ⟨_, rfl⟩
      have hX : Ok (q_X_leaflet sc h (nN i) (nN g)) (fun r => r.1 = nN 1 ∧ Fr XD h r.2 ∧ XP h r.2 nx c ∧ r.2.1 20 0 15 = nN 0 ∧ r.2.1 20 0 14 = nM 1 ∧ (∀ l, l < 64 → r.2.1 62 0 l = nM 1) ∧ (∀ k, k ≠ 2 → k ≠ 3 → r.2.1 17 0 k = h.1 17 0 k) ∧ r.2.1 17 0 2 = nN (rlf R ^^^ 2 ^ i) ∧ r.2.1 17 0 3 = co2 ∧ ∀ k, r.2.1 54 0 k = h.1 54 0 k) := by
        rw [q_X_leaflet_eq, X_isHouse_t C hi]
        simp (disch := omega) only [L_0, L_1, L_2, L_3, L_4, L_5, L_6, L_7, L_8, L_9, L_10, L_11, L_12, L_13, L_14, L_15, L_16, L_17, L_18, L_19, L_20, L_21, L_22, L_23, L_24, L_25, L_26, L_27, L_28, L_29, L_30, L_31, L_32, L_33, L_34, L_35, L_40, L_41, L_42, L_43, L_44, L_45, L_47, L_48, L_50, L_53, L_57, L_59, L_60, L_61, L_63, L_64, L_97, L_100, L_101, L_102, L_103, L_122, L_130, L_216, L_255, L_364, L_400, L_402, L_420, L_728, L_768, L_999, L_1000, L_1093, L_1872, L_2000, L_9999, L_12345, L_252645135, L_858993459, L_1103515245, L_1431655765, Lm_1, Lm_2, Lm_8, N_zero, N_cast, N_add, N_mul, N_sub, N_addM, N_lt_tp, N_lt_fp, N_le_tp, N_le_fp, N_eq_tp, N_eq_fp, MN_ltp, MN_lep, NM_ltp, NM_lep, NM_eqp, MN_eqp, MM_lt_tp, MM_lt_fp, MM_le_tp, MM_le_fp, MM_eq_tp, MM_eq_fp, N_cl, N_in_t, N_in_f, M_in, N_div, N_rem, N_nb0, N_nb1, cond_true, cond_false, Bool.not_true, Bool.not_false, Bool.and_true, Bool.true_and, Bool.and_false, Bool.false_and, decide_true, decide_false, Option.bind_some, Option.bind_none, l17, X_hasBit (sc := sc) (h := h) (show rlf R < 64 by omega) (show i < 6 by omega)]
        refine Ok_bind (X_remember p1 p2 p3 p4 S.2.2.2.2.2.2.1) ?_
        rintro h1 ⟨F1, P1, k1, k2⟩
        obtain ⟨P11, P12, P13, P14, P15⟩ := P1
        have fin : ∀ h2 : wb_H, Fr [17] h1 h2 → (∀ o, o ≠ 0 → ∀ k, h2.1 17 o k = h1.1 17 o k) → (∀ k, k ≠ 2 → k ≠ 3 → h2.1 17 0 k = h1.1 17 0 k) → h2.1 17 0 2 = nN (rlf R ^^^ 2 ^ i) → h2.1 17 0 3 = co2 →
            Ok (q_X_leaflet_L74 sc h2) (fun r => r.1 = nN 1 ∧ Fr XD h r.2 ∧ XP h r.2 nx c ∧ r.2.1 20 0 15 = nN 0 ∧ r.2.1 20 0 14 = nM 1 ∧ (∀ l, l < 64 → r.2.1 62 0 l = nM 1) ∧ (∀ k, k ≠ 2 → k ≠ 3 → r.2.1 17 0 k = h.1 17 0 k) ∧ r.2.1 17 0 2 = nN (rlf R ^^^ 2 ^ i) ∧ r.2.1 17 0 3 = co2 ∧ ∀ k, r.2.1 54 0 k = h.1 54 0 k) := by
          intro h2 F2 q1 q2 q3 q4
          rw [q_X_leaflet_L74_eq]
          refine Ok_bind X_forgetA ?_
          rintro h3 ⟨F3, w1, w2, w3⟩
          have f17 : ∀ o k, h3.1 17 o k = h2.1 17 o k := fun o k => Fr_i F3 (by rfl)
          have f54 : ∀ o k, h3.1 54 o k = h1.1 54 o k := fun o k => (Fr_i F3 (by rfl)).trans (Fr_i F2 (by rfl))
          have f14 : ∀ k, h3.1 14 0 k = h1.1 14 0 k := fun k => by
            have d : wb_mem (kc 14 k) [62, 2014, 2015] = false ∧ wb_mem (kc 14 k) [17] = false := by
              have : kc 14 k = 9000 + k := rfl
              rw [this]
              simp only [wb_mem, Bool.cond_eq_ite, Nat.beq_eq]
              constructor
              · rw [if_neg (by omega), if_neg (by omega), if_neg (by omega)]
              · rw [if_neg (by omega)]
            exact (Fr_i F3 d.1).trans (Fr_i F2 d.2)
          refine Ok_some ⟨rfl, Fr_trans (Fr_mono F1 rfl) (Fr_trans (Fr_mono F2 rfl) (Fr_mono F3 rfl)), ⟨?_, ?_, fun k hk hk1 => ?_, fun k hk => ?_, fun o ho1 ho2 k => ⟨?_, ?_⟩⟩, w1, w2, w3, fun k k2' k3' => ?_, ?_, ?_, fun k => ?_⟩
          · rw [f14]; exact P11
          · rw [f14]; exact P12
          · rw [f17, q1 _ (by omega)]; exact P13 k hk hk1
          · rw [f54]; exact P14 k hk
          · rw [f17, q1 _ ho2]; exact (P15 o ho1 ho2 k).1
          · rw [f54]; exact (P15 o ho1 ho2 k).2
          · rw [f17, q2 k k2' k3']; exact k1 k
          · rw [f17]; exact q3
          · rw [f17]; exact q4
          · rw [f54]; exact k2 k
        have e1' : h1.2.2 20 0 2 = q + 1 := (Fr_m F1 (by rfl)).trans e1
        have pr : h1.1 15 q 10 = nN (tP T) := (Fr_i F1 (by rfl)).trans C.2.2.2.1.2.2.2.2.2.1
        rw [k1 2, l17]
        simp (disch := omega) only [bt_xor (rlf R) (show rlf R < 64 by omega) i (show i < 6 by omega), wb_iu_2, e1', Nat.add_sub_cancel, g1, g3, cond_true, cond_false, Bool.not_true, Bool.not_false, Bool.and_true, Bool.true_and, Bool.and_false, Bool.false_and, decide_true, decide_false, Option.bind_some, Option.bind_none]
        rcases N01 (show g < 2 by omega) with t | t
        · rw [t]
          simp (disch := omega) only [L_0, L_1, L_2, L_3, L_4, L_5, L_6, L_7, L_8, L_9, L_10, L_11, L_12, L_13, L_14, L_15, L_16, L_17, L_18, L_19, L_20, L_21, L_22, L_23, L_24, L_25, L_26, L_27, L_28, L_29, L_30, L_31, L_32, L_33, L_34, L_35, L_40, L_41, L_42, L_43, L_44, L_45, L_47, L_48, L_50, L_53, L_57, L_59, L_60, L_61, L_63, L_64, L_97, L_100, L_101, L_102, L_103, L_122, L_130, L_216, L_255, L_364, L_400, L_402, L_420, L_728, L_768, L_999, L_1000, L_1093, L_1872, L_2000, L_9999, L_12345, L_252645135, L_858993459, L_1103515245, L_1431655765, Lm_1, Lm_2, Lm_8, N_zero, N_cast, N_add, N_mul, N_sub, N_addM, N_lt_tp, N_lt_fp, N_le_tp, N_le_fp, N_eq_tp, N_eq_fp, MN_ltp, MN_lep, NM_ltp, NM_lep, NM_eqp, MN_eqp, MM_lt_tp, MM_lt_fp, MM_le_tp, MM_le_fp, MM_eq_tp, MM_eq_fp, N_cl, N_in_t, N_in_f, M_in, N_div, N_rem, N_nb0, N_nb1, cond_true, cond_false, Bool.not_true, Bool.not_false, Bool.and_true, Bool.true_and, Bool.and_false, Bool.false_and, decide_true, decide_false, Option.bind_some, Option.bind_none]
          refine fin _ (Fr_iu rfl) (fun o ho k => iu_o ho) (fun k a b => iu_ne a) iu_at ?_
          rw [hco, t, if_pos rfl, iu_ne (by decide)]
          exact k1 3
        · rw [t]
          simp (disch := omega) only [L_0, L_1, L_2, L_3, L_4, L_5, L_6, L_7, L_8, L_9, L_10, L_11, L_12, L_13, L_14, L_15, L_16, L_17, L_18, L_19, L_20, L_21, L_22, L_23, L_24, L_25, L_26, L_27, L_28, L_29, L_30, L_31, L_32, L_33, L_34, L_35, L_40, L_41, L_42, L_43, L_44, L_45, L_47, L_48, L_50, L_53, L_57, L_59, L_60, L_61, L_63, L_64, L_97, L_100, L_101, L_102, L_103, L_122, L_130, L_216, L_255, L_364, L_400, L_402, L_420, L_728, L_768, L_999, L_1000, L_1093, L_1872, L_2000, L_9999, L_12345, L_252645135, L_858993459, L_1103515245, L_1431655765, Lm_1, Lm_2, Lm_8, N_zero, N_cast, N_add, N_mul, N_sub, N_addM, N_lt_tp, N_lt_fp, N_le_tp, N_le_fp, N_eq_tp, N_eq_fp, MN_ltp, MN_lep, NM_ltp, NM_lep, NM_eqp, MN_eqp, MM_lt_tp, MM_lt_fp, MM_le_tp, MM_le_fp, MM_eq_tp, MM_eq_fp, N_cl, N_in_t, N_in_f, M_in, N_div, N_rem, N_nb0, N_nb1, cond_true, cond_false, Bool.not_true, Bool.not_false, Bool.and_true, Bool.true_and, Bool.and_false, Bool.false_and, decide_true, decide_false, Option.bind_some, Option.bind_none]
          rw [iu_nt (show 15 ≠ 17 by decide), pr]
          refine fin _ ?_ ?_ ?_ ?_ ?_
          · exact Fr_trans (Fr_iu rfl) (Fr_iu rfl)
          · intro o ho k; rw [iu_o ho, iu_o ho]
          · intro k a b; rw [iu_ne b, iu_ne a]
          · rw [iu_ne (by decide), iu_at]
          · rw [iu_at, hco, t, if_neg (by decide), iu_ne (by decide), k1 3]
      obtain ⟨⟨x, h2⟩, hx, x1, F2, xp, w1, w2, w3, y1, y2, y3, y4⟩ := hX
      simp only at x1 F2 xp w1 w2 w3 y1 y2 y3 y4
      subst x1
      refine done (sc := sc) C hR' p1 p2 p5 p6 hx F2 xp w1 w2 w3 fun K => ?_
      have C54 : h2.1 21 0 54 = nN c := (Fr_i F2 (by rfl)).trans p5
      have Ma := MT_fr F2 rfl rfl C.2.2.2.2.1
      have ish : q_M_isHouse sc h2 (nN i) = some (nN 1, h2) := by
        obtain ⟨a1, a2, a3, -⟩ := Ma
        rw [q_M_isHouse_eq]
        simp (disch := omega) only [L_0, L_1, L_2, L_3, L_4, L_5, L_6, L_7, L_8, L_9, L_10, L_11, L_12, L_13, L_14, L_15, L_16, L_17, L_18, L_19, L_20, L_21, L_22, L_23, L_24, L_25, L_26, L_27, L_28, L_29, L_30, L_31, L_32, L_33, L_34, L_35, L_40, L_41, L_42, L_43, L_44, L_45, L_47, L_48, L_50, L_53, L_57, L_59, L_60, L_61, L_63, L_64, L_97, L_100, L_101, L_102, L_103, L_122, L_130, L_216, L_255, L_364, L_400, L_402, L_420, L_728, L_768, L_999, L_1000, L_1093, L_1872, L_2000, L_9999, L_12345, L_252645135, L_858993459, L_1103515245, L_1431655765, Lm_1, Lm_2, Lm_8, N_zero, N_cast, N_add, N_mul, N_sub, N_addM, N_lt_tp, N_lt_fp, N_le_tp, N_le_fp, N_eq_tp, N_eq_fp, MN_ltp, MN_lep, NM_ltp, NM_lep, NM_eqp, MN_eqp, MM_lt_tp, MM_lt_fp, MM_le_tp, MM_le_fp, MM_eq_tp, MM_eq_fp, N_cl, N_in_t, N_in_f, M_in, N_div, N_rem, N_nb0, N_nb1, cond_true, cond_false, Bool.not_true, Bool.not_false, Bool.and_true, Bool.true_and, Bool.and_false, Bool.false_and, decide_true, decide_false, Option.bind_some, Option.bind_none, a2, a3, M_in_t (sc := sc) (h := h2) (show i ≤ tn T - 1 by omega) (show tn T - 1 ≤ 2147483647 by omega)]
      have b95 : ∀ k, h2.1 95 0 k = h.1 95 0 k := fun k => Fr_i F2 (by rfl)
      have cps : Ok (q_M_copies sc h2) (fun h' => Fr [96, 1049, 1050] h2 h' ∧ (∀ i, i < 48 → h'.1 96 0 i = h.1 95 0 i)) := by
        rw [q_M_copies_eq]
        simp only [L_0, L_1, L_2, L_3, L_4, L_5, L_6, L_7, L_8, L_9, L_10, L_11, L_12, L_13, L_14, L_15, L_16, L_17, L_18, L_19, L_20, L_21, L_22, L_23, L_24, L_25, L_26, L_27, L_28, L_29, L_30, L_31, L_32, L_33, L_34, L_35, L_40, L_41, L_42, L_43, L_44, L_45, L_47, L_48, L_50, L_53, L_57, L_59, L_60, L_61, L_63, L_64, L_97, L_100, L_101, L_102, L_103, L_122, L_130, L_216, L_255, L_364, L_400, L_402, L_420, L_728, L_768, L_999, L_1000, L_1093, L_1872, L_2000, L_9999, L_12345, L_252645135, L_858993459, L_1103515245, L_1431655765, Lm_1, Lm_2, Lm_8]
        refine Ok_w (M_copies_L Ma.1 Ma.2.1 48 0 rfl h2 (Fr_refl _ _) (fun i hi => by omega)) ?_
        rintro h' ⟨a, b, c, d⟩
        exact ⟨a, fun i hi => (b i hi).trans (b95 i)⟩
      have fin4 : ∀ h4 : wb_H, Fr [96, 1049, 1050] h2 h4 → h4.1 96 0 12 = nN (rlf R ^^^ 2 ^ i) → h4.1 96 0 14 = co2 → (∀ k, k ≠ 12 → k ≠ 14 → k < 48 → h4.1 96 0 k = h.1 95 0 k) → Ok (q_M_leaflet_L74 sc h4) (fun r2 => r2.1 = nN 1 ∧ Inv r2.2 B) := by
        intro h4 F4 z1 z2 z3
        rw [q_M_leaflet_L74_eq]
        simp only [L_0, L_1, L_2, L_3, L_4, L_5, L_6, L_7, L_8, L_9, L_10, L_11, L_12, L_13, L_14, L_15, L_16, L_17, L_18, L_19, L_20, L_21, L_22, L_23, L_24, L_25, L_26, L_27, L_28, L_29, L_30, L_31, L_32, L_33, L_34, L_35, L_40, L_41, L_42, L_43, L_44, L_45, L_47, L_48, L_50, L_53, L_57, L_59, L_60, L_61, L_63, L_64, L_97, L_100, L_101, L_102, L_103, L_122, L_130, L_216, L_255, L_364, L_400, L_402, L_420, L_728, L_768, L_999, L_1000, L_1093, L_1872, L_2000, L_9999, L_12345, L_252645135, L_858993459, L_1103515245, L_1431655765, Lm_1, Lm_2, Lm_8]
        have r1 := S.1.1
        have r2 := S.1.2.1
        have r3 := S.2.1.1
        have r4 := S.2.1.2.1
        simp only [Nat.zero_add] at r3 r4
        refine K h4 F4 (SR_upd n6 S (fun k hk _ a b => (Fr_i F4 (by rfl)).trans (y1 k a b)) ((Fr_i F4 (by rfl)).trans y2) z1 ?_ (fun i hi => (Fr_i F4 (by rfl)).trans ((y4 i).trans (r1 i hi))) (fun i hi => (z3 i (by omega) (by omega) (by omega)).trans (r3 i hi)) (fun i hi => (Fr_i F4 (by rfl)).trans ((y4 _).trans (r2 i hi))) (fun i hi => (z3 _ (by omega) (by omega) (by omega)).trans (r4 i hi)) (fun k _ _ => (Fr_i F4 (by rfl)).trans (y4 k)) (fun k a b c => z3 k (by omega) b c)) (keepsK p2 ((Fr_i F4 (by rfl)).trans C54))
        rw [z2, Fr_i F4 (t := 17) (by rfl)]; exact y3
      have pr : ∀ h' : wb_H, Fr [96, 1049, 1050] h2 h' → h'.1 21 0 18 = nN s ∧ h'.1 83 0 s = nN (tP T) := fun h' F => ⟨(Fr_i F (by rfl)).trans Ma.2.1, (Fr_i F (by rfl)).trans Ma.2.2.2.2.2.2.1⟩
      have sl := Ma.1
      show Ok (q_M_leaflet sc h2 (nN i) (nN g)) _
      rw [q_M_leaflet_eq, ish]
      have l95' : h2.1 95 0 12 = nN (rlf R) := (b95 12).trans l95
      simp (disch := omega) only [L_0, L_1, L_2, L_3, L_4, L_5, L_6, L_7, L_8, L_9, L_10, L_11, L_12, L_13, L_14, L_15, L_16, L_17, L_18, L_19, L_20, L_21, L_22, L_23, L_24, L_25, L_26, L_27, L_28, L_29, L_30, L_31, L_32, L_33, L_34, L_35, L_40, L_41, L_42, L_43, L_44, L_45, L_47, L_48, L_50, L_53, L_57, L_59, L_60, L_61, L_63, L_64, L_97, L_100, L_101, L_102, L_103, L_122, L_130, L_216, L_255, L_364, L_400, L_402, L_420, L_728, L_768, L_999, L_1000, L_1093, L_1872, L_2000, L_9999, L_12345, L_252645135, L_858993459, L_1103515245, L_1431655765, Lm_1, Lm_2, Lm_8, N_zero, N_cast, N_add, N_mul, N_sub, N_addM, N_lt_tp, N_lt_fp, N_le_tp, N_le_fp, N_eq_tp, N_eq_fp, MN_ltp, MN_lep, NM_ltp, NM_lep, NM_eqp, MN_eqp, MM_lt_tp, MM_lt_fp, MM_le_tp, MM_le_fp, MM_eq_tp, MM_eq_fp, N_cl, N_in_t, N_in_f, M_in, N_div, N_rem, N_nb0, N_nb1, cond_true, cond_false, Bool.not_true, Bool.not_false, Bool.and_true, Bool.true_and, Bool.and_false, Bool.false_and, decide_true, decide_false, Option.bind_some, Option.bind_none, l95', bt_get (rlf R) (show rlf R < 64 by omega) i (show i < 6 by omega)]
      rcases N01 tb1 with t | t
      · have tg : g = 1 := by omega
        rw [t, tg]
        simp (disch := omega) only [L_0, L_1, L_2, L_3, L_4, L_5, L_6, L_7, L_8, L_9, L_10, L_11, L_12, L_13, L_14, L_15, L_16, L_17, L_18, L_19, L_20, L_21, L_22, L_23, L_24, L_25, L_26, L_27, L_28, L_29, L_30, L_31, L_32, L_33, L_34, L_35, L_40, L_41, L_42, L_43, L_44, L_45, L_47, L_48, L_50, L_53, L_57, L_59, L_60, L_61, L_63, L_64, L_97, L_100, L_101, L_102, L_103, L_122, L_130, L_216, L_255, L_364, L_400, L_402, L_420, L_728, L_768, L_999, L_1000, L_1093, L_1872, L_2000, L_9999, L_12345, L_252645135, L_858993459, L_1103515245, L_1431655765, Lm_1, Lm_2, Lm_8, N_zero, N_cast, N_add, N_mul, N_sub, N_addM, N_lt_tp, N_lt_fp, N_le_tp, N_le_fp, N_eq_tp, N_eq_fp, MN_ltp, MN_lep, NM_ltp, NM_lep, NM_eqp, MN_eqp, MM_lt_tp, MM_lt_fp, MM_le_tp, MM_le_fp, MM_eq_tp, MM_eq_fp, N_cl, N_in_t, N_in_f, M_in, N_div, N_rem, N_nb0, N_nb1, cond_true, cond_false, Bool.not_true, Bool.not_false, Bool.and_true, Bool.true_and, Bool.and_false, Bool.false_and, decide_true, decide_false, Option.bind_some, Option.bind_none]
        refine Ok_bind cps ?_
        rintro h3 ⟨F3, k3⟩
        obtain ⟨m1, m2⟩ := pr h3 F3
        rw [k3 12 (by decide), l95]
        simp (disch := omega) only [L_0, L_1, L_2, L_3, L_4, L_5, L_6, L_7, L_8, L_9, L_10, L_11, L_12, L_13, L_14, L_15, L_16, L_17, L_18, L_19, L_20, L_21, L_22, L_23, L_24, L_25, L_26, L_27, L_28, L_29, L_30, L_31, L_32, L_33, L_34, L_35, L_40, L_41, L_42, L_43, L_44, L_45, L_47, L_48, L_50, L_53, L_57, L_59, L_60, L_61, L_63, L_64, L_97, L_100, L_101, L_102, L_103, L_122, L_130, L_216, L_255, L_364, L_400, L_402, L_420, L_728, L_768, L_999, L_1000, L_1093, L_1872, L_2000, L_9999, L_12345, L_252645135, L_858993459, L_1103515245, L_1431655765, Lm_1, Lm_2, Lm_8, N_zero, N_cast, N_add, N_mul, N_sub, N_addM, N_lt_tp, N_lt_fp, N_le_tp, N_le_fp, N_eq_tp, N_eq_fp, MN_ltp, MN_lep, NM_ltp, NM_lep, NM_eqp, MN_eqp, MM_lt_tp, MM_lt_fp, MM_le_tp, MM_le_fp, MM_eq_tp, MM_eq_fp, N_cl, N_in_t, N_in_f, M_in, N_div, N_rem, N_nb0, N_nb1, cond_true, cond_false, Bool.not_true, Bool.not_false, Bool.and_true, Bool.true_and, Bool.and_false, Bool.false_and, decide_true, decide_false, Option.bind_some, Option.bind_none, bt_xor (rlf R) (show rlf R < 64 by omega) i (show i < 6 by omega), iu_nt (show 21 ≠ 96 by decide), iu_nt (show 83 ≠ 96 by decide), m1, m2]
        refine fin4 _ ?_ ?_ ?_ ?_
        · exact Fr_trans F3 (Fr_trans (Fr_iu rfl) (Fr_iu rfl))
        · rw [iu_ne (by decide), iu_at]
        · rw [iu_at, iu_ne (by decide), k3 14 (by decide), hco, tg, if_neg (by decide), co]
        · intro k a b c; rw [iu_ne b, iu_ne a]; exact k3 k c
      · have tg : g = 0 := by omega
        rw [t, tg]
        simp (disch := omega) only [L_0, L_1, L_2, L_3, L_4, L_5, L_6, L_7, L_8, L_9, L_10, L_11, L_12, L_13, L_14, L_15, L_16, L_17, L_18, L_19, L_20, L_21, L_22, L_23, L_24, L_25, L_26, L_27, L_28, L_29, L_30, L_31, L_32, L_33, L_34, L_35, L_40, L_41, L_42, L_43, L_44, L_45, L_47, L_48, L_50, L_53, L_57, L_59, L_60, L_61, L_63, L_64, L_97, L_100, L_101, L_102, L_103, L_122, L_130, L_216, L_255, L_364, L_400, L_402, L_420, L_728, L_768, L_999, L_1000, L_1093, L_1872, L_2000, L_9999, L_12345, L_252645135, L_858993459, L_1103515245, L_1431655765, Lm_1, Lm_2, Lm_8, N_zero, N_cast, N_add, N_mul, N_sub, N_addM, N_lt_tp, N_lt_fp, N_le_tp, N_le_fp, N_eq_tp, N_eq_fp, MN_ltp, MN_lep, NM_ltp, NM_lep, NM_eqp, MN_eqp, MM_lt_tp, MM_lt_fp, MM_le_tp, MM_le_fp, MM_eq_tp, MM_eq_fp, N_cl, N_in_t, N_in_f, M_in, N_div, N_rem, N_nb0, N_nb1, cond_true, cond_false, Bool.not_true, Bool.not_false, Bool.and_true, Bool.true_and, Bool.and_false, Bool.false_and, decide_true, decide_false, Option.bind_some, Option.bind_none]
        refine Ok_bind cps ?_
        rintro h3 ⟨F3, k3⟩
        rw [k3 12 (by decide), l95]
        simp (disch := omega) only [L_0, L_1, L_2, L_3, L_4, L_5, L_6, L_7, L_8, L_9, L_10, L_11, L_12, L_13, L_14, L_15, L_16, L_17, L_18, L_19, L_20, L_21, L_22, L_23, L_24, L_25, L_26, L_27, L_28, L_29, L_30, L_31, L_32, L_33, L_34, L_35, L_40, L_41, L_42, L_43, L_44, L_45, L_47, L_48, L_50, L_53, L_57, L_59, L_60, L_61, L_63, L_64, L_97, L_100, L_101, L_102, L_103, L_122, L_130, L_216, L_255, L_364, L_400, L_402, L_420, L_728, L_768, L_999, L_1000, L_1093, L_1872, L_2000, L_9999, L_12345, L_252645135, L_858993459, L_1103515245, L_1431655765, Lm_1, Lm_2, Lm_8, N_zero, N_cast, N_add, N_mul, N_sub, N_addM, N_lt_tp, N_lt_fp, N_le_tp, N_le_fp, N_eq_tp, N_eq_fp, MN_ltp, MN_lep, NM_ltp, NM_lep, NM_eqp, MN_eqp, MM_lt_tp, MM_lt_fp, MM_le_tp, MM_le_fp, MM_eq_tp, MM_eq_fp, N_cl, N_in_t, N_in_f, M_in, N_div, N_rem, N_nb0, N_nb1, cond_true, cond_false, Bool.not_true, Bool.not_false, Bool.and_true, Bool.true_and, Bool.and_false, Bool.false_and, decide_true, decide_false, Option.bind_some, Option.bind_none, bt_xor (rlf R) (show rlf R < 64 by omega) i (show i < 6 by omega)]
        refine fin4 _ ?_ ?_ ?_ ?_
        · exact Fr_trans F3 (Fr_iu rfl)
        · exact iu_at
        · rw [iu_ne (by decide), k3 14 (by decide), hco, tg, if_pos rfl, co]
        · intro k a b c; rw [iu_ne a]; exact k3 k c
  · refine nothing (a := nN 0) C D ?_ ?_
    · show q_X_leaflet sc h a (nN g) = _
      rw [q_X_leaflet_eq, X_isHouse_f C ha]
      simp (disch := omega) only [L_0, L_1, L_2, L_3, L_4, L_5, L_6, L_7, L_8, L_9, L_10, L_11, L_12, L_13, L_14, L_15, L_16, L_17, L_18, L_19, L_20, L_21, L_22, L_23, L_24, L_25, L_26, L_27, L_28, L_29, L_30, L_31, L_32, L_33, L_34, L_35, L_40, L_41, L_42, L_43, L_44, L_45, L_47, L_48, L_50, L_53, L_57, L_59, L_60, L_61, L_63, L_64, L_97, L_100, L_101, L_102, L_103, L_122, L_130, L_216, L_255, L_364, L_400, L_402, L_420, L_728, L_768, L_999, L_1000, L_1093, L_1872, L_2000, L_9999, L_12345, L_252645135, L_858993459, L_1103515245, L_1431655765, Lm_1, Lm_2, Lm_8, N_zero, N_cast, N_add, N_mul, N_sub, N_addM, N_lt_tp, N_lt_fp, N_le_tp, N_le_fp, N_eq_tp, N_eq_fp, MN_ltp, MN_lep, NM_ltp, NM_lep, NM_eqp, MN_eqp, MM_lt_tp, MM_lt_fp, MM_le_tp, MM_le_fp, MM_eq_tp, MM_eq_fp, N_cl, N_in_t, N_in_f, M_in, N_div, N_rem, N_nb0, N_nb1, cond_true, cond_false, Bool.not_true, Bool.not_false, Bool.and_true, Bool.true_and, Bool.and_false, Bool.false_and, decide_true, decide_false, Option.bind_some, Option.bind_none]
    · show q_M_leaflet sc h a (nN g) = _
      rw [q_M_leaflet_eq, M_isHouse_f C ha]
      simp (disch := omega) only [L_0, L_1, L_2, L_3, L_4, L_5, L_6, L_7, L_8, L_9, L_10, L_11, L_12, L_13, L_14, L_15, L_16, L_17, L_18, L_19, L_20, L_21, L_22, L_23, L_24, L_25, L_26, L_27, L_28, L_29, L_30, L_31, L_32, L_33, L_34, L_35, L_40, L_41, L_42, L_43, L_44, L_45, L_47, L_48, L_50, L_53, L_57, L_59, L_60, L_61, L_63, L_64, L_97, L_100, L_101, L_102, L_103, L_122, L_130, L_216, L_255, L_364, L_400, L_402, L_420, L_728, L_768, L_999, L_1000, L_1093, L_1872, L_2000, L_9999, L_12345, L_252645135, L_858993459, L_1103515245, L_1431655765, Lm_1, Lm_2, Lm_8, N_zero, N_cast, N_add, N_mul, N_sub, N_addM, N_lt_tp, N_lt_fp, N_le_tp, N_le_fp, N_eq_tp, N_eq_fp, MN_ltp, MN_lep, NM_ltp, NM_lep, NM_eqp, MN_eqp, MM_lt_tp, MM_lt_fp, MM_le_tp, MM_le_fp, MM_eq_tp, MM_eq_fp, N_cl, N_in_t, N_in_f, M_in, N_div, N_rem, N_nb0, N_nb1, cond_true, cond_false, Bool.not_true, Bool.not_false, Bool.and_true, Bool.true_and, Bool.and_false, Bool.false_and, decide_true, decide_false, Option.bind_some, Option.bind_none]
end
