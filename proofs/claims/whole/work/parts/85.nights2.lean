/-! nights, the call. -/
def KX (h h' : wb_H) (A : wa) (f o v : Nat) (W : Nat → Nat) (k : Nat) : Prop := Fr ([17, 54] ++ GL) h h' ∧ h'.1 17 0 1 = nN (v + k) ∧ h'.1 17 0 2 = h.1 17 0 2 ∧ h'.1 17 0 3 = acc (h.1 17 0 3) (fun t => sm (an A) (feP A f o (W t))) k ∧ h'.1 17 0 4 = acc (h.1 17 0 4) (fun t => wrW A 0 (W t)) k ∧ (k ≠ 0 → h'.1 17 0 5 = nN (tb (W (k - 1)) 0) ∧ h'.1 17 0 6 = nN (wrW A 0 (W (k - 1))) ∧ h'.1 17 0 7 = nN (sm (an A) (feP A f o (W (k - 1))))) ∧ (∀ k, k < 12 → h'.1 54 0 k = h.1 54 0 k) ∧ (k ≠ 0 → ∀ i, i < an A → h'.1 54 0 (12 + i) = nN (fin A 0 (W (k - 1)) (apl A i)) ∧ h'.1 54 0 (18 + i) = nN (sg (W (k - 1)) i)) ∧ (∀ i, i < an A → h'.1 54 0 (24 + i) = acc (h.1 54 0 (24 + i)) (fun t => wrB A 0 (W t) (apl A i)) k) ∧ (∀ o', o' ≠ 0 → ∀ k, h'.1 17 o' k = h.1 17 o' k ∧ h'.1 54 o' k = h.1 54 o' k)
def KM (h h' : wb_H) (A : wa) (f o v : Nat) (W : Nat → Nat) (k : Nat) : Prop := Fr [96] h h' ∧ (∀ k, k < 13 → h'.1 96 0 k = h.1 96 0 k) ∧ h'.1 96 0 13 = nN (v + k) ∧ h'.1 96 0 14 = acc (h.1 96 0 14) (fun t => sm (an A) (feP A f o (W t))) k ∧ h'.1 96 0 15 = acc (h.1 96 0 15) (fun t => wrW A 0 (W t)) k ∧ (k ≠ 0 → h'.1 96 0 16 = nN 1 ∧ h'.1 96 0 17 = nN (tb (W (k - 1)) 0) ∧ h'.1 96 0 18 = nN (wrW A 0 (W (k - 1))) ∧ h'.1 96 0 19 = nN (sm (an A) (feP A f o (W (k - 1))))) ∧ (k ≠ 0 → ∀ i, i < an A → h'.1 96 0 (20 + i) = nN (fin A 0 (W (k - 1)) (apl A i)) ∧ h'.1 96 0 (26 + i) = nN (sg (W (k - 1)) i)) ∧ (∀ i, i < an A → h'.1 96 0 (32 + i) = acc (h.1 96 0 (32 + i)) (fun t => wrB A 0 (W t) (apl A i)) k)
def LoT (sd : Int32) (x : Nat) : Int32 := LOT sd (nN x)
section
variable {sc : wb_X} {B : Nat}
theorem X_lots (sd : Int32) : ∀ (h : wb_H) (x : Nat), q_Evening_lotOfTen sc h sd (nN x) = some (LoT sd x, h) := fun h x => X_lot h sd (nN x)
theorem M_lots {sd : Int32} {h : wb_H} (hs : h.1 21 0 49 = sd) (x : Nat) : q_M_lotOf sc h (nN x) = some (LoT sd x, h) := by
  rw [M_lot, hs]
  rfl
theorem X_step {h h' : wb_H} {A : wa} {q f o v k : Nat} {sd : Int32} (hA : wa_ok A) (hX : XA h q A) (hE : XE h A 0) (hv : v + k ≤ 100000) (hf : f ≤ 30) (ho : o ≤ 30) (h8 : h.1 15 q 8 = nN f) (h9 : h.1 15 q 9 = nN o) (K : KX h h' A f o v (fun t => wN A (LoT sd) (v + t) (an A)) k) {P : Int32 × wb_H → Prop} {F : wb_H → Option (Int32 × wb_H)} (hF : ∀ h2, KX h h2 A f o v (fun t => wN A (LoT sd) (v + t) (an A)) (k + 1) → Ok (F h2) P) : Ok ((q_Evening_goBy sc h' sd (h'.1 17 0 1)).bind fun h1 => ((q_Standing_record sc h1 0).bind fun h2 => F h2)) P := by
  obtain ⟨K1, K2, K3, K4, K5, K6, K7, K8, K9, K10⟩ := K
  rw [K2]
  refine Ok_bind (X_goBy (X_lots sd) hA (XA_fr K1 rfl hX) (XE_fr K1 rfl hE) hv hf ho ((Fr_i K1 (by rfl)).trans h8) ((Fr_i K1 (by rfl)).trans h9)) ?_
  rintro h1 ⟨F1, g13, g16, g17, gc⟩
  have FF : Fr ([17, 54] ++ GL) h h1 := Fr_trans K1 (Fr_mono F1 rfl)
  have e17 : ∀ o k, h1.1 17 o k = h'.1 17 o k := fun o k => Fr_i F1 (by rfl)
  have e54 : ∀ o k, h1.1 54 o k = h'.1 54 o k := fun o k => Fr_i F1 (by rfl)
  refine Ok_bind (X_record hA (XA_fr FF rfl hX) ((e17 0 1).trans K2) g13 g16 g17 gc) ?_
  rintro h2 ⟨R1, R2, R3, R4, R5, R6, R7, R8, R9, R10, R11⟩
  refine hF h2 ⟨Fr_trans FF (Fr_mono R1 rfl), R2, R3.trans ((e17 0 2).trans K3), ?_, ?_, fun _ => ⟨R6, R7, R8⟩, fun k hk => (R9 k hk).trans ((e54 0 k).trans (K7 k hk)), fun _ i hi => ⟨(R10 i hi).1, (R10 i hi).2.1⟩, fun i hi => ?_, fun o' ho' k => ?_⟩
  · rw [R4, e17, K4]; rfl
  · rw [R5, e17, K5]; rfl
  · rw [(R10 i hi).2.2, e54, K9 i hi]; rfl
  · obtain ⟨t1, t2⟩ := R11 o' ho' k
    obtain ⟨u1, u2⟩ := K10 o' ho' k
    exact ⟨t1.trans ((e17 o' k).trans u1), t2.trans ((e54 o' k).trans u2)⟩
theorem M_step {h h' : wb_H} {A : wa} {s l f o v k : Nat} {sd : Int32} (hA : wa_ok A) (hM : MA h s l A) (hO : fO h A 0) (hs : h.1 21 0 49 = sd) (hf : f ≤ 30) (ho : o ≤ 30) (h81 : h.1 81 0 s = nN f) (h82 : h.1 82 0 s = nN o) (K : KM h h' A f o v (fun t => wN A (LoT sd) (v + t) (an A)) k) : Ok (q_M_nightGoes sc h') (fun h2 => KM h h2 A f o v (fun t => wN A (LoT sd) (v + t) (an A)) (k + 1)) := by
  obtain ⟨K1, K2, K3, K4, K5, K6, K7, K8⟩ := K
  refine Ok_w (M_night (L := LoT sd) hA (MA_keep hA K1 K2 hM) (fO_fr K1 rfl hO) (M_lots ((Fr_i K1 (by rfl)).trans hs)) K3 hf ho ((Fr_i K1 (by rfl)).trans h81) ((Fr_i K1 (by rfl)).trans h82)) ?_
  rintro h2 ⟨N1, N2, N3, N4, N5, N6, N7, N8, N9, N10⟩
  refine ⟨Fr_trans K1 N1, fun k hk => (N2 k hk).trans (K2 k hk), N3, ?_, ?_, fun _ => ⟨N6, N7, N8, N9⟩, fun _ i hi => ⟨(N10 i hi).1, (N10 i hi).2.1⟩, fun i hi => ?_⟩
  · rw [N4, K4]; rfl
  · rw [N5, K5]; rfl
  · rw [(N10 i hi).2.2, K8 i hi]; rfl
theorem X_tonight2 {h : wb_H} {T : wT} {R : wR} {q : Nat} (hT : T_ok T) (hR : R_ok T R) (hX : XT h q T) (hS : Std h 0 T R) (e1 : h.2.2 20 0 2 = q + 1) (D : Cache h T R q) : Ok (q_X_tonight sc h) (fun h' => Fr XQQ h h' ∧ XA h' q (mkA T R) ∧ XE h' (mkA T R) 0 ∧ Cache h' T R q) := by
  have g1 : decide (0 < q + 1) = true := decide_eq_true (by omega)
  obtain ⟨D1, D2, D3⟩ := D
  rw [q_X_tonight_eq]
  rcases D1 with e | ⟨e, x1, x2⟩
  · have f := hS.2.2
    simp (disch := omega) only [L_0, L_1, L_2, L_3, L_4, L_5, L_6, L_7, L_8, L_9, L_10, L_11, L_12, L_13, L_14, L_15, L_16, L_17, L_18, L_19, L_20, L_21, L_22, L_23, L_24, L_25, L_26, L_27, L_28, L_29, L_30, L_31, L_32, L_33, L_34, L_35, L_40, L_41, L_42, L_43, L_44, L_45, L_47, L_48, L_50, L_53, L_57, L_59, L_60, L_61, L_63, L_64, L_97, L_100, L_101, L_102, L_103, L_122, L_130, L_216, L_255, L_364, L_400, L_402, L_420, L_728, L_768, L_999, L_1000, L_1093, L_1872, L_2000, L_9999, L_12345, L_252645135, L_858993459, L_1103515245, L_1431655765, Lm_1, Lm_2, Lm_8, N_zero, N_cast, N_add, N_mul, N_sub, N_addM, N_lt_tp, N_lt_fp, N_le_tp, N_le_fp, N_eq_tp, N_eq_fp, MN_ltp, MN_lep, NM_ltp, NM_lep, NM_eqp, MN_eqp, MM_lt_tp, MM_lt_fp, MM_le_tp, MM_le_fp, MM_eq_tp, MM_eq_fp, N_cl, N_in_t, N_in_f, M_in, N_div, N_rem, N_nb0, N_nb1, cond_true, cond_false, Bool.not_true, Bool.not_false, Bool.and_true, Bool.true_and, Bool.and_false, Bool.false_and, decide_true, decide_false, Option.bind_some, Option.bind_none, e, e1, Nat.add_sub_cancel, g1, f]
    refine Ok_bind (X_arrange hT hR hX hS hR.2.2.2.2 (by decide)) ?_
    rintro h1 ⟨F1, -, A1⟩
    rw [rwith_self] at A1
    refine Ok_bind (X_unfold (mkA_ok hT hR) (Nat.zero_le _) A1) ?_
    rintro h2 ⟨F2, E2⟩
    have F3 : Fr [2015] h2 (wb_iu h2 20 0 15 (nN 1)) := Fr_iu rfl
    have F12 : Fr XQQ h h2 := Fr_trans (Fr_mono F1 rfl) (Fr_mono F2 rfl)
    have A3 := XA_fr F3 rfl (XA_fr F2 rfl A1)
    have E3 := XE_fr F3 rfl E2
    have F4 : Fr (SA ++ SX ++ [2015]) h (wb_iu h2 20 0 15 (nN 1)) := Fr_trans (Fr_trans (Fr_mono F1 rfl) (Fr_mono F2 rfl)) (Fr_mono F3 rfl)
    refine Ok_some ⟨Fr_trans F12 (Fr_mono F3 rfl), A3, E3, Or.inr ⟨iu_at, A3, E3⟩, fun l hl => ?_, ?_⟩
    · rw [Fr_i F4 (t := 62) (by rfl)]
      exact D2 l hl
    · rw [Fr_i F4 (t := 20) (k := 14) (by rfl)]
      rcases D3 with d | d
      · exact Or.inl d
      · refine Or.inr ⟨(Fr_i F4 (by rfl)).trans d.1, fun set hs gs => (Fr_i F4 (by rfl)).trans (d.2 set hs gs)⟩
  · simp (disch := omega) only [L_0, L_1, L_2, L_3, L_4, L_5, L_6, L_7, L_8, L_9, L_10, L_11, L_12, L_13, L_14, L_15, L_16, L_17, L_18, L_19, L_20, L_21, L_22, L_23, L_24, L_25, L_26, L_27, L_28, L_29, L_30, L_31, L_32, L_33, L_34, L_35, L_40, L_41, L_42, L_43, L_44, L_45, L_47, L_48, L_50, L_53, L_57, L_59, L_60, L_61, L_63, L_64, L_97, L_100, L_101, L_102, L_103, L_122, L_130, L_216, L_255, L_364, L_400, L_402, L_420, L_728, L_768, L_999, L_1000, L_1093, L_1872, L_2000, L_9999, L_12345, L_252645135, L_858993459, L_1103515245, L_1431655765, Lm_1, Lm_2, Lm_8, N_zero, N_cast, N_add, N_mul, N_sub, N_addM, N_lt_tp, N_lt_fp, N_le_tp, N_le_fp, N_eq_tp, N_eq_fp, MN_ltp, MN_lep, NM_ltp, NM_lep, NM_eqp, MN_eqp, MM_lt_tp, MM_lt_fp, MM_le_tp, MM_le_fp, MM_eq_tp, MM_eq_fp, N_cl, N_in_t, N_in_f, M_in, N_div, N_rem, N_nb0, N_nb1, cond_true, cond_false, Bool.not_true, Bool.not_false, Bool.and_true, Bool.true_and, Bool.and_false, Bool.false_and, decide_true, decide_false, Option.bind_some, Option.bind_none, e]
    exact Ok_some ⟨Fr_refl _ _, x1, x2, Or.inr ⟨e, x1, x2⟩, D2, D3⟩
def XN : List Nat := [17, 54, 9001, 9002] ++ XQQ
theorem c_nights {h : wb_H} (I : Inv h B) (hB : B ≤ 90000) (a : Int32) : Same (fun h => q_X_nights sc h a) (fun h => q_M_nights sc h a) h (B + 50) := by
  obtain ⟨T, R, v, q, s, C0, D⟩ := I
  have hv0 := C0.2.2.1
  have C := Core_le (show B ≤ B + 50 by omega) C0
  have n6 := C.1.1
  have hA := mkA_ok C.1 C.2.1
  have S := C.2.2.2.2.2.2.2.1
  by_cases ha : hsP (50 + 1) a
  · obtain ⟨m, hm, rfl⟩ := ha
    by_cases z : m = 0
    · subst z
      refine nothing (a := nN v) C D ?_ ?_
      · show q_X_nights sc h (nN 0) = _
        rw [q_X_nights_eq]
        simp (disch := omega) only [L_0, L_1, L_2, L_3, L_4, L_5, L_6, L_7, L_8, L_9, L_10, L_11, L_12, L_13, L_14, L_15, L_16, L_17, L_18, L_19, L_20, L_21, L_22, L_23, L_24, L_25, L_26, L_27, L_28, L_29, L_30, L_31, L_32, L_33, L_34, L_35, L_40, L_41, L_42, L_43, L_44, L_45, L_47, L_48, L_50, L_53, L_57, L_59, L_60, L_61, L_63, L_64, L_97, L_100, L_101, L_102, L_103, L_122, L_130, L_216, L_255, L_364, L_400, L_402, L_420, L_728, L_768, L_999, L_1000, L_1093, L_1872, L_2000, L_9999, L_12345, L_252645135, L_858993459, L_1103515245, L_1431655765, Lm_1, Lm_2, Lm_8, N_zero, N_cast, N_add, N_mul, N_sub, N_addM, N_lt_tp, N_lt_fp, N_le_tp, N_le_fp, N_eq_tp, N_eq_fp, MN_ltp, MN_lep, NM_ltp, NM_lep, NM_eqp, MN_eqp, MM_lt_tp, MM_lt_fp, MM_le_tp, MM_le_fp, MM_eq_tp, MM_eq_fp, N_cl, N_in_t, N_in_f, M_in, N_div, N_rem, N_nb0, N_nb1, cond_true, cond_false, Bool.not_true, Bool.not_false, Bool.and_true, Bool.true_and, Bool.and_false, Bool.false_and, decide_true, decide_false, Option.bind_some, Option.bind_none, S.2.2.1]
      · show q_M_nights sc h (nN 0) = _
        have s13 := S.2.2.2.1
        rw [Nat.zero_add] at s13
        rw [q_M_nights_eq]
        simp only [L_0, L_1, L_2, L_3, L_4, L_5, L_6, L_7, L_8, L_9, L_10, L_11, L_12, L_13, L_14, L_15, L_16, L_17, L_18, L_19, L_20, L_21, L_22, L_23, L_24, L_25, L_26, L_27, L_28, L_29, L_30, L_31, L_32, L_33, L_34, L_35, L_40, L_41, L_42, L_43, L_44, L_45, L_47, L_48, L_50, L_53, L_57, L_59, L_60, L_61, L_63, L_64, L_97, L_100, L_101, L_102, L_103, L_122, L_130, L_216, L_255, L_364, L_400, L_402, L_420, L_728, L_768, L_999, L_1000, L_1093, L_1872, L_2000, L_9999, L_12345, L_252645135, L_858993459, L_1103515245, L_1431655765, Lm_1, Lm_2, Lm_8]
        rw [M_in_t (by omega) (by decide)]
        simp (disch := omega) only [L_0, L_1, L_2, L_3, L_4, L_5, L_6, L_7, L_8, L_9, L_10, L_11, L_12, L_13, L_14, L_15, L_16, L_17, L_18, L_19, L_20, L_21, L_22, L_23, L_24, L_25, L_26, L_27, L_28, L_29, L_30, L_31, L_32, L_33, L_34, L_35, L_40, L_41, L_42, L_43, L_44, L_45, L_47, L_48, L_50, L_53, L_57, L_59, L_60, L_61, L_63, L_64, L_97, L_100, L_101, L_102, L_103, L_122, L_130, L_216, L_255, L_364, L_400, L_402, L_420, L_728, L_768, L_999, L_1000, L_1093, L_1872, L_2000, L_9999, L_12345, L_252645135, L_858993459, L_1103515245, L_1431655765, Lm_1, Lm_2, Lm_8, N_zero, N_cast, N_add, N_mul, N_sub, N_addM, N_lt_tp, N_lt_fp, N_le_tp, N_le_fp, N_eq_tp, N_eq_fp, MN_ltp, MN_lep, NM_ltp, NM_lep, NM_eqp, MN_eqp, MM_lt_tp, MM_lt_fp, MM_le_tp, MM_le_fp, MM_eq_tp, MM_eq_fp, N_cl, N_in_t, N_in_f, M_in, N_div, N_rem, N_nb0, N_nb1, cond_true, cond_false, Bool.not_true, Bool.not_false, Bool.and_true, Bool.true_and, Bool.and_false, Bool.false_and, decide_true, decide_false, Option.bind_some, Option.bind_none, s13]
    · obtain ⟨nx, c, p1, p2, p3, p4, p5, p6⟩ := C.2.2.2.2.2.2.2.2.1
      have hX : Ok (q_X_nights sc h (nN m)) (fun r => r.1 = nN (v + m) ∧ ∃ h2, Fr XN h h2 ∧ XP h h2 nx c ∧ Cache h2 T R q ∧ (∀ k, h2.1 17 0 k = h.1 17 0 k) ∧ (∀ k, h2.1 54 0 k = h.1 54 0 k) ∧ KX h2 r.2 (mkA T R) (tF T) (tO T) v (fun t => wN (mkA T R) (LoT (nN (tS T))) (v + t) (tn T)) m) := by
        rw [q_X_nights_eq]
        simp (disch := omega) only [L_0, L_1, L_2, L_3, L_4, L_5, L_6, L_7, L_8, L_9, L_10, L_11, L_12, L_13, L_14, L_15, L_16, L_17, L_18, L_19, L_20, L_21, L_22, L_23, L_24, L_25, L_26, L_27, L_28, L_29, L_30, L_31, L_32, L_33, L_34, L_35, L_40, L_41, L_42, L_43, L_44, L_45, L_47, L_48, L_50, L_53, L_57, L_59, L_60, L_61, L_63, L_64, L_97, L_100, L_101, L_102, L_103, L_122, L_130, L_216, L_255, L_364, L_400, L_402, L_420, L_728, L_768, L_999, L_1000, L_1093, L_1872, L_2000, L_9999, L_12345, L_252645135, L_858993459, L_1103515245, L_1431655765, Lm_1, Lm_2, Lm_8, N_zero, N_cast, N_add, N_mul, N_sub, N_addM, N_lt_tp, N_lt_fp, N_le_tp, N_le_fp, N_eq_tp, N_eq_fp, MN_ltp, MN_lep, NM_ltp, NM_lep, NM_eqp, MN_eqp, MM_lt_tp, MM_lt_fp, MM_le_tp, MM_le_fp, MM_eq_tp, MM_eq_fp, N_cl, N_in_t, N_in_f, M_in, N_div, N_rem, N_nb0, N_nb1, cond_true, cond_false, Bool.not_true, Bool.not_false, Bool.and_true, Bool.true_and, Bool.and_false, Bool.false_and, decide_true, decide_false, Option.bind_some, Option.bind_none]
        refine Ok_bind (X_remember p1 p2 p3 p4 S.2.2.2.2.2.2.1) ?_
        rintro h1 ⟨F1, P1, k1, k2⟩
        have XT1 := XT_fr F1 rfl C.2.2.2.1
        have S1 : Std h1 0 T R := ⟨fun i hi => (k2 _).trans (S.1.1 i hi), fun i hi => (k2 _).trans (S.1.2.1 i hi), (k1 2).trans S.1.2.2⟩
        have e1 : h1.2.2 20 0 2 = q + 1 := (Fr_m F1 (by rfl)).trans (X_ptr C).1
        refine Ok_bind (X_tonight2 C.1 C.2.1 XT1 S1 e1 (Cache_fr F1 rfl rfl rfl D)) ?_
        rintro h2 ⟨F2, A2, E2, D2⟩
        have XT2 := XT_fr F2 rfl XT1
        have f17 : ∀ o k, h2.1 17 o k = h1.1 17 o k := fun o k => Fr_i F2 (by rfl)
        have f54 : ∀ o k, h2.1 54 o k = h1.1 54 o k := fun o k => Fr_i F2 (by rfl)
        obtain ⟨P11, P12, P13, P14, P15⟩ := P1
        have P2 : XP h h2 nx c := ⟨(Fr_i F2 (by rfl)).trans P11, (Fr_i F2 (by rfl)).trans P12, fun k hk hk1 => (f17 _ _).trans (P13 k hk hk1), fun k hk => (f54 _ _).trans (P14 k hk), fun o ho1 ho2 k => ⟨(f17 _ _).trans (P15 o ho1 ho2 k).1, (f54 _ _).trans (P15 o ho1 ho2 k).2⟩⟩
        have key : ∀ r k, k + r = m → ∀ h', KX h2 h' (mkA T R) (tF T) (tO T) v (fun t => wN (mkA T R) (LoT (nN (tS T))) (v + t) (tn T)) k → Ok (q_X_nights_L34 sc h' (nN m) (nN k)) (fun r => r.1 = nN (v + m) ∧ KX h2 r.2 (mkA T R) (tF T) (tO T) v (fun t => wN (mkA T R) (LoT (nN (tS T))) (v + t) (tn T)) m) := by
          intro r
          induction r with
          | zero =>
            intro k hk h' K
            rw [Nat.add_zero] at hk
            subst hk
            rw [q_X_nights_L34_eq]
            simp (disch := omega) only [L_0, L_1, L_2, L_3, L_4, L_5, L_6, L_7, L_8, L_9, L_10, L_11, L_12, L_13, L_14, L_15, L_16, L_17, L_18, L_19, L_20, L_21, L_22, L_23, L_24, L_25, L_26, L_27, L_28, L_29, L_30, L_31, L_32, L_33, L_34, L_35, L_40, L_41, L_42, L_43, L_44, L_45, L_47, L_48, L_50, L_53, L_57, L_59, L_60, L_61, L_63, L_64, L_97, L_100, L_101, L_102, L_103, L_122, L_130, L_216, L_255, L_364, L_400, L_402, L_420, L_728, L_768, L_999, L_1000, L_1093, L_1872, L_2000, L_9999, L_12345, L_252645135, L_858993459, L_1103515245, L_1431655765, Lm_1, Lm_2, Lm_8, N_zero, N_cast, N_add, N_mul, N_sub, N_addM, N_lt_tp, N_lt_fp, N_le_tp, N_le_fp, N_eq_tp, N_eq_fp, MN_ltp, MN_lep, NM_ltp, NM_lep, NM_eqp, MN_eqp, MM_lt_tp, MM_lt_fp, MM_le_tp, MM_le_fp, MM_eq_tp, MM_eq_fp, N_cl, N_in_t, N_in_f, M_in, N_div, N_rem, N_nb0, N_nb1, cond_true, cond_false, Bool.not_true, Bool.not_false, Bool.and_true, Bool.true_and, Bool.and_false, Bool.false_and, decide_true, decide_false, Option.bind_some, Option.bind_none]
            exact Ok_some ⟨K.2.1, K⟩
          | succ r ih =>
            intro k hk h' K
            have e2 : h'.2.2 20 0 2 = q + 1 := ((Fr_m K.1 (by rfl)).trans (Fr_m F2 (by rfl))).trans e1
            have g1 : decide (0 < q + 1) = true := decide_eq_true (by omega)
            have g3 : decide (q < 2) = true := decide_eq_true XT2.1
            have e11 : h'.1 15 q 11 = nN (tS T) := (Fr_i K.1 (by rfl)).trans XT2.2.2.2.2.2.2.1
            rw [q_X_nights_L34_eq]
            simp (disch := omega) only [L_0, L_1, L_2, L_3, L_4, L_5, L_6, L_7, L_8, L_9, L_10, L_11, L_12, L_13, L_14, L_15, L_16, L_17, L_18, L_19, L_20, L_21, L_22, L_23, L_24, L_25, L_26, L_27, L_28, L_29, L_30, L_31, L_32, L_33, L_34, L_35, L_40, L_41, L_42, L_43, L_44, L_45, L_47, L_48, L_50, L_53, L_57, L_59, L_60, L_61, L_63, L_64, L_97, L_100, L_101, L_102, L_103, L_122, L_130, L_216, L_255, L_364, L_400, L_402, L_420, L_728, L_768, L_999, L_1000, L_1093, L_1872, L_2000, L_9999, L_12345, L_252645135, L_858993459, L_1103515245, L_1431655765, Lm_1, Lm_2, Lm_8, N_zero, N_cast, N_add, N_mul, N_sub, N_addM, N_lt_tp, N_lt_fp, N_le_tp, N_le_fp, N_eq_tp, N_eq_fp, MN_ltp, MN_lep, NM_ltp, NM_lep, NM_eqp, MN_eqp, MM_lt_tp, MM_lt_fp, MM_le_tp, MM_le_fp, MM_eq_tp, MM_eq_fp, N_cl, N_in_t, N_in_f, M_in, N_div, N_rem, N_nb0, N_nb1, cond_true, cond_false, Bool.not_true, Bool.not_false, Bool.and_true, Bool.true_and, Bool.and_false, Bool.false_and, decide_true, decide_false, Option.bind_some, Option.bind_none, e2, Nat.add_sub_cancel, g1, g3, e11]
            exact X_step hA A2 E2 (by omega) C.1.2.2.1 C.1.2.2.2.1 XT2.2.2.2.1 XT2.2.2.2.2.1 K (fun h3 K3 => ih (k + 1) (by omega) h3 K3)
        refine Ok_w (key m 0 (Nat.zero_add _) h2 ⟨Fr_refl _ _, ?_, rfl, rfl, rfl, fun y => absurd rfl y, fun _ _ => rfl, fun y => absurd rfl y, fun _ _ => rfl, fun _ _ _ => ⟨rfl, rfl⟩⟩) ?_
        · rw [f17, k1]; exact S.2.2.1
        · rintro r ⟨r1, r2⟩
          exact ⟨r1, h2, Fr_trans (Fr_mono F1 rfl) (Fr_mono F2 rfl), P2, D2, fun k => (f17 _ _).trans (k1 k), fun k => (f54 _ _).trans (k2 k), r2⟩
      refine Ok_w hX ?_
      rintro ⟨x, h3⟩ ⟨x1, h2, F2, P2, D2, k17, k54, K⟩
      simp only at x1 K ⊢
      rw [x1]
      have K1 := K.1
      have FX : Fr (XN ++ GL) h h3 := Fr_trans (Fr_mono F2 rfl) (Fr_mono K1 rfl)
      have oth := K.2.2.2.2.2.2.2.2.2
      have P3 : XP h h3 nx c := ⟨(Fr_i K1 (by rfl)).trans P2.1, (Fr_i K1 (by rfl)).trans P2.2.1, fun k hk hk1 => ((oth _ (by omega) k).1).trans (P2.2.2.1 k hk hk1), fun k hk => ((oth _ (by omega) k).2).trans (P2.2.2.2.1 k hk), fun o ho1 ho2 k => ⟨(oth o ho2 k).1.trans (P2.2.2.2.2 o ho1 ho2 k).1, (oth o ho2 k).2.trans (P2.2.2.2.2 o ho1 ho2 k).2⟩⟩
      have D3 : Cache h3 T R q := Cache_fr K1 rfl rfl rfl D2
      have Ma := MT_fr FX rfl rfl C.2.2.2.2.1
      have b95 : ∀ k, h3.1 95 0 k = h.1 95 0 k := fun k => Fr_i FX (by rfl)
      show Ok (q_M_nights sc h3 (nN m)) _
      rw [q_M_nights_eq]
      simp only [L_0, L_1, L_2, L_3, L_4, L_5, L_6, L_7, L_8, L_9, L_10, L_11, L_12, L_13, L_14, L_15, L_16, L_17, L_18, L_19, L_20, L_21, L_22, L_23, L_24, L_25, L_26, L_27, L_28, L_29, L_30, L_31, L_32, L_33, L_34, L_35, L_40, L_41, L_42, L_43, L_44, L_45, L_47, L_48, L_50, L_53, L_57, L_59, L_60, L_61, L_63, L_64, L_97, L_100, L_101, L_102, L_103, L_122, L_130, L_216, L_255, L_364, L_400, L_402, L_420, L_728, L_768, L_999, L_1000, L_1093, L_1872, L_2000, L_9999, L_12345, L_252645135, L_858993459, L_1103515245, L_1431655765, Lm_1, Lm_2, Lm_8]
      rw [M_in_t (by omega) (by decide)]
      simp (disch := omega) only [L_0, L_1, L_2, L_3, L_4, L_5, L_6, L_7, L_8, L_9, L_10, L_11, L_12, L_13, L_14, L_15, L_16, L_17, L_18, L_19, L_20, L_21, L_22, L_23, L_24, L_25, L_26, L_27, L_28, L_29, L_30, L_31, L_32, L_33, L_34, L_35, L_40, L_41, L_42, L_43, L_44, L_45, L_47, L_48, L_50, L_53, L_57, L_59, L_60, L_61, L_63, L_64, L_97, L_100, L_101, L_102, L_103, L_122, L_130, L_216, L_255, L_364, L_400, L_402, L_420, L_728, L_768, L_999, L_1000, L_1093, L_1872, L_2000, L_9999, L_12345, L_252645135, L_858993459, L_1103515245, L_1431655765, Lm_1, Lm_2, Lm_8, N_zero, N_cast, N_add, N_mul, N_sub, N_addM, N_lt_tp, N_lt_fp, N_le_tp, N_le_fp, N_eq_tp, N_eq_fp, MN_ltp, MN_lep, NM_ltp, NM_lep, NM_eqp, MN_eqp, MM_lt_tp, MM_lt_fp, MM_le_tp, MM_le_fp, MM_eq_tp, MM_eq_fp, N_cl, N_in_t, N_in_f, M_in, N_div, N_rem, N_nb0, N_nb1, cond_true, cond_false, Bool.not_true, Bool.not_false, Bool.and_true, Bool.true_and, Bool.and_false, Bool.false_and, decide_true, decide_false, Option.bind_some, Option.bind_none]
      have cop : Ok (q_M_copies sc h3) (fun h' => Fr [96, 1049, 1050] h3 h' ∧ (∀ i, i < 48 → h'.1 96 0 i = h.1 95 0 i) ∧ h'.1 21 0 49 = nN (tS T) ∧ h'.1 21 0 50 = nN 0) := by
        rw [q_M_copies_eq]
        simp only [L_0, L_1, L_2, L_3, L_4, L_5, L_6, L_7, L_8, L_9, L_10, L_11, L_12, L_13, L_14, L_15, L_16, L_17, L_18, L_19, L_20, L_21, L_22, L_23, L_24, L_25, L_26, L_27, L_28, L_29, L_30, L_31, L_32, L_33, L_34, L_35, L_40, L_41, L_42, L_43, L_44, L_45, L_47, L_48, L_50, L_53, L_57, L_59, L_60, L_61, L_63, L_64, L_97, L_100, L_101, L_102, L_103, L_122, L_130, L_216, L_255, L_364, L_400, L_402, L_420, L_728, L_768, L_999, L_1000, L_1093, L_1872, L_2000, L_9999, L_12345, L_252645135, L_858993459, L_1103515245, L_1431655765, Lm_1, Lm_2, Lm_8]
        refine Ok_w (M_copies_L Ma.1 Ma.2.1 48 0 rfl h3 (Fr_refl _ _) (fun i hi => by omega)) ?_
        rintro h' ⟨a, b, c, d⟩
        exact ⟨a, fun i hi => (b i hi).trans (b95 i), c.trans Ma.2.2.2.2.2.2.2.1, d⟩
      refine Ok_bind cop ?_
      rintro h4 ⟨F4, c96, c49, c50⟩
      have M4 := MT_fr F4 rfl rfl Ma
      have r4 : Row h4 96 0 T R := Row_copy n6 (fun k hk => by rw [Nat.zero_add]; exact c96 k hk) S.2.1
      have A4 := MA_mk C.1 C.2.1 M4 r4
      refine Ok_bind (M_fillsOut hA A4 (Nat.zero_le _) c50) ?_
      rintro h5 ⟨F5, O5⟩
      have A5 := MA_fr F5 rfl A4
      have M5 := MT_fr F5 rfl rfl M4
      have c5 : ∀ k, k < 48 → h5.1 96 0 k = h.1 95 0 k := fun k hk => (Fr_i F5 (by rfl)).trans (c96 k hk)
      have s5 : h5.1 21 0 49 = nN (tS T) := (Fr_i F5 (by rfl)).trans c49
      have S13 := S.2.2.2.1
      have S14 := S.2.2.2.2.1
      have S15 := S.2.2.2.2.2.1
      rw [Nat.zero_add] at S13 S14 S15
      have key : ∀ r k, k + r = m → ∀ h', KM h5 h' (mkA T R) (tF T) (tO T) v (fun t => wN (mkA T R) (LoT (nN (tS T))) (v + t) (tn T)) k → Ok (q_M_nights_L34 sc h' (nN m) (nN k)) (fun r2 => r2.1 = nN (v + m) ∧ Inv r2.2 (B + 50)) := by
        intro r
        induction r with
        | zero =>
          intro k hk h6 H
          rw [Nat.add_zero] at hk
          subst hk
          obtain ⟨H1, H2, H3, H4, H5, H6, H7, H8⟩ := H
          have FM : Fr ([96, 1049, 1050] ++ SCR) h3 h6 := Fr_trans (Fr_mono F4 rfl) (Fr_trans (Fr_mono F5 rfl) (Fr_mono H1 rfl))
          have e54 : h6.1 21 0 54 = nN c := ((Fr_i FM (by rfl)).trans (Fr_i FX (by rfl))).trans p5
          rw [q_M_nights_L34_eq]
          simp (disch := omega) only [L_0, L_1, L_2, L_3, L_4, L_5, L_6, L_7, L_8, L_9, L_10, L_11, L_12, L_13, L_14, L_15, L_16, L_17, L_18, L_19, L_20, L_21, L_22, L_23, L_24, L_25, L_26, L_27, L_28, L_29, L_30, L_31, L_32, L_33, L_34, L_35, L_40, L_41, L_42, L_43, L_44, L_45, L_47, L_48, L_50, L_53, L_57, L_59, L_60, L_61, L_63, L_64, L_97, L_100, L_101, L_102, L_103, L_122, L_130, L_216, L_255, L_364, L_400, L_402, L_420, L_728, L_768, L_999, L_1000, L_1093, L_1872, L_2000, L_9999, L_12345, L_252645135, L_858993459, L_1103515245, L_1431655765, Lm_1, Lm_2, Lm_8, N_zero, N_cast, N_add, N_mul, N_sub, N_addM, N_lt_tp, N_lt_fp, N_le_tp, N_le_fp, N_eq_tp, N_eq_fp, MN_ltp, MN_lep, NM_ltp, NM_lep, NM_eqp, MN_eqp, MM_lt_tp, MM_lt_fp, MM_le_tp, MM_le_fp, MM_eq_tp, MM_eq_fp, N_cl, N_in_t, N_in_f, M_in, N_div, N_rem, N_nb0, N_nb1, cond_true, cond_false, Bool.not_true, Bool.not_false, Bool.and_true, Bool.true_and, Bool.and_false, Bool.false_and, decide_true, decide_false, Option.bind_some, Option.bind_none]
          refine Ok_bind (M_keeps p2 e54) ?_
          intro h7 mp
          simp (disch := omega) only [L_0, L_1, L_2, L_3, L_4, L_5, L_6, L_7, L_8, L_9, L_10, L_11, L_12, L_13, L_14, L_15, L_16, L_17, L_18, L_19, L_20, L_21, L_22, L_23, L_24, L_25, L_26, L_27, L_28, L_29, L_30, L_31, L_32, L_33, L_34, L_35, L_40, L_41, L_42, L_43, L_44, L_45, L_47, L_48, L_50, L_53, L_57, L_59, L_60, L_61, L_63, L_64, L_97, L_100, L_101, L_102, L_103, L_122, L_130, L_216, L_255, L_364, L_400, L_402, L_420, L_728, L_768, L_999, L_1000, L_1093, L_1872, L_2000, L_9999, L_12345, L_252645135, L_858993459, L_1103515245, L_1431655765, Lm_1, Lm_2, Lm_8, N_zero, N_cast, N_add, N_mul, N_sub, N_addM, N_lt_tp, N_lt_fp, N_le_tp, N_le_fp, N_eq_tp, N_eq_fp, MN_ltp, MN_lep, NM_ltp, NM_lep, NM_eqp, MN_eqp, MM_lt_tp, MM_lt_fp, MM_le_tp, MM_le_fp, MM_eq_tp, MM_eq_fp, N_cl, N_in_t, N_in_f, M_in, N_div, N_rem, N_nb0, N_nb1, cond_true, cond_false, Bool.not_true, Bool.not_false, Bool.and_true, Bool.true_and, Bool.and_false, Bool.false_and, decide_true, decide_false, Option.bind_some, Option.bind_none, mp.2.2.2.2 13 (by decide), H3]
          obtain ⟨-, K2, K3, K4, K5, K6, K7, K8, K9, -⟩ := K
          have i17 : ∀ k, h6.1 17 0 k = h3.1 17 0 k := fun k => Fr_i FM (by rfl)
          have i54 : ∀ k, h6.1 54 0 k = h3.1 54 0 k := fun k => Fr_i FM (by rfl)
          obtain ⟨k6a, k6b, k6c⟩ := K6 z
          obtain ⟨h6a, h6b, h6c, h6d⟩ := H6 z
          have vm : v + k ≠ 0 := by omega
          have sr : SR h6 T 0 96 0 R (v + k) := by
            refine ⟨⟨fun i hi => ?_, fun i hi => ?_, ?_⟩, ⟨fun i hi => ?_, fun i hi => ?_, ?_⟩, (i17 1).trans K2, ?_, ?_, ?_, ?_, ?_, fun _ => ⟨?_, ?_, ?_⟩, fun _ i hi => ⟨?_, ?_, fin (mkA T R) 0 (wN (mkA T R) (LoT (nN (tS T))) (v + (k - 1)) (tn T)) (apl (mkA T R) i), fin_le _ _ _ _, ?_⟩, fun y => absurd y vm, fun i hi => ?_⟩
            · rw [i54, K7 i (by omega), k54]; exact S.1.1 i hi
            · rw [i54, K7 (6 + i) (by omega), k54]; exact S.1.2.1 i hi
            · rw [i17, K3, k17]; exact S.1.2.2
            · rw [Nat.zero_add, H2 i (by omega), c5 i (by omega)]; have := S.2.1.1 i hi; rwa [Nat.zero_add] at this
            · rw [Nat.zero_add, H2 (6 + i) (by omega), c5 _ (by omega)]; have := S.2.1.2.1 i hi; rwa [Nat.zero_add] at this
            · rw [Nat.zero_add, H2 12 (by omega), c5 _ (by omega)]; have := S.2.1.2.2; rwa [Nat.zero_add] at this
            · rw [Nat.zero_add]; exact H3
            · rw [Nat.zero_add, i17, K4, H4, k17, c5 14 (by decide), S14]
            · rw [Nat.zero_add, i17, K5, H5, k17, c5 15 (by decide), S15]
            · rw [i17, k6a]; exact N_nb (Nat.le_of_lt_succ (tb_lt _ _))
            · rw [Nat.zero_add, h6a, if_neg vm]
            · rw [Nat.zero_add, i17, k6a, h6b]
            · rw [Nat.zero_add, i17, k6b, h6c]
            · rw [Nat.zero_add, i17, k6c, h6d]
            · rw [Nat.zero_add, i54, (K8 z i hi).1, (H7 z i hi).1]
            · rw [Nat.zero_add, i54, (K8 z i hi).2, (H7 z i hi).2]
            · rw [Nat.zero_add]; exact (H7 z i hi).1
            · have := S.2.2.2.2.2.2.2.2.2.2.2 i hi
              rw [Nat.zero_add] at this
              rw [Nat.zero_add, i54, K9 i hi, H8 i hi, k54, c5 (32 + i) (by omega), this]
          refine Ok_some ⟨rfl, T, R, v + k, q, s, push C (Nat.le_refl _) (by omega) C.2.1 p1 p2 p6 FX rfl rfl rfl rfl P3 FM rfl rfl rfl rfl mp sr, ?_⟩
          exact Cache_fr mp.1 rfl rfl rfl (Cache_fr FM rfl rfl rfl D3)
        | succ r ih =>
          intro k hk h6 H
          rw [q_M_nights_L34_eq]
          simp (disch := omega) only [L_0, L_1, L_2, L_3, L_4, L_5, L_6, L_7, L_8, L_9, L_10, L_11, L_12, L_13, L_14, L_15, L_16, L_17, L_18, L_19, L_20, L_21, L_22, L_23, L_24, L_25, L_26, L_27, L_28, L_29, L_30, L_31, L_32, L_33, L_34, L_35, L_40, L_41, L_42, L_43, L_44, L_45, L_47, L_48, L_50, L_53, L_57, L_59, L_60, L_61, L_63, L_64, L_97, L_100, L_101, L_102, L_103, L_122, L_130, L_216, L_255, L_364, L_400, L_402, L_420, L_728, L_768, L_999, L_1000, L_1093, L_1872, L_2000, L_9999, L_12345, L_252645135, L_858993459, L_1103515245, L_1431655765, Lm_1, Lm_2, Lm_8, N_zero, N_cast, N_add, N_mul, N_sub, N_addM, N_lt_tp, N_lt_fp, N_le_tp, N_le_fp, N_eq_tp, N_eq_fp, MN_ltp, MN_lep, NM_ltp, NM_lep, NM_eqp, MN_eqp, MM_lt_tp, MM_lt_fp, MM_le_tp, MM_le_fp, MM_eq_tp, MM_eq_fp, N_cl, N_in_t, N_in_f, M_in, N_div, N_rem, N_nb0, N_nb1, cond_true, cond_false, Bool.not_true, Bool.not_false, Bool.and_true, Bool.true_and, Bool.and_false, Bool.false_and, decide_true, decide_false, Option.bind_some, Option.bind_none]
          refine Ok_bind (M_step hA A5 O5 s5 C.1.2.2.1 C.1.2.2.2.1 M5.2.2.2.2.1 M5.2.2.2.2.2.1 H) ?_
          intro h7 H7
          exact ih (k + 1) (by omega) h7 H7
      exact key m 0 (Nat.zero_add _) h5 ⟨Fr_refl _ _, fun _ _ => rfl, (c5 13 (by decide)).trans S13, rfl, rfl, fun y => absurd rfl y, fun y => absurd rfl y, fun _ _ => rfl⟩
  · refine nothing (a := nM 1) C D ?_ ?_
    · show q_X_nights sc h a = _
      rw [q_X_nights_eq]
      rcases NM_all a with ⟨k, rfl, hk⟩ | ⟨k, rfl, hk1, hk2⟩
      · have : ¬ k < 50 + 1 := fun t => ha ⟨k, t, rfl⟩
        simp (disch := omega) only [L_0, L_1, L_2, L_3, L_4, L_5, L_6, L_7, L_8, L_9, L_10, L_11, L_12, L_13, L_14, L_15, L_16, L_17, L_18, L_19, L_20, L_21, L_22, L_23, L_24, L_25, L_26, L_27, L_28, L_29, L_30, L_31, L_32, L_33, L_34, L_35, L_40, L_41, L_42, L_43, L_44, L_45, L_47, L_48, L_50, L_53, L_57, L_59, L_60, L_61, L_63, L_64, L_97, L_100, L_101, L_102, L_103, L_122, L_130, L_216, L_255, L_364, L_400, L_402, L_420, L_728, L_768, L_999, L_1000, L_1093, L_1872, L_2000, L_9999, L_12345, L_252645135, L_858993459, L_1103515245, L_1431655765, Lm_1, Lm_2, Lm_8, N_zero, N_cast, N_add, N_mul, N_sub, N_addM, N_lt_tp, N_lt_fp, N_le_tp, N_le_fp, N_eq_tp, N_eq_fp, MN_ltp, MN_lep, NM_ltp, NM_lep, NM_eqp, MN_eqp, MM_lt_tp, MM_lt_fp, MM_le_tp, MM_le_fp, MM_eq_tp, MM_eq_fp, N_cl, N_in_t, N_in_f, M_in, N_div, N_rem, N_nb0, N_nb1, cond_true, cond_false, Bool.not_true, Bool.not_false, Bool.and_true, Bool.true_and, Bool.and_false, Bool.false_and, decide_true, decide_false, Option.bind_some, Option.bind_none]
      · simp (disch := omega) only [L_0, L_1, L_2, L_3, L_4, L_5, L_6, L_7, L_8, L_9, L_10, L_11, L_12, L_13, L_14, L_15, L_16, L_17, L_18, L_19, L_20, L_21, L_22, L_23, L_24, L_25, L_26, L_27, L_28, L_29, L_30, L_31, L_32, L_33, L_34, L_35, L_40, L_41, L_42, L_43, L_44, L_45, L_47, L_48, L_50, L_53, L_57, L_59, L_60, L_61, L_63, L_64, L_97, L_100, L_101, L_102, L_103, L_122, L_130, L_216, L_255, L_364, L_400, L_402, L_420, L_728, L_768, L_999, L_1000, L_1093, L_1872, L_2000, L_9999, L_12345, L_252645135, L_858993459, L_1103515245, L_1431655765, Lm_1, Lm_2, Lm_8, N_zero, N_cast, N_add, N_mul, N_sub, N_addM, N_lt_tp, N_lt_fp, N_le_tp, N_le_fp, N_eq_tp, N_eq_fp, MN_ltp, MN_lep, NM_ltp, NM_lep, NM_eqp, MN_eqp, MM_lt_tp, MM_lt_fp, MM_le_tp, MM_le_fp, MM_eq_tp, MM_eq_fp, N_cl, N_in_t, N_in_f, M_in, N_div, N_rem, N_nb0, N_nb1, cond_true, cond_false, Bool.not_true, Bool.not_false, Bool.and_true, Bool.true_and, Bool.and_false, Bool.false_and, decide_true, decide_false, Option.bind_some, Option.bind_none]
    · show q_M_nights sc h a = _
      rw [q_M_nights_eq]
      simp only [L_0, L_1, L_2, L_3, L_4, L_5, L_6, L_7, L_8, L_9, L_10, L_11, L_12, L_13, L_14, L_15, L_16, L_17, L_18, L_19, L_20, L_21, L_22, L_23, L_24, L_25, L_26, L_27, L_28, L_29, L_30, L_31, L_32, L_33, L_34, L_35, L_40, L_41, L_42, L_43, L_44, L_45, L_47, L_48, L_50, L_53, L_57, L_59, L_60, L_61, L_63, L_64, L_97, L_100, L_101, L_102, L_103, L_122, L_130, L_216, L_255, L_364, L_400, L_402, L_420, L_728, L_768, L_999, L_1000, L_1093, L_1872, L_2000, L_9999, L_12345, L_252645135, L_858993459, L_1103515245, L_1431655765, Lm_1, Lm_2, Lm_8]
      rw [M_in_f (by decide) ha]
      simp (disch := omega) only [L_0, L_1, L_2, L_3, L_4, L_5, L_6, L_7, L_8, L_9, L_10, L_11, L_12, L_13, L_14, L_15, L_16, L_17, L_18, L_19, L_20, L_21, L_22, L_23, L_24, L_25, L_26, L_27, L_28, L_29, L_30, L_31, L_32, L_33, L_34, L_35, L_40, L_41, L_42, L_43, L_44, L_45, L_47, L_48, L_50, L_53, L_57, L_59, L_60, L_61, L_63, L_64, L_97, L_100, L_101, L_102, L_103, L_122, L_130, L_216, L_255, L_364, L_400, L_402, L_420, L_728, L_768, L_999, L_1000, L_1093, L_1872, L_2000, L_9999, L_12345, L_252645135, L_858993459, L_1103515245, L_1431655765, Lm_1, Lm_2, Lm_8, N_zero, N_cast, N_add, N_mul, N_sub, N_addM, N_lt_tp, N_lt_fp, N_le_tp, N_le_fp, N_eq_tp, N_eq_fp, MN_ltp, MN_lep, NM_ltp, NM_lep, NM_eqp, MN_eqp, MM_lt_tp, MM_lt_fp, MM_le_tp, MM_le_fp, MM_eq_tp, MM_eq_fp, N_cl, N_in_t, N_in_f, M_in, N_div, N_rem, N_nb0, N_nb1, cond_true, cond_false, Bool.not_true, Bool.not_false, Bool.and_true, Bool.true_and, Bool.and_false, Bool.false_and, decide_true, decide_false, Option.bind_some, Option.bind_none]
end
