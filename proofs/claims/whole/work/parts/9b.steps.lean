/-! Steps of both sides beside one another. -/
def LGX : List Nat := [4003, 4004, 4008, 4009]
def LGM : List Nat := [1011, 1013, 1014]
def LIX : List Nat := [4003, 4004, 4006, 4007, 4008, 4009]
def LIM : List Nat := [1011, 1013, 1014, 1015, 1016]
theorem bnd_some {α : Type} (x : Option α) : (x.bind fun a => some a) = x := by cases x <;> rfl
theorem int_val (v : Nat) : (Int64.ofInt (v : Int)).toInt32 = nN v := by
  rw [Int64.toInt32_ofInt]
  rfl
section
variable {sc : wb_X} {q s : Nat} {kd pl : Nat → Nat} {vl : Nat → Int} {p w : Nat}
theorem pl_succ (ts : TKS kd pl vl) (hp : okT kd (p + 1)) : pl p < pl (p + 1) := ts.2.2.1 p (p + 1) (by omega) hp
theorem ls_go {x m : wb_H} (E : En q s kd pl vl x m) (H : Live kd pl p w x m) (k0 : kd p ≠ 0) (k3 : kd p ≠ 3) : Both (q_Reader_take sc x (nN (kap (kd p)))) (q_M_goesOn sc m) (fun x' m' => Fr LGX x x' ∧ Fr LGM m m' ∧ (Live kd pl (p + 1) w x' m' ∨ Dead x' m')) := by
  obtain ⟨y, hy, o, w5, y2, lx, lm⟩ := H
  refine Both_of (X_go E.2.2.2.1 o lx k0 k3) (M_go E.2.2.2.2.2.1 o lm) ?_
  rintro x' m' ⟨F, h⟩ ⟨G, g⟩
  refine ⟨F, G, ?_⟩
  by_cases z : p < 400
  · rcases h with ⟨-, h⟩ | ⟨e, -⟩
    · rcases g with ⟨-, g⟩ | ⟨e, -⟩
      · have o2 := okT_succ o z k0 k3
        exact Or.inl ⟨y, fun c => Nat.lt_trans (hy c) (pl_succ E.1 o2), o2, w5, y2, h, g⟩
      · omega
    · omega
  · rcases h with ⟨e, -⟩ | ⟨-, h⟩
    · omega
    · rcases g with ⟨e, -⟩ | ⟨-, g⟩
      · omega
      · exact Or.inr ⟨2, pl p, E.1.2.1 p, h, g⟩
theorem ls_fail {x m : wb_H} (E : En q s kd pl vl x m) (H : Live kd pl p w x m) {n : Nat} (h0 : n ≠ 0) (h5 : n ≤ 5) : Both (q_Reader_fail sc x (nN n)) (q_M_fail sc m (nN n)) (fun x' m' => Fr [4008, 4009] x x' ∧ Fr [1013, 1014] m m' ∧ Dead x' m') := by
  obtain ⟨y, hy, o, w5, y2, lx, lm⟩ := H
  refine Both_of (X_fail E.2.2.2.1 o lx h0 h5) (M_fail E.2.2.2.2.2.1 o lm h0 h5) ?_
  rintro x' m' ⟨F, h⟩ ⟨G, g⟩
  exact ⟨F, G, n, pl p, E.1.2.1 p, h, g⟩
theorem X_ne {x : wb_H} {y : Nat} (ts : TKS kd pl vl) (tx : TKX x kd pl vl) (hp : okT kd p) (H : LvX kd p w y x) {d : Nat} (hd : kOk d) (hn : kd p ≠ d) : Ok (q_Reader_take sc x (nN (kap d))) (fun x' => Fr [4008, 4009] x x' ∧ DdX 1 (pl p) x') := by
  have xf := X_fail (sc := sc) tx hp H (n := 1) (by decide) (by decide)
  have e : kap (kd p) ≠ kap d := fun y => hn (kap_inj (ts.1 p) hd y)
  have l1 := kap_le (ts.1 p)
  have l2 := kap_le hd
  obtain ⟨a1, a2, -⟩ := H
  rw [q_Reader_take_eq]
  simp (disch := omega) only [L_0, L_1, L_2, L_3, L_4, L_5, L_6, L_7, L_8, L_9, L_10, L_11, L_12, L_13, L_14, L_15, L_16, L_17, L_18, L_19, L_20, L_21, L_22, L_23, L_24, L_25, L_26, L_27, L_28, L_29, L_30, L_31, L_32, L_33, L_34, L_35, L_40, L_41, L_42, L_43, L_44, L_45, L_47, L_48, L_50, L_53, L_57, L_59, L_60, L_61, L_63, L_64, L_97, L_100, L_101, L_102, L_103, L_122, L_130, L_216, L_255, L_364, L_400, L_402, L_420, L_728, L_768, L_999, L_1000, L_1093, L_1872, L_2000, L_9999, L_12345, L_252645135, L_858993459, L_1103515245, L_1431655765, Lm_1, Lm_2, Lm_8, N_zero, N_cast, N_add, N_mul, N_sub, N_addM, N_lt_tp, N_lt_fp, N_le_tp, N_le_fp, N_eq_tp, N_eq_fp, MN_ltp, MN_lep, NM_ltp, NM_lep, NM_eqp, MN_eqp, MM_lt_tp, MM_lt_fp, MM_le_tp, MM_le_fp, MM_eq_tp, MM_eq_fp, N_cl, N_in_t, N_in_f, M_in, N_div, N_rem, N_nb0, N_nb1, cond_true, cond_false, Bool.not_true, Bool.not_false, Bool.and_true, Bool.true_and, Bool.and_false, Bool.false_and, decide_true, decide_false, Option.bind_some, Option.bind_none, a2]
  rw [bnd_some]
  exact xf
theorem ls_take {x m : wb_H} (E : En q s kd pl vl x m) (H : St kd pl p w x m) {d : Nat} (hd : kOk d) (d0 : d ≠ 0) (d3 : d ≠ 3) : Both (q_Reader_take sc x (nN (kap d))) (q_M_must sc m (nN d)) (fun x' m' => Fr LGX x x' ∧ Fr LGM m m' ∧ ((kd p = d ∧ Live kd pl p w x m ∧ Live kd pl (p + 1) w x' m') ∨ Dead x' m')) := by
  have d100 : d ≤ 100 := by have := (okB_of hd).2; omega
  rcases H with H | H
  · have H' := H
    obtain ⟨y, hy, o, w5, y2, lx, lm⟩ := H'
    rw [q_M_must_eq, M_is E.1 E.2.2.2.2.2.1 o lm d100]
    by_cases z : kd p = d
    · rw [if_pos z]
      simp (disch := omega) only [L_0, L_1, L_2, L_3, L_4, L_5, L_6, L_7, L_8, L_9, L_10, L_11, L_12, L_13, L_14, L_15, L_16, L_17, L_18, L_19, L_20, L_21, L_22, L_23, L_24, L_25, L_26, L_27, L_28, L_29, L_30, L_31, L_32, L_33, L_34, L_35, L_40, L_41, L_42, L_43, L_44, L_45, L_47, L_48, L_50, L_53, L_57, L_59, L_60, L_61, L_63, L_64, L_97, L_100, L_101, L_102, L_103, L_122, L_130, L_216, L_255, L_364, L_400, L_402, L_420, L_728, L_768, L_999, L_1000, L_1093, L_1872, L_2000, L_9999, L_12345, L_252645135, L_858993459, L_1103515245, L_1431655765, Lm_1, Lm_2, Lm_8, N_zero, N_cast, N_add, N_mul, N_sub, N_addM, N_lt_tp, N_lt_fp, N_le_tp, N_le_fp, N_eq_tp, N_eq_fp, MN_ltp, MN_lep, NM_ltp, NM_lep, NM_eqp, MN_eqp, MM_lt_tp, MM_lt_fp, MM_le_tp, MM_le_fp, MM_eq_tp, MM_eq_fp, N_cl, N_in_t, N_in_f, M_in, N_div, N_rem, N_nb0, N_nb1, cond_true, cond_false, Bool.not_true, Bool.not_false, Bool.and_true, Bool.true_and, Bool.and_false, Bool.false_and, decide_true, decide_false, Option.bind_some, Option.bind_none]
      rw [bnd_some]
      subst z
      refine Both_w (ls_go E H d0 d3) ?_
      rintro x' m' ⟨F, G, h⟩
      refine ⟨F, G, ?_⟩
      rcases h with h | h
      · exact Or.inl ⟨rfl, H, h⟩
      · exact Or.inr h
    · rw [if_neg z]
      simp (disch := omega) only [L_0, L_1, L_2, L_3, L_4, L_5, L_6, L_7, L_8, L_9, L_10, L_11, L_12, L_13, L_14, L_15, L_16, L_17, L_18, L_19, L_20, L_21, L_22, L_23, L_24, L_25, L_26, L_27, L_28, L_29, L_30, L_31, L_32, L_33, L_34, L_35, L_40, L_41, L_42, L_43, L_44, L_45, L_47, L_48, L_50, L_53, L_57, L_59, L_60, L_61, L_63, L_64, L_97, L_100, L_101, L_102, L_103, L_122, L_130, L_216, L_255, L_364, L_400, L_402, L_420, L_728, L_768, L_999, L_1000, L_1093, L_1872, L_2000, L_9999, L_12345, L_252645135, L_858993459, L_1103515245, L_1431655765, Lm_1, Lm_2, Lm_8, N_zero, N_cast, N_add, N_mul, N_sub, N_addM, N_lt_tp, N_lt_fp, N_le_tp, N_le_fp, N_eq_tp, N_eq_fp, MN_ltp, MN_lep, NM_ltp, NM_lep, NM_eqp, MN_eqp, MM_lt_tp, MM_lt_fp, MM_le_tp, MM_le_fp, MM_eq_tp, MM_eq_fp, N_cl, N_in_t, N_in_f, M_in, N_div, N_rem, N_nb0, N_nb1, cond_true, cond_false, Bool.not_true, Bool.not_false, Bool.and_true, Bool.true_and, Bool.and_false, Bool.false_and, decide_true, decide_false, Option.bind_some, Option.bind_none]
      rw [bnd_some]
      refine Both_of (X_ne E.1 E.2.2.2.1 o lx hd z) (M_fail E.2.2.2.2.2.1 o lm (n := 1) (by decide) (by decide)) ?_
      rintro x' m' ⟨F, h⟩ ⟨G, g⟩
      exact ⟨Fr_mono F rfl, Fr_mono G rfl, Or.inr ⟨1, pl p, E.1.2.1 p, h, g⟩⟩
  · have H' := H
    obtain ⟨f, e, he, D1, D2⟩ := H'
    rw [dX_take D1, mD_must D2]
    exact Both_some ⟨Fr_refl _ _, Fr_refl _ _, Or.inr H⟩
theorem ls_int {x m : wb_H} (E : En q s kd pl vl x m) (H : St kd pl p w x m) {mx : Nat} (hm : mx ≤ 9999) : Both (q_Reader_takeInt sc x (nN mx)) (q_M_bounded sc m (nN 0) (nN mx)) (fun r t => Fr LIX x r.2 ∧ Fr LIM m t.2 ∧ ((∃ v w', v ≤ 9999 ∧ r.1 = nN v ∧ t.1 = nN v ∧ (w' = 0 → w = 0 ∧ v ≤ mx) ∧ Live kd pl (p + 1) w' r.2 t.2) ∨ Dead r.2 t.2)) := by
  have k101 : kap 2 = 101 := rfl
  have o2 : kOk 2 := Or.inl (by decide)
  rcases H with H | H
  · have H' := H
    obtain ⟨y, hy, o, w5, y2, lx, lm⟩ := H'
    have p4 := o.1
    have lx1 := lx.1
    have lx2 := lx.2.1
    have lm1 := lm.1
    have lm2 := lm.2.1
    rw [q_M_bounded_eq, q_Reader_takeInt_eq]
    simp (disch := omega) only [L_0, L_1, L_2, L_3, L_4, L_5, L_6, L_7, L_8, L_9, L_10, L_11, L_12, L_13, L_14, L_15, L_16, L_17, L_18, L_19, L_20, L_21, L_22, L_23, L_24, L_25, L_26, L_27, L_28, L_29, L_30, L_31, L_32, L_33, L_34, L_35, L_40, L_41, L_42, L_43, L_44, L_45, L_47, L_48, L_50, L_53, L_57, L_59, L_60, L_61, L_63, L_64, L_97, L_100, L_101, L_102, L_103, L_122, L_130, L_216, L_255, L_364, L_400, L_402, L_420, L_728, L_768, L_999, L_1000, L_1093, L_1872, L_2000, L_9999, L_12345, L_252645135, L_858993459, L_1103515245, L_1431655765, Lm_1, Lm_2, Lm_8, N_zero, N_cast, N_add, N_mul, N_sub, N_addM, N_lt_tp, N_lt_fp, N_le_tp, N_le_fp, N_eq_tp, N_eq_fp, MN_ltp, MN_lep, NM_ltp, NM_lep, NM_eqp, MN_eqp, MM_lt_tp, MM_lt_fp, MM_le_tp, MM_le_fp, MM_eq_tp, MM_eq_fp, N_cl, N_in_t, N_in_f, M_in, N_div, N_rem, N_nb0, N_nb1, cond_true, cond_false, Bool.not_true, Bool.not_false, Bool.and_true, Bool.true_and, Bool.and_false, Bool.false_and, decide_true, decide_false, Option.bind_some, Option.bind_none, lm2, M_is E.1 E.2.2.2.2.2.1 o lm (show 2 ≤ 100 by decide), lx1, lx2]
    by_cases z : kd p = 2
    · rw [if_pos z, z]
      obtain ⟨vn0, vn9⟩ := E.1.2.2.2 p z
      obtain ⟨v, ev⟩ : ∃ v : Nat, vl p = (v : Int) := ⟨(vl p).toNat, by omega⟩
      have hv : v ≤ 9999 := by omega
      have xv := (E.2.2.2.1.1 p o).2.2 (Or.inr (Or.inl z))
      have mv := (E.2.2.2.2.2.1 p o).2.2.1 z
      rw [ev] at xv mv
      have mv' : m.1 69 0 p = nN v := mv
      have k0 : kd p ≠ 0 := by omega
      have k3 : kd p ≠ 3 := by omega
      have ek : nN 101 = nN (kap (kd p)) := by rw [z]; rfl
      by_cases c : v ≤ mx
      · simp (disch := omega) only [L_0, L_1, L_2, L_3, L_4, L_5, L_6, L_7, L_8, L_9, L_10, L_11, L_12, L_13, L_14, L_15, L_16, L_17, L_18, L_19, L_20, L_21, L_22, L_23, L_24, L_25, L_26, L_27, L_28, L_29, L_30, L_31, L_32, L_33, L_34, L_35, L_40, L_41, L_42, L_43, L_44, L_45, L_47, L_48, L_50, L_53, L_57, L_59, L_60, L_61, L_63, L_64, L_97, L_100, L_101, L_102, L_103, L_122, L_130, L_216, L_255, L_364, L_400, L_402, L_420, L_728, L_768, L_999, L_1000, L_1093, L_1872, L_2000, L_9999, L_12345, L_252645135, L_858993459, L_1103515245, L_1431655765, Lm_1, Lm_2, Lm_8, N_zero, N_cast, N_add, N_mul, N_sub, N_addM, N_lt_tp, N_lt_fp, N_le_tp, N_le_fp, N_eq_tp, N_eq_fp, MN_ltp, MN_lep, NM_ltp, NM_lep, NM_eqp, MN_eqp, MM_lt_tp, MM_lt_fp, MM_le_tp, MM_le_fp, MM_eq_tp, MM_eq_fp, N_cl, N_in_t, N_in_f, M_in, N_div, N_rem, N_nb0, N_nb1, cond_true, cond_false, Bool.not_true, Bool.not_false, Bool.and_true, Bool.true_and, Bool.and_false, Bool.false_and, decide_true, decide_false, Option.bind_some, Option.bind_none, k101, lm1, mv', xv, int_val v]
        rw [ek]
        refine Both_bind (ls_go E H k0 k3) ?_
        rintro x' m' ⟨F, G, h⟩
        refine Both_some ⟨Fr_mono F rfl, Fr_mono G rfl, ?_⟩
        rcases h with h | h
        · exact Or.inl ⟨v, w, hv, rfl, rfl, fun e => ⟨e, c⟩, h⟩
        · exact Or.inr h
      · simp (disch := omega) only [L_0, L_1, L_2, L_3, L_4, L_5, L_6, L_7, L_8, L_9, L_10, L_11, L_12, L_13, L_14, L_15, L_16, L_17, L_18, L_19, L_20, L_21, L_22, L_23, L_24, L_25, L_26, L_27, L_28, L_29, L_30, L_31, L_32, L_33, L_34, L_35, L_40, L_41, L_42, L_43, L_44, L_45, L_47, L_48, L_50, L_53, L_57, L_59, L_60, L_61, L_63, L_64, L_97, L_100, L_101, L_102, L_103, L_122, L_130, L_216, L_255, L_364, L_400, L_402, L_420, L_728, L_768, L_999, L_1000, L_1093, L_1872, L_2000, L_9999, L_12345, L_252645135, L_858993459, L_1103515245, L_1431655765, Lm_1, Lm_2, Lm_8, N_zero, N_cast, N_add, N_mul, N_sub, N_addM, N_lt_tp, N_lt_fp, N_le_tp, N_le_fp, N_eq_tp, N_eq_fp, MN_ltp, MN_lep, NM_ltp, NM_lep, NM_eqp, MN_eqp, MM_lt_tp, MM_lt_fp, MM_le_tp, MM_le_fp, MM_eq_tp, MM_eq_fp, N_cl, N_in_t, N_in_f, M_in, N_div, N_rem, N_nb0, N_nb1, cond_true, cond_false, Bool.not_true, Bool.not_false, Bool.and_true, Bool.true_and, Bool.and_false, Bool.false_and, decide_true, decide_false, Option.bind_some, Option.bind_none, k101, lm1, mv', xv, int_val v]
        rw [ek]
        refine Both_bind (Both_of (X_later E.2.2.2.1 o lx w5 (n := 5) (by decide) (by decide)) (M_wrong E.1 E.2.2.2.2.2.1 o lm w5 hy (n := 5) (by decide) (by decide)) (fun a b ha hb => (⟨ha, hb⟩ : _ ∧ _))) ?_
        rintro x1 m1 ⟨⟨F1, lx'⟩, G1, lm'⟩
        have FX1 : FX q x x1 := FX_fr F1 rfl
        have FM1 : FM s m m1 := FM_fr G1 rfl
        have E1 := En_f FX1 FM1 E
        refine Both_bind (Both_of (X_go E1.2.2.2.1 o lx' k0 k3) (M_go E1.2.2.2.2.2.1 o lm') (fun a b ha hb => (⟨ha, hb⟩ : _ ∧ _))) ?_
        rintro x2 m2 ⟨⟨F2, h⟩, G2, g⟩
        refine Both_some ⟨Fr_trans (Fr_mono F1 rfl) (Fr_mono F2 rfl), Fr_trans (Fr_mono G1 rfl) (Fr_mono G2 rfl), ?_⟩
        by_cases zp : p < 400
        · rcases h with ⟨-, h⟩ | ⟨e, -⟩
          · rcases g with ⟨-, g⟩ | ⟨e, -⟩
            · have o2 := okT_succ o zp k0 k3
              have ps := pl_succ E.1 o2
              have pp := E.1.2.1 p
              refine Or.inl ⟨v, if w = 0 then 5 else w, hv, rfl, rfl, fun e => ?_, if w = 0 then pl p else y, fun e => ?_, o2, ?_, ?_, h, g⟩
              · split at e <;> omega
              · by_cases w0 : w = 0
                · rw [if_pos w0]; exact ps
                · rw [if_neg w0]; exact Nat.lt_trans (hy w0) ps
              · split <;> omega
              · split <;> omega
            · omega
          · omega
        · rcases h with ⟨e, -⟩ | ⟨-, h⟩
          · omega
          · rcases g with ⟨e, -⟩ | ⟨-, g⟩
            · omega
            · exact Or.inr ⟨2, pl p, E.1.2.1 p, h, g⟩
    · have e : kap (kd p) ≠ 101 := fun y => z (kap_inj (E.1.1 p) o2 y)
      have l1 := kap_le (E.1.1 p)
      rw [if_neg z]
      simp (disch := omega) only [L_0, L_1, L_2, L_3, L_4, L_5, L_6, L_7, L_8, L_9, L_10, L_11, L_12, L_13, L_14, L_15, L_16, L_17, L_18, L_19, L_20, L_21, L_22, L_23, L_24, L_25, L_26, L_27, L_28, L_29, L_30, L_31, L_32, L_33, L_34, L_35, L_40, L_41, L_42, L_43, L_44, L_45, L_47, L_48, L_50, L_53, L_57, L_59, L_60, L_61, L_63, L_64, L_97, L_100, L_101, L_102, L_103, L_122, L_130, L_216, L_255, L_364, L_400, L_402, L_420, L_728, L_768, L_999, L_1000, L_1093, L_1872, L_2000, L_9999, L_12345, L_252645135, L_858993459, L_1103515245, L_1431655765, Lm_1, Lm_2, Lm_8, N_zero, N_cast, N_add, N_mul, N_sub, N_addM, N_lt_tp, N_lt_fp, N_le_tp, N_le_fp, N_eq_tp, N_eq_fp, MN_ltp, MN_lep, NM_ltp, NM_lep, NM_eqp, MN_eqp, MM_lt_tp, MM_lt_fp, MM_le_tp, MM_le_fp, MM_eq_tp, MM_eq_fp, N_cl, N_in_t, N_in_f, M_in, N_div, N_rem, N_nb0, N_nb1, cond_true, cond_false, Bool.not_true, Bool.not_false, Bool.and_true, Bool.true_and, Bool.and_false, Bool.false_and, decide_true, decide_false, Option.bind_some, Option.bind_none]
      refine Both_bind (Both_of (X_ne E.1 E.2.2.2.1 o lx o2 z) (M_fail E.2.2.2.2.2.1 o lm (n := 1) (by decide) (by decide)) (fun a b ha hb => (⟨ha, hb⟩ : _ ∧ _))) ?_
      rintro x' m' ⟨⟨F, h⟩, G, g⟩
      exact Both_some ⟨Fr_mono F rfl, Fr_mono G rfl, Or.inr ⟨1, pl p, E.1.2.1 p, h, g⟩⟩
  · have H' := H
    obtain ⟨f, e, he, D1, D2⟩ := H'
    rw [mD_bounded D2]
    obtain ⟨pp, hpp, h3⟩ := D1.2.2.2.2
    rw [q_Reader_takeInt_eq]
    have fin : ∀ (r : Int32 × wb_H), Fr [4006, 4007] x r.2 → Both (some r) (some (nN 0, m)) (fun r t => Fr LIX x r.2 ∧ Fr LIM m t.2 ∧ ((∃ v w', v ≤ 9999 ∧ r.1 = nN v ∧ t.1 = nN v ∧ (w' = 0 → w = 0 ∧ v ≤ mx) ∧ Live kd pl (p + 1) w' r.2 t.2) ∨ Dead r.2 t.2)) := fun r F => Both_some ⟨Fr_mono F rfl, Fr_refl _ _, Or.inr (Dead_fr F (Fr_refl [] m) rfl rfl H)⟩
    simp (disch := omega) only [h3, N_in_t, cond_true, dX_take D1, Option.bind_some]
    by_cases y1 : x.1 16 0 4 = Int32.ofInt 101
    · by_cases y2 : (x.2.1 59 0 pp).toInt32 ≤ nN mx
      · simp (disch := omega) only [eq_true y1, N_cl, eq_true y2, cond_true, cond_false, Bool.not_true, Bool.not_false, Bool.and_true, Bool.true_and, Bool.and_false, Bool.false_and, decide_true, decide_false, Option.bind_some, Option.bind_none]
        exact fin _ (Fr_refl _ _)
      · simp (disch := omega) only [eq_true y1, N_cl, eq_false y2, cond_true, cond_false, Bool.not_true, Bool.not_false, Bool.and_true, Bool.true_and, Bool.and_false, Bool.false_and, decide_true, decide_false, Option.bind_some, Option.bind_none]
        obtain ⟨x1, e1, F1⟩ := X_later_ok (sc := sc) h3 hpp (Int32.ofInt 5)
        rw [e1]
        simp only [Option.bind_some, dX_take (DdX_fr F1 rfl rfl rfl D1)]
        exact fin _ F1
    · simp (disch := omega) only [eq_false y1, N_cl, cond_true, cond_false, Bool.not_true, Bool.not_false, Bool.and_true, Bool.true_and, Bool.and_false, Bool.false_and, decide_true, decide_false, Option.bind_some, Option.bind_none]
      exact fin _ (Fr_refl _ _)
end
