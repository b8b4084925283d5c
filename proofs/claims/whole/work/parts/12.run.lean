/-! What a step is, by its kind; counts stay when all is made; the main theorem. -/
def wb_isl : wb_A → Bool
  | .inl _ => true
  | _ => false
def wb_icl : Instr → Nat
  | .invokestatic _ => 1 | .invokevirtual _ => 1 | .invokespecial _ => 1
  | .ireturn => 2 | .lreturn => 2 | .areturn => 2 | .return_ => 2
  | _ => 0
def wb_ns (n : wb_N) : wb_A → Prop
  | .inl b => ∀ c', wb_pick b.1 b.2 = some c' → c'.2.2.2.2 = n
  | .inr (.inl q) => q.1.2.2.2 = n
  | .inr (.inr r) => r.2.2.2 = n
section WBZ
variable {fz : Bool} {sc : wb_X} {m pc : Nat} {x : List Nat} {ls : wb_L} {st : List wb_V} {h : wb_H} {n : wb_N} {c' : wb_C}
theorem wb_isl_gf : wb_isl (wb_gf fz pc x ls st h n) = true := by unfold wb_gf; repeat' split
                                                                  all_goals rfl
theorem wb_isl_pf : wb_isl (wb_pf fz pc x ls st h n) = true := by unfold wb_pf; repeat' split
                                                                  all_goals rfl
theorem wb_isl_gs : wb_isl (wb_gs pc x ls st h n) = true := by unfold wb_gs; repeat' split
                                                               all_goals rfl
theorem wb_isl_il : wb_isl (wb_il sc pc ls st h n) = true := by unfold wb_il; repeat' split
                                                                all_goals rfl
theorem wb_isl_bl : wb_isl (wb_bl pc ls st h n) = true := by unfold wb_bl; repeat' split
                                                             all_goals rfl
theorem wb_isl_ll : wb_isl (wb_ll pc ls st h n) = true := by unfold wb_ll; repeat' split
                                                             all_goals rfl
theorem wb_isl_ql : wb_isl (wb_ql fz pc ls st h n) = true := by unfold wb_ql; repeat' split
                                                                all_goals rfl
theorem wb_isl_is : wb_isl (wb_is pc ls st h n) = true := by unfold wb_is; repeat' split
                                                             all_goals rfl
theorem wb_isl_bs : wb_isl (wb_bs pc ls st h n) = true := by unfold wb_bs; repeat' split
                                                             all_goals rfl
theorem wb_isl_ls : wb_isl (wb_ls pc ls st h n) = true := by unfold wb_ls; repeat' split
                                                             all_goals rfl
theorem wb_isl_qs : wb_isl (wb_qs fz pc ls st h n) = true := by unfold wb_qs; repeat' split
                                                                all_goals rfl
theorem wb_isl_al : wb_isl (wb_al sc pc ls st h n) = true := by unfold wb_al; repeat' split
                                                                all_goals rfl
theorem wb_isl_ne : wb_isl (wb_ne fz m pc x ls st h n) = true := by unfold wb_ne; repeat' split
                                                                    all_goals rfl
theorem wb_isl_na {a : ArrayType} : wb_isl (wb_na fz m pc a x ls st h n) = true := by unfold wb_na; repeat' split
                                                                                      all_goals rfl
theorem wb_isl_an : wb_isl (wb_an fz m pc x ls st h n) = true := by unfold wb_an; repeat' split
                                                                    all_goals rfl
set_option maxHeartbeats 4000000 in
theorem wb_isl_st {i : Instr} (hi : wb_icl i = 0) : wb_isl (wb_st fz sc m pc i x ls st h n) = true := by
  cases i with
  | getfield idx => exact wb_isl_gf
  | putfield idx => exact wb_isl_pf
  | getstatic idx => exact wb_isl_gs
  | iaload => exact wb_isl_il
  | baload => exact wb_isl_bl
  | laload => exact wb_isl_ll
  | aaload => exact wb_isl_ql
  | iastore => exact wb_isl_is
  | bastore => exact wb_isl_bs
  | lastore => exact wb_isl_ls
  | aastore => exact wb_isl_qs
  | arraylength => exact wb_isl_al
  | new idx => exact wb_isl_ne
  | newarray a => exact wb_isl_na
  | anewarray idx => exact wb_isl_an
  | invokespecial idx => cases hi
  | invokestatic idx => cases hi
  | invokevirtual idx => cases hi
  | ireturn => cases hi
  | lreturn => cases hi
  | areturn => cases hi
  | return_ => cases hi
  | _ => simp only [wb_st]; first | rfl | (repeat' split) <;> rfl
theorem wb_ns_wr : wb_ns n wb_wr := fun c' q => by cases q
theorem wb_ns_nx {p : Nat} {ls : wb_L} {st : List wb_V} {h : wb_H} : wb_ns n (wb_nx p ls st h n) := fun c' q => by cases q; rfl
theorem wb_ns_if {b : Bool} {p : Nat} {ls : wb_L} {st : List wb_V} {h : wb_H} : wb_ns n (wb_if b p ls st h n) := fun c' q => by
  obtain ⟨-, rfl⟩ := wb_pk_if q; rfl
theorem wb_ns_br {b : Bool} {p p2 : Nat} {ls : wb_L} {st : List wb_V} {h : wb_H} : wb_ns n (wb_br b p p2 ls st h n) := fun c' q => by
  rcases wb_pk_br q with ⟨-, rfl⟩ | ⟨-, rfl⟩ <;> rfl
theorem wb_ns_re {b : Bool} {v : Option wb_V} : wb_ns n (wb_re b m v h n) := rfl
theorem wb_ns_sw {v : Int32} {ls : wb_L} {st : List wb_V} {h : wb_H} {d : Nat} : ∀ (ts : List Nat) (z : Int) (c' : wb_C), wb_pick (wb_sw v ls st h n z ts) (some (d, ls, st, h, n)) = some c' → c'.2.2.2.2 = n := by
  intro ts z c' q
  rcases wb_sw_pick ts z q with ⟨j, t, -, -, rfl⟩ | ⟨-, rfl⟩ <;> rfl
theorem wb_ns_lw {v : Int32} {ls : wb_L} {st : List wb_V} {h : wb_H} {d : Nat} : ∀ (ps : List (Int × Int)) (ts : List Nat) (c' : wb_C), wb_pick (wb_lw v ls st h n ps ts) (some (d, ls, st, h, n)) = some c' → c'.2.2.2.2 = n
  | [], ts, c', q => by cases ts <;> (simp only [wb_lw, wb_pick, Option.some.injEq] at q; rw [← q])
  | z :: zs, [], c', q => by simp only [wb_lw, wb_pick, Option.some.injEq] at q; rw [← q]
  | z :: zs, t :: ts, c', q => by
    simp only [wb_lw, wb_pick] at q
    cases hb : decide (v = Int32.ofInt z.1) with
    | true => rw [hb] at q; simp only [cond_true, Option.some.injEq] at q; rw [← q]
    | false => rw [hb] at q; exact wb_ns_lw zs ts c' q
theorem wb_ns_gf : wb_ns n (wb_gf true pc x ls st h n) := by
  unfold wb_gf; repeat' split
  all_goals first | exact wb_ns_wr | exact wb_ns_nx | exact wb_ns_if
theorem wb_ns_pf : wb_ns n (wb_pf true pc x ls st h n) := by
  unfold wb_pf; repeat' split
  all_goals first | exact wb_ns_wr | exact wb_ns_nx | exact wb_ns_if
theorem wb_ns_gs : wb_ns n (wb_gs pc x ls st h n) := by
  unfold wb_gs; repeat' split
  all_goals first | exact wb_ns_wr | exact wb_ns_nx | exact wb_ns_if
theorem wb_ns_il : wb_ns n (wb_il sc pc ls st h n) := by
  unfold wb_il; repeat' split
  all_goals first | exact wb_ns_wr | exact wb_ns_nx | exact wb_ns_if
theorem wb_ns_bl : wb_ns n (wb_bl pc ls st h n) := by
  unfold wb_bl; repeat' split
  all_goals first | exact wb_ns_wr | exact wb_ns_nx | exact wb_ns_if
theorem wb_ns_ll : wb_ns n (wb_ll pc ls st h n) := by
  unfold wb_ll; repeat' split
  all_goals first | exact wb_ns_wr | exact wb_ns_nx | exact wb_ns_if
theorem wb_ns_ql : wb_ns n (wb_ql true pc ls st h n) := by
  unfold wb_ql; repeat' split
  all_goals first | exact wb_ns_wr | exact wb_ns_nx | exact wb_ns_if
theorem wb_ns_is : wb_ns n (wb_is pc ls st h n) := by
  unfold wb_is; repeat' split
  all_goals first | exact wb_ns_wr | exact wb_ns_nx | exact wb_ns_if
theorem wb_ns_bs : wb_ns n (wb_bs pc ls st h n) := by
  unfold wb_bs; repeat' split
  all_goals first | exact wb_ns_wr | exact wb_ns_nx | exact wb_ns_if
theorem wb_ns_ls : wb_ns n (wb_ls pc ls st h n) := by
  unfold wb_ls; repeat' split
  all_goals first | exact wb_ns_wr | exact wb_ns_nx | exact wb_ns_if
theorem wb_ns_al : wb_ns n (wb_al sc pc ls st h n) := by
  unfold wb_al; repeat' split
  all_goals first | exact wb_ns_wr | exact wb_ns_nx | exact wb_ns_if
theorem wb_ns_ca : wb_ns n (wb_ca true m pc x ls st h n) := by
  unfold wb_ca; repeat' split
  all_goals first | exact wb_ns_wr | exact wb_ns_nx | exact wb_ns_if | rfl
theorem wb_ns_rt : wb_ns n (wb_rt m x st h n) := by
  unfold wb_rt; repeat' split
  all_goals first | exact wb_ns_wr | exact wb_ns_re
set_option maxHeartbeats 4000000 in
theorem wb_ns_st {i : Instr} : wb_ns n (wb_st true sc m pc i x ls st h n) := by
  cases i with
  | getfield idx => exact wb_ns_gf
  | putfield idx => exact wb_ns_pf
  | getstatic idx => exact wb_ns_gs
  | iaload => exact wb_ns_il
  | baload => exact wb_ns_bl
  | laload => exact wb_ns_ll
  | aaload => exact wb_ns_ql
  | iastore => exact wb_ns_is
  | bastore => exact wb_ns_bs
  | lastore => exact wb_ns_ls
  | aastore => exact wb_ns_wr
  | arraylength => exact wb_ns_al
  | new idx => exact wb_ns_wr
  | newarray a => exact wb_ns_wr
  | anewarray idx => exact wb_ns_wr
  | invokespecial idx => exact wb_ns_ca
  | invokestatic idx => exact wb_ns_ca
  | invokevirtual idx => exact wb_ns_ca
  | ireturn => exact wb_ns_rt
  | tableswitch d lo hi offs =>
    simp only [wb_st]
    split
    · exact fun c' q => wb_ns_sw _ _ c' q
    · exact wb_ns_wr
  | lookupswitch d ps =>
    simp only [wb_st]
    split
    · exact fun c' q => wb_ns_lw _ _ c' q
    · exact wb_ns_wr
  | _ => simp only [wb_st]; first | exact wb_ns_wr | exact wb_ns_nx | (repeat' split) <;> first | exact wb_ns_wr | exact wb_ns_nx | exact wb_ns_if | exact wb_ns_br | exact wb_ns_re
theorem wb_ru_n : ∀ (k m : Nat) (c : wb_C) (r : wb_R), wb_ru true sc k m c = some r → r.2.2.1 = c.2.2.2.2.1
  | 0, m, c, r, q => by cases q
  | k + 1, m, c, r, q => by
    simp only [wb_ru] at q
    have hns : wb_ns c.2.2.2.2 (wb_ac true sc m (wb_code m) c) := by
      unfold wb_ac
      split
      · exact wb_ns_st
      · exact wb_ns_wr
    revert q hns
    cases wb_ac true sc m (wb_code m) c with
    | inl b =>
      intro q hns
      simp only [wb_ex, wb_ib_pick] at q
      cases hp : wb_pick b.1 b.2 with
      | none => rw [hp] at q; cases q
      | some c' =>
        rw [hp] at q
        rw [wb_ru_n k m c' r q, hns c' hp]
    | inr q0 =>
      cases q0 with
      | inl q1 =>
        intro q hns
        obtain ⟨⟨y, as, h1, n1⟩, b, kd, p', ls', st'⟩ := q1
        have hns : n1 = c.2.2.2.2 := hns
        simp only [wb_ex] at q
        cases b with
        | false => cases q
        | true =>
          simp only [cond_true, Option.bind_eq_some_iff] at q
          obtain ⟨r1, h2, st2, h3, h4⟩ := q
          rw [wb_ru_n k m _ r h4]
          exact congrArg Prod.fst hns
      | inr q1 =>
        intro q hns
        obtain ⟨b, r1⟩ := q1
        simp only [wb_ex] at q
        cases b with
        | false => cases q
        | true =>
          simp only [cond_true, Option.some.injEq] at q
          subst q
          exact congrArg Prod.fst hns
end WBZ
