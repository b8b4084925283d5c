/-! While things are made: tags past the last have no objects; the head of the law by steps; frozen from then on. -/
def wb_nq (n n' : wb_N) : Prop := ∀ t, 110 ≤ t → n'.1 t = n.1 t
def wb_nt (n : wb_N) : wb_A → Prop
  | .inl b => ∀ c', wb_pick b.1 b.2 = some c' → wb_nq n c'.2.2.2.2
  | .inr (.inl q) => wb_nq n q.1.2.2.2
  | .inr (.inr r) => wb_nq n r.2.2.2
theorem wb_nq_rf {n : wb_N} : wb_nq n n := fun _ _ => rfl
theorem wb_nth_out {α : Type} {d : α} : ∀ {l : List α} {k : Nat}, l.length ≤ k → wb_nth d l k = d
  | [], _, _ => rfl
  | _ :: _, 0, h => absurd h (by simp)
  | _ :: l, k + 1, h => wb_nth_out (l := l) (by simpa using h)
theorem wb_shl_len2 : wb_shl.length = 110 := by decide +kernel
theorem wb_shp_out {t : Nat} (h : 110 ≤ t) : wb_shp t = (9, 0) := wb_nth_out (by rw [wb_shl_len2]; exact h)
theorem wb_cnl_len2 : wb_cnl.length = 110 := by decide +kernel
theorem wb_cnt_out {t : Nat} (h : 110 ≤ t) : wb_cnt t = 0 := wb_nth_out (by rw [wb_cnl_len2]; exact h)
section WBY
variable {sc : wb_X} {m pc : Nat} {x : List Nat} {ls : wb_L} {st : List wb_V} {h : wb_H} {n : wb_N} {c' : wb_C}
theorem wb_nt_wr : wb_nt n wb_wr := fun c' q => by cases q
theorem wb_nt_nx {p : Nat} {ls : wb_L} {st : List wb_V} {h : wb_H} : wb_nt n (wb_nx p ls st h n) := fun c' q => by cases q; exact wb_nq_rf
theorem wb_nt_if {b : Bool} {p : Nat} {ls : wb_L} {st : List wb_V} {h : wb_H} : wb_nt n (wb_if b p ls st h n) := fun c' q => by
  obtain ⟨-, rfl⟩ := wb_pk_if q; exact wb_nq_rf
theorem wb_nt_br {b : Bool} {p p2 : Nat} {ls : wb_L} {st : List wb_V} {h : wb_H} : wb_nt n (wb_br b p p2 ls st h n) := fun c' q => by
  rcases wb_pk_br q with ⟨-, rfl⟩ | ⟨-, rfl⟩ <;> exact wb_nq_rf
theorem wb_nt_re {b : Bool} {v : Option wb_V} : wb_nt n (wb_re b m v h n) := wb_nq_rf
theorem wb_nt_mk {t k q : Nat} {ls : wb_L} {st : List wb_V} (ht : (wb_shp t).1 ≠ 9) : wb_nt n (wb_mk m t k q ls st h n) := fun c' e => by
  obtain ⟨-, rfl⟩ := wb_pk_if e
  intro t' h'
  show wb_cu n.1 t t' = n.1 t'
  have : t' ≠ t := by
    intro e; subst e; rw [wb_shp_out h'] at ht; exact ht rfl
  simp only [wb_cu, if_neg this]
theorem wb_nt_gf : wb_nt n (wb_gf false pc x ls st h n) := by
  unfold wb_gf; repeat' split
  all_goals first | exact wb_nt_wr | exact wb_nt_nx | exact wb_nt_if | exact wb_nt_re | exact wb_nq_rf
theorem wb_nt_pf : wb_nt n (wb_pf false pc x ls st h n) := by
  unfold wb_pf; repeat' split
  all_goals first | exact wb_nt_wr | exact wb_nt_nx | exact wb_nt_if | exact wb_nt_re | exact wb_nq_rf
theorem wb_nt_gs : wb_nt n (wb_gs pc x ls st h n) := by
  unfold wb_gs; repeat' split
  all_goals first | exact wb_nt_wr | exact wb_nt_nx | exact wb_nt_if | exact wb_nt_re | exact wb_nq_rf
theorem wb_nt_il : wb_nt n (wb_il sc pc ls st h n) := by
  unfold wb_il; repeat' split
  all_goals first | exact wb_nt_wr | exact wb_nt_nx | exact wb_nt_if | exact wb_nt_re | exact wb_nq_rf
theorem wb_nt_bl : wb_nt n (wb_bl pc ls st h n) := by
  unfold wb_bl; repeat' split
  all_goals first | exact wb_nt_wr | exact wb_nt_nx | exact wb_nt_if | exact wb_nt_re | exact wb_nq_rf
theorem wb_nt_ll : wb_nt n (wb_ll pc ls st h n) := by
  unfold wb_ll; repeat' split
  all_goals first | exact wb_nt_wr | exact wb_nt_nx | exact wb_nt_if | exact wb_nt_re | exact wb_nq_rf
theorem wb_nt_ql : wb_nt n (wb_ql false pc ls st h n) := by
  unfold wb_ql; repeat' split
  all_goals first | exact wb_nt_wr | exact wb_nt_nx | exact wb_nt_if | exact wb_nt_re | exact wb_nq_rf
theorem wb_nt_qs : wb_nt n (wb_qs false pc ls st h n) := by
  unfold wb_qs; repeat' split
  all_goals first | exact wb_nt_wr | exact wb_nt_nx | exact wb_nt_if | exact wb_nt_re | exact wb_nq_rf
theorem wb_nt_is : wb_nt n (wb_is pc ls st h n) := by
  unfold wb_is; repeat' split
  all_goals first | exact wb_nt_wr | exact wb_nt_nx | exact wb_nt_if | exact wb_nt_re | exact wb_nq_rf
theorem wb_nt_bs : wb_nt n (wb_bs pc ls st h n) := by
  unfold wb_bs; repeat' split
  all_goals first | exact wb_nt_wr | exact wb_nt_nx | exact wb_nt_if | exact wb_nt_re | exact wb_nq_rf
theorem wb_nt_ls : wb_nt n (wb_ls pc ls st h n) := by
  unfold wb_ls; repeat' split
  all_goals first | exact wb_nt_wr | exact wb_nt_nx | exact wb_nt_if | exact wb_nt_re | exact wb_nq_rf
theorem wb_nt_al : wb_nt n (wb_al sc pc ls st h n) := by
  unfold wb_al; repeat' split
  all_goals first | exact wb_nt_wr | exact wb_nt_nx | exact wb_nt_if | exact wb_nt_re | exact wb_nq_rf
theorem wb_nt_ca : wb_nt n (wb_ca false m pc x ls st h n) := by
  unfold wb_ca; repeat' split
  all_goals first | exact wb_nt_wr | exact wb_nt_nx | exact wb_nt_if | exact wb_nt_re | exact wb_nq_rf
theorem wb_nt_rt : wb_nt n (wb_rt m x st h n) := by
  unfold wb_rt; repeat' split
  all_goals first | exact wb_nt_wr | exact wb_nt_nx | exact wb_nt_if | exact wb_nt_re | exact wb_nq_rf
theorem wb_nt_ne : wb_nt n (wb_ne false m pc x ls st h n) := by
  unfold wb_ne; repeat' split
  all_goals first | exact wb_nt_wr | exact wb_nt_mk (by simp_all)
theorem wb_nt_na {a : ArrayType} : wb_nt n (wb_na false m pc a x ls st h n) := by
  unfold wb_na; repeat' split
  all_goals first | exact wb_nt_wr | exact wb_nt_mk (by simp_all)
theorem wb_nt_an : wb_nt n (wb_an false m pc x ls st h n) := by
  unfold wb_an; repeat' split
  all_goals first | exact wb_nt_wr | exact wb_nt_mk (by simp_all)
set_option maxHeartbeats 4000000 in
theorem wb_nt_st {i : Instr} : wb_nt n (wb_st false sc m pc i x ls st h n) := by
  cases i with
  | getfield idx => exact wb_nt_gf
  | putfield idx => exact wb_nt_pf
  | getstatic idx => exact wb_nt_gs
  | iaload => exact wb_nt_il
  | baload => exact wb_nt_bl
  | laload => exact wb_nt_ll
  | aaload => exact wb_nt_ql
  | iastore => exact wb_nt_is
  | bastore => exact wb_nt_bs
  | lastore => exact wb_nt_ls
  | aastore => exact wb_nt_qs
  | arraylength => exact wb_nt_al
  | new idx => exact wb_nt_ne
  | newarray a => exact wb_nt_na
  | anewarray idx => exact wb_nt_an
  | invokespecial idx => exact wb_nt_ca
  | invokestatic idx => exact wb_nt_ca
  | invokevirtual idx => exact wb_nt_ca
  | ireturn => exact wb_nt_rt
  | tableswitch d lo hi offs =>
    simp only [wb_st]
    split
    · exact fun c' q => by rw [wb_ns_sw _ _ c' q]; exact wb_nq_rf
    · exact wb_nt_wr
  | lookupswitch d ps =>
    simp only [wb_st]
    split
    · exact fun c' q => by rw [wb_ns_lw _ _ c' q]; exact wb_nq_rf
    · exact wb_nt_wr
  | _ => simp only [wb_st]; first | exact wb_nt_wr | exact wb_nt_nx | (repeat' split) <;> first | exact wb_nt_wr | exact wb_nt_nx | exact wb_nt_if | exact wb_nt_br | exact wb_nt_re
theorem wb_nt_ac {c : wb_C} : wb_nt c.2.2.2.2 (wb_ac false sc m (wb_code m) c) := by
  unfold wb_ac
  split
  · exact wb_nt_st
  · exact wb_nt_wr
theorem wb_ru_t : ∀ (k m : Nat) (c : wb_C) (r : wb_R), wb_ru false sc k m c = some r → wb_nq c.2.2.2.2 r.2.2
  | 0, m, c, r, q => by cases q
  | k + 1, m, c, r, q => by
    simp only [wb_ru] at q
    have hns := wb_nt_ac (sc := sc) (m := m) (c := c)
    revert q hns
    cases wb_ac false sc m (wb_code m) c with
    | inl b =>
      intro q hns
      simp only [wb_ex, wb_ib_pick] at q
      cases hp : wb_pick b.1 b.2 with
      | none => rw [hp] at q; cases q
      | some c' =>
        rw [hp] at q
        exact fun t ht => (wb_ru_t k m c' r q t ht).trans (hns c' hp t ht)
    | inr q0 =>
      cases q0 with
      | inl q1 =>
        intro q hns
        obtain ⟨⟨y, as, h1, n1⟩, b, kd, p', ls', st'⟩ := q1
        have hns : wb_nq c.2.2.2.2 n1 := hns
        simp only [wb_ex] at q
        cases b with
        | false => cases q
        | true =>
          simp only [cond_true, Option.bind_eq_some_iff] at q
          obtain ⟨r1, h2, st2, h3, h4⟩ := q
          exact fun t ht => ((wb_ru_t k m _ r h4 t ht).trans (wb_ru_t k y _ r1 h2 t ht)).trans (hns t ht)
      | inr q1 =>
        intro q hns
        obtain ⟨b, r1⟩ := q1
        simp only [wb_ex] at q
        cases b with
        | false => cases q
        | true =>
          simp only [cond_true, Option.some.injEq] at q
          subst q
          exact hns
theorem wb_nxt_t {k : Nat} {c c1 : wb_C} (e : wb_nxt false sc k m c = some c1) : wb_nq c.2.2.2.2 c1.2.2.2.2 := by
  unfold wb_nxt at e
  have hns := wb_nt_ac (sc := sc) (m := m) (c := c)
  revert e hns
  cases wb_ac false sc m (wb_code m) c with
  | inl b => intro e hns; exact hns c1 e
  | inr q0 =>
    cases q0 with
    | inl q1 =>
      intro e hns
      obtain ⟨⟨y, as, h1, n1⟩, b, kd, p', ls', st'⟩ := q1
      have hns : wb_nq c.2.2.2.2 n1 := hns
      cases b with
      | false => cases e
      | true =>
        simp only [cond_true, Option.bind_eq_some_iff, Option.some.injEq] at e
        obtain ⟨r1, h2, st2, h3, h4⟩ := e
        subst h4
        exact fun t ht => (wb_ru_t k y _ r1 h2 t ht).trans (hns t ht)
    | inr q1 => intro e; cases e
theorem wb_rp_t {k : Nat} : ∀ (j : Nat) (c c1 : wb_C), wb_rp false sc k m j c = some c1 → wb_nq c.2.2.2.2 c1.2.2.2.2
  | 0, c, c1, e => by cases e; exact wb_nq_rf
  | j + 1, c, c1, e => by
    simp only [wb_rp, Option.bind_eq_some_iff] at e
    obtain ⟨c2, e1, e2⟩ := e
    exact fun t ht => (wb_rp_t j c2 c1 e2 t ht).trans (wb_nxt_t e1 t ht)
end WBY
section WBX
variable {fz : Bool} {sc : wb_X} {D : va_G}
/-- a step of a method that is followed only so far -/
theorem wb_nxt_G (hall : ∀ m, 2 ≤ m → m < wb_NM → (wb_code m).all (wb_ck m) = true) (l : Launch) (k : Nat)
    (callee : ∀ (y : Nat) (as : List wb_V) (h : wb_H) (n : wb_N) (r : wb_R), 2 ≤ y → y < wb_NM → wb_rw as ≤ wb_pn y → wb_ru fz sc k y (wb_en y as h n) = some r → wb_Met l fz sc D y as h n.1 r)
    (m : Nat) (c0 c1 : wb_C) (hm2 : 2 ≤ m) (hmN : m < wb_NM) (hrun : wb_nxt fz sc k m c0 = some c1)
    (p : Program) (e : Env) (R : Room) (s : State) (mth : MethodId) (args : Array Value) (below : List Frame) (meth : Method) (c : Code) (Q : State → Prop) (rv : Nat → Value) (A : Nat → Prop) (adr0 : Nat → Nat → Nat) (L0 : List (Nat × Nat))
    (F : wb_fr p R s mth args meth c m A) (hro : wb_RO sc rv A s) (G : wb_G p l e R s mth args below meth c Q fz m rv A D adr0 L0 c1) : wb_G p l e R s mth args below meth c Q fz m rv A D adr0 L0 c0 := by
  classical
  let r0 : wb_R := (none, c1.2.2.2.1, (c1.2.2.2.2.1, wb_mc m + 1, 0))
  refine wb_stp hall l k callee (fun x => if x = c1 then some r0 else none) m c0 r0 hm2 hmN ?_ p e R s mth args below meth c Q rv A adr0 L0 F hro ?_ ?_
  · unfold wb_nxt at hrun
    revert hrun
    cases wb_ac fz sc m (wb_code m) c0 with
    | inl b =>
      intro hrun
      have hrun : wb_pick b.1 b.2 = some c1 := hrun
      simp only [wb_ex, wb_ib_pick]
      rw [hrun, Option.bind_some, if_pos rfl]
    | inr q0 =>
      cases q0 with
      | inl q1 =>
        intro hrun
        obtain ⟨⟨y, as, h1, n1⟩, b, kd, p', ls', st'⟩ := q1
        cases b with
        | false => cases hrun
        | true =>
          simp only [cond_true, Option.bind_eq_some_iff, Option.some.injEq] at hrun
          obtain ⟨r1, h2, st2, h3, h4⟩ := hrun
          simp only [wb_ex, cond_true, h2, h3, Option.bind_some, h4, if_true]
      | inr q1 => intro hrun; cases hrun
  · intro adr cA L H locs J pc st hR hxt hS hrt hk1 hk2
    exfalso
    have : wb_mc m + 1 ≤ wb_mc m := hk1
    omega
  · intro c' hc'
    by_cases q : c' = c1
    · rw [q]; exact G
    · rw [if_neg q] at hc'; cases hc'
theorem wb_rp_G (hall : ∀ m, 2 ≤ m → m < wb_NM → (wb_code m).all (wb_ck m) = true) (l : Launch) (k : Nat)
    (callee : ∀ (y : Nat) (as : List wb_V) (h : wb_H) (n : wb_N) (r : wb_R), 2 ≤ y → y < wb_NM → wb_rw as ≤ wb_pn y → wb_ru fz sc k y (wb_en y as h n) = some r → wb_Met l fz sc D y as h n.1 r)
    (m : Nat) (hm2 : 2 ≤ m) (hmN : m < wb_NM)
    (p : Program) (e : Env) (R : Room) (s : State) (mth : MethodId) (args : Array Value) (below : List Frame) (meth : Method) (c : Code) (Q : State → Prop) (rv : Nat → Value) (A : Nat → Prop) (adr0 : Nat → Nat → Nat) (L0 : List (Nat × Nat))
    (F : wb_fr p R s mth args meth c m A) (hro : wb_RO sc rv A s) : ∀ (j : Nat) (c0 c1 : wb_C), wb_rp fz sc k m j c0 = some c1 → wb_G p l e R s mth args below meth c Q fz m rv A D adr0 L0 c1 → wb_G p l e R s mth args below meth c Q fz m rv A D adr0 L0 c0
  | 0, c0, c1, h, G => by cases h; exact G
  | j + 1, c0, c1, h, G => by
    simp only [wb_rp, Option.bind_eq_some_iff] at h
    obtain ⟨c2, e1, e2⟩ := h
    exact wb_nxt_G hall l k callee m c0 c2 hm2 hmN e1 p e R s mth args below meth c Q rv A adr0 L0 F hro (wb_rp_G hall l k callee m hm2 hmN p e R s mth args below meth c Q rv A adr0 L0 F hro j c2 c1 e2 G)
end WBX
