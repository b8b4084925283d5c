/-! The head of the law, evaluated: both objects are made, and stand as one. -/
def wb_s0 : wb_X := wb_tab [1, 3, 9, 27, 81, 243, 729]
def wb_h0 : wb_H := (fun _ _ _ => 0, fun _ _ _ => 0, fun _ _ _ => 0)
def wb_z0 : Nat → Nat := fun _ => 0
def wb_e0 : wb_C := (0, [some (.inr (.inr (0, 0))), none, none, none], [], wb_h0, (wb_z0, 0, 0))
def wb_lsq (ls : wb_L) : Bool := match ls with
  | [some (.inr (.inr (t1, o1))), some (.inr (.inr (t2, o2))), some (.inr (.inr (t3, o3))), some (.inl x)] => Nat.beq t1 0 && (Nat.beq o1 0 && (Nat.beq t2 20 && (Nat.beq o2 0 && (Nat.beq t3 21 && (Nat.beq o3 0 && decide (x = nN 0))))))
  | _ => false
def wb_stq (st : List wb_V) : Bool := match st with
  | [] => true
  | _ => false
def wb_ncq (n : wb_N) : Bool := (List.range 110).all (fun t => Nat.beq (n.1 t) (wb_cnt t)) && (Nat.beq n.2.1 199 && Nat.beq n.2.2 26182)
def wb_rfq (h : wb_H) : Bool := (List.range 110).all fun t => (List.range (wb_cnt t)).all fun o => match wb_shp t with
  | (0, ci) => (List.range (wb_nfd ci)).all fun k => match wb_fk ci k with
    | 2 => (match wb_si true t o k with
      | some j => Nat.beq (h.2.2 t o k) (j + 1)
      | none => true)
    | _ => true
  | (5, len) => (List.range len).all fun k => Nat.beq (h.2.2 t o k) ((wb_rf t 0).2.2 + k + 1)
  | _ => true
def wb_invq1 (h : wb_H) : Bool := (decide (h.1 15 0 0 = nN 0) && (decide (h.1 15 0 7 = nN 5) && (decide (h.1 15 0 8 = nN 10) && (decide (h.1 15 0 9 = nN 5) && (decide (h.1 15 0 10 = nN 3) && decide (h.1 15 0 11 = nN 0))))))
def wb_invq2 (h : wb_H) : Bool := (decide (h.1 21 0 18 = nN 0) && (decide (h.1 73 0 0 = nN 0) && (decide (h.1 80 0 0 = nN 5) && (decide (h.1 81 0 0 = nN 10) && (decide (h.1 82 0 0 = nN 5) && (decide (h.1 83 0 0 = nN 3) && decide (h.1 84 0 0 = nN 0)))))))
def wb_invq3 (h : wb_H) : Bool := (Nat.beq (h.2.2 20 0 2) 1 && Nat.beq (h.2.2 20 0 3) 2)
def wb_invq4 (h : wb_H) : Bool := (decide (h.1 17 0 2 = nN 0) && (decide (h.1 95 0 12 = nN 0) && (decide (h.1 17 0 1 = nN 0) && (decide (h.1 95 0 13 = nN 0) && (decide (h.1 17 0 3 = h.1 95 0 14) && (decide (h.1 17 0 4 = h.1 95 0 15) && (wb_nb (h.1 17 0 5) && decide (h.1 95 0 16 = nN 0))))))))
def wb_invq5 (h : wb_H) : Bool := (decide (h.1 14 0 1 = nN 0) && (decide (h.1 14 0 2 = nN 0) && (decide (h.1 21 0 54 = nN 0) && (decide (h.1 10 0 5 = nN 0) && (decide (h.1 21 0 59 = nN 0) && (decide (h.1 18 0 1 = nN 0) && decide (h.1 21 0 2 = nN 0)))))))
def wb_invq6 (h : wb_H) : Bool := (List.range 3).all fun j => (decide (h.1 61 0 j = nN 0) && decide (h.1 108 0 j = nN 0))
def wb_invq7 (h : wb_H) : Bool := (decide (h.1 16 0 9 = h.1 21 0 17) && ((List.range 22).all fun k => (decide (h.2.1 56 0 k = xw k) && decide (h.2.1 71 0 k = mk k))))
def wb_invq8 (h : wb_H) : Bool := (decide (h.1 20 0 15 = nN 0) && (decide (h.1 62 0 0 = nM 1) && decide (h.1 20 0 14 = nM 1)))
def wb_chq (c : wb_C) : Bool := Nat.beq c.1 18 && (wb_lsq c.2.1 && (wb_stq c.2.2.1 && (wb_ncq c.2.2.2.2 && (wb_rfq c.2.2.2.1 && (wb_invq1 c.2.2.2.1 && (wb_invq2 c.2.2.2.1 && (wb_invq3 c.2.2.2.1 && (wb_invq4 c.2.2.2.1 && (wb_invq5 c.2.2.2.1 && (wb_invq6 c.2.2.2.1 && (wb_invq7 c.2.2.2.1 && wb_invq8 c.2.2.2.1)))))))))))
def wb_cho (c : Option wb_C) : Bool := match c with
  | some c => wb_chq c
  | none => false
set_option maxRecDepth 100000 in
theorem wb_ini : wb_cho (wb_rp false wb_s0 100000 283 10 wb_e0) = true := by decide +kernel
def T0 : wT := ((0, 5), ((10, (5, (3, 0))), (((fun _ => 0), ((fun _ => 0), ((fun _ => 0), fun _ => 0))), fun _ _ _ _ _ => 0)))
def RI0 : wR := ((fun _ => 0), ((fun _ => 0), 0))
theorem wb_lsq_eq {ls : wb_L} (h : wb_lsq ls = true) : ls = [some (.inr (.inr (0, 0))), some (.inr (.inr (20, 0))), some (.inr (.inr (21, 0))), some (.inl (nN 0))] := by
  unfold wb_lsq at h
  split at h
  · simp only [Bool.and_eq_true, decide_eq_true_eq] at h
    obtain ⟨h1, h2, h3, h4, h5, h6, h7⟩ := h
    rw [Nat.eq_of_beq_eq_true h1, Nat.eq_of_beq_eq_true h2, Nat.eq_of_beq_eq_true h3, Nat.eq_of_beq_eq_true h4, Nat.eq_of_beq_eq_true h5, Nat.eq_of_beq_eq_true h6, h7]
  · cases h
theorem wb_stq_eq {st : List wb_V} (h : wb_stq st = true) : st = [] := by
  unfold wb_stq at h
  split at h
  · rfl
  · cases h
theorem Inv_ini {h : wb_H} (h1 : wb_invq1 h = true) (h2 : wb_invq2 h = true) (h3 : wb_invq3 h = true) (h4 : wb_invq4 h = true) (h5 : wb_invq5 h = true) (h6 : wb_invq6 h = true) (h7 : wb_invq7 h = true) (h8 : wb_invq8 h = true) : Inv h 0 := by
  simp only [wb_invq1, wb_invq2, wb_invq3, wb_invq4, wb_invq5, wb_invq7, wb_invq8, Bool.and_eq_true, decide_eq_true_eq] at h1 h2 h3 h4 h5 h7 h8
  obtain ⟨a1, a2, a3, a4, a5, a6⟩ := h1
  obtain ⟨b1, b2, b3, b4, b5, b6, b7⟩ := h2
  obtain ⟨c1, c2⟩ := h3
  obtain ⟨d1, d2, d3, d4, d5, d6, d7, d8⟩ := h4
  obtain ⟨e1, e2, e3, e4, e5, e6, e7⟩ := h5
  obtain ⟨f1, f2⟩ := h7
  obtain ⟨g1, g2, g3⟩ := h8
  have n0 : ∀ {i : Nat} {p : Prop}, i < tn T0 → p := fun hi => absurd hi (Nat.not_lt_zero _)
  have F : ∀ k, k < 22 → h.2.1 56 0 k = xw k ∧ h.2.1 71 0 k = mk k := by
    intro k hk
    have := List.all_eq_true.mp f2 k (List.mem_range.mpr hk)
    simpa only [Bool.and_eq_true, decide_eq_true_eq] using this
  have S : ∀ j, j < 3 → h.1 61 0 j = nN 0 ∧ h.1 108 0 j = nN 0 := by
    intro j hj
    have := List.all_eq_true.mp h6 j (List.mem_range.mpr hj)
    simpa only [Bool.and_eq_true, decide_eq_true_eq] using this
  refine ⟨T0, RI0, 0, 0, 0, ⟨?_, ?_, Nat.le_refl _, ?_, ?_, Nat.eq_of_beq_eq_true c1, Nat.eq_of_beq_eq_true c2, ?_, ?_, ?_, ?_, ?_, ?_⟩, ?_⟩
  · exact ⟨by decide, by decide, by decide, by decide, by decide, by decide, fun _ hi => n0 hi, fun _ hi => n0 hi, fun _ hi => n0 hi, fun _ hi => n0 hi, fun _ _ _ _ _ => Nat.zero_le _⟩
  · exact ⟨fun _ hi => n0 hi, fun _ _ hi => n0 hi, fun _ hi => n0 hi, fun _ hi => n0 hi, by decide⟩
  · exact ⟨by decide, a1, a2, a3, a4, a5, a6, fun _ hi => n0 hi, fun _ hi => n0 hi, fun _ hi => n0 hi, fun _ hi => n0 hi, fun _ _ _ _ _ hi => n0 hi⟩
  · exact ⟨by decide, b1, b2, b3, b4, b5, b6, b7, fun _ hi => n0 hi, fun _ hi => n0 hi, fun _ hi => n0 hi, fun _ hi => n0 hi, fun _ _ _ _ _ _ hi => n0 hi⟩
  · exact ⟨⟨fun _ hi => n0 hi, fun _ hi => n0 hi, d1⟩, ⟨fun _ hi => n0 hi, fun _ hi => n0 hi, d2⟩, d3, d4, d5, d6, d7, d8, fun q => absurd rfl q, fun q => absurd rfl q, fun _ _ hi => n0 hi, fun _ hi => n0 hi⟩
  · exact ⟨0, 0, by decide, by decide, e1, e2, e3, fun _ hj => absurd hj (Nat.not_lt_zero _)⟩
  · exact fun j hj => ⟨0, by decide, (S j hj).1, (S j hj).2, fun q => absurd q (by decide)⟩
  · exact ⟨0, by decide, e4, e5, fun _ hj => absurd hj (Nat.not_lt_zero _)⟩
  · exact ⟨0, by decide, e6, e7, fun _ hj => absurd hj (Nat.not_lt_zero _)⟩
  · exact ⟨f1, fun k hk => (F k hk).1, fun k hk => (F k hk).2⟩
  · refine ⟨Or.inl g1, fun l hl => ?_, Or.inl g3⟩
    have hl : l < 1 := hl
    have : l = 0 := by omega
    rw [this]; exact Or.inl g2
theorem wb_head : ∃ h1 : wb_H, wb_rp false wb_s0 100000 283 10 wb_e0 = some (18, [some (.inr (.inr (0, 0))), some (.inr (.inr (20, 0))), some (.inr (.inr (21, 0))), some (.inl (nN 0))], [], h1, (wb_cnt, 199, 26182)) ∧ wb_rfq h1 = true ∧ Inv h1 0 := by
  have H := wb_ini
  have Ht := fun c1 => wb_rp_t (sc := wb_s0) (m := 283) (k := 100000) 10 wb_e0 c1
  revert H Ht
  generalize wb_rp false wb_s0 100000 283 10 wb_e0 = x
  intro H Ht
  cases x with
  | none => cases H
  | some c =>
    obtain ⟨p, ls, st, h1, cn, a, b⟩ := c
    have H : wb_chq (p, ls, st, h1, cn, a, b) = true := H
    simp only [wb_chq, wb_ncq, Bool.and_eq_true] at H
    obtain ⟨q1, q2, q3, ⟨q4, q5, q6⟩, q7, i1, i2, i3, i4, i5, i6, i7, i8⟩ := H
    have hcn : cn = wb_cnt := by
      funext t
      by_cases ht : t < 110
      · exact Nat.eq_of_beq_eq_true (List.all_eq_true.mp q4 t (List.mem_range.mpr ht))
      · have := Ht _ rfl t (by omega)
        rw [wb_cnt_out (by omega)]
        exact this
    refine ⟨h1, ?_, q7, Inv_ini i1 i2 i3 i4 i5 i6 i7 i8⟩
    rw [Nat.eq_of_beq_eq_true q1, wb_lsq_eq q2, wb_stq_eq q3, hcn, Nat.eq_of_beq_eq_true q5, Nat.eq_of_beq_eq_true q6]
theorem wb_rfq_at {h : wb_H} {t o : Nat} (hq : wb_rfq h = true) (ho : o < wb_cnt t) : (match wb_shp t with
  | (0, ci) => (List.range (wb_nfd ci)).all fun k => match wb_fk ci k with
    | 2 => (match wb_si true t o k with
      | some j => Nat.beq (h.2.2 t o k) (j + 1)
      | none => true)
    | _ => true
  | (5, len) => (List.range len).all fun k => Nat.beq (h.2.2 t o k) ((wb_rf t 0).2.2 + k + 1)
  | _ => true) = true := by
  have ht : t < 110 := by
    by_cases q : t < 110
    · exact q
    · rw [wb_cnt_out (by omega)] at ho; omega
  exact List.all_eq_true.mp (List.all_eq_true.mp hq t (List.mem_range.mpr ht)) o (List.mem_range.mpr ho)
theorem wb_ofn2 {n : Nat} {cA : ClassId} {f g : Nat → Value} (h : ∀ j, j < n → f j = g j) : arrV cA n f = arrV cA n g := by
  have : (Array.ofFn (n := n) fun j => f j.val) = Array.ofFn (n := n) fun j => g j.val := by
    congr 1
    funext j
    exact h j.val j.isLt
  unfold arrV
  rw [this]
theorem wb_ent_fz {adr : Nat → Nat → Nat} {cA : Nat → Nat → ClassId} {h : wb_H} {t o : Nat} (hq : wb_rfq h = true) (ho : o < wb_cnt t) (D : va_G) (a : Nat) (H : Heap) (K : va_at D wb_cls (a, wb_ent false adr cA h t o) H) : va_at D wb_cls (a, wb_ent true adr cA h t o) H := by
  have hr := wb_rfq_at hq ho
  unfold wb_ent at K ⊢
  revert hr K
  generalize wb_shp t = sh
  obtain ⟨s1, s2⟩ := sh
  match s1 with
  | 0 =>
    intro K hr
    have : (List.range (wb_nfd s2)).map (wb_fv true adr h s2 t o) = (List.range (wb_nfd s2)).map (wb_fv false adr h s2 t o) := by
      apply List.map_congr_left
      intro k hk
      have hr := List.all_eq_true.mp hr k hk
      unfold wb_fv
      revert hr
      generalize wb_fk s2 k = f
      match f with
      | 2 =>
        intro hr
        have hr : (match wb_si true t o k with | some j => Nat.beq (h.2.2 t o k) (j + 1) | none => true) = true := hr
        simp only
        congr 2
        unfold wb_rq
        have e0 : wb_si false t o k = none := rfl
        rw [e0]
        revert hr
        cases wb_si true t o k with
        | none => intro _; rfl
        | some j =>
          intro hr
          have hr := Nat.eq_of_beq_eq_true hr
          simp only [hr, Nat.add_sub_cancel, if_neg (Nat.succ_ne_zero j)]
      | 0 => intro _; rfl
      | 1 => intro _; rfl
      | f + 3 => intro _; rfl
    show va_at D wb_cls (a, .inr (s2, (List.range (wb_nfd s2)).map (wb_fv true adr h s2 t o))) H
    rw [this]
    exact K
  | 5 =>
    intro K hr
    have K : H[a]? = some (arrV (cA t o) s2 (fun j => va_rf ((wb_sq false h t o j).map (adr (wb_rf t 0).1)))) := K
    show H[a]? = some (arrV (cA t o) s2 (fun j => va_rf ((wb_sq true h t o j).map (adr (wb_rf t 0).1))))
    rw [K]
    congr 1
    apply wb_ofn2
    intro j hj
    have hr := Nat.eq_of_beq_eq_true (List.all_eq_true.mp hr j (List.mem_range.mpr hj))
    have e0 : wb_sq false h t o j = wb_sq true h t o j := by
      show (if h.2.2 t o j = 0 then none else some (h.2.2 t o j - 1)) = some ((wb_rf t 0).2.2 + j)
      rw [hr, if_neg (Nat.succ_ne_zero _), Nat.add_sub_cancel]
    rw [e0]
  | 1 => intro K _; exact K
  | 2 => intro K _; exact K
  | 3 => intro K _; exact K
  | 4 => intro K _; exact K
  | s + 6 => intro K _; exact K
/-- from now on nothing is made: every final reference is where it stays -/
theorem wb_freeze {D : va_G} {adr : Nat → Nat → Nat} {cA : Nat → Nat → ClassId} {L : List (Nat × Nat)} {h : wb_H} {A : Nat → Prop} {H : Heap} {s : State} (hq : wb_rfq h = true) (hR : wb_rep false D adr cA L wb_cnt h A H s) : wb_rep true D adr cA L wb_cnt h A H s := by
  obtain ⟨⟨r1, r2, r3⟩, r4, r5, r6, r7⟩ := hR
  have hk : ∀ (fz : Bool) (k : Nat), (wb_wd fz adr cA h L)[k]? = (L[k]?).map (fun q => (adr q.1 q.2, wb_ent fz adr cA h q.1 q.2)) := fun fz k => by unfold wb_wd; rw [List.getElem?_map]
  refine ⟨⟨r1, r2, fun q => by cases q⟩, ?_, ⟨?_, ?_⟩, r6, r7⟩
  · intro k q e
    rw [hk] at e
    simp only [Option.map_eq_some_iff] at e
    obtain ⟨⟨t, o⟩, e1, rfl⟩ := e
    have hm := (r2 t o).mp (List.mem_of_getElem? e1)
    exact wb_ent_fz hq hm.2 D _ H (r4 k _ (by rw [hk, e1]; rfl))
  · intro i j p q e1 e2 e3
    rw [hk] at e1 e2
    simp only [Option.map_eq_some_iff] at e1 e2
    obtain ⟨x, x1, rfl⟩ := e1
    obtain ⟨y, y1, rfl⟩ := e2
    exact r5.1 i j (adr x.1 x.2, wb_ent false adr cA h x.1 x.2) (adr y.1 y.2, wb_ent false adr cA h y.1 y.2) (by rw [hk, x1]; rfl) (by rw [hk, y1]; rfl) e3
  · intro k q e
    rw [hk] at e
    simp only [Option.map_eq_some_iff] at e
    obtain ⟨x, x1, rfl⟩ := e
    exact r5.2 k (adr x.1 x.2, wb_ent false adr cA h x.1 x.2) (by rw [hk, x1]; rfl)
