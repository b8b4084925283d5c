/-! Once all is made: the plain machine as functions. -/
def wb_n0 : wb_N := (wb_cnt, 0, 0)
theorem wb_ru_mono {fz : Bool} {sc : wb_X} : ∀ (k m : Nat) (c : wb_C) (r : wb_R), wb_ru fz sc k m c = some r → wb_ru fz sc (k + 1) m c = some r
  | 0, m, c, r, h => by cases h
  | k + 1, m, c, r, h => by
    rw [wb_ru] at h ⊢
    revert h
    cases wb_ac fz sc m (wb_code m) c with
    | inl b =>
      intro h
      simp only [wb_ex, wb_ib_pick] at h ⊢
      cases hp : wb_pick b.1 b.2 with
      | none => rw [hp] at h; cases h
      | some c' => rw [hp] at h; exact wb_ru_mono k m c' r h
    | inr q =>
      cases q with
      | inl q =>
        obtain ⟨⟨y, as, h1, n1⟩, b, kd, p', ls', st'⟩ := q
        intro h
        simp only [wb_ex] at h ⊢
        cases b with
        | false => cases h
        | true =>
          simp only [cond_true, Option.bind_eq_some_iff] at h ⊢
          obtain ⟨r1, h2, st2, h3, h4⟩ := h
          exact ⟨r1, wb_ru_mono k y _ r1 h2, st2, h3, wb_ru_mono k m _ r h4⟩
      | inr q => intro h; exact h
theorem wb_ru_le {fz : Bool} {sc : wb_X} {k m : Nat} {c : wb_C} {r : wb_R} (h : wb_ru fz sc k m c = some r) : ∀ j, wb_ru fz sc (k + j) m c = some r
  | 0 => h
  | j + 1 => wb_ru_mono (k + j) m c r (wb_ru_le h j)
noncomputable def wb_D (sc : wb_X) (m : Nat) (c : wb_C) : Option wb_R := @dite (Option wb_R) (∃ r, ∃ k, wb_ru true sc k m c = some r) (Classical.propDecidable _) (fun h => some h.choose) (fun _ => none)
theorem wb_D_iff {sc : wb_X} {m : Nat} {c : wb_C} {r : wb_R} : wb_D sc m c = some r ↔ ∃ k, wb_ru true sc k m c = some r := by
  unfold wb_D
  constructor
  · intro h
    split at h
    · rename_i hx
      cases h
      exact hx.choose_spec
    · cases h
  · rintro ⟨k, hk⟩
    have hx : ∃ r, ∃ k, wb_ru true sc k m c = some r := ⟨r, k, hk⟩
    rw [dif_pos hx]
    obtain ⟨k2, hk2⟩ := hx.choose_spec
    have h1 := wb_ru_le hk k2
    have h2 := wb_ru_le hk2 k
    rw [Nat.add_comm] at h2
    exact h2.symm.trans h1
theorem wb_D_eq (sc : wb_X) (m : Nat) (c : wb_C) : wb_D sc m c = wb_ex true (wb_D sc m) (wb_D sc) (wb_ac true sc m (wb_code m) c) := by
  apply Option.ext
  intro r
  rw [wb_D_iff]
  constructor
  · rintro ⟨k, hk⟩
    cases k with
    | zero => cases hk
    | succ k =>
      rw [wb_ru] at hk
      revert hk
      cases wb_ac true sc m (wb_code m) c with
      | inl b =>
        intro h
        simp only [wb_ex, wb_ib_pick] at h ⊢
        cases hp : wb_pick b.1 b.2 with
        | none => rw [hp] at h; cases h
        | some c' => rw [hp] at h; exact wb_D_iff.mpr ⟨k, h⟩
      | inr q =>
        cases q with
        | inl q =>
          obtain ⟨⟨y, as, h1, n1⟩, b, kd, p', ls', st'⟩ := q
          intro h
          simp only [wb_ex] at h ⊢
          cases b with
          | false => cases h
          | true =>
            simp only [cond_true, Option.bind_eq_some_iff] at h ⊢
            obtain ⟨r1, h2, st2, h3, h4⟩ := h
            exact ⟨r1, wb_D_iff.mpr ⟨k, h2⟩, st2, h3, wb_D_iff.mpr ⟨k, h4⟩⟩
        | inr q => intro h; exact h
  · intro h
    have key : ∃ k, wb_ex true (wb_ru true sc k m) (wb_ru true sc k) (wb_ac true sc m (wb_code m) c) = some r := by
      revert h
      cases wb_ac true sc m (wb_code m) c with
      | inl b =>
        intro h
        simp only [wb_ex, wb_ib_pick] at h ⊢
        cases hp : wb_pick b.1 b.2 with
        | none => rw [hp] at h; cases h
        | some c' =>
          rw [hp] at h
          obtain ⟨k, hk⟩ := wb_D_iff.mp h
          exact ⟨k, hk⟩
      | inr q =>
        cases q with
        | inl q =>
          obtain ⟨⟨y, as, h1, n1⟩, b, kd, p', ls', st'⟩ := q
          intro h
          simp only [wb_ex] at h ⊢
          cases b with
          | false => cases h
          | true =>
            simp only [cond_true, Option.bind_eq_some_iff] at h ⊢
            obtain ⟨r1, h2, st2, h3, h4⟩ := h
            obtain ⟨k1, g1⟩ := wb_D_iff.mp h2
            obtain ⟨k2, g2⟩ := wb_D_iff.mp h4
            exact ⟨k1 + k2, r1, wb_ru_le g1 k2, st2, h3, by rw [Nat.add_comm]; exact wb_ru_le g2 k1⟩
        | inr q => intro h; exact ⟨0, h⟩
    obtain ⟨k, hk⟩ := key
    exact ⟨k + 1, by rw [wb_ru]; exact hk⟩
def wb_vv : wb_R → Option wb_H
  | (none, h, _) => some h
  | _ => none
def wb_vi : wb_R → Option (Int32 × wb_H)
  | (some (.inl x), h, _) => some (x, h)
  | _ => none
def wb_vl : wb_R → Option (Int64 × wb_H)
  | (some (.inr (.inl x)), h, _) => some (x, h)
  | _ => none
def wb_vr (t : Nat) : wb_R → Option wb_H
  | (some (.inr (.inr r)), h, _) => bif Nat.beq r.1 t && Nat.beq r.2 0 then some h else none
  | _ => none
noncomputable def wb_Q {ρ : Type} (sc : wb_X) (rt : wb_R → Option ρ) (m p : Nat) (ls : wb_L) (st : List wb_V) (h : wb_H) : Option ρ := (wb_D sc m (p, ls, st, h, wb_n0)).bind rt
noncomputable def wb_F {ρ : Type} (sc : wb_X) (rt : wb_R → Option ρ) (m : Nat) (as : List wb_V) (h : wb_H) : Option ρ := wb_Q sc rt m 0 (wb_el as (wb_pn m)) [] h
noncomputable def wb_gx {ρ : Type} (sc : wb_X) (rt : wb_R → Option ρ) (K : wb_C → Option ρ) : wb_A → Option ρ
  | .inl b => wb_ib K b.1 b.2
  | .inr (.inl ((y, as, h, n), b, kd, p, ls, st)) => bif b then (match kd with
    | 0 => (wb_F sc wb_vv y as h).bind (fun h1 => K (p, ls, st, h1, n))
    | 1 => (wb_F sc wb_vi y as h).bind (fun r => K (p, ls, .inl r.1 :: st, r.2, n))
    | 2 => (wb_F sc wb_vl y as h).bind (fun r => K (p, ls, .inr (.inl r.1) :: st, r.2, n))
    | k + 3 => (wb_F sc (wb_vr k) y as h).bind (fun h1 => K (p, ls, .inr (.inr (k, 0)) :: st, h1, n))) else none
  | .inr (.inr (b, r)) => bif b then rt r else none
def wb_mem (p : Nat) : List Nat → Bool
  | [] => false
  | q :: l => bif Nat.beq p q then true else wb_mem p l
def wb_dp (cl : List wb_E) (p : Nat) (ls : wb_L) : wb_L := match wb_ft cl p with
  | some e => wb_dr ls e.2.2.2
  | none => ls
noncomputable def wb_go {ρ : Type} (sc : wb_X) (rt : wb_R → Option ρ) (cut : List Nat) (m : Nat) (cl : List wb_E) : Nat → Nat → wb_L → List wb_V → wb_H → Option ρ
  | 0, p, ls, st, h => wb_Q sc rt m p ls st h
  | f + 1, p, ls, st, h => wb_gx sc rt (fun c => bif wb_mem c.1 cut then wb_Q sc rt m c.1 (wb_dp cl c.1 c.2.1) c.2.2.1 c.2.2.2.1 else wb_go sc rt cut m cl f c.1 c.2.1 c.2.2.1 c.2.2.2.1) (wb_ac true sc m cl (p, ls, st, h, wb_n0))
theorem wb_s_comm : ∀ (ls : wb_L) (a b : Nat), wb_s (wb_s ls a none) b none = wb_s (wb_s ls b none) a none
  | [], a, b => by simp [wb_s]
  | x :: l, 0, 0 => rfl
  | x :: l, 0, b + 1 => by simp [wb_s]
  | x :: l, a + 1, 0 => by simp [wb_s]
  | x :: l, a + 1, b + 1 => by simp [wb_s, wb_s_comm l a b]
theorem wb_s_idem : ∀ (ls : wb_L) (a : Nat), wb_s (wb_s ls a none) a none = wb_s ls a none
  | [], a => by simp [wb_s]
  | x :: l, 0 => by simp [wb_s]
  | x :: l, a + 1 => by simp [wb_s, wb_s_idem l a]
theorem wb_dr_s : ∀ (ks : List Nat) (ls : wb_L) (k : Nat), wb_dr (wb_s ls k none) ks = wb_s (wb_dr ls ks) k none
  | [], ls, k => rfl
  | j :: ks, ls, k => by simp only [wb_dr]; rw [wb_s_comm, wb_dr_s ks]
theorem wb_dr_idem : ∀ (ks : List Nat) (ls : wb_L), wb_dr (wb_dr ls ks) ks = wb_dr ls ks
  | [], ls => rfl
  | k :: ks, ls => by
    simp only [wb_dr]
    rw [wb_dr_s ks ls k, wb_s_idem, wb_dr_s, wb_dr_idem ks ls]
theorem wb_D_dp (sc : wb_X) (m p : Nat) (ls : wb_L) (st : List wb_V) (h : wb_H) (n : wb_N) : wb_D sc m (p, wb_dp (wb_code m) p ls, st, h, n) = wb_D sc m (p, ls, st, h, n) := by
  rw [wb_D_eq, wb_D_eq sc m (p, ls, st, h, n)]
  congr 1
  simp only [wb_ac, wb_dp]
  cases wb_ft (wb_code m) p with
  | none => rfl
  | some e => simp only [wb_dr_idem]
theorem wb_go_eq {ρ : Type} {sc : wb_X} {m : Nat} {cl : List wb_E} (hcl : wb_code m = cl) (rt : wb_R → Option ρ) (cut : List Nat) : ∀ (f p : Nat) (ls : wb_L) (st : List wb_V) (h : wb_H), wb_go sc rt cut m cl f p ls st h = wb_Q sc rt m p ls st h := by
  subst hcl
  intro f
  induction f with
  | zero => intro p ls st h; rfl
  | succ f ih =>
    intro p ls st h
    have hK : ∀ c : wb_C, c.2.2.2.2 = wb_n0 → (bif wb_mem c.1 cut then wb_Q sc rt m c.1 (wb_dp (wb_code m) c.1 c.2.1) c.2.2.1 c.2.2.2.1 else wb_go sc rt cut m (wb_code m) f c.1 c.2.1 c.2.2.1 c.2.2.2.1) = (wb_D sc m c).bind rt := by
      rintro ⟨p', ls', st', h', n'⟩ hn
      simp only at hn
      subst hn
      cases wb_mem p' cut with
      | true => simp only [cond_true, wb_Q, wb_D_dp]
      | false => simp only [cond_false, ih, wb_Q]
    rw [wb_go, wb_Q, wb_D_eq]
    have hns : wb_ns wb_n0 (wb_ac true sc m (wb_code m) (p, ls, st, h, wb_n0)) := by
      unfold wb_ac
      split
      · exact wb_ns_st
      · exact wb_ns_wr
    revert hns
    cases wb_ac true sc m (wb_code m) (p, ls, st, h, wb_n0) with
    | inl b =>
      intro hns
      simp only [wb_gx, wb_ex, wb_ib_pick]
      cases hp : wb_pick b.1 b.2 with
      | none => rfl
      | some c' => exact hK c' (hns c' hp)
    | inr q =>
      cases q with
      | inl q =>
        obtain ⟨⟨y, as, h1, n1⟩, b, kd, p', ls', st'⟩ := q
        intro hns
        have hns : n1 = wb_n0 := hns
        subst hns
        simp only [wb_gx, wb_ex]
        cases b with
        | false => rfl
        | true =>
          simp only [cond_true]
          rw [Option.bind_assoc]
          have hen : wb_en y as h1 wb_n0 = (0, wb_el as (wb_pn y), [], h1, wb_n0) := rfl
          rw [hen]
          split
          · simp only [wb_F, wb_Q, Option.bind_assoc]
            congr 1
            funext r
            obtain ⟨v, h2, n2⟩ := r
            cases v with
            | none => exact hK (p', ls', st', h2, wb_n0) rfl
            | some v => rfl
          · simp only [wb_F, wb_Q, Option.bind_assoc]
            congr 1
            funext r
            obtain ⟨v, h2, n2⟩ := r
            match v with
            | none => rfl
            | some (.inl x) => exact hK (p', ls', .inl x :: st', h2, wb_n0) rfl
            | some (.inr (.inl x)) => rfl
            | some (.inr (.inr x)) => rfl
          · simp only [wb_F, wb_Q, Option.bind_assoc]
            congr 1
            funext r
            obtain ⟨v, h2, n2⟩ := r
            match v with
            | none => rfl
            | some (.inl x) => rfl
            | some (.inr (.inl x)) => exact hK (p', ls', .inr (.inl x) :: st', h2, wb_n0) rfl
            | some (.inr (.inr x)) => rfl
          · rename_i k
            simp only [wb_F, wb_Q, Option.bind_assoc]
            congr 1
            funext r
            obtain ⟨v, h2, n2⟩ := r
            match v with
            | none => rfl
            | some (.inl x) => rfl
            | some (.inr (.inl x)) => rfl
            | some (.inr (.inr x)) =>
              simp only [wb_vr, wb_rk]
              cases (Nat.beq x.1 k && Nat.beq x.2 0) with
              | false => rfl
              | true => exact hK (p', ls', .inr (.inr (k, 0)) :: st', h2, wb_n0) rfl
      | inr q => intro _; obtain ⟨b, r⟩ := q; cases b <;> rfl
