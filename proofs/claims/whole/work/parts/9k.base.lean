/-! Houses told, on both sides. -/
def HKx (q n : Nat) (x x' : wb_H) : Prop := (∀ i, i < n → (x'.1 43 q i = x.1 43 q i ∧ x'.1 49 q i = x.1 49 q i ∧ x'.1 50 q i = x.1 50 q i ∧ x'.1 51 q i = x.1 51 q i ∧ x'.1 52 q i = x.1 52 q i) ∧ x'.2.1 48 q i = x.2.1 48 q i) ∧ ∀ k, 7 ≤ k → x'.1 15 q k = x.1 15 q k
def HKm (s n : Nat) (m m' : wb_H) : Prop := (∀ i, i < n → (∀ t, 74 ≤ t → t ≤ 79 → m'.1 t 0 (6 * s + i) = m.1 t 0 (6 * s + i)) ∧ m'.2.1 72 0 i = m.2.1 72 0 i) ∧ ∀ t, 80 ≤ t → t ≤ 84 → m'.1 t 0 s = m.1 t 0 s
theorem HKx_refl (q n : Nat) (x : wb_H) : HKx q n x x := ⟨fun _ _ => ⟨⟨rfl, rfl, rfl, rfl, rfl⟩, rfl⟩, fun _ _ => rfl⟩
theorem HKm_refl (s n : Nat) (m : wb_H) : HKm s n m m := ⟨fun _ _ => ⟨fun _ _ _ => rfl, rfl⟩, fun _ _ _ => rfl⟩
theorem HKx_trans {q n : Nat} {x x1 x2 : wb_H} (a : HKx q n x x1) (b : HKx q n x1 x2) : HKx q n x x2 := by
  refine ⟨fun i hi => ?_, fun k hk => (b.2 k hk).trans (a.2 k hk)⟩
  obtain ⟨⟨a1, a2, a3, a4, a5⟩, a6⟩ := a.1 i hi
  obtain ⟨⟨b1, b2, b3, b4, b5⟩, b6⟩ := b.1 i hi
  exact ⟨⟨b1.trans a1, b2.trans a2, b3.trans a3, b4.trans a4, b5.trans a5⟩, b6.trans a6⟩
theorem HKm_trans {s n : Nat} {x x1 x2 : wb_H} (a : HKm s n x x1) (b : HKm s n x1 x2) : HKm s n x x2 := by
  refine ⟨fun i hi => ?_, fun t h1 h2 => (b.2 t h1 h2).trans (a.2 t h1 h2)⟩
  obtain ⟨a1, a2⟩ := a.1 i hi
  obtain ⟨b1, b2⟩ := b.1 i hi
  exact ⟨fun t h1 h2 => (b1 t h1 h2).trans (a1 t h1 h2), b2.trans a2⟩
theorem HKx_fr {q n : Nat} {L : List Nat} {x x' : wb_H} (F : Fr L x x') (a : wb_dj [15, 43, 48, 49, 50, 51, 52] L = true) : HKx q n x x' := by
  have g : ∀ y, wb_mem y [15, 43, 48, 49, 50, 51, 52] = true → wb_mem y L = false := fun y hy => wb_dj_mem a hy
  exact ⟨fun i _ => ⟨⟨Fr_i F (by exact g 43 rfl), Fr_i F (by exact g 49 rfl), Fr_i F (by exact g 50 rfl), Fr_i F (by exact g 51 rfl), Fr_i F (by exact g 52 rfl)⟩, Fr_l F (by exact g 48 rfl)⟩, fun k _ => Fr_i F (by exact g 15 rfl)⟩
theorem HKm_fr {s n : Nat} {K : List Nat} {m m' : wb_H} (G : Fr K m m') (a : wb_dj [72, 74, 75, 76, 77, 78, 79, 80, 81, 82, 83, 84] K = true) : HKm s n m m' := by
  have g : ∀ y, wb_mem y [72, 74, 75, 76, 77, 78, 79, 80, 81, 82, 83, 84] = true → wb_mem y K = false := fun y hy => wb_dj_mem a hy
  have all : ∀ t k, 74 ≤ t → t ≤ 84 → m'.1 t 0 k = m.1 t 0 k := by
    intro t k h1 h2
    rcases (show t = 74 ∨ t = 75 ∨ t = 76 ∨ t = 77 ∨ t = 78 ∨ t = 79 ∨ t = 80 ∨ t = 81 ∨ t = 82 ∨ t = 83 ∨ t = 84 by omega) with r | r | r | r | r | r | r | r | r | r | r <;> subst r
    · exact Fr_i G (by exact g 74 rfl)
    · exact Fr_i G (by exact g 75 rfl)
    · exact Fr_i G (by exact g 76 rfl)
    · exact Fr_i G (by exact g 77 rfl)
    · exact Fr_i G (by exact g 78 rfl)
    · exact Fr_i G (by exact g 79 rfl)
    · exact Fr_i G (by exact g 80 rfl)
    · exact Fr_i G (by exact g 81 rfl)
    · exact Fr_i G (by exact g 82 rfl)
    · exact Fr_i G (by exact g 83 rfl)
    · exact Fr_i G (by exact g 84 rfl)
  exact ⟨fun i _ => ⟨fun t h1 h2 => all t _ h1 (by omega), Fr_l G (by exact g 72 rfl)⟩, fun t h1 h2 => all t _ (by omega) h2⟩
theorem HKx_iu {q n t k : Nat} {x : wb_H} {v : Int32} (h : t ≠ 15) (hk : n ≤ k) : HKx q n x (wb_iu x t q k v) := by
  have e : ∀ t' i, i < n → (wb_iu x t q k v).1 t' q i = x.1 t' q i := fun t' i hi => by
    rw [wb_iu_1, if_neg]
    rintro ⟨-, -, r⟩
    omega
  exact ⟨fun i hi => ⟨⟨e _ _ hi, e _ _ hi, e _ _ hi, e _ _ hi, e _ _ hi⟩, rfl⟩, fun j _ => iu_nt (fun y => h y.symm)⟩
theorem HKx_lu {q n k : Nat} {x : wb_H} {v : Int64} (hk : n ≤ k) : HKx q n x (wb_lu x 48 q k v) :=
  ⟨fun i hi => ⟨⟨rfl, rfl, rfl, rfl, rfl⟩, lu_ne (by omega)⟩, fun j _ => rfl⟩
theorem HKm_iu {s n t k : Nat} {m : wb_H} {v : Int32} (h : t < 80) (hk : 6 * s + n ≤ k) : HKm s n m (wb_iu m t 0 k v) := by
  refine ⟨fun i hi => ⟨fun t' _ _ => ?_, rfl⟩, fun t' h1 _ => iu_nt (by omega)⟩
  rw [wb_iu_1, if_neg]
  rintro ⟨-, -, r⟩
  omega
def HoB (q s n z y b : Nat) (x m x' m' : wb_H) : Prop := FX q x x' ∧ FM s m m' ∧ Kp q z x x' ∧ Km y m m' ∧ Kb b m m' ∧ HKx q n x x' ∧ HKm s n m m'
theorem HoB_refl (q s n z y b : Nat) (x m : wb_H) : HoB q s n z y b x m x m := ⟨FX_refl _ _, FM_refl _ _, Kp_refl _ _ _, Km_refl _ _, Kb_refl _ _, HKx_refl _ _ _, HKm_refl _ _ _⟩
theorem HoB_trans {q s n z y b : Nat} {x m x1 m1 x2 m2 : wb_H} (a : HoB q s n z y b x m x1 m1) (c : HoB q s n z y b x1 m1 x2 m2) : HoB q s n z y b x m x2 m2 :=
  ⟨FX_trans a.1 c.1, FM_trans a.2.1 c.2.1, Kp_trans a.2.2.1 c.2.2.1, Km_trans a.2.2.2.1 c.2.2.2.1, Kb_trans a.2.2.2.2.1 c.2.2.2.2.1, HKx_trans a.2.2.2.2.2.1 c.2.2.2.2.2.1, HKm_trans a.2.2.2.2.2.2 c.2.2.2.2.2.2⟩
theorem HoB_LB {q s n z y b : Nat} {x m x1 m1 : wb_H} (a : LB q s z y b x m x1 m1) : HoB q s n z y b x m x1 m1 :=
  ⟨a.2.1, a.2.2.2.1, a.2.2.2.2.1, a.2.2.2.2.2.1, a.2.2.2.2.2.2, HKx_fr a.1 rfl, HKm_fr a.2.2.1 rfl⟩
/-- frames of the readers' own cells -/
theorem HoB_fr {q s n z y b : Nat} {L K : List Nat} {x m x1 m1 : wb_H} (F : Fr L x x1) (G : Fr K m m1) (a : wb_subl L LIX = true) (c : wb_subl K LIM = true) : HoB q s n z y b x m x1 m1 := by
  have F1 := Fr_mono F a
  have G1 := Fr_mono G c
  exact ⟨FX_fr F1 rfl, FM_fr G1 rfl, Kp_fr F1 rfl, Km_fr G1 rfl, Kb_fr G1 rfl, HKx_fr F1 rfl, HKm_fr G1 rfl⟩
theorem HoB_x {q s n z y b t : Nat} {x m : wb_H} {v : Int32} (ht : t = 43 ∨ t = 49 ∨ t = 50 ∨ t = 51 ∨ t = 52) : HoB q s n z y b x m (wb_iu x t q n v) m := by
  refine ⟨FX_iu (Or.inr ⟨rfl, ?_⟩), FM_refl _ _, fun j _ => ⟨iu_nt (by omega), iu_nt (by omega)⟩, Km_refl _ _, Kb_refl _ _, HKx_iu (by omega) (Nat.le_refl _), HKm_refl _ _ _⟩
  rcases ht with e | e | e | e | e <;> subst e <;> rfl
theorem HoB_m {q s n z y b t : Nat} {x m : wb_H} {v : Int32} (h1 : 74 ≤ t) (h2 : t ≤ 79) (hn : n < 6) : HoB q s n z y b x m x (wb_iu m t 0 (6 * s + n) v) :=
  ⟨FX_refl _ _, FM_iu (Or.inr (by unfold MSd; omega)), Kp_refl _ _ _, fun j _ => ⟨iu_nt (by omega), iu_nt (by omega)⟩, fun t' h1 h2 j _ => iu_nt (by omega), HKx_refl _ _ _, HKm_iu (by omega) (Nat.le_refl _)⟩
/-- a law of a house -/
def LawR (q s Y Z B : Nat) (x m : wb_H) (i : Nat) : Prop := ∃ z0 b0 brs t zf, x.1 43 q i = nN z0 ∧ m.1 78 0 (6 * s + i) = nN b0 ∧ m.1 79 0 (6 * s + i) = nN (b0 + brs.length + 1) ∧ LawC q Y x m brs z0 b0 zf (b0 + brs.length) ∧ Lst q Y x m zf (b0 + brs.length) t ∧ zf + t.length + 1 ≤ Z ∧ b0 + brs.length + 1 ≤ B ∧ 130 * s ≤ b0
def HouseR (q s w Y Z B : Nat) (x m : wb_H) (i : Nat) : Prop := ∃ u e t, u ≤ 9999 ∧ e ≤ 9999 ∧ t ≤ 6 ∧ x.1 49 q i = nN u ∧ m.1 74 0 (6 * s + i) = nN u ∧ x.1 50 q i = nN e ∧ m.1 75 0 (6 * s + i) = nN e ∧ x.1 51 q i = nN t ∧ m.1 76 0 (6 * s + i) = nN t ∧ x.2.1 48 q i = m.2.1 72 0 i ∧ (w = 0 → u ≤ 10 ∧ e ≤ 6 ∧ (t = 3 → ∃ j, j < i ∧ x.1 52 q i = nN j ∧ m.1 77 0 (6 * s + i) = nN j)) ∧ (t = 6 → LawR q s Y Z B x m i)
theorem HouseR_k2 {q s z y b w w' Y Z B i : Nat} {x m x' m' : wb_H} (K : Kp q z x x') (J : Km y m m') (L : Kb b m m') (hx : (x'.1 43 q i = x.1 43 q i ∧ x'.1 49 q i = x.1 49 q i ∧ x'.1 50 q i = x.1 50 q i ∧ x'.1 51 q i = x.1 51 q i ∧ x'.1 52 q i = x.1 52 q i) ∧ x'.2.1 48 q i = x.2.1 48 q i) (hm : (∀ t, 74 ≤ t → t ≤ 79 → m'.1 t 0 (6 * s + i) = m.1 t 0 (6 * s + i)) ∧ m'.2.1 72 0 i = m.2.1 72 0 i) (hw : w' = 0 → w = 0) (h1 : Z ≤ z) (h2 : Y ≤ y) (h3 : B ≤ b) (R : HouseR q s w Y Z B x m i) : HouseR q s w' Y Z B x' m' i := by
  obtain ⟨⟨a1, a2, a3, a4, a5⟩, a6⟩ := hx
  obtain ⟨b1, b2⟩ := hm
  obtain ⟨u, e, t, c1, c2, c3, c4, c5, c6, c7, c8, c9, c10, c11, c12⟩ := R
  refine ⟨u, e, t, c1, c2, c3, a2.trans c4, (b1 74 (by decide) (by decide)).trans c5, a3.trans c6, (b1 75 (by decide) (by decide)).trans c7, a4.trans c8, (b1 76 (by decide) (by decide)).trans c9, a6.trans (c10.trans b2.symm), fun y => ?_, fun y => ?_⟩
  · obtain ⟨d1, d2, d3⟩ := c11 (hw y)
    refine ⟨d1, d2, fun y3 => ?_⟩
    obtain ⟨j, j1, j2, j3⟩ := d3 y3
    exact ⟨j, j1, a5.trans j2, (b1 77 (by decide) (by decide)).trans j3⟩
  · obtain ⟨z0, b0, brs, t, zf, d1, d2, d3, d4, d5, d6, d7, d8⟩ := c12 y
    exact ⟨z0, b0, brs, t, zf, a1.trans d1, (b1 78 (by decide) (by decide)).trans d2, (b1 79 (by decide) (by decide)).trans d3, LawC_keep K J L h2 (by omega) (by omega) d4, Lst_keep K J L (by omega) h2 (by omega) d5, d6, d7, d8⟩
theorem HouseR_keep {q s n z y b w w' Y Z B i : Nat} {x m x' m' : wb_H} (H : HoB q s n z y b x m x' m') (hw : w' = 0 → w = 0) (hi : i < n) (h1 : Z ≤ z) (h2 : Y ≤ y) (h3 : B ≤ b) (R : HouseR q s w Y Z B x m i) : HouseR q s w' Y Z B x' m' i :=
  HouseR_k2 H.2.2.1 H.2.2.2.1 H.2.2.2.2.1 (H.2.2.2.2.2.1.1 i hi) (H.2.2.2.2.2.2.1 i hi) hw h1 h2 h3 R
theorem HouseR_le {q s w Y Z B Y' Z' B' i : Nat} {x m : wb_H} (h1 : Z ≤ Z') (h2 : Y ≤ Y') (h3 : B ≤ B') (R : HouseR q s w Y Z B x m i) : HouseR q s w Y' Z' B' x m i := by
  obtain ⟨u, e, t, c1, c2, c3, c4, c5, c6, c7, c8, c9, c10, c11, c12⟩ := R
  refine ⟨u, e, t, c1, c2, c3, c4, c5, c6, c7, c8, c9, c10, c11, fun y => ?_⟩
  obtain ⟨z0, b0, brs, t, zf, d1, d2, d3, d4, d5, d6, d7, d8⟩ := c12 y
  exact ⟨z0, b0, brs, t, zf, d1, d2, d3, LawC_Y h2 d4, Lst_le h2 d5, by omega, by omega, d8⟩
def smx (j : Nat) : Nat := if j = 0 then 10 else if j = 1 then 30 else if j = 2 then 30 else if j = 3 then 999 else 9999
def SetR (q s w : Nat) (x m : wb_H) : Prop := ∀ j, j < 5 → ∃ v, v ≤ 9999 ∧ x.1 15 q (7 + j) = nN v ∧ m.1 (80 + j) 0 s = nN v ∧ (w = 0 → v ≤ smx j)
theorem SetR_keep {q s w w' : Nat} {x m x' m' : wb_H} (hx : ∀ k, 7 ≤ k → x'.1 15 q k = x.1 15 q k) (hm : ∀ t, 80 ≤ t → t ≤ 84 → m'.1 t 0 s = m.1 t 0 s) (hw : w' = 0 → w = 0) (R : SetR q s w x m) : SetR q s w' x' m' := by
  intro j hj
  obtain ⟨v, a1, a2, a3, a4⟩ := R j hj
  exact ⟨v, a1, (hx _ (by omega)).trans a2, (hm _ (by omega) (by omega)).trans a3, fun y => a4 (hw y)⟩
def TopI (q s : Nat) (kd pl : Nat → Nat) (vl : Nat → Int) (p w n z y b : Nat) (x m : wb_H) : Prop := Lq q s kd pl vl p w z y b x m ∧ x.1 15 q 0 = nN n ∧ m.1 73 0 s = nN n ∧ n ≤ 6 ∧ (∀ i, i < n → HouseR q s w y z b x m i) ∧ SetR q s w x m ∧ 130 * s ≤ b ∧ b ≤ 130 * s + 5 * n
