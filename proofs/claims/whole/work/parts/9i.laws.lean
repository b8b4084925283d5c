/-! Laws: all branches, then the last term. -/
theorem Both_guard {α β γ δ : Type} {x : Option α} {e : Option β} {c : Bool} {m0 : β} {f : α → Option γ} {K : β → Option δ} {P : α → β → Prop} {Q : γ → δ → Prop} (hd : c = true → Both x (some m0) P) (hl : c = false → Both x e P) (k : ∀ a b, P a b → Both (f a) (K b) Q) : Both (x.bind f) (bif c then K m0 else e.bind K) Q := by
  cases c with
  | true =>
    obtain ⟨a, ea, b, eb, p⟩ := hd rfl
    cases eb
    rw [ea]
    exact k a _ p
  | false => exact Both_bind (hl rfl) k
section
variable {sc : wb_X} {q s : Nat} {kd pl : Nat → Nat} {vl : Nat → Int} {w : Nat}
def LawPost (pb q s : Nat) (kd pl : Nat → Nat) (vl : Nat → Int) (w z0 y0 b0 : Nat) (x0 m0 x m : wb_H) : Prop := ∃ p y brs t zf, LB q s z0 y0 b0 x0 m0 x m ∧ LqS q s kd pl vl p w (zf + List.length (α := Nat × Int32) t + 1) y (b0 + brs.length + 1) x m ∧ LawC q y x m brs z0 b0 zf (b0 + brs.length) ∧ Lst q y x m zf (b0 + brs.length) t ∧ brs.length ≤ 4 ∧ y0 ≤ y ∧ pb ≤ p
theorem Dd_emit {b : Nat} {x0 m0 x m : wb_H} (H : Dd q s b x0 m0 x m) (a c : Int32) : Ok (q_Laws_emit sc x q a c) (fun r => Dd q s b x0 m0 r.2 m ∧ ∃ y, y ≤ 402 ∧ r.1 = nN y) := by
  obtain ⟨X, M, ⟨f, e, he, D1, D2⟩, hb⟩ := H
  refine Ok_w (dq_emit D1 a c) ?_
  rintro r ⟨H, -, h⟩
  exact ⟨⟨FX_trans X H.2.1, M, ⟨f, e, he, H.2.2, D2⟩, hb⟩, h⟩
theorem Dd_m2 {b : Nat} {x0 m0 x m : wb_H} (H : Dd q s b x0 m0 x m) : q < 2 ∧ x.2.2 16 0 2 = q + 1 := by
  obtain ⟨X, M, ⟨f, e, he, D1, D2⟩, hb⟩ := H
  exact ⟨D1.1, D1.2.2.1⟩
theorem ls_lawfin {γ : Type} {KX : wb_H → Option γ} {Q : γ → wb_H → Prop} {a b0 z0 y0 pb : Nat} {x0 m0 : wb_H} (ha : a < 12) (hb1 : 130 * s ≤ b0) (hb2 : b0 + 8 ≤ 130 * s + 130) (kl : ∀ x' m', LawPost pb q s kd pl vl w z0 y0 b0 x0 m0 x' m' → Both (KX x') (tailM sc m' a b0) Q) (kdd : ∀ b' x' m', Dd q s b' x0 m0 x' m' → Both (KX x') (some m') Q) {p z y : Nat} {brs : List (CL × (CL × CL))} {x m : wb_H} (B : LB q s z0 y0 b0 x0 m0 x m) (hz : z0 ≤ z) (hy : y0 ≤ y) (H : Lq q s kd pl vl p w z y (b0 + brs.length) x m) (LC : LawC q y x m brs z0 b0 z (b0 + brs.length)) (h4 : brs.length ≤ 4) (hpb : pb ≤ p) (n32 : kd p ≠ 32) (v : Int32) : Both (((q_Reader_parseSum sc x).bind fun h1 => bif (decide (0 < h1.2.2 16 0 2)) then bif (decide ((h1.2.2 16 0 2 - 1) < 2)) then bif (decide ((h1.2.2 16 0 2 - 1) < 2)) then ((q_Laws_emit sc h1 (h1.2.2 16 0 2 - 1) (nN 3) (nN 0)).bind fun r2 => some r2.2) else none else none else none).bind KX) (q_M_tellLaw_L12 sc m (nN a) (nN b0) v) Q := by
  have hq := H.1.2.1
  have g1 : decide (0 < q + 1) = true := decide_eq_true (by omega)
  have g2 : decide (q < 2) = true := decide_eq_true hq
  have hs := H.1.2.2.1
  have l420 := H.2.2.2.2.2.2.2.2.1
  obtain ⟨p4, m13, m11, x4, ok⟩ := Lq_p H
  have lm : ∃ y w', LvM p w' y m := by
    obtain ⟨y, hy, o, w5, y2, lx, lm⟩ := H.2.1
    exact ⟨y, w, lm⟩
  obtain ⟨yy, ww, lm⟩ := lm
  have i32 : q_M_is sc m (nN 32) = some (nN 0, m) := by rw [M_is H.1.1 H.1.2.2.2.2.2.1 ok lm (by decide), if_neg n32]
  rw [M_law_end ha v (Or.inr i32) H.2.2.2.2.2.1 (by omega), Option.bind_assoc]
  have B1 : LB q s z y (b0 + brs.length) x m x (wb_iu m 85 0 (b0 + brs.length) (nN 0)) := LB_m (Or.inl rfl) (Nat.le_refl _) (by omega) (by omega)
  have H1 : Lq q s kd pl vl p w z y (b0 + brs.length) x (wb_iu m 85 0 (b0 + brs.length) (nN 0)) := Lq_fr (Fr_refl [] x) (Fr_iu (L := [85]) rfl) (FX_refl q x) B1.2.2.2.1 rfl rfl H
  refine Both_bind (Lq_term (FX_refl q x) B1.2.2.2.1 H1 (by omega) (by omega)) ?_
  rintro x2 m2 h
  rcases h with ⟨p', t, hp', h, F, X, G, M, K, J, L, S, c85, c86, c87, c88, c89⟩ | h
  · have hm2 := h.1.2.2.2.2.1
    have h13 := h.2.2.2.1
    have p4' := (Lq_p h).1
    have zl := h.2.2.2.2.2.2.2.1
    simp only [hm2, g1, g2, Nat.add_sub_cancel, cond_true, X_emit hq (show z + t.length ≤ 401 by omega) h13, Option.bind_some]
    have F3 : Fr [13, 41, 42] x2 (wb_iu (wb_iu (wb_iu x2 41 q (z + t.length) (nN 3)) 42 q (z + t.length) (nN 0)) 13 q 6 (nN (z + t.length + 1))) := Fr_trans (Fr_trans (Fr_iu rfl) (Fr_iu rfl)) (Fr_iu rfl)
    have X3 : FX q x2 (wb_iu (wb_iu (wb_iu x2 41 q (z + t.length) (nN 3)) 42 q (z + t.length) (nN 0)) 13 q 6 (nN (z + t.length + 1))) := FX_trans (FX_trans (FX_iu (Or.inr ⟨rfl, rfl⟩)) (FX_iu (Or.inr ⟨rfl, rfl⟩))) (FX_iu (Or.inr ⟨rfl, rfl⟩))
    have K3 : Kp q (z + t.length) x2 (wb_iu (wb_iu (wb_iu x2 41 q (z + t.length) (nN 3)) 42 q (z + t.length) (nN 0)) 13 q 6 (nN (z + t.length + 1))) := fun j hj => ⟨by rw [iu_nt (by decide), iu_nt (by decide), iu_ne (by omega)], by rw [iu_nt (by decide), iu_ne (by omega), iu_nt (by decide)]⟩
    have e41 : (wb_iu (wb_iu (wb_iu x2 41 q (z + t.length) (nN 3)) 42 q (z + t.length) (nN 0)) 13 q 6 (nN (z + t.length + 1))).1 41 q (z + t.length) = nN 3 := by rw [iu_nt (by decide), iu_nt (by decide), iu_at]
    have e13 : (wb_iu (wb_iu (wb_iu x2 41 q (z + t.length) (nN 3)) 42 q (z + t.length) (nN 0)) 13 q 6 (nN (z + t.length + 1))).1 13 q 6 = nN (z + t.length + 1) := iu_at
    generalize wb_iu (wb_iu (wb_iu x2 41 q (z + t.length) (nN 3)) 42 q (z + t.length) (nN 0)) 13 q 6 (nN (z + t.length + 1)) = x3 at *
    refine kl x3 m2 ?_
    have B2 : LB q s z y (b0 + brs.length) x m x3 m2 := LB_trans B1 ⟨Fr_trans F (Fr_mono F3 rfl), FX_trans X X3, G, M, Kp_trans K (Kp_le (by omega) K3), J, L⟩ (Nat.le_refl _) (Nat.le_refl _) (Nat.le_refl _)
    refine ⟨p', y + t.length, brs, t, z, LB_trans B B2 hz hy (by omega), ?_, LawC_Y (Nat.le_add_right _ _) (LawC_keep B2.2.2.2.2.1 B2.2.2.2.2.2.1 B2.2.2.2.2.2.2 (Nat.le_refl _) (Nat.le_refl _) (Nat.le_refl _) LC), ?_, h4, by omega, by omega⟩
    · obtain ⟨h1, h2, h3, h4, h5, h6, h7, h8, h9, h10⟩ := h
      exact ⟨En_f X3 (FM_refl s m2) h1, Live_fr F3 (Fr_refl [] m2) rfl rfl h2, PLn_fr F3 rfl h3, e13, h5, h6, h7, by omega, h9, h10⟩
    · exact ⟨y, Sg_keep K3 (Km_refl _ _) (Nat.le_refl _) (Nat.le_refl (y + t.length)) S, e41, c85.trans iu_at, c88, c89, Nat.le_refl _, by omega⟩
  · obtain ⟨-, hm2⟩ := Dd_m2 h
    simp only [hm2, g1, g2, Nat.add_sub_cancel, cond_true]
    have h' := h
    obtain ⟨X3, M3, ⟨f3, e3, he3, D31, D32⟩, hb3⟩ := h'
    rw [tailM_dead D32]
    obtain ⟨r, er, h5, -⟩ := Dd_emit (sc := sc) h (nN 3) (nN 0)
    rw [er]
    simp only [Option.bind_some]
    exact kdd _ _ _ (Dd_trans B.2.1 B.2.2.2.1 h5)
end
