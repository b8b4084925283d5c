/-! What a reading may change: of the class one plan, of the reference one side. -/
def LXR : List Nat := [53, 4003, 4004, 4005, 4006, 4007, 4008, 4009]
def LXP : List Nat := [13, 15, 41, 42, 43, 48, 49, 50, 51, 52]
def XIn (q t o k : Nat) : Prop := wb_mem (kc t k) LXR = true ∨ (o = q ∧ wb_mem t LXP = true)
def FX (q : Nat) (h h' : wb_H) : Prop := ∀ t o k, ¬ XIn q t o k → h'.1 t o k = h.1 t o k ∧ h'.2.1 t o k = h.2.1 t o k ∧ h'.2.2 t o k = h.2.2 t o k
theorem FX_refl (q : Nat) (h : wb_H) : FX q h h := fun _ _ _ _ => ⟨rfl, rfl, rfl⟩
theorem FX_trans {q : Nat} {h h1 h2 : wb_H} (a : FX q h h1) (b : FX q h1 h2) : FX q h h2 := fun t o k n => ⟨(b t o k n).1.trans (a t o k n).1, (b t o k n).2.1.trans (a t o k n).2.1, (b t o k n).2.2.trans (a t o k n).2.2⟩
theorem FX_iu {q : Nat} {h : wb_H} {t o k : Nat} {v : Int32} (m : XIn q t o k) : FX q h (wb_iu h t o k v) := fun t' o' k' n => ⟨by
  rw [wb_iu_1, if_neg]
  rintro ⟨rfl, rfl, rfl⟩
  exact n m, rfl, rfl⟩
theorem FX_lu {q : Nat} {h : wb_H} {t o k : Nat} {v : Int64} (m : XIn q t o k) : FX q h (wb_lu h t o k v) := fun t' o' k' n => ⟨rfl, by
  rw [wb_lu_2, if_neg]
  rintro ⟨rfl, rfl, rfl⟩
  exact n m, rfl⟩
theorem FX_n {q t o k : Nat} (e1 : wb_mem (kc t k) LXR = false) (e2 : wb_mem t LXP = false) : ¬ XIn q t o k := by
  rintro (y | ⟨-, y⟩)
  · rw [e1] at y; exact Bool.noConfusion y
  · rw [e2] at y; exact Bool.noConfusion y
theorem FX_no {q t o k : Nat} (e1 : wb_mem (kc t k) LXR = false) (e2 : o ≠ q) : ¬ XIn q t o k := by
  rintro (y | ⟨y, -⟩)
  · rw [e1] at y; exact Bool.noConfusion y
  · exact e2 y
theorem FX_i {q : Nat} {h h' : wb_H} (a : FX q h h') {t o k : Nat} (e1 : wb_mem (kc t k) LXR = false) (e2 : wb_mem t LXP = false) : h'.1 t o k = h.1 t o k := (a t o k (FX_n e1 e2)).1
theorem FX_l {q : Nat} {h h' : wb_H} (a : FX q h h') {t o k : Nat} (e1 : wb_mem (kc t k) LXR = false) (e2 : wb_mem t LXP = false) : h'.2.1 t o k = h.2.1 t o k := (a t o k (FX_n e1 e2)).2.1
theorem FX_m {q : Nat} {h h' : wb_H} (a : FX q h h') {t o k : Nat} (e1 : wb_mem (kc t k) LXR = false) (e2 : wb_mem t LXP = false) : h'.2.2 t o k = h.2.2 t o k := (a t o k (FX_n e1 e2)).2.2
/-- frames by codes of which all lie in the reader's own cells -/
theorem FX_fr {q : Nat} {L : List Nat} {h h' : wb_H} (a : Fr L h h') (s : wb_subl L LXR = true) : FX q h h' := fun t o k n => by
  have e : wb_mem (kc t k) LXR = false := by
    cases e : wb_mem (kc t k) LXR with
    | false => rfl
    | true => exact absurd (Or.inl e) n
  exact a t o k (wb_mem_subl s e)
def LMR : List Nat := [1011, 1012, 1013, 1014, 1015, 1016, 1033, 1039, 1043, 72, 92]
def MSd (s t k : Nat) : Prop := ((t = 73 ∨ (80 ≤ t ∧ t ≤ 84)) ∧ k = s) ∨ (74 ≤ t ∧ t ≤ 79 ∧ 6 * s ≤ k ∧ k < 6 * s + 6) ∨ (85 ≤ t ∧ t ≤ 89 ∧ 130 * s ≤ k ∧ k < 130 * s + 130) ∨ ((t = 90 ∨ t = 91) ∧ 420 * s ≤ k ∧ k < 420 * s + 420)
def MIn (s t k : Nat) : Prop := wb_mem (kc t k) LMR = true ∨ MSd s t k
def FM (s : Nat) (h h' : wb_H) : Prop := ∀ t o k, ¬ MIn s t k → h'.1 t o k = h.1 t o k ∧ h'.2.1 t o k = h.2.1 t o k ∧ h'.2.2 t o k = h.2.2 t o k
theorem FM_refl (s : Nat) (h : wb_H) : FM s h h := fun _ _ _ _ => ⟨rfl, rfl, rfl⟩
theorem FM_trans {s : Nat} {h h1 h2 : wb_H} (a : FM s h h1) (b : FM s h1 h2) : FM s h h2 := fun t o k n => ⟨(b t o k n).1.trans (a t o k n).1, (b t o k n).2.1.trans (a t o k n).2.1, (b t o k n).2.2.trans (a t o k n).2.2⟩
theorem FM_iu {s : Nat} {h : wb_H} {t o k : Nat} {v : Int32} (m : MIn s t k) : FM s h (wb_iu h t o k v) := fun t' o' k' n => ⟨by
  rw [wb_iu_1, if_neg]
  rintro ⟨rfl, -, rfl⟩
  exact n m, rfl, rfl⟩
theorem FM_lu {s : Nat} {h : wb_H} {t o k : Nat} {v : Int64} (m : MIn s t k) : FM s h (wb_lu h t o k v) := fun t' o' k' n => ⟨rfl, by
  rw [wb_lu_2, if_neg]
  rintro ⟨rfl, -, rfl⟩
  exact n m, rfl⟩
theorem FM_n {s t k : Nat} (e1 : wb_mem (kc t k) LMR = false) (e2 : t < 73 ∨ 91 < t) : ¬ MIn s t k := by
  rintro (y | y)
  · rw [e1] at y; exact Bool.noConfusion y
  · unfold MSd at y; omega
theorem FM_i {s : Nat} {h h' : wb_H} (a : FM s h h') {t o k : Nat} (e1 : wb_mem (kc t k) LMR = false) (e2 : t < 73 ∨ 91 < t) : h'.1 t o k = h.1 t o k := (a t o k (FM_n e1 e2)).1
theorem FM_l {s : Nat} {h h' : wb_H} (a : FM s h h') {t o k : Nat} (e1 : wb_mem (kc t k) LMR = false) (e2 : t < 73 ∨ 91 < t) : h'.2.1 t o k = h.2.1 t o k := (a t o k (FM_n e1 e2)).2.1
theorem FM_m {s : Nat} {h h' : wb_H} (a : FM s h h') {t o k : Nat} (e1 : wb_mem (kc t k) LMR = false) (e2 : t < 73 ∨ 91 < t) : h'.2.2 t o k = h.2.2 t o k := (a t o k (FM_n e1 e2)).2.2
theorem FM_fr {s : Nat} {L : List Nat} {h h' : wb_H} (a : Fr L h h') (e : wb_subl L LMR = true) : FM s h h' := fun t o k n => by
  have e2 : wb_mem (kc t k) LMR = false := by
    cases e2 : wb_mem (kc t k) LMR with
    | false => rfl
    | true => exact absurd (Or.inl e2) n
  exact a t o k (wb_mem_subl e e2)
/-! Class and reference beside one another, each in a heap of its own. -/
def Both {α β : Type} (x : Option α) (m : Option β) (P : α → β → Prop) : Prop := Ok x (fun a => Ok m (fun b => P a b))
theorem Both_some {α β : Type} {a : α} {b : β} {P : α → β → Prop} (h : P a b) : Both (some a) (some b) P := ⟨a, rfl, b, rfl, h⟩
theorem Both_bind {α β γ δ : Type} {x : Option α} {m : Option β} {f : α → Option γ} {g : β → Option δ} {P : α → β → Prop} {Q : γ → δ → Prop} (h : Both x m P) (k : ∀ a b, P a b → Both (f a) (g b) Q) : Both (x.bind f) (m.bind g) Q := by
  obtain ⟨a, rfl, b, rfl, p⟩ := h
  exact k a b p
theorem Both_w {α β : Type} {x : Option α} {m : Option β} {P Q : α → β → Prop} (h : Both x m P) (k : ∀ a b, P a b → Q a b) : Both x m Q := by
  obtain ⟨a, rfl, b, rfl, p⟩ := h
  exact ⟨a, rfl, b, rfl, k a b p⟩
theorem Both_x {α β γ : Type} {x : Option α} {m : Option β} {f : α → Option γ} {P : α → Prop} {Q : γ → β → Prop} (h : Ok x P) (k : ∀ a, P a → Both (f a) m Q) : Both (x.bind f) m Q := by
  obtain ⟨a, rfl, p⟩ := h
  exact k a p
theorem Both_m {α β δ : Type} {x : Option α} {m : Option β} {g : β → Option δ} {P : β → Prop} {Q : α → δ → Prop} (h : Ok m P) (k : ∀ b, P b → Both x (g b) Q) : Both x (m.bind g) Q := by
  obtain ⟨b, rfl, p⟩ := h
  exact k b p
theorem Both_of {α β : Type} {x : Option α} {m : Option β} {P : α → Prop} {R : β → Prop} {Q : α → β → Prop} (h : Ok x P) (g : Ok m R) (k : ∀ a b, P a → R b → Q a b) : Both x m Q := by
  obtain ⟨a, rfl, p⟩ := h
  obtain ⟨b, rfl, r⟩ := g
  exact ⟨a, rfl, b, rfl, k a b p r⟩
/-- no fault so far, at a token; the first of the later faults, if there is one -/
def LvX (kd : Nat → Nat) (p w y : Nat) (x : wb_H) : Prop := x.1 16 0 3 = nN p ∧ x.1 16 0 4 = nN (kap (kd p)) ∧ x.1 16 0 8 = nN 0 ∧ x.1 16 0 9 = nM 1 ∧ x.1 16 0 6 = nN w ∧ (w ≠ 0 → x.1 16 0 7 = nN y)
def LvM (p w y : Nat) (m : wb_H) : Prop := m.1 21 0 11 = nN p ∧ m.1 21 0 13 = nN 0 ∧ m.1 21 0 15 = nN w ∧ (w ≠ 0 → m.1 21 0 16 = nN y)
def Liv (kd : Nat → Nat) (p w y : Nat) (x m : wb_H) : Prop := okT kd p ∧ w ≤ 5 ∧ y ≤ 2000 ∧ LvX kd p w y x ∧ LvM p w y m
def DdX (f e : Nat) (x : wb_H) : Prop := f ≠ 0 ∧ f ≤ 5 ∧ x.1 16 0 8 = nN f ∧ x.1 16 0 9 = nN e ∧ ∃ p, p ≤ 401 ∧ x.1 16 0 3 = nN p
def DdM (f e : Nat) (m : wb_H) : Prop := f ≠ 0 ∧ f ≤ 5 ∧ m.1 21 0 13 = nN f ∧ m.1 21 0 14 = nN e
def Dead (x m : wb_H) : Prop := ∃ f e, e ≤ 2000 ∧ DdX f e x ∧ DdM f e m
def Live (kd pl : Nat → Nat) (p w : Nat) (x m : wb_H) : Prop := ∃ y, (w ≠ 0 → y < pl p) ∧ Liv kd p w y x m
def St (kd pl : Nat → Nat) (p w : Nat) (x m : wb_H) : Prop := Live kd pl p w x m ∨ Dead x m
theorem LvX_fr {L : List Nat} {kd : Nat → Nat} {p w y : Nat} {x x' : wb_H} (F : Fr L x x') (a : wb_dj [4003, 4004, 4006, 4007, 4008, 4009] L = true) (H : LvX kd p w y x) : LvX kd p w y x' := by
  have g : ∀ y, wb_mem y [4003, 4004, 4006, 4007, 4008, 4009] = true → wb_mem y L = false := fun y hy => wb_dj_mem a hy
  obtain ⟨h1, h2, h3, h4, h5, h6⟩ := H
  exact ⟨(Fr_i F (by exact g 4003 rfl)).trans h1, (Fr_i F (by exact g 4004 rfl)).trans h2, (Fr_i F (by exact g 4008 rfl)).trans h3, (Fr_i F (by exact g 4009 rfl)).trans h4, (Fr_i F (by exact g 4006 rfl)).trans h5, fun y => (Fr_i F (by exact g 4007 rfl)).trans (h6 y)⟩
theorem LvM_fr {K : List Nat} {p w y : Nat} {m m' : wb_H} (G : Fr K m m') (b : wb_dj [1011, 1013, 1014, 1015, 1016] K = true) (H : LvM p w y m) : LvM p w y m' := by
  have k : ∀ y, wb_mem y [1011, 1013, 1014, 1015, 1016] = true → wb_mem y K = false := fun y hy => wb_dj_mem b hy
  obtain ⟨h1, h2, h3, h4⟩ := H
  exact ⟨(Fr_i G (by exact k 1011 rfl)).trans h1, (Fr_i G (by exact k 1013 rfl)).trans h2, (Fr_i G (by exact k 1015 rfl)).trans h3, fun y => (Fr_i G (by exact k 1016 rfl)).trans (h4 y)⟩
theorem DdX_fr {L : List Nat} {f e : Nat} {x x' : wb_H} (F : Fr L x x') (a : wb_mem 4008 L = false) (b : wb_mem 4009 L = false) (c : wb_mem 4003 L = false) (D : DdX f e x) : DdX f e x' := by
  obtain ⟨d1, d2, d3, d4, p, hp, d5⟩ := D
  exact ⟨d1, d2, (Fr_i F (by exact a)).trans d3, (Fr_i F (by exact b)).trans d4, p, hp, (Fr_i F (by exact c)).trans d5⟩
theorem DdM_fr {L : List Nat} {f e : Nat} {m m' : wb_H} (F : Fr L m m') (a : wb_mem 1013 L = false) (b : wb_mem 1014 L = false) (D : DdM f e m) : DdM f e m' := by
  obtain ⟨d1, d2, d3, d4⟩ := D
  exact ⟨d1, d2, (Fr_i F (by exact a)).trans d3, (Fr_i F (by exact b)).trans d4⟩
theorem Liv_fr {L K : List Nat} {kd : Nat → Nat} {p w y : Nat} {x m x' m' : wb_H} (F : Fr L x x') (G : Fr K m m') (a : wb_dj [4003, 4004, 4006, 4007, 4008, 4009] L = true) (b : wb_dj [1011, 1013, 1014, 1015, 1016] K = true) (H : Liv kd p w y x m) : Liv kd p w y x' m' :=
  ⟨H.1, H.2.1, H.2.2.1, LvX_fr F a H.2.2.2.1, LvM_fr G b H.2.2.2.2⟩
theorem Live_fr {L K : List Nat} {kd pl : Nat → Nat} {p w : Nat} {x m x' m' : wb_H} (F : Fr L x x') (G : Fr K m m') (a : wb_dj [4003, 4004, 4006, 4007, 4008, 4009] L = true) (b : wb_dj [1011, 1013, 1014, 1015, 1016] K = true) (H : Live kd pl p w x m) : Live kd pl p w x' m' := by
  obtain ⟨y, h1, h2⟩ := H
  exact ⟨y, h1, Liv_fr F G a b h2⟩
theorem Dead_fr {L K : List Nat} {x m x' m' : wb_H} (F : Fr L x x') (G : Fr K m m') (a : wb_dj [4003, 4008, 4009] L = true) (b : wb_dj [1013, 1014] K = true) (H : Dead x m) : Dead x' m' := by
  have g : ∀ y, wb_mem y [4003, 4008, 4009] = true → wb_mem y L = false := fun y hy => wb_dj_mem a hy
  have k : ∀ y, wb_mem y [1013, 1014] = true → wb_mem y K = false := fun y hy => wb_dj_mem b hy
  obtain ⟨f, e, he, H1, H2⟩ := H
  exact ⟨f, e, he, DdX_fr F (g 4008 rfl) (g 4009 rfl) (g 4003 rfl) H1, DdM_fr G (k 1013 rfl) (k 1014 rfl) H2⟩
theorem dj3 {L : List Nat} (a : wb_dj [4003, 4004, 4006, 4007, 4008, 4009] L = true) : wb_dj [4003, 4008, 4009] L = true := by
  have g : ∀ y, wb_mem y [4003, 4004, 4006, 4007, 4008, 4009] = true → wb_mem y L = false := fun y hy => wb_dj_mem a hy
  simp only [wb_dj, g 4003 rfl, g 4008 rfl, g 4009 rfl, Bool.not_false, Bool.and_self]
theorem dj3m {L : List Nat} (a : wb_dj [1011, 1013, 1014, 1015, 1016] L = true) : wb_dj [1013, 1014] L = true := by
  have g : ∀ y, wb_mem y [1011, 1013, 1014, 1015, 1016] = true → wb_mem y L = false := fun y hy => wb_dj_mem a hy
  simp only [wb_dj, g 1013 rfl, g 1014 rfl, Bool.not_false, Bool.and_self]
theorem St_fr {L K : List Nat} {kd pl : Nat → Nat} {p w : Nat} {x m x' m' : wb_H} (F : Fr L x x') (G : Fr K m m') (a : wb_dj [4003, 4004, 4006, 4007, 4008, 4009] L = true) (b : wb_dj [1011, 1013, 1014, 1015, 1016] K = true) (H : St kd pl p w x m) : St kd pl p w x' m' := by
  rcases H with H | H
  · exact Or.inl (Live_fr F G a b H)
  · exact Or.inr (Dead_fr F G (dj3 a) (dj3m b) H)
/-- where both read from -/
def En (q s : Nat) (kd pl : Nat → Nat) (vl : Nat → Int) (x m : wb_H) : Prop := TKS kd pl vl ∧ q < 2 ∧ s < 2 ∧ TKX x kd pl vl ∧ x.2.2 16 0 2 = q + 1 ∧ TKM m kd pl vl ∧ m.1 21 0 19 = nN s
theorem TKX_fx {q : Nat} {kd pl : Nat → Nat} {vl : Nat → Int} {x x' : wb_H} (F : FX q x x') (H : TKX x kd pl vl) : TKX x' kd pl vl := by
  obtain ⟨h1, z, hz, h2, h3⟩ := H
  refine ⟨fun p hp => ?_, z, hz, (FX_i F (by rfl) (by rfl)).trans h2, h3⟩
  obtain ⟨a, b, c⟩ := h1 p hp
  exact ⟨(FX_i F (by rfl) (by rfl)).trans a, (FX_i F (by rfl) (by rfl)).trans b, fun y => (FX_l F (by rfl) (by rfl)).trans (c y)⟩
theorem TKM_fm {s : Nat} {kd pl : Nat → Nat} {vl : Nat → Int} {m m' : wb_H} (F : FM s m m') (H : TKM m kd pl vl) : TKM m' kd pl vl := by
  intro p hp
  obtain ⟨a, b, c, d⟩ := H p hp
  exact ⟨(FM_i F (by rfl) (by decide)).trans a, (FM_i F (by rfl) (by decide)).trans b, fun y => (FM_i F (by rfl) (by decide)).trans (c y), fun y => (FM_l F (by rfl) (by decide)).trans (d y)⟩
theorem En_f {q s : Nat} {kd pl : Nat → Nat} {vl : Nat → Int} {x m x' m' : wb_H} (F : FX q x x') (G : FM s m m') (E : En q s kd pl vl x m) : En q s kd pl vl x' m' := by
  obtain ⟨e1, e2, e3, e4, e5, e6, e7⟩ := E
  exact ⟨e1, e2, e3, TKX_fx F e4, (FX_m F (by rfl) (by rfl)).trans e5, TKM_fm G e6, (FM_i G (by rfl) (by decide)).trans e7⟩
theorem kap_le {k : Nat} (h : kOk k) : kap k ≤ 103 := by
  have all : ∀ k, k < 42 → kap k ≤ 103 := by decide +kernel
  exact all k (okB_of h).2
