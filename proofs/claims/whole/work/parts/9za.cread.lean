/-! The call read. -/
theorem Past2 {L : List Nat} {h h' : wb_H} {T : wT} {B : Nat} (F : Fr L h h') (d : wb_dj [17, 54, 100, 9001, 9002, 1054] L = true) (n6 : tn T ≤ 6) (H : Past h T B) : Past h' T B := by
  have g : ∀ x, wb_mem x [17, 54, 100, 9001, 9002, 1054] = true → wb_mem x L = false := fun x hx => wb_dj_mem d hx
  obtain ⟨nx, c, h1, h2, h3, h4, h5, h6⟩ := H
  refine ⟨nx, c, h1, h2, (Fr_i F (by exact g 9001 rfl)).trans h3, (Fr_i F (by exact g 9002 rfl)).trans h4, (Fr_i F (by exact g 1054 rfl)).trans h5, fun j hj => ?_⟩
  obtain ⟨R, v, a, b, e⟩ := h6 j hj
  exact ⟨R, v, a, b, SR_fr F (g 17 rfl) (g 54 rfl) (fun _ => by exact g 100 rfl) n6 e⟩
theorem Slots2 {L : List Nat} {h h' : wb_H} {T : wT} {B : Nat} (F : Fr L h h') (d : wb_dj [17, 54, 61, 108, 109] L = true) (n6 : tn T ≤ 6) (H : Slots h T B) : Slots h' T B := by
  have g : ∀ x, wb_mem x [17, 54, 61, 108, 109] = true → wb_mem x L = false := fun x hx => wb_dj_mem d hx
  intro j hj
  obtain ⟨b, h1, h2, h3, h4⟩ := H j hj
  refine ⟨b, h1, (Fr_i F (by exact g 61 rfl)).trans h2, (Fr_i F (by exact g 108 rfl)).trans h3, fun e => ?_⟩
  obtain ⟨R, v, a, c, e⟩ := h4 e
  exact ⟨R, v, a, c, SR_fr F (g 17 rfl) (g 54 rfl) (fun _ => by exact g 109 rfl) n6 e⟩
theorem Diary2 {L : List Nat} {h h' : wb_H} {T : wT} (F : Fr L h h') (d : wb_dj [22, 23, 24, 25, 26, 104, 105, 106, 107, 7005, 1059] L = true) (H : Diary h T) : Diary h' T := by
  have g : ∀ x, wb_mem x [22, 23, 24, 25, 26, 104, 105, 106, 107, 7005, 1059] = true → wb_mem x L = false := fun x hx => wb_dj_mem d hx
  obtain ⟨k, h1, h2, h3, h4⟩ := H
  refine ⟨k, h1, (Fr_i F (by exact g 7005 rfl)).trans h2, (Fr_i F (by exact g 1059 rfl)).trans h3, fun j hj => ?_⟩
  obtain ⟨a, b, u, sg, ld, br, c1, c2, c3, c4, c5, c6, d1, d2, d3, d4, d5, d6, d7, d8, d9⟩ := h4 j hj
  exact ⟨a, b, u, sg, ld, br, c1, c2, c3, c4, c5, c6, (Fr_i F (by exact g 22 rfl)).trans d1, (Fr_i F (by exact g 104 rfl)).trans d2, (Fr_i F (by exact g 23 rfl)).trans d3, (Fr_i F (by exact g 105 rfl)).trans d4, (Fr_i F (by exact g 106 rfl)).trans d5, (Fr_i F (by exact g 24 rfl)).trans d6, (Fr_i F (by exact g 25 rfl)).trans d7, (Fr_i F (by exact g 26 rfl)).trans d8, (Fr_i F (by exact g 107 rfl)).trans d9⟩
theorem Tape0 {h : wb_H} (a : h.1 18 0 1 = nN 0) (b : h.1 21 0 2 = nN 0) : Tape h := ⟨0, by decide, a, b, fun j hj => absurd hj (Nat.not_lt_zero j)⟩
def R0 : wR := ((fun i => i), ((fun _ => 9), 0))
theorem R0_ok (T : wT) : R_ok T R0 := by
  refine ⟨fun i hi => hi, fun i j _ _ e => e, fun p hp => ⟨p, hp, rfl⟩, fun i _ => Or.inr rfl, ?_⟩
  show 0 < 2 ^ tn T
  exact Nat.two_pow_pos _
section
variable {sc : wb_X} {B : Nat}
theorem c_read {h : wb_H} (I : Inv h B) : Same (fun h => q_X_read sc h) (fun h => q_M_read sc h) h B := by
  obtain ⟨T, R, v, p, l, C, D⟩ := I
  obtain ⟨tok, rok, vB, xt, mt, k202, k203, sr, pa, sl, di, ⟨t, ht, t18, t2, tt⟩, ⟨ky, kx, km⟩⟩ := C
  have hp := xt.1
  have hl : l < 2 := by have := mt.1; omega
  have m18 := mt.2.1
  have hq : 1 - p < 2 := by omega
  have pq : p ≠ 1 - p := by omega
  have e202 : h.2.2 20 0 2 = 1 - (1 - p) + 1 := by rw [k202]; omega
  have tx : ∀ (m : wb_H), (∀ j, j < t → m.1 65 0 j = h.1 65 0 j) → txt (h.1 55 0) t = txt (m.1 65 0) t := by
    intro m hm
    funext i
    unfold txt
    by_cases z : i < t
    · rw [if_pos z, if_pos z, hm i z, tt i z]
    · rw [if_neg z, if_neg z]
  -- the class by itself
  obtain ⟨r, er, u0, eu0, first⟩ := read_both (sc := sc) (m := h) hq hl ht k203 e202 t18 kx t2 m18 km (tx h (fun _ _ => rfl))
  have far : Fr LGX2 h r.2 := by
    rcases first with ⟨f, e, -, -, PX, -⟩ | ⟨-, -, T', -, -, -, ⟨-, -, -, -, -, -, -, -, -, -, -, F⟩, -⟩
    · exact Fr_mono (PXf_Fr PX) rfl
    · exact F
  -- then the reference, in the heap that the class leaves
  obtain ⟨r', er', u, eu, both⟩ := read_both (sc := sc) (m := r.2) hq hl ht k203 e202 t18 kx ((Fr_i far (by rfl)).trans t2) ((Fr_i far (by rfl)).trans m18) (fun k hk => (Fr_l far (by rfl)).trans (km k hk)) (tx r.2 (fun j _ => Fr_i far (by rfl)))
  have rr : r' = r := Option.some.inj (er'.symm.trans er)
  subst rr
  refine ⟨r', er, u, eu, ?_⟩
  rcases both with ⟨f, e, rf, uf, PX, PM, r9, u17, r18, u2⟩ | ⟨rf, uf, T', tok', xt', mt', ⟨a1, a2, NX, a14, a10, a61, a2015, a2014, a62, a9, a18, FX⟩, ⟨NM, b54, b59, b108, b17, b2, FM⟩⟩
  · -- a fault: only the tape has changed
    refine ⟨uf.trans rf.symm, T, R, v, p, l, ?_, ?_⟩
    · have F1 := PXf_Fr PX
      have F2 := PMf_Fr PM
      have n6 := tok.1
      have fp : ∀ t k, wb_mem (kc t k) LPX = false → wb_mem (kc t k) LRM = false → u.2.1 t p k = h.1 t p k := fun t k e1 e2 => (Fr_i F2 (by exact e2)).trans (PXf_o PX e1 pq)
      have fl : ∀ t k, wb_mem (kc t k) LRX = false → wb_mem (kc t k) LPM = false → ¬ MSd (1 - l) t k → u.2.1 t 0 k = h.1 t 0 k := fun t k e1 e2 e3 => (PMf_i PM e2 e3).trans (Fr_i F1 (by exact e1))
      obtain ⟨x1, x2, x3, x4, x5, x6, x7, x8, x9, x10, x11, x12⟩ := xt
      obtain ⟨y1, y2, y3, y4, y5, y6, y7, y8, y9, y10, y11, y12, y13⟩ := mt
      refine ⟨tok, rok, vB, ⟨x1, (fp 15 0 rfl rfl).trans x2, (fp 15 7 rfl rfl).trans x3, (fp 15 8 rfl rfl).trans x4, (fp 15 9 rfl rfl).trans x5, (fp 15 10 rfl rfl).trans x6, (fp 15 11 rfl rfl).trans x7, fun i hi => (fp 49 i rfl rfl).trans (x8 i hi), fun i hi => (fp 50 i rfl rfl).trans (x9 i hi), fun i hi => (fp 51 i rfl rfl).trans (x10 i hi), fun i hi e3 => (fp 52 i rfl rfl).trans (x11 i hi e3), fun i sg b w d h1 h2 h3 h4 h5 h6 => (fp 46 _ rfl rfl).trans (x12 i sg b w d h1 h2 h3 h4 h5 h6)⟩, ⟨y1, (fl 21 18 rfl rfl (by unfold MSd; omega)).trans y2, (fl 73 l rfl rfl (by unfold MSd; omega)).trans y3, (fl 80 l rfl rfl (by unfold MSd; omega)).trans y4, (fl 81 l rfl rfl (by unfold MSd; omega)).trans y5, (fl 82 l rfl rfl (by unfold MSd; omega)).trans y6, (fl 83 l rfl rfl (by unfold MSd; omega)).trans y7, (fl 84 l rfl rfl (by unfold MSd; omega)).trans y8, fun i hi => (fl 74 (6 * l + i) rfl rfl (by unfold MSd; omega)).trans (y9 i hi), fun i hi => (fl 75 (6 * l + i) rfl rfl (by unfold MSd; omega)).trans (y10 i hi), fun i hi => (fl 76 (6 * l + i) rfl rfl (by unfold MSd; omega)).trans (y11 i hi), fun i hi e3 => (fl 77 (6 * l + i) rfl rfl (by unfold MSd; omega)).trans (y12 i hi e3), LT_agl (fun t ht k hs => ?_) y13⟩, (Fr_m F2 (by rfl)).trans ((Fr_m F1 (by rfl)).trans k202), (Fr_m F2 (by rfl)).trans ((Fr_m F1 (by rfl)).trans k203), SR_fr F2 (by rfl) (by rfl) (fun _ => by rfl) n6 (SR_fr F1 (by rfl) (by rfl) (fun _ => by rfl) n6 sr), Past2 F2 rfl n6 (Past2 F1 rfl n6 pa), Slots2 F2 rfl n6 (Slots2 F1 rfl n6 sl), Diary2 F2 rfl (Diary2 F1 rfl di), Tape0 ((Fr_i F2 (by rfl)).trans r18) u2, ⟨((Fr_i F2 (by rfl)).trans r9).trans u17.symm, fun k hk => (Fr_l F2 (by rfl)).trans ((Fr_l F1 (by rfl)).trans (kx k hk)), fun k hk => (Fr_l F2 (by rfl)).trans ((Fr_l F1 (by rfl)).trans (km k hk))⟩⟩
      rcases (show t = 78 ∨ t = 79 ∨ t = 85 ∨ t = 86 ∨ t = 87 ∨ t = 88 ∨ t = 89 ∨ t = 90 ∨ t = 91 by unfold sdI at hs; rcases (Classical.em (t = 85 ∨ t = 86 ∨ t = 87 ∨ t = 88 ∨ t = 89)) with w | w <;> omega) with w | w | w | w | w | w | w | w | w <;> subst w
      · exact fl 78 k rfl rfl (by unfold MSd; unfold sdI at hs; omega)
      · exact fl 79 k rfl rfl (by unfold MSd; unfold sdI at hs; omega)
      · exact fl 85 k rfl rfl (by unfold MSd; unfold sdI at hs; omega)
      · exact fl 86 k rfl rfl (by unfold MSd; unfold sdI at hs; omega)
      · exact fl 87 k rfl rfl (by unfold MSd; unfold sdI at hs; omega)
      · exact fl 88 k rfl rfl (by unfold MSd; unfold sdI at hs; omega)
      · exact fl 89 k rfl rfl (by unfold MSd; unfold sdI at hs; omega)
      · exact fl 90 k rfl rfl (by unfold MSd; unfold sdI at hs; omega)
      · exact fl 91 k rfl rfl (by unfold MSd; unfold sdI at hs; omega)
    · have F1 := PXf_Fr PX
      have F2 := PMf_Fr PM
      have fp : ∀ t k, wb_mem (kc t k) LPX = false → wb_mem (kc t k) LRM = false → u.2.1 t p k = h.1 t p k := fun t k e1 e2 => (Fr_i F2 (by exact e2)).trans (PXf_o PX e1 pq)
      have f0 : ∀ {t o k : Nat}, wb_mem (kc t k) LRX = false → wb_mem (kc t k) LRM = false → u.2.1 t o k = h.1 t o k := fun e1 e2 => (Fr_i F2 (by exact e2)).trans (Fr_i F1 (by exact e1))
      obtain ⟨c1, c2, c3⟩ := D
      refine ⟨?_, fun i hi => ?_, ?_⟩
      · rw [f0 (t := 20) (o := 0) (k := 15) rfl rfl]
        rcases c1 with c1 | ⟨c1, xa, xe⟩
        · exact Or.inl c1
        · refine Or.inr ⟨c1, ?_, XE_fr F2 rfl (XE_fr F1 rfl xe)⟩
          obtain ⟨a1, a2, a3, a4, a5, a6, a7, a8, a9, a10, a11⟩ := xa
          exact ⟨a1, (Fr_m F2 (by rfl)).trans ((Fr_m F1 (by rfl)).trans a2), (f0 rfl rfl).trans a3, (fp 15 7 rfl rfl).trans a4, fun i hi => (f0 rfl rfl).trans (a5 i hi), fun i hi => (f0 rfl rfl).trans (a6 i hi), fun i hi => (f0 rfl rfl).trans (a7 i hi), fun i hi => (f0 rfl rfl).trans (a8 i hi), fun i hi => (f0 rfl rfl).trans (a9 i hi), fun i hi e3 => (fp 52 i rfl rfl).trans (a10 i hi e3), fun i sg b w d h1 h2 h3 h4 h5 h6 => (fp 46 _ rfl rfl).trans (a11 i sg b w d h1 h2 h3 h4 h5 h6)⟩
      · rw [f0 (t := 62) (o := 0) (k := i) rfl rfl]
        exact c2 i hi
      · rw [f0 (t := 20) (o := 0) (k := 14) rfl rfl]
        rcases c3 with c3 | c3
        · exact Or.inl c3
        · exact Or.inr (Rest_fr F2 rfl (Rest_fr F1 rfl c3))
  · -- a text without a fault: all begins anew
    have n6 := tok'.1
    obtain ⟨nx, c, n1, n2, n3, n4, n5, n6'⟩ := pa
    obtain ⟨N1, N2, N3, N4, N5, N6⟩ := NX
    obtain ⟨M1, M2⟩ := NM
    have f : ∀ {t o k : Nat}, wb_mem (kc t k) LGM2 = false → u.2.1 t o k = r'.2.1 t o k := fun e => Fr_i FM (by exact e)
    have nb : wb_nb (u.2.1 17 0 5) = true := by
      rw [f (t := 17) (o := 0) (k := 5) rfl, N6]
      exact sr.2.2.2.2.2.2.1
    refine ⟨uf.trans rf.symm, T', R0, 0, 1 - p, 1 - l, ⟨tok', R0_ok T', Nat.zero_le _, XT_fr FM rfl xt', mt', (Fr_m FM (by rfl)).trans a1, (Fr_m FM (by rfl)).trans a2, ⟨⟨fun i hi => ?_, fun i hi => ?_, ?_⟩, ⟨fun i hi => ?_, fun i hi => ?_, ?_⟩, ?_, ?_, ?_, ?_, nb, ?_, fun e => absurd rfl e, fun e => absurd rfl e, fun _ i hi => ?_, fun i hi => ?_⟩, ⟨nx, 0, n1, Nat.zero_le _, ?_, (f rfl).trans a14, b54, fun j hj => absurd hj (Nat.not_lt_zero j)⟩, fun j hj => ⟨0, by decide, (f rfl).trans (a61 j hj), b108 j hj, fun e => absurd e (by decide)⟩, ⟨0, by decide, (f rfl).trans a10, b59, fun j hj => absurd hj (Nat.not_lt_zero j)⟩, Tape0 ((f rfl).trans a18) b2, ⟨((f rfl).trans a9).trans b17.symm, fun k hk => (Fr_l FM (by rfl)).trans ((Fr_l FX (by rfl)).trans (kx k hk)), fun k hk => (Fr_l FM (by rfl)).trans ((Fr_l FX (by rfl)).trans (km k hk))⟩⟩, Cache_new n6 ((f rfl).trans a2015) ((f rfl).trans a2014) (fun i hi => (f rfl).trans (a62 i hi))⟩
    · exact (f rfl).trans (N1 i (by omega)).1
    · exact (f rfl).trans (N1 i (by omega)).2.1
    · exact (f rfl).trans N3
    · rw [Nat.zero_add]
      exact (M1 i (by omega)).1
    · rw [Nat.zero_add]
      exact (M1 i (by omega)).2.1
    · exact M2 12 (by decide) (by decide)
    · exact (f rfl).trans N2
    · exact M2 13 (by decide) (by decide)
    · exact ((f rfl).trans N4).trans (M2 14 (by decide) (by decide)).symm
    · exact ((f rfl).trans N5).trans (M2 15 (by decide) (by decide)).symm
    · exact M2 16 (by decide) (by decide)
    · rw [Nat.zero_add]
      exact ⟨(M1 i (by omega)).2.2.1, (M1 i (by omega)).2.2.2.1⟩
    · rw [Nat.zero_add]
      exact ((f rfl).trans (N1 i (by omega)).2.2).trans (M1 i (by omega)).2.2.2.2.symm
    · exact (f rfl).trans ((Fr_i FX (by rfl)).trans n3)
end
