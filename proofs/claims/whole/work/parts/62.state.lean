/-! How things stand in the class and in the reference. -/
def xwl : List Nat := [4562600, 1428746, 125042, 50849, 4721448845, 377761, 11570, 267347, 3379448, 46, 459788, 15216, 249, 399641, 107681, 380741, 38576161, 1314541, 377776, 389777, 212302449, 239872]
def mkl : List Nat := [4562600, 11570, 267347, 3379448, 46, 459788, 15216, 1428746, 125042, 50849, 4721448845, 377761, 249, 399641, 107681, 380741, 38576161, 1314541, 377776, 389777, 212302449, 239872]
def xw (k : Nat) : Int64 := Int64.ofNat (wb_nth 0 xwl k)
def mk (k : Nat) : Int64 := Int64.ofNat (wb_nth 0 mkl k)
def SR (h : wb_H) (T : wT) (o t f : Nat) (R : wR) (v : Nat) : Prop :=
  Std h o T R ∧ Row h t f T R ∧ h.1 17 o 1 = nN v ∧ h.1 t 0 (f + 13) = nN v ∧ h.1 17 o 3 = h.1 t 0 (f + 14) ∧ h.1 17 o 4 = h.1 t 0 (f + 15) ∧ wb_nb (h.1 17 o 5) = true ∧ h.1 t 0 (f + 16) = nN (if v = 0 then 0 else 1) ∧
  (v ≠ 0 → h.1 17 o 5 = h.1 t 0 (f + 17) ∧ h.1 17 o 6 = h.1 t 0 (f + 18) ∧ h.1 17 o 7 = h.1 t 0 (f + 19)) ∧
  (v ≠ 0 → ∀ i, i < tn T → h.1 54 o (12 + i) = h.1 t 0 (f + 20 + i) ∧ h.1 54 o (18 + i) = h.1 t 0 (f + 26 + i) ∧ ∃ b, b ≤ 2 ∧ h.1 t 0 (f + 20 + i) = nN b) ∧
  (v = 0 → ∀ i, i < tn T → h.1 t 0 (f + 20 + i) = nM 2 ∧ h.1 t 0 (f + 26 + i) = nM 2) ∧ (∀ i, i < tn T → h.1 54 o (24 + i) = h.1 t 0 (f + 32 + i))
theorem SR_eq {h h' : wb_H} {T : wT} {o t f o' t' f' v : Nat} {R : wR} (a : ∀ k, k < 8 → 1 ≤ k → h'.1 17 o' k = h.1 17 o k) (b : ∀ k, k < 30 → h'.1 54 o' k = h.1 54 o k) (c : ∀ k, k < 48 → h'.1 t' 0 (f' + k) = h.1 t 0 (f + k)) (n6 : tn T ≤ 6) (H : SR h T o t f R v) : SR h' T o' t' f' R v := by
  have c2 : ∀ m i, m + i < 48 → h'.1 t' 0 (f' + m + i) = h.1 t 0 (f + m + i) := fun m i hi => by rw [Nat.add_assoc, Nat.add_assoc]; exact c _ hi
  obtain ⟨⟨p1, p2, p3⟩, ⟨r1, r2, r3⟩, a1, a2, a3, a4, a5, a6, a7, a8, a9, a10⟩ := H
  refine ⟨⟨fun i hi => (b _ (by omega)).trans (p1 i hi), fun i hi => (b _ (by omega)).trans (p2 i hi), (a 2 (by decide) (by decide)).trans p3⟩, ⟨fun i hi => (c _ (by omega)).trans (r1 i hi), fun i hi => (c2 _ _ (by omega)).trans (r2 i hi), (c _ (by decide)).trans r3⟩, (a 1 (by decide) (by decide)).trans a1, (c _ (by decide)).trans a2, ?_, ?_, ?_, (c _ (by decide)).trans a6, fun hv => ?_, fun hv i hi => ?_, fun hv i hi => ?_, fun i hi => ?_⟩
  · rw [a 3 (by decide) (by decide), c _ (by decide)]; exact a3
  · rw [a 4 (by decide) (by decide), c _ (by decide)]; exact a4
  · rw [a 5 (by decide) (by decide)]; exact a5
  · rw [a 5 (by decide) (by decide), a 6 (by decide) (by decide), a 7 (by decide) (by decide), c _ (by decide), c _ (by decide), c _ (by decide)]; exact a7 hv
  · rw [b _ (by omega), b _ (by omega), c2 _ _ (by omega), c2 _ _ (by omega)]; exact a8 hv i hi
  · rw [c2 _ _ (by omega), c2 _ _ (by omega)]; exact a9 hv i hi
  · rw [b _ (by omega), c2 _ _ (by omega)]; exact a10 i hi
theorem SR_fr {L : List Nat} {h h' : wb_H} {T : wT} {o t f v : Nat} {R : wR} (F : Fr L h h') (e1 : wb_mem 17 L = false) (e2 : wb_mem 54 L = false) (e3 : ∀ k, wb_mem (kc t k) L = false) (n6 : tn T ≤ 6) (H : SR h T o t f R v) : SR h' T o t f R v :=
  SR_eq (fun k _ _ => Fr_i F (by exact e1)) (fun k _ => Fr_i F (by exact e2)) (fun k _ => Fr_i F (e3 _)) n6 H
def Past (h : wb_H) (T : wT) (B : Nat) : Prop := ∃ nx c, nx < 40 ∧ c ≤ 40 ∧ h.1 14 0 1 = nN nx ∧ h.1 14 0 2 = nN c ∧ h.1 21 0 54 = nN c ∧ ∀ j, j < c → ∃ R v, R_ok T R ∧ v ≤ B ∧ SR h T (1 + (nx + 40 - c + j) % 40) 100 (48 * j) R v
def Slots (h : wb_H) (T : wT) (B : Nat) : Prop := ∀ j, j < 3 → ∃ b, b ≤ 1 ∧ h.1 61 0 j = nN b ∧ h.1 108 0 j = nN b ∧ (b = 1 → ∃ R v, R_ok T R ∧ v ≤ B ∧ SR h T (41 + j) 109 (48 * j) R v)
def Told1 (h : wb_H) (T : wT) (j : Nat) : Prop := ∃ a b u sg ld br, a < tn T ∧ b ≤ 6 ∧ u ≤ 6 ∧ sg ≤ 1 ∧ ld ≤ 1 ∧ br ≤ 1 ∧ h.1 22 0 j = nN a ∧ h.1 104 0 j = nN a ∧ h.1 23 0 j = nN b - nN u ∧ h.1 105 0 j = nN b ∧ h.1 106 0 j = nN u ∧ h.1 24 0 j = nN sg ∧ h.1 25 0 j = nN ld ∧ h.1 26 0 j = nN br ∧ h.1 107 0 j = nN (sg + 2 * ld + 4 * br)
def Diary (h : wb_H) (T : wT) : Prop := ∃ k, k ≤ 20 ∧ h.1 10 0 5 = nN k ∧ h.1 21 0 59 = nN k ∧ ∀ j, j < k → Told1 h T j
def Tape (h : wb_H) : Prop := ∃ t, t ≤ 2000 ∧ h.1 18 0 1 = nN t ∧ h.1 21 0 2 = nN t ∧ ∀ j, j < t → h.1 55 0 j = h.1 65 0 j
def Keys (h : wb_H) : Prop := h.1 16 0 9 = h.1 21 0 17 ∧ (∀ k, k < 22 → h.2.1 56 0 k = xw k) ∧ (∀ k, k < 22 → h.2.1 71 0 k = mk k)
def CL1 : List Nat := [17, 54, 100, 9001, 9002, 1054, 61, 108, 109, 22, 23, 24, 25, 26, 104, 105, 106, 107, 7005, 1059, 5001, 55, 65, 1002, 4009, 1017, 56, 71, 95, 2002, 2003]
theorem Past_fr {L : List Nat} {h h' : wb_H} {T : wT} {B : Nat} (F : Fr L h h') (d : wb_dj CL1 L = true) (n6 : tn T ≤ 6) (H : Past h T B) : Past h' T B := by
  have g : ∀ x, wb_mem x CL1 = true → wb_mem x L = false := fun x hx => wb_dj_mem d hx
  obtain ⟨nx, c, h1, h2, h3, h4, h5, h6⟩ := H
  refine ⟨nx, c, h1, h2, (Fr_i F (by exact g 9001 rfl)).trans h3, (Fr_i F (by exact g 9002 rfl)).trans h4, (Fr_i F (by exact g 1054 rfl)).trans h5, fun j hj => ?_⟩
  obtain ⟨R, v, a, b, e⟩ := h6 j hj
  exact ⟨R, v, a, b, SR_fr F (g 17 rfl) (g 54 rfl) (fun _ => by exact g 100 rfl) n6 e⟩
theorem Slots_fr {L : List Nat} {h h' : wb_H} {T : wT} {B : Nat} (F : Fr L h h') (d : wb_dj CL1 L = true) (n6 : tn T ≤ 6) (H : Slots h T B) : Slots h' T B := by
  have g : ∀ x, wb_mem x CL1 = true → wb_mem x L = false := fun x hx => wb_dj_mem d hx
  intro j hj
  obtain ⟨b, h1, h2, h3, h4⟩ := H j hj
  refine ⟨b, h1, (Fr_i F (by exact g 61 rfl)).trans h2, (Fr_i F (by exact g 108 rfl)).trans h3, fun e => ?_⟩
  obtain ⟨R, v, a, c, e⟩ := h4 e
  exact ⟨R, v, a, c, SR_fr F (g 17 rfl) (g 54 rfl) (fun _ => by exact g 109 rfl) n6 e⟩
theorem Diary_fr {L : List Nat} {h h' : wb_H} {T : wT} (F : Fr L h h') (d : wb_dj CL1 L = true) (H : Diary h T) : Diary h' T := by
  have g : ∀ x, wb_mem x CL1 = true → wb_mem x L = false := fun x hx => wb_dj_mem d hx
  obtain ⟨k, h1, h2, h3, h4⟩ := H
  refine ⟨k, h1, (Fr_i F (by exact g 7005 rfl)).trans h2, (Fr_i F (by exact g 1059 rfl)).trans h3, fun j hj => ?_⟩
  obtain ⟨a, b, u, sg, ld, br, c1, c2, c3, c4, c5, c6, d1, d2, d3, d4, d5, d6, d7, d8, d9⟩ := h4 j hj
  exact ⟨a, b, u, sg, ld, br, c1, c2, c3, c4, c5, c6, (Fr_i F (by exact g 22 rfl)).trans d1, (Fr_i F (by exact g 104 rfl)).trans d2, (Fr_i F (by exact g 23 rfl)).trans d3, (Fr_i F (by exact g 105 rfl)).trans d4, (Fr_i F (by exact g 106 rfl)).trans d5, (Fr_i F (by exact g 24 rfl)).trans d6, (Fr_i F (by exact g 25 rfl)).trans d7, (Fr_i F (by exact g 26 rfl)).trans d8, (Fr_i F (by exact g 107 rfl)).trans d9⟩
theorem Tape_fr {L : List Nat} {h h' : wb_H} (F : Fr L h h') (d : wb_dj CL1 L = true) (H : Tape h) : Tape h' := by
  have g : ∀ x, wb_mem x CL1 = true → wb_mem x L = false := fun x hx => wb_dj_mem d hx
  obtain ⟨t, h1, h2, h3, h4⟩ := H
  refine ⟨t, h1, (Fr_i F (by exact g 5001 rfl)).trans h2, (Fr_i F (by exact g 1002 rfl)).trans h3, fun j hj => ?_⟩
  rw [Fr_i F (t := 55) (by exact g 55 rfl), Fr_i F (t := 65) (by exact g 65 rfl)]
  exact h4 j hj
theorem Keys_fr {L : List Nat} {h h' : wb_H} (F : Fr L h h') (d : wb_dj CL1 L = true) (H : Keys h) : Keys h' := by
  have g : ∀ x, wb_mem x CL1 = true → wb_mem x L = false := fun x hx => wb_dj_mem d hx
  obtain ⟨h1, h2, h3⟩ := H
  refine ⟨?_, fun k hk => (Fr_l F (by exact g 56 rfl)).trans (h2 k hk), fun k hk => (Fr_l F (by exact g 71 rfl)).trans (h3 k hk)⟩
  rw [Fr_i F (t := 16) (k := 9) (by exact g 4009 rfl), Fr_i F (t := 21) (k := 17) (by exact g 1017 rfl)]
  exact h1
def Core (h : wb_H) (T : wT) (R : wR) (v q s B : Nat) : Prop := T_ok T ∧ R_ok T R ∧ v ≤ B ∧ XT h q T ∧ MT h s T ∧ h.2.2 20 0 2 = q + 1 ∧ h.2.2 20 0 3 = 1 - q + 1 ∧ SR h T 0 95 0 R v ∧ Past h T B ∧ Slots h T B ∧ Diary h T ∧ Tape h ∧ Keys h
def CL2 : List Nat := [15, 49, 50, 51, 52, 46]
theorem Core_fr {L : List Nat} {h h' : wb_H} {T : wT} {R : wR} {v q s B : Nat} (F : Fr L h h') (d1 : wb_dj CL1 L = true) (d2 : wb_dj CL2 L = true) (d3 : wb_dj TT1 L = true) (d4 : wb_dj TT2 L = true) (C : Core h T R v q s B) : Core h' T R v q s B := by
  have g : ∀ x, wb_mem x CL1 = true → wb_mem x L = false := fun x hx => wb_dj_mem d1 hx
  obtain ⟨a1, a2, a3, a4, a5, a6, a7, a8, a9, a10, a11, a12, a13⟩ := C
  exact ⟨a1, a2, a3, XT_fr F d2 a4, MT_fr F d3 d4 a5, (Fr_m F (by exact g 2002 rfl)).trans a6, (Fr_m F (by exact g 2003 rfl)).trans a7, SR_fr F (g 17 rfl) (g 54 rfl) (fun _ => by exact g 95 rfl) a1.1 a8, Past_fr F d1 a1.1 a9, Slots_fr F d1 a1.1 a10, Diary_fr F d1 a11, Tape_fr F d1 a12, Keys_fr F d1 a13⟩
theorem Past_le {h : wb_H} {T : wT} {B B' : Nat} (hB : B ≤ B') (H : Past h T B) : Past h T B' := by
  obtain ⟨nx, c, h1, h2, h3, h4, h5, h6⟩ := H
  refine ⟨nx, c, h1, h2, h3, h4, h5, fun j hj => ?_⟩
  obtain ⟨R, v, a, b, e⟩ := h6 j hj
  exact ⟨R, v, a, by omega, e⟩
theorem Slots_le {h : wb_H} {T : wT} {B B' : Nat} (hB : B ≤ B') (H : Slots h T B) : Slots h T B' := by
  intro j hj
  obtain ⟨b, h1, h2, h3, h4⟩ := H j hj
  refine ⟨b, h1, h2, h3, fun e => ?_⟩
  obtain ⟨R, v, a, c, e⟩ := h4 e
  exact ⟨R, v, a, by omega, e⟩
theorem Core_le {h : wb_H} {T : wT} {R : wR} {v q s B B' : Nat} (hB : B ≤ B') (C : Core h T R v q s B) : Core h T R v q s B' := by
  obtain ⟨a1, a2, a3, a4, a5, a6, a7, a8, a9, a10, a11, a12, a13⟩ := C
  exact ⟨a1, a2, by omega, a4, a5, a6, a7, a8, Past_le hB a9, Slots_le hB a10, a11, a12, a13⟩
/-! What the class has reckoned already. -/
def chS (T : wT) (R : wR) (set i : Nat) : Nat := wrP (mkA T (rwith R (rlf R) set)) 0 (rpl R i)
def rst (T : wT) (R : wR) (set : Nat) : Prop := ∀ i, i < tn T → tb (rlf R) i = 0 → ¬ chS T R (set ^^^ 2 ^ i) i < chS T R set i
def gdS (T : wT) (R : wR) (set : Nat) : Prop := set &&& rlf R = 0 ∧ rst T R set
noncomputable def cnS (T : wT) (R : wR) : Nat → Nat
  | 0 => 0
  | k + 1 => cnS T R k + @ite Nat (gdS T R k) (Classical.propDecidable _) 1 0
def Rest (h : wb_H) (T : wT) (R : wR) : Prop := h.1 20 0 14 = nN (cnS T R (2 ^ tn T)) ∧ ∀ set, set < 2 ^ tn T → gdS T R set → h.1 64 0 (cnS T R set) = nN set
def Cache (h : wb_H) (T : wT) (R : wR) (q : Nat) : Prop := (h.1 20 0 15 = nN 0 ∨ (h.1 20 0 15 = nN 1 ∧ XA h q (mkA T R) ∧ XE h (mkA T R) 0)) ∧ (∀ l, l < 2 ^ tn T → h.1 62 0 l = nM 1 ∨ h.1 62 0 l = nN (mnA (mkA T (rwith R l 0)) 0)) ∧ (h.1 20 0 14 = nM 1 ∨ Rest h T R)
theorem XE_fr {L : List Nat} {h h' : wb_H} {A : wa} {Q : Nat} (F : Fr L h h') (d : wb_dj SX L = true) (H : XE h A Q) : XE h' A Q := by
  have g : ∀ x, wb_mem x SX = true → wb_mem x L = false := fun x hx => wb_dj_mem d hx
  obtain ⟨h1, h2, h3, h4, h5⟩ := H
  exact ⟨fun i hi => (Fr_i F (by exact g 36 rfl)).trans (h1 i hi), (Fr_i F (by exact g 3012 rfl)).trans h2, fun r hr => (Fr_i F (by exact g 32 rfl)).trans (h3 r hr), fun r hr => (Fr_i F (by exact g 33 rfl)).trans (h4 r hr), fun p hp e => ⟨fun i hi => (Fr_i F (by exact g 34 rfl)).trans ((h5 p hp e).1 i hi), fun i hi => (Fr_i F (by exact g 35 rfl)).trans ((h5 p hp e).2 i hi)⟩⟩
def CL3 : List Nat := [62, 64, 2014, 2015]
def CL4 : List Nat := [3000, 3001, 15, 27, 31, 28, 29, 30, 52, 46]
theorem Rest_fr {L : List Nat} {h h' : wb_H} {T : wT} {R : wR} (F : Fr L h h') (d : wb_dj CL3 L = true) (H : Rest h T R) : Rest h' T R := by
  have g : ∀ x, wb_mem x CL3 = true → wb_mem x L = false := fun x hx => wb_dj_mem d hx
  exact ⟨(Fr_i F (by exact g 2014 rfl)).trans H.1, fun set hs e => (Fr_i F (by exact g 64 rfl)).trans (H.2 set hs e)⟩
theorem Cache_fr {L : List Nat} {h h' : wb_H} {T : wT} {R : wR} {q : Nat} (F : Fr L h h') (d1 : wb_dj CL3 L = true) (d2 : wb_dj CL4 L = true) (d3 : wb_dj SX L = true) (H : Cache h T R q) : Cache h' T R q := by
  have g : ∀ x, wb_mem x CL3 = true → wb_mem x L = false := fun x hx => wb_dj_mem d1 hx
  obtain ⟨h1, h2, h3⟩ := H
  refine ⟨?_, fun l hl => ?_, ?_⟩
  · rw [Fr_i F (t := 20) (k := 15) (by exact g 2015 rfl)]
    rcases h1 with e | ⟨e, a, b⟩
    · exact Or.inl e
    · exact Or.inr ⟨e, XA_fr F d2 a, XE_fr F d3 b⟩
  · rw [Fr_i F (t := 62) (by exact g 62 rfl)]
    exact h2 l hl
  · rw [Fr_i F (t := 20) (k := 14) (by exact g 2014 rfl)]
    rcases h3 with e | e
    · exact Or.inl e
    · exact Or.inr (Rest_fr F d1 e)
def Inv (h : wb_H) (B : Nat) : Prop := ∃ T R v q s, Core h T R v q s B ∧ Cache h T R q
theorem Inv_le {h : wb_H} {B B' : Nat} (hB : B ≤ B') (H : Inv h B) : Inv h B' := by
  obtain ⟨T, R, v, q, s, C, D⟩ := H
  exact ⟨T, R, v, q, s, Core_le hB C, D⟩
def XQQ : List Nat := [27, 28, 29, 30, 31, 3000, 3001, 32, 33, 34, 35, 36, 3012, 2015, 62, 63, 64, 2014, 37, 38, 3013, 3016, 3017, 39, 40, 8002, 8003]
def MQQ : List Nat := [93, 94, 97, 98, 99, 1046, 96, 1049, 1050, 101, 102, 103]
def Same (X M : wb_H → Option (Int32 × wb_H)) (h : wb_H) (B : Nat) : Prop := Ok (X h) (fun r => Ok (M r.2) (fun r2 => r2.1 = r.1 ∧ Inv r2.2 B))
/-- a call that only asks -/
theorem query {X M : wb_H → Option (Int32 × wb_H)} {h : wb_H} {T : wT} {R : wR} {v q s B : Nat} {a : Int32} (C : Core h T R v q s B) (hX : Ok (X h) (fun r => r.1 = a ∧ Fr XQQ h r.2 ∧ Cache r.2 T R q)) (hM : ∀ h1, Core h1 T R v q s B → Ok (M h1) (fun r => r.1 = a ∧ Fr MQQ h1 r.2)) : Same X M h B := by
  refine Ok_w hX ?_
  rintro ⟨x, h1⟩ ⟨x1, x2, x3⟩
  have C1 := Core_fr x2 rfl rfl rfl rfl C
  refine Ok_w (hM h1 C1) ?_
  rintro ⟨y, h2⟩ ⟨y1, y2⟩
  exact ⟨y1.trans x1.symm, T, R, v, q, s, Core_fr y2 rfl rfl rfl rfl C1, Cache_fr y2 rfl rfl rfl x3⟩
theorem pure_query {X M : wb_H → Option (Int32 × wb_H)} {h : wb_H} {T : wT} {R : wR} {v q s B : Nat} {a : Int32} (C : Core h T R v q s B) (D : Cache h T R q) (hX : X h = some (a, h)) (hM : Ok (M h) (fun r => r.1 = a ∧ Fr MQQ h r.2)) : Same X M h B := by
  refine ⟨(a, h), hX, ?_⟩
  refine Ok_w hM ?_
  rintro ⟨y, h2⟩ ⟨y1, y2⟩
  exact ⟨y1, T, R, v, q, s, Core_fr y2 rfl rfl rfl rfl C, Cache_fr y2 rfl rfl rfl D⟩
