/-! Arrays, statics, constants, switches. -/
theorem wb_nar_bool {y : Int32} (h : wb_nb y = true) : vp_nar .boolean y = y := by
  rcases wb_nb_or h with rfl | rfl <;> decide
theorem wb_roi_lt {sc : wb_X} {t : Nat} {q : wb_X} (h : wb_roi sc t = some q) : t < 10 := by
  unfold wb_roi at h
  split at h <;> first | omega | cases h
theorem wb_rob_lt {t : Nat} {q : wb_X} (h : wb_rob t = some q) : t < 10 := by
  unfold wb_rob at h
  split at h <;> first | omega | cases h
theorem wb_ofn (n : Nat) : Int32.ofNat n = Int32.ofInt (n : Int) := by
  rw [Int32.ofInt_eq_ofNat] <;> rfl
section WBA
variable {p : Program} {l : Launch} {e : Env} {R : Room} {s : State} {mth : MethodId} {args : Array Value} {below : List Frame} {meth : Method} {c : Code} {Q : State → Prop}
variable {fz : Bool} {sc : wb_X} {m pc : Nat} {rv : Nat → Value} {A : Nat → Prop} {D : va_G} {adr0 : Nat → Nat → Nat} {L0 : List (Nat × Nat)} {x : List Nat} {ls : wb_L} {st : List wb_V} {h : wb_H} {n : wb_N} {c' : wb_C}
variable {adr : Nat → Nat → Nat} {cA : Nat → Nat → ClassId} {L : List (Nat × Nat)} {cn : Nat → Nat} {H : Heap}
theorem wb_tvro {t o a : Nat} (ht : t < 10) (ha : rv t = .ref a) : wb_tv rv adr (.inr (.inr (t, o))) = .ref a := by
  simp only [wb_tv]; rw [if_pos ht]; exact ha
theorem wb_sh10 {t k len : Nat} (h : wb_shp t = (k, len)) (hk : k ≠ 9) : 10 ≤ t := (wb_shp_rng (by rw [h]; exact hk)).1
set_option maxHeartbeats 2000000 in
theorem wb_o_iaload (F : wb_fr p R s mth args meth c m A) (hd : decode (wb_b m) pc = .ok (.iaload, 1)) (hro : wb_RO sc rv A s) (hp : wb_pk (wb_st fz sc m pc .iaload x ls st h n) = some c') (G : wb_G p l e R s mth args below meth c Q fz m rv A D adr0 L0 c') : wb_G p l e R s mth args below meth c Q fz m rv A D adr0 L0 (pc, ls, st, h, n) := by
  obtain ⟨hx, hb, hts, hown, hml, hA, hin, hnf, hnl, hnc, hns⟩ := F
  simp only [wb_st] at hp
  intro adr cA L H locs J hR hxt hl hS
  have hR : wb_rep fz D adr cA L n.1 h A H s := hR
  unfold wb_il at hp
  split at hp
  · rename_i i t o st'
    split at hp
    · rename_i q hq
      obtain ⟨h1, rfl⟩ := wb_pk_if hp
      obtain ⟨a, ha, hT⟩ := hro.2.1 t q hq
      rw [List.map_cons, List.map_cons, wb_tvro (wb_roi_lt hq) ha]
      exact va_ti hx hb hT hS (wb_vin h1) rfl hd (G adr cA L H locs J hR hxt hl hS)
    · split at hp
      · rename_i len hsh
        obtain ⟨h1, rfl⟩ := wb_pk_if hp
        simp only [Bool.and_eq_true, decide_eq_true_eq] at h1
        have ht := wb_sh10 hsh (by decide)
        obtain ⟨j, hj, hwd⟩ := wb_rep_at hR ht h1.1
        rw [wb_ent_int hsh (Or.inl rfl)] at hwd
        have hK := wb_K1 hR ht h1.1 (by rw [hsh]; exact (by decide : (1 : Nat) ≠ 0))
        rw [hsh] at hK
        rw [List.map_cons, List.map_cons, wb_tvr ht]
        exact va_iald hx hb hK hR.2.1 j 0 hwd rfl (wb_vin h1.2) hd (G adr cA L H locs J hR hxt hl hS)
      · cases hp
  · cases hp
set_option maxHeartbeats 2000000 in
theorem wb_o_baload (F : wb_fr p R s mth args meth c m A) (hd : decode (wb_b m) pc = .ok (.baload, 1)) (hro : wb_RO sc rv A s) (hp : wb_pk (wb_st fz sc m pc .baload x ls st h n) = some c') (G : wb_G p l e R s mth args below meth c Q fz m rv A D adr0 L0 c') : wb_G p l e R s mth args below meth c Q fz m rv A D adr0 L0 (pc, ls, st, h, n) := by
  obtain ⟨hx, hb, hts, hown, hml, hA, hin, hnf, hnl, hnc, hns⟩ := F
  simp only [wb_st] at hp
  intro adr cA L H locs J hR hxt hl hS
  have hR : wb_rep fz D adr cA L n.1 h A H s := hR
  unfold wb_bl at hp
  split at hp
  · rename_i i t o st'
    split at hp
    · rename_i q hq
      obtain ⟨h1, rfl⟩ := wb_pk_if hp
      obtain ⟨a, ha, hT⟩ := hro.2.2.1 t q hq
      rw [List.map_cons, List.map_cons, wb_tvro (wb_rob_lt hq) ha]
      exact va_tb hx hb hT hS (wb_vin h1) rfl hd (G adr cA L H locs J hR hxt hl hS)
    · split at hp
      · rename_i len hsh
        obtain ⟨h1, rfl⟩ := wb_pk_if hp
        simp only [Bool.and_eq_true, decide_eq_true_eq] at h1
        have ht := wb_sh10 hsh (by decide)
        obtain ⟨j, hj, hwd⟩ := wb_rep_at hR ht h1.1
        rw [wb_ent_int hsh (Or.inr (Or.inl rfl))] at hwd
        have hK := wb_K1 hR ht h1.1 (by rw [hsh]; exact (by decide : (2 : Nat) ≠ 0))
        rw [hsh] at hK
        rw [List.map_cons, List.map_cons, wb_tvr ht]
        exact va_bald hx hb hK hR.2.1 j 0 hwd rfl (wb_vin h1.2) hd (G adr cA L H locs J hR hxt hl hS)
      · rename_i len hsh
        obtain ⟨h1, rfl⟩ := wb_pk_if hp
        simp only [Bool.and_eq_true, decide_eq_true_eq] at h1
        have ht := wb_sh10 hsh (by decide)
        obtain ⟨j, hj, hwd⟩ := wb_rep_at hR ht h1.1
        rw [wb_ent_int hsh (Or.inr (Or.inr rfl))] at hwd
        have hK := wb_K1 hR ht h1.1 (by rw [hsh]; exact (by decide : (3 : Nat) ≠ 0))
        rw [hsh] at hK
        rw [List.map_cons, List.map_cons, wb_tvr ht]
        exact va_zald hx hb hK hR.2.1 j 0 hwd rfl (wb_vin h1.2) hd (G adr cA L H locs J hR hxt hl hS)
      · cases hp
  · cases hp
set_option maxHeartbeats 2000000 in
theorem wb_o_laload (F : wb_fr p R s mth args meth c m A) (hd : decode (wb_b m) pc = .ok (.laload, 1)) (hp : wb_pk (wb_st fz sc m pc .laload x ls st h n) = some c') (G : wb_G p l e R s mth args below meth c Q fz m rv A D adr0 L0 c') : wb_G p l e R s mth args below meth c Q fz m rv A D adr0 L0 (pc, ls, st, h, n) := by
  obtain ⟨hx, hb, hts, hown, hml, hA, hin, hnf, hnl, hnc, hns⟩ := F
  simp only [wb_st] at hp
  intro adr cA L H locs J hR hxt hl hS
  have hR : wb_rep fz D adr cA L n.1 h A H s := hR
  unfold wb_ll at hp
  split at hp
  · rename_i i t o st'
    split at hp
    · rename_i len hsh
      obtain ⟨h1, rfl⟩ := wb_pk_if hp
      simp only [Bool.and_eq_true, decide_eq_true_eq] at h1
      have ht := wb_sh10 hsh (by decide)
      obtain ⟨j, hj, hwd⟩ := wb_rep_at hR ht h1.1
      rw [wb_ent_long hsh] at hwd
      have hK := wb_K1 hR ht h1.1 (by rw [hsh]; exact (by decide : (4 : Nat) ≠ 0))
      rw [hsh] at hK
      rw [List.map_cons, List.map_cons, wb_tvr ht]
      exact va_lald hx hb hK hR.2.1 j 0 hwd rfl (wb_vin h1.2) hd (G adr cA L H locs J hR hxt hl hS)
    · cases hp
  · cases hp
set_option maxHeartbeats 2000000 in
theorem wb_o_aaload (F : wb_fr p R s mth args meth c m A) (hd : decode (wb_b m) pc = .ok (.aaload, 1)) (hp : wb_pk (wb_st fz sc m pc .aaload x ls st h n) = some c') (G : wb_G p l e R s mth args below meth c Q fz m rv A D adr0 L0 c') : wb_G p l e R s mth args below meth c Q fz m rv A D adr0 L0 (pc, ls, st, h, n) := by
  obtain ⟨hx, hb, hts, hown, hml, hA, hin, hnf, hnl, hnc, hns⟩ := F
  simp only [wb_st] at hp
  intro adr cA L H locs J hR hxt hl hS
  have hR : wb_rep fz D adr cA L n.1 h A H s := hR
  unfold wb_ql at hp
  split at hp
  · rename_i i t o st'
    split at hp
    · rename_i len hsh
      obtain ⟨ht, hr10⟩ := wb_tag_arr hsh
      split at hp
      · rename_i j0 hsa
        obtain ⟨h1, rfl⟩ := wb_pk_if hp
        simp only [Bool.and_eq_true, decide_eq_true_eq] at h1
        obtain ⟨j, hj, hwd⟩ := wb_rep_at hR ht h1.1
        rw [wb_ent_ref hsh] at hwd
        have hK := wb_K1 hR ht h1.1 (by rw [hsh]; exact (by decide : (5 : Nat) ≠ 0))
        rw [hsh] at hK
        have G1 := G adr cA L H locs J hR hxt hl hS
        simp only [List.map_cons, wb_tvr hr10] at G1
        rw [List.map_cons, List.map_cons, wb_tvr ht]
        refine va_aldq hx hb hK hR.2.1 j 0 hwd rfl (wb_vin h1.2) hd ?_
        have e1 : wb_sq fz h t o i.toNatClampNeg = some j0 := by simp only [wb_sq, hsa]
        rw [e1]
        exact G1
      · rename_i hsa
        obtain ⟨h1, rfl⟩ := wb_pk_if hp
        simp only [Bool.and_eq_true, decide_eq_true_eq] at h1
        obtain ⟨j, hj, hwd⟩ := wb_rep_at hR ht h1.1.1
        rw [wb_ent_ref hsh] at hwd
        have hK := wb_K1 hR ht h1.1.1 (by rw [hsh]; exact (by decide : (5 : Nat) ≠ 0))
        rw [hsh] at hK
        have G1 := G adr cA L H locs J hR hxt hl hS
        simp only [List.map_cons, wb_tvr hr10] at G1
        rw [List.map_cons, List.map_cons, wb_tvr ht]
        refine va_aldq hx hb hK hR.2.1 j 0 hwd rfl (wb_vin h1.1.2) hd ?_
        have e1 : wb_sq fz h t o i.toNatClampNeg = some (h.2.2 t o i.toNatClampNeg - 1) := by
          simp only [wb_sq, hsa]; rw [if_neg (by omega)]
        rw [e1]
        exact G1
    · cases hp
  · cases hp
set_option maxHeartbeats 2000000 in
theorem wb_o_iastore (F : wb_fr p R s mth args meth c m A) (hd : decode (wb_b m) pc = .ok (.iastore, 1)) (hp : wb_pk (wb_st fz sc m pc .iastore x ls st h n) = some c') (G : wb_G p l e R s mth args below meth c Q fz m rv A D adr0 L0 c') : wb_G p l e R s mth args below meth c Q fz m rv A D adr0 L0 (pc, ls, st, h, n) := by
  obtain ⟨hx, hb, hts, hown, hml, hA, hin, hnf, hnl, hnc, hns⟩ := F
  simp only [wb_st] at hp
  intro adr cA L H locs J hR hxt hl hS
  have hR : wb_rep fz D adr cA L n.1 h A H s := hR
  unfold wb_is at hp
  split at hp
  · rename_i y i t o st'
    split at hp
    · rename_i len hsh
      obtain ⟨h1, rfl⟩ := wb_pk_if hp
      simp only [Bool.and_eq_true, decide_eq_true_eq] at h1
      have ht := wb_sh10 hsh (by decide)
      obtain ⟨j, hj, hwd⟩ := wb_rep_at hR ht h1.1
      rw [wb_ent_int hsh (Or.inl rfl)] at hwd
      have hK := wb_K1 hR ht h1.1 (by rw [hsh]; exact (by decide : (1 : Nat) ≠ 0))
      rw [hsh] at hK
      rw [List.map_cons, List.map_cons, List.map_cons, wb_tvr ht]
      refine va_iast hx hb hK hR.2.1 hR.2.2.1 hS j 0 hwd rfl (wb_vin h1.2) hd (fun H1 locs1 q1 q2 q3 => ?_)
      refine G adr cA L H1 locs1 J (wb_rep_set (h' := wb_iu h t o i.toNatClampNeg y) hR hj hR.1 (fun t' o' hne => wb_ent_congr (wb_u_ne hne) rfl rfl) ?_ q1 q2) hxt hl q3
      rw [wb_ent_int hsh (Or.inl rfl)]
      simp only [wb_iu, wb_u_self]; rfl
    · cases hp
  · cases hp
set_option maxHeartbeats 2000000 in
theorem wb_o_bastore (F : wb_fr p R s mth args meth c m A) (hd : decode (wb_b m) pc = .ok (.bastore, 1)) (hp : wb_pk (wb_st fz sc m pc .bastore x ls st h n) = some c') (G : wb_G p l e R s mth args below meth c Q fz m rv A D adr0 L0 c') : wb_G p l e R s mth args below meth c Q fz m rv A D adr0 L0 (pc, ls, st, h, n) := by
  obtain ⟨hx, hb, hts, hown, hml, hA, hin, hnf, hnl, hnc, hns⟩ := F
  simp only [wb_st] at hp
  intro adr cA L H locs J hR hxt hl hS
  have hR : wb_rep fz D adr cA L n.1 h A H s := hR
  unfold wb_bs at hp
  split at hp
  · rename_i y i t o st'
    split at hp
    · rename_i len hsh
      obtain ⟨h1, rfl⟩ := wb_pk_if hp
      simp only [Bool.and_eq_true, decide_eq_true_eq] at h1
      have ht := wb_sh10 hsh (by decide)
      obtain ⟨j, hj, hwd⟩ := wb_rep_at hR ht h1.1
      rw [wb_ent_int hsh (Or.inr (Or.inl rfl))] at hwd
      have hK := wb_K1 hR ht h1.1 (by rw [hsh]; exact (by decide : (2 : Nat) ≠ 0))
      rw [hsh] at hK
      rw [List.map_cons, List.map_cons, List.map_cons, wb_tvr ht]
      refine va_bast hx hb hK hR.2.1 hR.2.2.1 hS j 0 hwd rfl (wb_vin h1.2) hd (fun H1 locs1 q1 q2 q3 => ?_)
      refine G adr cA L H1 locs1 J (wb_rep_set (h' := wb_iu h t o i.toNatClampNeg (vp_nar .byte y)) hR hj hR.1 (fun t' o' hne => wb_ent_congr (wb_u_ne hne) rfl rfl) ?_ q1 q2) hxt hl q3
      rw [wb_ent_int hsh (Or.inr (Or.inl rfl))]
      simp only [wb_iu, wb_u_self]; rfl
    · rename_i len hsh
      obtain ⟨h1, rfl⟩ := wb_pk_if hp
      simp only [Bool.and_eq_true, decide_eq_true_eq] at h1
      have ht := wb_sh10 hsh (by decide)
      obtain ⟨j, hj, hwd⟩ := wb_rep_at hR ht h1.1.1
      rw [wb_ent_int hsh (Or.inr (Or.inr rfl))] at hwd
      have hK := wb_K1 hR ht h1.1.1 (by rw [hsh]; exact (by decide : (3 : Nat) ≠ 0))
      rw [hsh] at hK
      rw [List.map_cons, List.map_cons, List.map_cons, wb_tvr ht]
      refine va_zast hx hb hK hR.2.1 hR.2.2.1 hS j 0 hwd rfl (wb_vin h1.2) hd (fun H1 locs1 q1 q2 q3 => ?_)
      refine G adr cA L H1 locs1 J (wb_rep_set (h' := wb_iu h t o i.toNatClampNeg y) hR hj hR.1 (fun t' o' hne => wb_ent_congr (wb_u_ne hne) rfl rfl) ?_ q1 q2) hxt hl q3
      rw [wb_ent_int hsh (Or.inr (Or.inr rfl))]
      rw [wb_nar_bool h1.1.2]
      simp only [wb_iu, wb_u_self]; rfl
    · cases hp
  · cases hp
set_option maxHeartbeats 2000000 in
theorem wb_o_lastore (F : wb_fr p R s mth args meth c m A) (hd : decode (wb_b m) pc = .ok (.lastore, 1)) (hp : wb_pk (wb_st fz sc m pc .lastore x ls st h n) = some c') (G : wb_G p l e R s mth args below meth c Q fz m rv A D adr0 L0 c') : wb_G p l e R s mth args below meth c Q fz m rv A D adr0 L0 (pc, ls, st, h, n) := by
  obtain ⟨hx, hb, hts, hown, hml, hA, hin, hnf, hnl, hnc, hns⟩ := F
  simp only [wb_st] at hp
  intro adr cA L H locs J hR hxt hl hS
  have hR : wb_rep fz D adr cA L n.1 h A H s := hR
  unfold wb_ls at hp
  split at hp
  · rename_i y i t o st'
    split at hp
    · rename_i len hsh
      obtain ⟨h1, rfl⟩ := wb_pk_if hp
      simp only [Bool.and_eq_true, decide_eq_true_eq] at h1
      have ht := wb_sh10 hsh (by decide)
      obtain ⟨j, hj, hwd⟩ := wb_rep_at hR ht h1.1
      rw [wb_ent_long hsh] at hwd
      have hK := wb_K1 hR ht h1.1 (by rw [hsh]; exact (by decide : (4 : Nat) ≠ 0))
      rw [hsh] at hK
      rw [List.map_cons, List.map_cons, List.map_cons, wb_tvr ht]
      refine va_last hx hb hK hR.2.1 hR.2.2.1 hS j 0 hwd rfl (wb_vin h1.2) hd (fun H1 locs1 q1 q2 q3 => ?_)
      refine G adr cA L H1 locs1 J (wb_rep_set (h' := wb_lu h t o i.toNatClampNeg y) hR hj hR.1 (fun t' o' hne => wb_ent_congr rfl (wb_u_ne hne) rfl) ?_ q1 q2) hxt hl q3
      rw [wb_ent_long hsh]
      simp only [wb_lu, wb_u_self]; rfl
    · cases hp
  · cases hp
set_option maxHeartbeats 2000000 in
theorem wb_o_arraylength (F : wb_fr p R s mth args meth c m A) (hd : decode (wb_b m) pc = .ok (.arraylength, 1)) (hro : wb_RO sc rv A s) (hp : wb_pk (wb_st fz sc m pc .arraylength x ls st h n) = some c') (G : wb_G p l e R s mth args below meth c Q fz m rv A D adr0 L0 c') : wb_G p l e R s mth args below meth c Q fz m rv A D adr0 L0 (pc, ls, st, h, n) := by
  obtain ⟨hx, hb, hts, hown, hml, hA, hin, hnf, hnl, hnc, hns⟩ := F
  simp only [wb_st] at hp
  intro adr cA L H locs J hR hxt hl hS
  have hR : wb_rep fz D adr cA L n.1 h A H s := hR
  unfold wb_al at hp
  split at hp
  · rename_i t o st'
    split at hp
    · rename_i q hq
      cases hp
      obtain ⟨a, ha, hT⟩ := hro.2.1 t q hq
      rw [List.map_cons, wb_tvro (wb_roi_lt hq) ha]
      exact va_tlen hx hb hT hS (wb_ofn _) hd (G adr cA L H locs J hR hxt hl hS)
    · split at hp
      · rename_i q hq
        cases hp
        obtain ⟨a, ha, hT⟩ := hro.2.2.1 t q hq
        rw [List.map_cons, wb_tvro (wb_rob_lt hq) ha]
        exact va_tlen hx hb hT hS (wb_ofn _) hd (G adr cA L H locs J hR hxt hl hS)
      · split at hp
        · rename_i k len hsh
          split at hp
          · rename_i hk4
            obtain ⟨h1, rfl⟩ := wb_pk_if hp
            have h1 := of_decide_eq_true h1
            have hk4 := Nat.le_of_ble_eq_true hk4
            have ht := wb_sh10 hsh (by omega)
            obtain ⟨j, hj, hwd⟩ := wb_rep_at hR ht h1
            have hK := wb_K1 hR ht h1 (by rw [hsh]; exact Nat.succ_ne_zero k)
            rw [List.map_cons, wb_tvr ht]
            rcases (show k = 0 ∨ k = 1 ∨ k = 2 ∨ k = 3 ∨ k = 4 by omega) with rfl | rfl | rfl | rfl | rfl
            · rw [wb_ent_int hsh (Or.inl rfl)] at hwd
              exact va_alen hx hb hK hR.2.1 j 0 hwd rfl (wb_ofn _) hd (G adr cA L H locs J hR hxt hl hS)
            · rw [wb_ent_int hsh (Or.inr (Or.inl rfl))] at hwd
              exact va_alen hx hb hK hR.2.1 j 0 hwd rfl (wb_ofn _) hd (G adr cA L H locs J hR hxt hl hS)
            · rw [wb_ent_int hsh (Or.inr (Or.inr rfl))] at hwd
              exact va_alen hx hb hK hR.2.1 j 0 hwd rfl (wb_ofn _) hd (G adr cA L H locs J hR hxt hl hS)
            · rw [wb_ent_long hsh] at hwd
              exact va_alen hx hb hK hR.2.1 j 0 hwd rfl (wb_ofn _) hd (G adr cA L H locs J hR hxt hl hS)
            · rw [wb_ent_ref hsh] at hwd
              exact va_alen hx hb hK hR.2.1 j 0 hwd rfl (wb_ofn _) hd (G adr cA L H locs J hR hxt hl hS)
          · cases hp
        · cases hp
  · cases hp
def wb_cks (m idx : Nat) (x : List Nat) : Bool := match x with
  | [0, 2, pos, 0] => wb_at pos (.fieldLink (wb_y m).cls idx "WhichBin" "THREES" "[I")
  | [0, 2, pos, 1] => wb_atn pos (.fieldLinkNest (wb_y m).cls idx "WhichBin" "THREES" "[I" "WhichBin")
  | [0, 3, pos, 0] => wb_at pos (.fieldLink (wb_y m).cls idx "WhichBin" "TENS" "[I")
  | [0, 3, pos, 1] => wb_atn pos (.fieldLinkNest (wb_y m).cls idx "WhichBin" "TENS" "[I" "WhichBin")
  | [0, 4, pos, 0] => wb_at pos (.fieldLink (wb_y m).cls idx "WhichBin$Evening" "ROWS_FROM" "[I")
  | [0, 9, pos, 0] => wb_at pos (.fieldLink (wb_y m).cls idx "jdk/internal/util/Preconditions" "SIOOBE_FORMATTER" "Ljava/util/function/BiFunction;")
  | [1, 1, pos, 0] => wb_at pos (.fieldLink (wb_y m).cls idx "java/lang/String" "COMPACT_STRINGS" "Z")
  | _ => false
set_option maxHeartbeats 2000000 in
theorem wb_o_getstatic {idx : Nat} (F : wb_fr p R s mth args meth c m A) (hd : decode (wb_b m) pc = .ok (.getstatic idx, 3)) (hck : wb_cks m idx x = true) (hro : wb_RO sc rv A s) (hp : wb_pk (wb_st fz sc m pc (.getstatic idx) x ls st h n) = some c') (G : wb_G p l e R s mth args below meth c Q fz m rv A D adr0 L0 c') : wb_G p l e R s mth args below meth c Q fz m rv A D adr0 L0 (pc, ls, st, h, n) := by
  obtain ⟨hx, hb, hts, hown, hml, hA, hin, hnf, hnl, hnc, hns⟩ := F
  simp only [wb_st] at hp
  intro adr cA L H locs J hR hxt hl hS
  have hR : wb_rep fz D adr cA L n.1 h A H s := hR
  have hro2 := hro
  obtain ⟨h0, -, -, -, -, -, z2, z3, z4, z5, z9, -⟩ := hro2
  have ro : ∀ t o, t < 10 → wb_tv rv adr (.inr (.inr (t, o))) = rv t := fun t o ht => by simp only [wb_tv]; rw [if_pos ht]
  unfold wb_cks at hck
  split at hck
  · cases hp
    have G1 := G adr cA L H locs J hR hxt hl hS
    simp only [List.map_cons, ro 2 0 (by decide)] at G1
    exact va_gets hx hb z2 hS hown (hts _ (wb_at_in hck)) (fun _ z => z) hd G1
  · cases hp
    have G1 := G adr cA L H locs J hR hxt hl hS
    simp only [List.map_cons, ro 2 0 (by decide)] at G1
    exact va_getsN hx hb z2 hS hown (va_Nw.use rfl (wb_atn_in hck hro)) (fun _ z => z) hd G1
  · cases hp
    have G1 := G adr cA L H locs J hR hxt hl hS
    simp only [List.map_cons, ro 3 0 (by decide)] at G1
    exact va_gets hx hb z3 hS hown (hts _ (wb_at_in hck)) (fun _ z => z) hd G1
  · cases hp
    have G1 := G adr cA L H locs J hR hxt hl hS
    simp only [List.map_cons, ro 3 0 (by decide)] at G1
    exact va_getsN hx hb z3 hS hown (va_Nw.use rfl (wb_atn_in hck hro)) (fun _ z => z) hd G1
  · cases hp
    have G1 := G adr cA L H locs J hR hxt hl hS
    simp only [List.map_cons, ro 4 0 (by decide)] at G1
    exact va_gets hx hb z4 hS hown (hts _ (wb_at_in hck)) (fun _ z => z) hd G1
  · cases hp
    have G1 := G adr cA L H locs J hR hxt hl hS
    simp only [List.map_cons, ro 9 0 (by decide)] at G1
    exact va_gets hx hb z9 hS hown (hts _ (wb_at_in hck)) (fun _ z => z) hd G1
  · cases hp
    have G1 := G adr cA L H locs J hR hxt hl hS
    exact va_gets hx hb z5 hS hown (hts _ (wb_at_in hck)) (fun _ z => z) hd G1
  · cases hck
def wb_ckl (m idx : Nat) (x : List Nat) : Bool := match x with
  | [0, v, pos] => wb_at pos (.constant (wb_y m).cls idx (Int32.ofInt (v : Int)))
  | [1, 5, _] => decide ((wb_y m).cls = "WhichBin$Tokens") && decide (idx = 23)
  | [1, 6, _] => decide ((wb_y m).cls = "WhichBin$Tokens") && decide (idx = 75)
  | _ => false
theorem wb_o_ldc {idx : Nat} (F : wb_fr p R s mth args meth c m A) (hd : decode (wb_b m) pc = .ok (.ldc idx, 2)) (hck : wb_ckl m idx x = true) (hro : wb_RO sc rv A s) (hp : wb_pk (wb_st fz sc m pc (.ldc idx) x ls st h n) = some c') (G : wb_G p l e R s mth args below meth c Q fz m rv A D adr0 L0 c') : wb_G p l e R s mth args below meth c Q fz m rv A D adr0 L0 (pc, ls, st, h, n) := by
  obtain ⟨hx, hb, hts, hown, hml, hA, hin, hnf, hnl, hnc, hns⟩ := F
  simp only [wb_st] at hp
  intro adr cA L H locs J hR hxt hl hS
  have hR : wb_rep fz D adr cA L n.1 h A H s := hR
  unfold wb_ckl at hck
  split at hck
  · cases hp
    exact lv_ldc hx hb hown (hts _ (wb_at_in hck)) hd (G adr cA L H locs J hR hxt hl hS)
  · cases hp
    simp only [Bool.and_eq_true, decide_eq_true_eq] at hck
    obtain ⟨q1, rfl⟩ := hck
    obtain ⟨a, ha, -⟩ := hro.2.2.2.1 5 (Or.inl rfl)
    have G1 := G adr cA L H locs J hR hxt hl hS
    simp only [List.map_cons, wb_tvro (rv := rv) (adr := adr) (o := 0) (by decide : 5 < 10) ha] at G1
    rw [q1] at hown
    exact va_ldcS hx hb hown (hro.2.2.2.2.1 a ha) hd G1
  · cases hp
    simp only [Bool.and_eq_true, decide_eq_true_eq] at hck
    obtain ⟨q1, rfl⟩ := hck
    obtain ⟨a, ha, -⟩ := hro.2.2.2.1 6 (Or.inr rfl)
    have G1 := G adr cA L H locs J hR hxt hl hS
    simp only [List.map_cons, wb_tvro (rv := rv) (adr := adr) (o := 0) (by decide : 6 < 10) ha] at G1
    rw [q1] at hown
    exact va_ldcS hx hb hown (hro.2.2.2.2.2.1 a ha) hd G1
  · cases hck
theorem wb_o_ldcw {idx : Nat} (F : wb_fr p R s mth args meth c m A) (hd : decode (wb_b m) pc = .ok (.ldc_w idx, 3)) (hck : wb_ckl m idx x = true) (hp : wb_pk (wb_st fz sc m pc (.ldc_w idx) x ls st h n) = some c') (G : wb_G p l e R s mth args below meth c Q fz m rv A D adr0 L0 c') : wb_G p l e R s mth args below meth c Q fz m rv A D adr0 L0 (pc, ls, st, h, n) := by
  obtain ⟨hx, hb, hts, hown, hml, hA, hin, hnf, hnl, hnc, hns⟩ := F
  simp only [wb_st] at hp
  intro adr cA L H locs J hR hxt hl hS
  have hR : wb_rep fz D adr cA L n.1 h A H s := hR
  unfold wb_ckl at hck
  split at hck
  · cases hp
    exact lv_ldcw hx hb hown (hts _ (wb_at_in hck)) hd (G adr cA L H locs J hR hxt hl hS)
  · cases hp
  · cases hp
  · cases hck
def wb_ck2 (m idx : Nat) (x : List Nat) : Bool := match x with
  | [v, pos] => wb_at pos (.constantLong (wb_y m).cls idx (Int64.ofNat v))
  | _ => false
theorem wb_o_ldc2 {idx : Nat} (F : wb_fr p R s mth args meth c m A) (hd : decode (wb_b m) pc = .ok (.ldc2_w idx, 3)) (hck : wb_ck2 m idx x = true) (hp : wb_pk (wb_st fz sc m pc (.ldc2_w idx) x ls st h n) = some c') (G : wb_G p l e R s mth args below meth c Q fz m rv A D adr0 L0 c') : wb_G p l e R s mth args below meth c Q fz m rv A D adr0 L0 (pc, ls, st, h, n) := by
  obtain ⟨hx, hb, hts, hown, hml, hA, hin, hnf, hnl, hnc, hns⟩ := F
  simp only [wb_st] at hp
  intro adr cA L H locs J hR hxt hl hS
  have hR : wb_rep fz D adr cA L n.1 h A H s := hR
  unfold wb_ck2 at hck
  split at hck
  · cases hp
    exact lv_ldc2 hx hb hown (hts _ (wb_at_in hck)) hd (G adr cA L H locs J hR hxt hl hS)
  · cases hck
theorem wb_sw_pick {v : Int32} {ls : wb_L} {st : List wb_V} {h : wb_H} {n : wb_N} {d : Nat} : ∀ (ts : List Nat) (z : Int), wb_pick (wb_sw v ls st h n z ts) (some (d, ls, st, h, n)) = some c' →
    (∃ (j : Nat) (t : Nat), ts[j]? = some t ∧ v = Int32.ofInt (z + j) ∧ c' = (t, ls, st, h, n)) ∨ ((∀ j : Nat, j < ts.length → v ≠ Int32.ofInt (z + j)) ∧ c' = (d, ls, st, h, n))
  | [], z, q => Or.inr ⟨fun j hj => by simp at hj, by simp [wb_sw, wb_pick] at q; exact q.symm⟩
  | t :: ts, z, q => by
    simp only [wb_sw, wb_pick] at q
    by_cases hv : v = Int32.ofInt z
    · rw [decide_eq_true hv] at q
      simp only [cond_true, Option.some.injEq] at q
      exact Or.inl ⟨0, t, rfl, by simpa using hv, q.symm⟩
    · rw [decide_eq_false hv] at q
      simp only [cond_false] at q
      rcases wb_sw_pick ts (z + 1) q with ⟨j, t', h1, h2, h3⟩ | ⟨h1, h2⟩
      · exact Or.inl ⟨j + 1, t', by simpa using h1, by rw [h2]; congr 1; push_cast; omega, h3⟩
      · refine Or.inr ⟨fun j hj => ?_, h2⟩
        cases j with
        | zero => simpa using hv
        | succ j =>
          have := h1 j (by simpa using hj)
          rw [show z + ((j + 1 : Nat) : Int) = z + 1 + (j : Int) by push_cast; omega]
          exact this
def wb_ckw (pc : Nat) (d lo hi : Int) (offs : Array Int) (x : List Nat) : Bool := match x with
  | _ :: dt :: ts => decide ((pc : Int) + d = (dt : Int)) && decide (offs.toList.map (fun o => (pc : Int) + o) = ts.map (fun t => ((t : Nat) : Int))) && decide (hi = lo + offs.size - 1) && decide (-1000 ≤ lo) && decide (hi ≤ 1000) && decide (0 < offs.size)
  | _ => false
set_option maxHeartbeats 2000000 in
theorem wb_o_tableswitch {d lo hi : Int} {offs : Array Int} {len : Nat} (F : wb_fr p R s mth args meth c m A) (hd : decode (wb_b m) pc = .ok (.tableswitch d lo hi offs, len)) (hck : wb_ckw pc d lo hi offs x = true) (hp : wb_pk (wb_st fz sc m pc (.tableswitch d lo hi offs) x ls st h n) = some c') (G : wb_G p l e R s mth args below meth c Q fz m rv A D adr0 L0 c') : wb_G p l e R s mth args below meth c Q fz m rv A D adr0 L0 (pc, ls, st, h, n) := by
  obtain ⟨hx, hb, hts, hown, hml, hA, hin, hnf, hnl, hnc, hns⟩ := F
  simp only [wb_st] at hp
  intro adr cA L H locs J hR hxt hl hS
  have hR : wb_rep fz D adr cA L n.1 h A H s := hR
  split at hp
  · rename_i y dt ts v st'
    simp only [wb_ckw, Bool.and_eq_true, decide_eq_true_eq] at hck
    obtain ⟨⟨⟨⟨⟨hdt, hoffs⟩, hhi⟩, hlo1⟩, hhi1⟩, hsz⟩ := hck
    have hlen : offs.size = ts.length := by
      have := congrArg List.length hoffs
      simpa using this
    have hint : ∀ z : Int, -1000 ≤ z → z ≤ 1000 → (Int32.ofInt z).toInt = z := by
      intro z h1 h2
      rw [Int32.toInt_ofInt, show Int32.size = 4294967296 from rfl]
      exact Int.bmod_eq_of_le (by omega) (by omega)
    rcases wb_sw_pick ts lo hp with ⟨j, t, h1, h2, rfl⟩ | ⟨h1, rfl⟩
    · have hj : j < ts.length := (List.getElem?_eq_some_iff.mp h1).1
      have hv : v.toInt = lo + (j : Int) := by rw [h2]; exact hint _ (by omega) (by omega)
      have ho : ∃ o, offs[j]? = some o ∧ (pc : Int) + o = (t : Int) := by
        have h3 : (offs.toList.map (fun o => (pc : Int) + o))[j]? = (ts.map (fun t => ((t : Nat) : Int)))[j]? := by rw [hoffs]
        rw [List.getElem?_map, List.getElem?_map, h1, Array.getElem?_toList] at h3
        cases hq : offs[j]? with
        | none => rw [hq] at h3; cases h3
        | some o => rw [hq] at h3; exact ⟨o, rfl, by simpa using h3⟩
      obtain ⟨o, ho1, ho2⟩ := ho
      exact lv_tableIn hx hb hd (by omega) (by omega) (by rw [hv, show (lo + (j : Int) - lo).toNat = j by omega]; exact ho1) ho2 (G adr cA L H locs J hR hxt hl hS)
    · refine lv_tableOut hx hb hd ?_ hdt (G adr cA L H locs J hR hxt hl hS)
      by_cases q : v.toInt < lo
      · exact Or.inl q
      · by_cases q2 : hi < v.toInt
        · exact Or.inr q2
        · exfalso
          have h3 := h1 (v.toInt - lo).toNat (by omega)
          apply h3
          rw [show lo + (((v.toInt - lo).toNat : Nat) : Int) = v.toInt by omega, Int32.ofInt_toInt]
  · cases hp
theorem wb_lw_pick {v : Int32} {ls : wb_L} {st : List wb_V} {h : wb_H} {n : wb_N} {d : Nat} {dd : Int} {pc : Nat} (hdd : (pc : Int) + dd = (d : Int)) : ∀ (ps : List (Int × Int)) (ts : List Nat), ps.map (fun o => (pc : Int) + o.2) = ts.map (fun t => ((t : Nat) : Int)) → (∀ q ∈ ps, -1000 ≤ q.1 ∧ q.1 ≤ 1000) → wb_pick (wb_lw v ls st h n ps ts) (some (d, ls, st, h, n)) = some c' →
    ∃ tgt : Nat, c' = (tgt, ls, st, h, n) ∧ (pc : Int) + Op.lookupswitch.offset ps dd v.toInt = (tgt : Int)
  | [], [], _, _, q => ⟨d, by simp [wb_lw, wb_pick] at q; exact q.symm, by simpa [Op.lookupswitch.offset] using hdd⟩
  | [], t :: ts, he, _, _ => by simp at he
  | z :: zs, [], he, _, _ => by simp at he
  | z :: zs, t :: ts, he, hz, q => by
    simp only [List.map_cons, List.cons.injEq] at he
    simp only [wb_lw, wb_pick] at q
    have hz0 := hz z List.mem_cons_self
    have hint : (Int32.ofInt z.1).toInt = z.1 := by
      rw [Int32.toInt_ofInt, show Int32.size = 4294967296 from rfl]
      exact Int.bmod_eq_of_le (by omega) (by omega)
    obtain ⟨za, zb⟩ := z
    by_cases hv : v = Int32.ofInt za
    · rw [decide_eq_true hv] at q
      simp only [cond_true, Option.some.injEq] at q
      refine ⟨t, q.symm, ?_⟩
      have : Op.lookupswitch.offset ((za, zb) :: zs) dd v.toInt = zb := by
        rw [hv, hint]; simp [Op.lookupswitch.offset]
      rw [this]; exact he.1
    · rw [decide_eq_false hv] at q
      simp only [cond_false] at q
      obtain ⟨tgt, h1, h2⟩ := wb_lw_pick hdd zs ts he.2 (fun y hy => hz y (List.mem_cons_of_mem _ hy)) q
      exact ⟨tgt, h1, by rw [lv_osw hv hint]; exact h2⟩
def wb_ckk (pc : Nat) (d : Int) (ps : Array (Int × Int)) (x : List Nat) : Bool := match x with
  | _ :: dt :: ts => decide ((pc : Int) + d = (dt : Int)) && decide (ps.toList.map (fun o => (pc : Int) + o.2) = ts.map (fun t => ((t : Nat) : Int))) && ps.toList.all (fun q => decide (-1000 ≤ q.1) && decide (q.1 ≤ 1000)) && (ps.toList.zip (ps.toList.drop 1)).all (fun (a, next) => a.1 < next.1)
  | _ => false
theorem wb_o_lookupswitch {d : Int} {ps : Array (Int × Int)} {len : Nat} (F : wb_fr p R s mth args meth c m A) (hd : decode (wb_b m) pc = .ok (.lookupswitch d ps, len)) (hck : wb_ckk pc d ps x = true) (hp : wb_pk (wb_st fz sc m pc (.lookupswitch d ps) x ls st h n) = some c') (G : wb_G p l e R s mth args below meth c Q fz m rv A D adr0 L0 c') : wb_G p l e R s mth args below meth c Q fz m rv A D adr0 L0 (pc, ls, st, h, n) := by
  obtain ⟨hx, hb, hts, hown, hml, hA, hin, hnf, hnl, hnc, hns⟩ := F
  simp only [wb_st] at hp
  intro adr cA L H locs J hR hxt hl hS
  have hR : wb_rep fz D adr cA L n.1 h A H s := hR
  split at hp
  · rename_i y dt ts v st'
    simp only [wb_ckk, Bool.and_eq_true, decide_eq_true_eq] at hck
    obtain ⟨⟨⟨hdt, hoffs⟩, hrng⟩, hsort⟩ := hck
    obtain ⟨tgt, rfl, h2⟩ := wb_lw_pick hdt ps.toList ts hoffs (fun q hq => by
      have := List.all_eq_true.mp hrng q hq
      simpa using this) hp
    exact lv_lookup hx hb hd hsort rfl h2 (G adr cA L H locs J hR hxt hl hS)
  · cases hp
end WBA
