/-! Pure instructions: each row of the plain machine is a row of the kit. -/
section WBP
variable {p : Program} {l : Launch} {e : Env} {R : Room} {s : State} {mth : MethodId} {args : Array Value} {below : List Frame} {meth : Method} {c : Code} {Q : State → Prop}
variable {fz : Bool} {sc : wb_X} {m pc : Nat} {rv : Nat → Value} {A : Nat → Prop} {D : va_G} {adr0 : Nat → Nat → Nat} {L0 : List (Nat × Nat)} {x : List Nat} {ls : wb_L} {st : List wb_V} {h : wb_H} {n : wb_N} {c' : wb_C}

theorem wb_o_iload_n {k : Fin 4} (F : wb_fr p R s mth args meth c m A) (hd : decode (wb_b m) pc = .ok (.iload_n k, 1)) (hp : wb_pk (wb_st fz sc m pc (.iload_n k) x ls st h n) = some c') (G : wb_G p l e R s mth args below meth c Q fz m rv A D adr0 L0 c') : wb_G p l e R s mth args below meth c Q fz m rv A D adr0 L0 (pc, ls, st, h, n) := by
  obtain ⟨hx, hb, hts, hown, hml, hA, hin, hnf, hnl, hnc, hns⟩ := F
  simp only [wb_st] at hp
  intro adr cA L H locs J hR hxt hl hS
  split at hp
  · rename_i x hv
    cases hp
    have hj := hl.2.2 _ _ hv
    exact lv_iload_n hx hb hd rfl hj (G adr cA L H locs J hR hxt hl hS)
  · cases hp
theorem wb_o_iload {k : Nat} (F : wb_fr p R s mth args meth c m A) (hd : decode (wb_b m) pc = .ok (.iload k, 2)) (hp : wb_pk (wb_st fz sc m pc (.iload k) x ls st h n) = some c') (G : wb_G p l e R s mth args below meth c Q fz m rv A D adr0 L0 c') : wb_G p l e R s mth args below meth c Q fz m rv A D adr0 L0 (pc, ls, st, h, n) := by
  obtain ⟨hx, hb, hts, hown, hml, hA, hin, hnf, hnl, hnc, hns⟩ := F
  simp only [wb_st] at hp
  intro adr cA L H locs J hR hxt hl hS
  split at hp
  · rename_i x hv
    cases hp
    have hj := hl.2.2 _ _ hv
    exact lv_iload hx hb hd  hj (G adr cA L H locs J hR hxt hl hS)
  · cases hp
theorem wb_o_lload_n {k : Fin 4} (F : wb_fr p R s mth args meth c m A) (hd : decode (wb_b m) pc = .ok (.lload_n k, 1)) (hp : wb_pk (wb_st fz sc m pc (.lload_n k) x ls st h n) = some c') (G : wb_G p l e R s mth args below meth c Q fz m rv A D adr0 L0 c') : wb_G p l e R s mth args below meth c Q fz m rv A D adr0 L0 (pc, ls, st, h, n) := by
  obtain ⟨hx, hb, hts, hown, hml, hA, hin, hnf, hnl, hnc, hns⟩ := F
  simp only [wb_st] at hp
  intro adr cA L H locs J hR hxt hl hS
  split at hp
  · rename_i x hv
    cases hp
    have hj := hl.2.2 _ _ hv
    exact lv_lload_n hx hb hd rfl hj (G adr cA L H locs J hR hxt hl hS)
  · cases hp
theorem wb_o_lload {k : Nat} (F : wb_fr p R s mth args meth c m A) (hd : decode (wb_b m) pc = .ok (.lload k, 2)) (hp : wb_pk (wb_st fz sc m pc (.lload k) x ls st h n) = some c') (G : wb_G p l e R s mth args below meth c Q fz m rv A D adr0 L0 c') : wb_G p l e R s mth args below meth c Q fz m rv A D adr0 L0 (pc, ls, st, h, n) := by
  obtain ⟨hx, hb, hts, hown, hml, hA, hin, hnf, hnl, hnc, hns⟩ := F
  simp only [wb_st] at hp
  intro adr cA L H locs J hR hxt hl hS
  split at hp
  · rename_i x hv
    cases hp
    have hj := hl.2.2 _ _ hv
    exact lv_lload hx hb hd  hj (G adr cA L H locs J hR hxt hl hS)
  · cases hp
theorem wb_o_aload_n {k : Fin 4} (F : wb_fr p R s mth args meth c m A) (hd : decode (wb_b m) pc = .ok (.aload_n k, 1)) (hrv : ∀ t, 1 ≤ t → t ≠ 9 → t < 10 → ∃ a, rv t = .ref a) (hp : wb_pk (wb_st fz sc m pc (.aload_n k) x ls st h n) = some c') (G : wb_G p l e R s mth args below meth c Q fz m rv A D adr0 L0 c') : wb_G p l e R s mth args below meth c Q fz m rv A D adr0 L0 (pc, ls, st, h, n) := by
  obtain ⟨hx, hb, hts, hown, hml, hA, hin, hnf, hnl, hnc, hns⟩ := F
  simp only [wb_st] at hp
  intro adr cA L H locs J hR hxt hl hS
  split at hp
  · rename_i r hv
    split at hp
    · rename_i hr0
      cases hp
      have hr : ∃ a, wb_tv rv adr (.inr (.inr r)) = .ref a := by
        obtain ⟨t, o⟩ := r
        have h1 : 1 ≤ t := by
          cases t with
          | zero => cases hr0
          | succ t => exact Nat.succ_le_succ (Nat.zero_le _)
        have h9 : t ≠ 9 := fun z => by subst z; cases hr0
        simp only [wb_tv]
        split
        · exact hrv t h1 h9 (by assumption)
        · exact ⟨_, rfl⟩
      obtain ⟨a, ha⟩ := hr
      have hj := hl.2.2 _ _ hv
      rw [ha] at hj
      have G1 := G adr cA L H locs J hR hxt hl hS
      simp only [List.map_cons, ha] at G1
      exact lv_aload_n hx hb hd rfl hj G1
    · cases hp
  · cases hp
theorem wb_o_aload {k : Nat} (F : wb_fr p R s mth args meth c m A) (hd : decode (wb_b m) pc = .ok (.aload k, 2)) (hrv : ∀ t, 1 ≤ t → t ≠ 9 → t < 10 → ∃ a, rv t = .ref a) (hp : wb_pk (wb_st fz sc m pc (.aload k) x ls st h n) = some c') (G : wb_G p l e R s mth args below meth c Q fz m rv A D adr0 L0 c') : wb_G p l e R s mth args below meth c Q fz m rv A D adr0 L0 (pc, ls, st, h, n) := by
  obtain ⟨hx, hb, hts, hown, hml, hA, hin, hnf, hnl, hnc, hns⟩ := F
  simp only [wb_st] at hp
  intro adr cA L H locs J hR hxt hl hS
  split at hp
  · rename_i r hv
    split at hp
    · rename_i hr0
      cases hp
      have hr : ∃ a, wb_tv rv adr (.inr (.inr r)) = .ref a := by
        obtain ⟨t, o⟩ := r
        have h1 : 1 ≤ t := by
          cases t with
          | zero => cases hr0
          | succ t => exact Nat.succ_le_succ (Nat.zero_le _)
        have h9 : t ≠ 9 := fun z => by subst z; cases hr0
        simp only [wb_tv]
        split
        · exact hrv t h1 h9 (by assumption)
        · exact ⟨_, rfl⟩
      obtain ⟨a, ha⟩ := hr
      have hj := hl.2.2 _ _ hv
      rw [ha] at hj
      have G1 := G adr cA L H locs J hR hxt hl hS
      simp only [List.map_cons, ha] at G1
      exact lv_aload hx hb hd  hj G1
    · cases hp
  · cases hp
theorem wb_o_istore_n {k : Fin 4} (F : wb_fr p R s mth args meth c m A) (hd : decode (wb_b m) pc = .ok (.istore_n k, 1)) (hk : k.val < wb_pn m) (hcat : ∀ t, rv t = .null ∨ ∃ a, rv t = .ref a) (hp : wb_pk (wb_st fz sc m pc (.istore_n k) x ls st h n) = some c') (G : wb_G p l e R s mth args below meth c Q fz m rv A D adr0 L0 c') : wb_G p l e R s mth args below meth c Q fz m rv A D adr0 L0 (pc, ls, st, h, n) := by
  obtain ⟨hx, hb, hts, hown, hml, hA, hin, hnf, hnl, hnc, hns⟩ := F
  simp only [wb_st] at hp
  intro adr cA L H locs J hR hxt hl hS
  split at hp
  · rename_i v st'
    cases hp
    exact lv_istore_n hx hb hd rfl (wb_as_has hl) hk rfl (fun J' hJ => G adr cA L H locs J' hR hxt (wb_lc_s1 (wb_tv_cat hcat) hl hJ) hS)
  · cases hp
theorem wb_o_istore {k : Nat} (F : wb_fr p R s mth args meth c m A) (hd : decode (wb_b m) pc = .ok (.istore k, 2)) (hk : k < wb_pn m) (hcat : ∀ t, rv t = .null ∨ ∃ a, rv t = .ref a) (hp : wb_pk (wb_st fz sc m pc (.istore k) x ls st h n) = some c') (G : wb_G p l e R s mth args below meth c Q fz m rv A D adr0 L0 c') : wb_G p l e R s mth args below meth c Q fz m rv A D adr0 L0 (pc, ls, st, h, n) := by
  obtain ⟨hx, hb, hts, hown, hml, hA, hin, hnf, hnl, hnc, hns⟩ := F
  simp only [wb_st] at hp
  intro adr cA L H locs J hR hxt hl hS
  split at hp
  · rename_i v st'
    cases hp
    exact lv_istore hx hb hd  (wb_as_has hl) hk rfl (fun J' hJ => G adr cA L H locs J' hR hxt (wb_lc_s1 (wb_tv_cat hcat) hl hJ) hS)
  · cases hp
theorem wb_o_lstore_n {k : Fin 4} (F : wb_fr p R s mth args meth c m A) (hd : decode (wb_b m) pc = .ok (.lstore_n k, 1)) (hk : k.val + 1 < wb_pn m) (hcat : ∀ t, rv t = .null ∨ ∃ a, rv t = .ref a) (hp : wb_pk (wb_st fz sc m pc (.lstore_n k) x ls st h n) = some c') (G : wb_G p l e R s mth args below meth c Q fz m rv A D adr0 L0 c') : wb_G p l e R s mth args below meth c Q fz m rv A D adr0 L0 (pc, ls, st, h, n) := by
  obtain ⟨hx, hb, hts, hown, hml, hA, hin, hnf, hnl, hnc, hns⟩ := F
  simp only [wb_st] at hp
  intro adr cA L H locs J hR hxt hl hS
  split at hp
  · rename_i v st'
    cases hp
    exact lv_lstore_n hx hb hd rfl (wb_as_has hl) hk rfl (fun J' hJ => G adr cA L H locs J' hR hxt (wb_lc_s2 (wb_tv_cat hcat) hl hJ) hS)
  · cases hp
theorem wb_o_lstore {k : Nat} (F : wb_fr p R s mth args meth c m A) (hd : decode (wb_b m) pc = .ok (.lstore k, 2)) (hk : k + 1 < wb_pn m) (hcat : ∀ t, rv t = .null ∨ ∃ a, rv t = .ref a) (hp : wb_pk (wb_st fz sc m pc (.lstore k) x ls st h n) = some c') (G : wb_G p l e R s mth args below meth c Q fz m rv A D adr0 L0 c') : wb_G p l e R s mth args below meth c Q fz m rv A D adr0 L0 (pc, ls, st, h, n) := by
  obtain ⟨hx, hb, hts, hown, hml, hA, hin, hnf, hnl, hnc, hns⟩ := F
  simp only [wb_st] at hp
  intro adr cA L H locs J hR hxt hl hS
  split at hp
  · rename_i v st'
    cases hp
    exact lv_lstore hx hb hd  (wb_as_has hl) hk rfl (fun J' hJ => G adr cA L H locs J' hR hxt (wb_lc_s2 (wb_tv_cat hcat) hl hJ) hS)
  · cases hp
theorem wb_o_astore_n {k : Fin 4} (F : wb_fr p R s mth args meth c m A) (hd : decode (wb_b m) pc = .ok (.astore_n k, 1)) (hk : k.val < wb_pn m) (hrv : ∀ t, 1 ≤ t → t ≠ 9 → t < 10 → ∃ a, rv t = .ref a) (hcat : ∀ t, rv t = .null ∨ ∃ a, rv t = .ref a) (hp : wb_pk (wb_st fz sc m pc (.astore_n k) x ls st h n) = some c') (G : wb_G p l e R s mth args below meth c Q fz m rv A D adr0 L0 c') : wb_G p l e R s mth args below meth c Q fz m rv A D adr0 L0 (pc, ls, st, h, n) := by
  obtain ⟨hx, hb, hts, hown, hml, hA, hin, hnf, hnl, hnc, hns⟩ := F
  simp only [wb_st] at hp
  intro adr cA L H locs J hR hxt hl hS
  split at hp
  · rename_i r st'
    split at hp
    · rename_i hr0
      cases hp
      have hr : ∃ a, wb_tv rv adr (.inr (.inr r)) = .ref a := by
        obtain ⟨t, o⟩ := r
        have h1 : 1 ≤ t := by
          cases t with
          | zero => cases hr0
          | succ t => exact Nat.succ_le_succ (Nat.zero_le _)
        have h9 : t ≠ 9 := fun z => by subst z; cases hr0
        simp only [wb_tv]
        split
        · exact hrv t h1 h9 (by assumption)
        · exact ⟨_, rfl⟩
      obtain ⟨a, ha⟩ := hr
      simp only [List.map_cons, ha]
      refine lv_astore_n hx hb hd rfl (wb_as_has hl) hk rfl (fun J' hJ => G adr cA L H locs J' hR hxt (wb_lc_s1 (wb_tv_cat hcat) hl ?_) hS)
      rw [ha]; exact hJ
    · cases hp
  · cases hp
theorem wb_o_astore {k : Nat} (F : wb_fr p R s mth args meth c m A) (hd : decode (wb_b m) pc = .ok (.astore k, 2)) (hk : k < wb_pn m) (hrv : ∀ t, 1 ≤ t → t ≠ 9 → t < 10 → ∃ a, rv t = .ref a) (hcat : ∀ t, rv t = .null ∨ ∃ a, rv t = .ref a) (hp : wb_pk (wb_st fz sc m pc (.astore k) x ls st h n) = some c') (G : wb_G p l e R s mth args below meth c Q fz m rv A D adr0 L0 c') : wb_G p l e R s mth args below meth c Q fz m rv A D adr0 L0 (pc, ls, st, h, n) := by
  obtain ⟨hx, hb, hts, hown, hml, hA, hin, hnf, hnl, hnc, hns⟩ := F
  simp only [wb_st] at hp
  intro adr cA L H locs J hR hxt hl hS
  split at hp
  · rename_i r st'
    split at hp
    · rename_i hr0
      cases hp
      have hr : ∃ a, wb_tv rv adr (.inr (.inr r)) = .ref a := by
        obtain ⟨t, o⟩ := r
        have h1 : 1 ≤ t := by
          cases t with
          | zero => cases hr0
          | succ t => exact Nat.succ_le_succ (Nat.zero_le _)
        have h9 : t ≠ 9 := fun z => by subst z; cases hr0
        simp only [wb_tv]
        split
        · exact hrv t h1 h9 (by assumption)
        · exact ⟨_, rfl⟩
      obtain ⟨a, ha⟩ := hr
      simp only [List.map_cons, ha]
      refine lv_astore hx hb hd  (wb_as_has hl) hk rfl (fun J' hJ => G adr cA L H locs J' hR hxt (wb_lc_s1 (wb_tv_cat hcat) hl ?_) hS)
      rw [ha]; exact hJ
    · cases hp
  · cases hp
theorem wb_o_iconst {z : Int} (F : wb_fr p R s mth args meth c m A) (hd : decode (wb_b m) pc = .ok (.iconst z, 1)) (hp : wb_pk (wb_st fz sc m pc (.iconst z) x ls st h n) = some c') (G : wb_G p l e R s mth args below meth c Q fz m rv A D adr0 L0 c') : wb_G p l e R s mth args below meth c Q fz m rv A D adr0 L0 (pc, ls, st, h, n) := by
  obtain ⟨hx, hb, hts, hown, hml, hA, hin, hnf, hnl, hnc, hns⟩ := F
  simp only [wb_st] at hp
  intro adr cA L H locs J hR hxt hl hS
  cases hp
  exact lv_iconst hx hb hd rfl (G adr cA L H locs J hR hxt hl hS)
theorem wb_o_bipush {z : Int} (F : wb_fr p R s mth args meth c m A) (hd : decode (wb_b m) pc = .ok (.bipush z, 2)) (hz : (Int8.ofInt z).toInt32 = Int32.ofInt z) (hp : wb_pk (wb_st fz sc m pc (.bipush z) x ls st h n) = some c') (G : wb_G p l e R s mth args below meth c Q fz m rv A D adr0 L0 c') : wb_G p l e R s mth args below meth c Q fz m rv A D adr0 L0 (pc, ls, st, h, n) := by
  obtain ⟨hx, hb, hts, hown, hml, hA, hin, hnf, hnl, hnc, hns⟩ := F
  simp only [wb_st] at hp
  intro adr cA L H locs J hR hxt hl hS
  cases hp
  exact lv_bipush hx hb hd hz (G adr cA L H locs J hR hxt hl hS)
theorem wb_o_sipush {z : Int} (F : wb_fr p R s mth args meth c m A) (hd : decode (wb_b m) pc = .ok (.sipush z, 3)) (hz : (Int16.ofInt z).toInt32 = Int32.ofInt z) (hp : wb_pk (wb_st fz sc m pc (.sipush z) x ls st h n) = some c') (G : wb_G p l e R s mth args below meth c Q fz m rv A D adr0 L0 c') : wb_G p l e R s mth args below meth c Q fz m rv A D adr0 L0 (pc, ls, st, h, n) := by
  obtain ⟨hx, hb, hts, hown, hml, hA, hin, hnf, hnl, hnc, hns⟩ := F
  simp only [wb_st] at hp
  intro adr cA L H locs J hR hxt hl hS
  cases hp
  exact lv_sipush hx hb hd hz (G adr cA L H locs J hR hxt hl hS)
theorem wb_o_lconst {z : Fin 2} (F : wb_fr p R s mth args meth c m A) (hd : decode (wb_b m) pc = .ok (.lconst z, 1)) (hp : wb_pk (wb_st fz sc m pc (.lconst z) x ls st h n) = some c') (G : wb_G p l e R s mth args below meth c Q fz m rv A D adr0 L0 c') : wb_G p l e R s mth args below meth c Q fz m rv A D adr0 L0 (pc, ls, st, h, n) := by
  obtain ⟨hx, hb, hts, hown, hml, hA, hin, hnf, hnl, hnc, hns⟩ := F
  simp only [wb_st] at hp
  intro adr cA L H locs J hR hxt hl hS
  cases hp
  exact lv_lconst hx hb hd rfl (G adr cA L H locs J hR hxt hl hS)
theorem wb_o_iinc {k : Nat} {z : Int} (F : wb_fr p R s mth args meth c m A) (hd : decode (wb_b m) pc = .ok (.iinc k z, 3)) (hcat : ∀ t, rv t = .null ∨ ∃ a, rv t = .ref a) (hp : wb_pk (wb_st fz sc m pc (.iinc k z) x ls st h n) = some c') (G : wb_G p l e R s mth args below meth c Q fz m rv A D adr0 L0 c') : wb_G p l e R s mth args below meth c Q fz m rv A D adr0 L0 (pc, ls, st, h, n) := by
  obtain ⟨hx, hb, hts, hown, hml, hA, hin, hnf, hnl, hnc, hns⟩ := F
  simp only [wb_st] at hp
  intro adr cA L H locs J hR hxt hl hS
  split at hp
  · rename_i v hv
    cases hp
    obtain ⟨i, hi⟩ := List.getElem?_of_mem (wb_as_mem (tv := wb_tv rv adr) (wb_lc_lt hl hv) hv)
    exact lv_iinc hx hb hd (wb_as_has hl) hi rfl (wb_lc_lt hl hv) rfl (fun J' hJ => G adr cA L H locs J' hR hxt (wb_lc_s1 (v := .inl (v + Int32.ofInt z)) (wb_tv_cat hcat) hl hJ) hS)
  · cases hp
theorem wb_o_iadd (F : wb_fr p R s mth args meth c m A) (hd : decode (wb_b m) pc = .ok (.iadd, 1)) (hp : wb_pk (wb_st fz sc m pc (.iadd) x ls st h n) = some c') (G : wb_G p l e R s mth args below meth c Q fz m rv A D adr0 L0 c') : wb_G p l e R s mth args below meth c Q fz m rv A D adr0 L0 (pc, ls, st, h, n) := by
  obtain ⟨hx, hb, hts, hown, hml, hA, hin, hnf, hnl, hnc, hns⟩ := F
  simp only [wb_st] at hp
  intro adr cA L H locs J hR hxt hl hS
  split at hp
  · cases hp
    exact lv_iadd hx hb hd (G adr cA L H locs J hR hxt hl hS)
  · cases hp
theorem wb_o_isub (F : wb_fr p R s mth args meth c m A) (hd : decode (wb_b m) pc = .ok (.isub, 1)) (hp : wb_pk (wb_st fz sc m pc (.isub) x ls st h n) = some c') (G : wb_G p l e R s mth args below meth c Q fz m rv A D adr0 L0 c') : wb_G p l e R s mth args below meth c Q fz m rv A D adr0 L0 (pc, ls, st, h, n) := by
  obtain ⟨hx, hb, hts, hown, hml, hA, hin, hnf, hnl, hnc, hns⟩ := F
  simp only [wb_st] at hp
  intro adr cA L H locs J hR hxt hl hS
  split at hp
  · cases hp
    exact lv_isub hx hb hd (G adr cA L H locs J hR hxt hl hS)
  · cases hp
theorem wb_o_imul (F : wb_fr p R s mth args meth c m A) (hd : decode (wb_b m) pc = .ok (.imul, 1)) (hp : wb_pk (wb_st fz sc m pc (.imul) x ls st h n) = some c') (G : wb_G p l e R s mth args below meth c Q fz m rv A D adr0 L0 c') : wb_G p l e R s mth args below meth c Q fz m rv A D adr0 L0 (pc, ls, st, h, n) := by
  obtain ⟨hx, hb, hts, hown, hml, hA, hin, hnf, hnl, hnc, hns⟩ := F
  simp only [wb_st] at hp
  intro adr cA L H locs J hR hxt hl hS
  split at hp
  · cases hp
    exact lv_imul hx hb hd (G adr cA L H locs J hR hxt hl hS)
  · cases hp
theorem wb_o_iand (F : wb_fr p R s mth args meth c m A) (hd : decode (wb_b m) pc = .ok (.iand, 1)) (hp : wb_pk (wb_st fz sc m pc (.iand) x ls st h n) = some c') (G : wb_G p l e R s mth args below meth c Q fz m rv A D adr0 L0 c') : wb_G p l e R s mth args below meth c Q fz m rv A D adr0 L0 (pc, ls, st, h, n) := by
  obtain ⟨hx, hb, hts, hown, hml, hA, hin, hnf, hnl, hnc, hns⟩ := F
  simp only [wb_st] at hp
  intro adr cA L H locs J hR hxt hl hS
  split at hp
  · cases hp
    exact lv_iand hx hb hd (G adr cA L H locs J hR hxt hl hS)
  · cases hp
theorem wb_o_ior (F : wb_fr p R s mth args meth c m A) (hd : decode (wb_b m) pc = .ok (.ior, 1)) (hp : wb_pk (wb_st fz sc m pc (.ior) x ls st h n) = some c') (G : wb_G p l e R s mth args below meth c Q fz m rv A D adr0 L0 c') : wb_G p l e R s mth args below meth c Q fz m rv A D adr0 L0 (pc, ls, st, h, n) := by
  obtain ⟨hx, hb, hts, hown, hml, hA, hin, hnf, hnl, hnc, hns⟩ := F
  simp only [wb_st] at hp
  intro adr cA L H locs J hR hxt hl hS
  split at hp
  · cases hp
    exact lv_ior hx hb hd (G adr cA L H locs J hR hxt hl hS)
  · cases hp
theorem wb_o_ixor (F : wb_fr p R s mth args meth c m A) (hd : decode (wb_b m) pc = .ok (.ixor, 1)) (hp : wb_pk (wb_st fz sc m pc (.ixor) x ls st h n) = some c') (G : wb_G p l e R s mth args below meth c Q fz m rv A D adr0 L0 c') : wb_G p l e R s mth args below meth c Q fz m rv A D adr0 L0 (pc, ls, st, h, n) := by
  obtain ⟨hx, hb, hts, hown, hml, hA, hin, hnf, hnl, hnc, hns⟩ := F
  simp only [wb_st] at hp
  intro adr cA L H locs J hR hxt hl hS
  split at hp
  · cases hp
    exact lv_ixor hx hb hd (G adr cA L H locs J hR hxt hl hS)
  · cases hp
theorem wb_o_ishl (F : wb_fr p R s mth args meth c m A) (hd : decode (wb_b m) pc = .ok (.ishl, 1)) (hp : wb_pk (wb_st fz sc m pc (.ishl) x ls st h n) = some c') (G : wb_G p l e R s mth args below meth c Q fz m rv A D adr0 L0 c') : wb_G p l e R s mth args below meth c Q fz m rv A D adr0 L0 (pc, ls, st, h, n) := by
  obtain ⟨hx, hb, hts, hown, hml, hA, hin, hnf, hnl, hnc, hns⟩ := F
  simp only [wb_st] at hp
  intro adr cA L H locs J hR hxt hl hS
  split at hp
  · cases hp
    exact lv_ishl hx hb hd (G adr cA L H locs J hR hxt hl hS)
  · cases hp
theorem wb_o_ishr (F : wb_fr p R s mth args meth c m A) (hd : decode (wb_b m) pc = .ok (.ishr, 1)) (hp : wb_pk (wb_st fz sc m pc (.ishr) x ls st h n) = some c') (G : wb_G p l e R s mth args below meth c Q fz m rv A D adr0 L0 c') : wb_G p l e R s mth args below meth c Q fz m rv A D adr0 L0 (pc, ls, st, h, n) := by
  obtain ⟨hx, hb, hts, hown, hml, hA, hin, hnf, hnl, hnc, hns⟩ := F
  simp only [wb_st] at hp
  intro adr cA L H locs J hR hxt hl hS
  split at hp
  · cases hp
    exact lv_ishr hx hb hd (G adr cA L H locs J hR hxt hl hS)
  · cases hp
theorem wb_o_ineg (F : wb_fr p R s mth args meth c m A) (hd : decode (wb_b m) pc = .ok (.ineg, 1)) (hp : wb_pk (wb_st fz sc m pc (.ineg) x ls st h n) = some c') (G : wb_G p l e R s mth args below meth c Q fz m rv A D adr0 L0 c') : wb_G p l e R s mth args below meth c Q fz m rv A D adr0 L0 (pc, ls, st, h, n) := by
  obtain ⟨hx, hb, hts, hown, hml, hA, hin, hnf, hnl, hnc, hns⟩ := F
  simp only [wb_st] at hp
  intro adr cA L H locs J hR hxt hl hS
  split at hp
  · cases hp
    exact lv_ineg hx hb hd (G adr cA L H locs J hR hxt hl hS)
  · cases hp
theorem wb_o_ladd (F : wb_fr p R s mth args meth c m A) (hd : decode (wb_b m) pc = .ok (.ladd, 1)) (hp : wb_pk (wb_st fz sc m pc (.ladd) x ls st h n) = some c') (G : wb_G p l e R s mth args below meth c Q fz m rv A D adr0 L0 c') : wb_G p l e R s mth args below meth c Q fz m rv A D adr0 L0 (pc, ls, st, h, n) := by
  obtain ⟨hx, hb, hts, hown, hml, hA, hin, hnf, hnl, hnc, hns⟩ := F
  simp only [wb_st] at hp
  intro adr cA L H locs J hR hxt hl hS
  split at hp
  · cases hp
    exact lv_ladd hx hb hd (G adr cA L H locs J hR hxt hl hS)
  · cases hp
theorem wb_o_lsub (F : wb_fr p R s mth args meth c m A) (hd : decode (wb_b m) pc = .ok (.lsub, 1)) (hp : wb_pk (wb_st fz sc m pc (.lsub) x ls st h n) = some c') (G : wb_G p l e R s mth args below meth c Q fz m rv A D adr0 L0 c') : wb_G p l e R s mth args below meth c Q fz m rv A D adr0 L0 (pc, ls, st, h, n) := by
  obtain ⟨hx, hb, hts, hown, hml, hA, hin, hnf, hnl, hnc, hns⟩ := F
  simp only [wb_st] at hp
  intro adr cA L H locs J hR hxt hl hS
  split at hp
  · cases hp
    exact lv_lsub hx hb hd (G adr cA L H locs J hR hxt hl hS)
  · cases hp
theorem wb_o_lmul (F : wb_fr p R s mth args meth c m A) (hd : decode (wb_b m) pc = .ok (.lmul, 1)) (hp : wb_pk (wb_st fz sc m pc (.lmul) x ls st h n) = some c') (G : wb_G p l e R s mth args below meth c Q fz m rv A D adr0 L0 c') : wb_G p l e R s mth args below meth c Q fz m rv A D adr0 L0 (pc, ls, st, h, n) := by
  obtain ⟨hx, hb, hts, hown, hml, hA, hin, hnf, hnl, hnc, hns⟩ := F
  simp only [wb_st] at hp
  intro adr cA L H locs J hR hxt hl hS
  split at hp
  · cases hp
    exact lv_lmul hx hb hd (G adr cA L H locs J hR hxt hl hS)
  · cases hp
theorem wb_o_lneg (F : wb_fr p R s mth args meth c m A) (hd : decode (wb_b m) pc = .ok (.lneg, 1)) (hp : wb_pk (wb_st fz sc m pc (.lneg) x ls st h n) = some c') (G : wb_G p l e R s mth args below meth c Q fz m rv A D adr0 L0 c') : wb_G p l e R s mth args below meth c Q fz m rv A D adr0 L0 (pc, ls, st, h, n) := by
  obtain ⟨hx, hb, hts, hown, hml, hA, hin, hnf, hnl, hnc, hns⟩ := F
  simp only [wb_st] at hp
  intro adr cA L H locs J hR hxt hl hS
  split at hp
  · cases hp
    exact lv_lneg hx hb hd (G adr cA L H locs J hR hxt hl hS)
  · cases hp
theorem wb_o_lcmp (F : wb_fr p R s mth args meth c m A) (hd : decode (wb_b m) pc = .ok (.lcmp, 1)) (hp : wb_pk (wb_st fz sc m pc (.lcmp) x ls st h n) = some c') (G : wb_G p l e R s mth args below meth c Q fz m rv A D adr0 L0 c') : wb_G p l e R s mth args below meth c Q fz m rv A D adr0 L0 (pc, ls, st, h, n) := by
  obtain ⟨hx, hb, hts, hown, hml, hA, hin, hnf, hnl, hnc, hns⟩ := F
  simp only [wb_st] at hp
  intro adr cA L H locs J hR hxt hl hS
  split at hp
  · cases hp
    exact W.lcmp hx hb hd (G adr cA L H locs J hR hxt hl hS)
  · cases hp
theorem wb_o_iushr (F : wb_fr p R s mth args meth c m A) (hd : decode (wb_b m) pc = .ok (.iushr, 1)) (hp : wb_pk (wb_st fz sc m pc (.iushr) x ls st h n) = some c') (G : wb_G p l e R s mth args below meth c Q fz m rv A D adr0 L0 c') : wb_G p l e R s mth args below meth c Q fz m rv A D adr0 L0 (pc, ls, st, h, n) := by
  obtain ⟨hx, hb, hts, hown, hml, hA, hin, hnf, hnl, hnc, hns⟩ := F
  simp only [wb_st] at hp
  intro adr cA L H locs J hR hxt hl hS
  split at hp
  · cases hp
    exact lv_iushr hx hb hd rfl (G adr cA L H locs J hR hxt hl hS)
  · cases hp
theorem wb_o_i2l (F : wb_fr p R s mth args meth c m A) (hd : decode (wb_b m) pc = .ok (.i2l, 1)) (hp : wb_pk (wb_st fz sc m pc (.i2l) x ls st h n) = some c') (G : wb_G p l e R s mth args below meth c Q fz m rv A D adr0 L0 c') : wb_G p l e R s mth args below meth c Q fz m rv A D adr0 L0 (pc, ls, st, h, n) := by
  obtain ⟨hx, hb, hts, hown, hml, hA, hin, hnf, hnl, hnc, hns⟩ := F
  simp only [wb_st] at hp
  intro adr cA L H locs J hR hxt hl hS
  split at hp
  · cases hp
    exact lv_i2l hx hb hd rfl (G adr cA L H locs J hR hxt hl hS)
  · cases hp
theorem wb_o_l2i (F : wb_fr p R s mth args meth c m A) (hd : decode (wb_b m) pc = .ok (.l2i, 1)) (hp : wb_pk (wb_st fz sc m pc (.l2i) x ls st h n) = some c') (G : wb_G p l e R s mth args below meth c Q fz m rv A D adr0 L0 c') : wb_G p l e R s mth args below meth c Q fz m rv A D adr0 L0 (pc, ls, st, h, n) := by
  obtain ⟨hx, hb, hts, hown, hml, hA, hin, hnf, hnl, hnc, hns⟩ := F
  simp only [wb_st] at hp
  intro adr cA L H locs J hR hxt hl hS
  split at hp
  · cases hp
    exact lv_l2i hx hb hd rfl (G adr cA L H locs J hR hxt hl hS)
  · cases hp
theorem wb_o_i2b (F : wb_fr p R s mth args meth c m A) (hd : decode (wb_b m) pc = .ok (.i2b, 1)) (hp : wb_pk (wb_st fz sc m pc (.i2b) x ls st h n) = some c') (G : wb_G p l e R s mth args below meth c Q fz m rv A D adr0 L0 c') : wb_G p l e R s mth args below meth c Q fz m rv A D adr0 L0 (pc, ls, st, h, n) := by
  obtain ⟨hx, hb, hts, hown, hml, hA, hin, hnf, hnl, hnc, hns⟩ := F
  simp only [wb_st] at hp
  intro adr cA L H locs J hR hxt hl hS
  split at hp
  · cases hp
    exact lv_i2b hx hb hd rfl (G adr cA L H locs J hR hxt hl hS)
  · cases hp
theorem wb_o_i2c (F : wb_fr p R s mth args meth c m A) (hd : decode (wb_b m) pc = .ok (.i2c, 1)) (hp : wb_pk (wb_st fz sc m pc (.i2c) x ls st h n) = some c') (G : wb_G p l e R s mth args below meth c Q fz m rv A D adr0 L0 c') : wb_G p l e R s mth args below meth c Q fz m rv A D adr0 L0 (pc, ls, st, h, n) := by
  obtain ⟨hx, hb, hts, hown, hml, hA, hin, hnf, hnl, hnc, hns⟩ := F
  simp only [wb_st] at hp
  intro adr cA L H locs J hR hxt hl hS
  split at hp
  · cases hp
    exact lv_i2c hx hb hd rfl (G adr cA L H locs J hR hxt hl hS)
  · cases hp
theorem wb_o_idiv (F : wb_fr p R s mth args meth c m A) (hd : decode (wb_b m) pc = .ok (.idiv, 1)) (hp : wb_pk (wb_st fz sc m pc (.idiv) x ls st h n) = some c') (G : wb_G p l e R s mth args below meth c Q fz m rv A D adr0 L0 c') : wb_G p l e R s mth args below meth c Q fz m rv A D adr0 L0 (pc, ls, st, h, n) := by
  obtain ⟨hx, hb, hts, hown, hml, hA, hin, hnf, hnl, hnc, hns⟩ := F
  simp only [wb_st] at hp
  intro adr cA L H locs J hR hxt hl hS
  split at hp
  · obtain ⟨h1, rfl⟩ := wb_pk_if hp
    simp only [Bool.not_eq_true', decide_eq_false_iff_not] at h1
    exact lv_idiv hx hb hd h1 (G adr cA L H locs J hR hxt hl hS)
  · cases hp
theorem wb_o_irem (F : wb_fr p R s mth args meth c m A) (hd : decode (wb_b m) pc = .ok (.irem, 1)) (hp : wb_pk (wb_st fz sc m pc (.irem) x ls st h n) = some c') (G : wb_G p l e R s mth args below meth c Q fz m rv A D adr0 L0 c') : wb_G p l e R s mth args below meth c Q fz m rv A D adr0 L0 (pc, ls, st, h, n) := by
  obtain ⟨hx, hb, hts, hown, hml, hA, hin, hnf, hnl, hnc, hns⟩ := F
  simp only [wb_st] at hp
  intro adr cA L H locs J hR hxt hl hS
  split at hp
  · obtain ⟨h1, rfl⟩ := wb_pk_if hp
    simp only [Bool.not_eq_true', decide_eq_false_iff_not] at h1
    exact lv_irem hx hb hd h1 (G adr cA L H locs J hR hxt hl hS)
  · cases hp
theorem wb_o_ldiv (F : wb_fr p R s mth args meth c m A) (hd : decode (wb_b m) pc = .ok (.ldiv, 1)) (hp : wb_pk (wb_st fz sc m pc (.ldiv) x ls st h n) = some c') (G : wb_G p l e R s mth args below meth c Q fz m rv A D adr0 L0 c') : wb_G p l e R s mth args below meth c Q fz m rv A D adr0 L0 (pc, ls, st, h, n) := by
  obtain ⟨hx, hb, hts, hown, hml, hA, hin, hnf, hnl, hnc, hns⟩ := F
  simp only [wb_st] at hp
  intro adr cA L H locs J hR hxt hl hS
  split at hp
  · obtain ⟨h1, rfl⟩ := wb_pk_if hp
    simp only [Bool.not_eq_true', decide_eq_false_iff_not] at h1
    exact lv_ldiv hx hb hd h1 (G adr cA L H locs J hR hxt hl hS)
  · cases hp
theorem wb_o_lrem (F : wb_fr p R s mth args meth c m A) (hd : decode (wb_b m) pc = .ok (.lrem, 1)) (hp : wb_pk (wb_st fz sc m pc (.lrem) x ls st h n) = some c') (G : wb_G p l e R s mth args below meth c Q fz m rv A D adr0 L0 c') : wb_G p l e R s mth args below meth c Q fz m rv A D adr0 L0 (pc, ls, st, h, n) := by
  obtain ⟨hx, hb, hts, hown, hml, hA, hin, hnf, hnl, hnc, hns⟩ := F
  simp only [wb_st] at hp
  intro adr cA L H locs J hR hxt hl hS
  split at hp
  · obtain ⟨h1, rfl⟩ := wb_pk_if hp
    simp only [Bool.not_eq_true', decide_eq_false_iff_not] at h1
    exact lv_lrem hx hb hd h1 (G adr cA L H locs J hR hxt hl hS)
  · cases hp
theorem wb_cat1 {adr : Nat → Nat → Nat} (hcat : ∀ t, rv t = .null ∨ ∃ a, rv t = .ref a) (r : Nat × Nat) : (wb_tv rv adr (.inr (.inr r))).category = 1 := by
  obtain ⟨t, o⟩ := r
  simp only [wb_tv]
  split
  · rcases hcat t with e | ⟨a, e⟩ <;> rw [e] <;> rfl
  · rfl
theorem wb_o_dup (F : wb_fr p R s mth args meth c m A) (hd : decode (wb_b m) pc = .ok (.dup, 1)) (hcat : ∀ t, rv t = .null ∨ ∃ a, rv t = .ref a) (hp : wb_pk (wb_st fz sc m pc (.dup) x ls st h n) = some c') (G : wb_G p l e R s mth args below meth c Q fz m rv A D adr0 L0 c') : wb_G p l e R s mth args below meth c Q fz m rv A D adr0 L0 (pc, ls, st, h, n) := by
  obtain ⟨hx, hb, hts, hown, hml, hA, hin, hnf, hnl, hnc, hns⟩ := F
  simp only [wb_st] at hp
  intro adr cA L H locs J hR hxt hl hS
  split at hp
  · cases hp
    exact lv_dup hx hb hd rfl (G adr cA L H locs J hR hxt hl hS)
  · cases hp
    exact lv_dup hx hb hd (wb_cat1 hcat _) (G adr cA L H locs J hR hxt hl hS)
  · cases hp
theorem wb_o_dup2 (F : wb_fr p R s mth args meth c m A) (hd : decode (wb_b m) pc = .ok (.dup2, 1)) (hcat : ∀ t, rv t = .null ∨ ∃ a, rv t = .ref a) (hp : wb_pk (wb_st fz sc m pc (.dup2) x ls st h n) = some c') (G : wb_G p l e R s mth args below meth c Q fz m rv A D adr0 L0 c') : wb_G p l e R s mth args below meth c Q fz m rv A D adr0 L0 (pc, ls, st, h, n) := by
  obtain ⟨hx, hb, hts, hown, hml, hA, hin, hnf, hnl, hnc, hns⟩ := F
  simp only [wb_st] at hp
  intro adr cA L H locs J hR hxt hl hS
  split at hp
  · cases hp
    exact lv_dup2_11 hx hb hd rfl (wb_cat1 hcat _) (G adr cA L H locs J hR hxt hl hS)
  · cases hp
theorem wb_o_pop (F : wb_fr p R s mth args meth c m A) (hd : decode (wb_b m) pc = .ok (.pop, 1)) (hp : wb_pk (wb_st fz sc m pc (.pop) x ls st h n) = some c') (G : wb_G p l e R s mth args below meth c Q fz m rv A D adr0 L0 c') : wb_G p l e R s mth args below meth c Q fz m rv A D adr0 L0 (pc, ls, st, h, n) := by
  obtain ⟨hx, hb, hts, hown, hml, hA, hin, hnf, hnl, hnc, hns⟩ := F
  simp only [wb_st] at hp
  intro adr cA L H locs J hR hxt hl hS
  split at hp
  · cases hp
    exact lv_pop hx hb hd rfl (G adr cA L H locs J hR hxt hl hS)
  · cases hp
theorem wb_o_icmp {cc : ClassFile.Cond} {off : Int} (F : wb_fr p R s mth args meth c m A) (hd : decode (wb_b m) pc = .ok (.if_icmp cc off, 3)) (ht : ∀ t, x = [t] → (pc : Int) + off = ((t : Nat) : Int)) (hp : wb_pk (wb_st fz sc m pc (.if_icmp cc off) x ls st h n) = some c') (G : wb_G p l e R s mth args below meth c Q fz m rv A D adr0 L0 c') : wb_G p l e R s mth args below meth c Q fz m rv A D adr0 L0 (pc, ls, st, h, n) := by
  obtain ⟨hx, hb, hts, hown, hml, hA, hin, hnf, hnl, hnc, hns⟩ := F
  simp only [wb_st] at hp
  intro adr cA L H locs J hR hxt hl hS
  split at hp
  · rename_i t b a st'
    have ht : (pc : Int) + off = ((t : Nat) : Int) := ht t rfl
    rcases wb_pk_br hp with ⟨h1, rfl⟩ | ⟨h1, rfl⟩
    · cases cc with
      | eq => exact lv_icmp_eq hx hb hd ht (fun _ => G adr cA L H locs J hR hxt hl hS) (fun q => absurd (by simpa [wb_cm] using h1) q)
      | ne => exact lv_icmp_ne hx hb hd ht (fun _ => G adr cA L H locs J hR hxt hl hS) (fun q => absurd q (by simpa [wb_cm] using h1))
      | lt => exact lv_icmp_lt hx hb hd ht (fun _ => G adr cA L H locs J hR hxt hl hS) (fun q => absurd (by simpa [wb_cm] using h1) q)
      | ge => exact lv_icmp_ge hx hb hd ht (fun _ => G adr cA L H locs J hR hxt hl hS) (fun q => absurd (by simpa [wb_cm] using h1) q)
      | gt => exact lv_icmp_gt hx hb hd ht (fun _ => G adr cA L H locs J hR hxt hl hS) (fun q => absurd (by simpa [wb_cm] using h1) q)
      | le => exact lv_icmp_le hx hb hd ht (fun _ => G adr cA L H locs J hR hxt hl hS) (fun q => absurd (by simpa [wb_cm] using h1) q)
    · cases cc with
      | eq => exact lv_icmp_eq hx hb hd ht (fun q => absurd q (by simpa [wb_cm] using h1)) (fun _ => G adr cA L H locs J hR hxt hl hS)
      | ne => exact lv_icmp_ne hx hb hd ht (fun q => absurd (by simpa [wb_cm] using h1) q) (fun _ => G adr cA L H locs J hR hxt hl hS)
      | lt => exact lv_icmp_lt hx hb hd ht (fun q => absurd q (by simpa [wb_cm] using h1)) (fun _ => G adr cA L H locs J hR hxt hl hS)
      | ge => exact lv_icmp_ge hx hb hd ht (fun q => absurd q (by simpa [wb_cm] using h1)) (fun _ => G adr cA L H locs J hR hxt hl hS)
      | gt => exact lv_icmp_gt hx hb hd ht (fun q => absurd q (by simpa [wb_cm] using h1)) (fun _ => G adr cA L H locs J hR hxt hl hS)
      | le => exact lv_icmp_le hx hb hd ht (fun q => absurd q (by simpa [wb_cm] using h1)) (fun _ => G adr cA L H locs J hR hxt hl hS)
  · cases hp
theorem wb_o_ifc {cc : ClassFile.Cond} {off : Int} (F : wb_fr p R s mth args meth c m A) (hd : decode (wb_b m) pc = .ok (.ifCond cc off, 3)) (ht : ∀ t, x = [t] → (pc : Int) + off = ((t : Nat) : Int)) (hp : wb_pk (wb_st fz sc m pc (.ifCond cc off) x ls st h n) = some c') (G : wb_G p l e R s mth args below meth c Q fz m rv A D adr0 L0 c') : wb_G p l e R s mth args below meth c Q fz m rv A D adr0 L0 (pc, ls, st, h, n) := by
  obtain ⟨hx, hb, hts, hown, hml, hA, hin, hnf, hnl, hnc, hns⟩ := F
  simp only [wb_st] at hp
  intro adr cA L H locs J hR hxt hl hS
  split at hp
  · rename_i t a st'
    have ht : (pc : Int) + off = ((t : Nat) : Int) := ht t rfl
    rcases wb_pk_br hp with ⟨h1, rfl⟩ | ⟨h1, rfl⟩
    · cases cc with
      | eq => exact lv_if_eq hx hb hd ht (fun _ => G adr cA L H locs J hR hxt hl hS) (fun q => absurd (by simpa [wb_cm] using h1) q)
      | ne => exact lv_if_ne hx hb hd ht (fun _ => G adr cA L H locs J hR hxt hl hS) (fun q => absurd q (by simpa [wb_cm] using h1))
      | lt => exact lv_if_lt hx hb hd ht (fun _ => G adr cA L H locs J hR hxt hl hS) (fun q => absurd (by simpa [wb_cm] using h1) q)
      | ge => exact lv_if_ge hx hb hd ht (fun _ => G adr cA L H locs J hR hxt hl hS) (fun q => absurd (by simpa [wb_cm] using h1) q)
      | gt => exact lv_if_gt hx hb hd ht (fun _ => G adr cA L H locs J hR hxt hl hS) (fun q => absurd (by simpa [wb_cm] using h1) q)
      | le => exact lv_if_le hx hb hd ht (fun _ => G adr cA L H locs J hR hxt hl hS) (fun q => absurd (by simpa [wb_cm] using h1) q)
    · cases cc with
      | eq => exact lv_if_eq hx hb hd ht (fun q => absurd q (by simpa [wb_cm] using h1)) (fun _ => G adr cA L H locs J hR hxt hl hS)
      | ne => exact lv_if_ne hx hb hd ht (fun q => absurd (by simpa [wb_cm] using h1) q) (fun _ => G adr cA L H locs J hR hxt hl hS)
      | lt => exact lv_if_lt hx hb hd ht (fun q => absurd q (by simpa [wb_cm] using h1)) (fun _ => G adr cA L H locs J hR hxt hl hS)
      | ge => exact lv_if_ge hx hb hd ht (fun q => absurd q (by simpa [wb_cm] using h1)) (fun _ => G adr cA L H locs J hR hxt hl hS)
      | gt => exact lv_if_gt hx hb hd ht (fun q => absurd q (by simpa [wb_cm] using h1)) (fun _ => G adr cA L H locs J hR hxt hl hS)
      | le => exact lv_if_le hx hb hd ht (fun q => absurd q (by simpa [wb_cm] using h1)) (fun _ => G adr cA L H locs J hR hxt hl hS)
  · cases hp
theorem wb_o_goto {off : Int} (F : wb_fr p R s mth args meth c m A) (hd : decode (wb_b m) pc = .ok (.goto off, 3)) (ht : ∀ t, x = [t] → (pc : Int) + off = ((t : Nat) : Int)) (hp : wb_pk (wb_st fz sc m pc (.goto off) x ls st h n) = some c') (G : wb_G p l e R s mth args below meth c Q fz m rv A D adr0 L0 c') : wb_G p l e R s mth args below meth c Q fz m rv A D adr0 L0 (pc, ls, st, h, n) := by
  obtain ⟨hx, hb, hts, hown, hml, hA, hin, hnf, hnl, hnc, hns⟩ := F
  simp only [wb_st] at hp
  intro adr cA L H locs J hR hxt hl hS
  split at hp
  · rename_i t
    cases hp
    exact lv_goto hx hb hd (ht t rfl) (G adr cA L H locs J hR hxt hl hS)
  · cases hp
end WBP
