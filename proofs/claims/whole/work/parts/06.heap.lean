/-! Instructions on fields, arrays, statics. -/
theorem wb_uwsg : ∀ q ∈ wb_cls, (u_ws q.1 q.2.1 q.2.2).all goodWord = true := by decide +kernel
theorem wb_uws {ci : Nat} {C : String} {T : u_T} {N : Nat} (h : wb_cls[ci]? = some (C, T, N)) : ∀ w ∈ u_ws C T N, w ∈ wb_TB := by
  intro w hw
  refine List.mem_filter.mpr ⟨?_, List.all_eq_true.mp (wb_uwsg _ (List.mem_of_getElem? h)) w hw⟩
  match ci, h with
  | 0, h => cases h; exact wb_in0 w hw
  | 1, h => cases h; exact wb_in1 w hw
  | 2, h => cases h; exact wb_in2 w hw
  | 3, h => cases h; exact wb_in3 w hw
  | 4, h => cases h; exact wb_in4 w hw
  | 5, h => cases h; exact wb_in5 w hw
  | 6, h => cases h; exact wb_in6 w hw
  | 7, h => cases h; exact wb_in7 w hw
  | 8, h => cases h; exact wb_in8 w hw
  | 9, h => cases h; exact wb_in9 w hw
  | 10, h => cases h; exact wb_in10 w hw
  | 11, h => cases h; exact wb_in11 w hw
  | k + 12, h => simp at h
def wb_Yf : Nat → Nat → FieldType
  | 0 => wb_Y0 | 1 => wb_Y1 | 2 => wb_Y2 | 3 => wb_Y3 | 4 => wb_Y4 | 5 => wb_Y5 | 6 => wb_Y6 | 7 => wb_Y7 | 8 => wb_Y8 | 9 => wb_Y9 | 10 => wb_Y10 | _ => wb_Y11
theorem wb_Yok {ci : Nat} {C : String} {T : u_T} {N : Nat} (h : wb_cls[ci]? = some (C, T, N)) : (∀ k, k < N → parseFieldDescriptor (T k).2.2.1 = some (wb_Yf ci k)) ∧ (∀ a, a < N → ∀ b, b < N → a ≠ b → (T a).2.1 ≠ (T b).2.1) := by
  match ci, h with
  | 0, h => cases h; exact ⟨wb_ty0, wb_nm0⟩
  | 1, h => cases h; exact ⟨wb_ty1, wb_nm1⟩
  | 2, h => cases h; exact ⟨wb_ty2, wb_nm2⟩
  | 3, h => cases h; exact ⟨wb_ty3, wb_nm3⟩
  | 4, h => cases h; exact ⟨wb_ty4, wb_nm4⟩
  | 5, h => cases h; exact ⟨wb_ty5, wb_nm5⟩
  | 6, h => cases h; exact ⟨wb_ty6, wb_nm6⟩
  | 7, h => cases h; exact ⟨wb_ty7, wb_nm7⟩
  | 8, h => cases h; exact ⟨wb_ty8, wb_nm8⟩
  | 9, h => cases h; exact ⟨wb_ty9, wb_nm9⟩
  | 10, h => cases h; exact ⟨wb_ty10, wb_nm10⟩
  | 11, h => cases h; exact ⟨wb_ty11, wb_nm11⟩
  | k + 12, h => simp at h
def wb_kd : FieldType → Nat
  | .int => 0
  | .long => 1
  | .object _ => 2
  | .array _ => 2
  | .boolean => 3
  | _ => 9
/-- the class tables agree: number of fields, kinds, and the targets of references -/
def wb_ckc (ci : Nat) : Bool := match wb_cls[ci]? with
  | some (C, T, N) => decide (N = wb_nfd ci) && (List.range N).all (fun k => decide (wb_kd (wb_Yf ci k) = wb_fk ci k) && decide ((T k).1 = C))
  | none => false
theorem wb_ckc_all : ∀ ci, ci < 12 → wb_ckc ci = true := by decide +kernel
theorem wb_cls_at {ci : Nat} (h : ci < 12) : ∃ C T N, wb_cls[ci]? = some (C, T, N) ∧ N = wb_nfd ci ∧ ∀ k, k < N → wb_kd (wb_Yf ci k) = wb_fk ci k ∧ (T k).1 = C := by
  have h1 := wb_ckc_all ci h
  unfold wb_ckc at h1
  split at h1
  · rename_i C T N e
    simp only [Bool.and_eq_true, decide_eq_true_eq, List.all_eq_true, List.mem_range] at h1
    exact ⟨C, T, N, e, h1.1, fun k hk => h1.2 k hk⟩
  · cases h1
theorem wb_nth_ge {α : Type} (d : α) : ∀ (l : List α) (k : Nat), l.length ≤ k → wb_nth d l k = d
  | [], _, _ => rfl
  | _ :: l, 0, h => by simp at h
  | _ :: l, k + 1, h => wb_nth_ge d l k (by simpa using h)
theorem wb_shl_len : wb_shl.length = wb_NT := by decide +kernel
theorem wb_shl_low : ∀ t, t < 10 → (wb_shp t).1 = 9 := by decide +kernel
theorem wb_shp_rng {t : Nat} (h : (wb_shp t).1 ≠ 9) : 10 ≤ t ∧ t < wb_NT := by
  refine ⟨Nat.not_lt.mp fun q => h (wb_shl_low t q), Nat.not_le.mp fun q => h ?_⟩
  rw [wb_shp, wb_nth_ge _ _ _ (by rw [wb_shl_len]; exact q)]
/-- tags: an object's class is a class; a reference goes to a tag of objects -/
def wb_ckt (t : Nat) : Bool := match wb_shp t with
  | (0, ci) => decide (ci < 12) && (List.range (wb_nfd ci)).all (fun k => !decide (wb_fk ci k = 2) || decide (10 ≤ (wb_rf t k).1))
  | (5, _) => decide (10 ≤ (wb_rf t 0).1)
  | _ => true
theorem wb_ckt_all : ∀ t, t < wb_NT → wb_ckt t = true := by decide +kernel
theorem wb_tag_obj {t ci : Nat} (h : wb_shp t = (0, ci)) : 10 ≤ t ∧ ci < 12 ∧ ∀ k, k < wb_nfd ci → wb_fk ci k = 2 → 10 ≤ (wb_rf t k).1 := by
  obtain ⟨h1, h2⟩ := wb_shp_rng (t := t) (by rw [h]; exact (by decide : (0 : Nat) ≠ 9))
  have h3 := wb_ckt_all t h2
  unfold wb_ckt at h3
  rw [h] at h3
  simp only [Bool.and_eq_true, decide_eq_true_eq, List.all_eq_true, List.mem_range, Bool.or_eq_true, Bool.not_eq_true', decide_eq_false_iff_not] at h3
  exact ⟨h1, h3.1, fun k hk h2 => (h3.2 k hk).resolve_left (fun q => q h2)⟩
theorem wb_tag_arr {t n : Nat} (h : wb_shp t = (5, n)) : 10 ≤ t ∧ 10 ≤ (wb_rf t 0).1 := by
  obtain ⟨h1, h2⟩ := wb_shp_rng (t := t) (by rw [h]; exact (by decide : (5 : Nat) ≠ 9))
  have h3 := wb_ckt_all t h2
  unfold wb_ckt at h3
  rw [h] at h3
  exact ⟨h1, of_decide_eq_true h3⟩
theorem wb_ent_congr {fz : Bool} {adr : Nat → Nat → Nat} {cA : Nat → Nat → ClassId} {h h' : wb_H} {t o : Nat} (e1 : h'.1 t o = h.1 t o) (e2 : h'.2.1 t o = h.2.1 t o) (e3 : h'.2.2 t o = h.2.2 t o) : wb_ent fz adr cA h' t o = wb_ent fz adr cA h t o := by
  have f1 : ∀ ci k, wb_fv fz adr h' ci t o k = wb_fv fz adr h ci t o k := fun ci k => by simp only [wb_fv, wb_rq, e1, e2, e3]
  have f2 : wb_fv fz adr h' = wb_fv fz adr h ∨ True := Or.inr trivial
  unfold wb_ent
  split
  · congr 2
    exact List.map_congr_left fun k _ => f1 _ k
  · rw [e2]
  · simp only [wb_sq, e3]
  · rw [e1]
theorem wb_wd_at {fz : Bool} {adr : Nat → Nat → Nat} {cA : Nat → Nat → ClassId} {h : wb_H} {L : List (Nat × Nat)} {i t o : Nat} (hi : L[i]? = some (t, o)) : (wb_wd fz adr cA h L)[i]? = some (adr t o, wb_ent fz adr cA h t o) := by
  rw [wb_wd, List.getElem?_map, hi]; rfl
theorem wb_wd_set {fz : Bool} {adr : Nat → Nat → Nat} {cA : Nat → Nat → ClassId} {h h' : wb_H} {L : List (Nat × Nat)} {i t o : Nat} (hn : L.Nodup) (hi : L[i]? = some (t, o)) (he : ∀ t' o', (t', o') ≠ (t, o) → wb_ent fz adr cA h' t' o' = wb_ent fz adr cA h t' o') :
    (wb_wd fz adr cA h L).set i (adr t o, wb_ent fz adr cA h' t o) = wb_wd fz adr cA h' L := by
  apply List.ext_getElem?
  intro j
  by_cases hj : j = i
  · subst hj
    rw [wb_wd_at hi, List.getElem?_set_self (by rw [wb_wd, List.length_map]; exact (List.getElem?_eq_some_iff.mp hi).1)]
  · rw [List.getElem?_set_ne (Ne.symm hj), wb_wd, wb_wd, List.getElem?_map, List.getElem?_map]
    cases hq : L[j]? with
    | none => rfl
    | some q =>
      have hne : q ≠ (t, o) := by
        intro e
        subst e
        exact hj ((List.getElem?_inj (List.getElem?_eq_some_iff.mp hq).1 hn).mp (hq.trans hi.symm))
      simp only [Option.map_some]
      rw [he q.1 q.2 hne]
theorem wb_u_ne {α : Type} {f : Nat → Nat → Nat → α} {t o k : Nat} {v : α} {t' o' : Nat} (h : (t', o') ≠ (t, o)) : wb_u f t o k v t' o' = f t' o' := by
  funext k'
  simp only [wb_u]
  rw [if_neg]
  rintro ⟨a, b, -⟩
  exact h (by rw [a, b])
theorem wb_u_self {α : Type} {f : Nat → Nat → Nat → α} {t o k : Nat} {v : α} : wb_u f t o k v t o = fun j => if j = k then v else f t o j := by
  funext k'
  simp [wb_u]
section WBQ
variable {p : Program} {l : Launch} {e : Env} {R : Room} {s : State} {mth : MethodId} {args : Array Value} {below : List Frame} {meth : Method} {c : Code} {Q : State → Prop}
variable {fz : Bool} {sc : wb_X} {m pc : Nat} {rv : Nat → Value} {A : Nat → Prop} {D : va_G} {adr0 : Nat → Nat → Nat} {L0 : List (Nat × Nat)} {x : List Nat} {ls : wb_L} {st : List wb_V} {h : wb_H} {n : wb_N} {c' : wb_C}
variable {adr : Nat → Nat → Nat} {cA : Nat → Nat → ClassId} {L : List (Nat × Nat)} {cn : Nat → Nat} {H : Heap}
theorem wb_rep_at (hR : wb_rep fz D adr cA L cn h A H s) {t o : Nat} (ht : 10 ≤ t) (ho : o < cn t) : ∃ i : Nat, L[i]? = some (t, o) ∧ (wb_wd fz adr cA h L)[i]? = some (adr t o, wb_ent fz adr cA h t o) := by
  obtain ⟨i, hi⟩ := List.getElem?_of_mem ((hR.1.2.1 t o).mpr ⟨ht, ho⟩)
  exact ⟨i, hi, wb_wd_at hi⟩
theorem wb_rep_set (hR : wb_rep fz D adr cA L cn h A H s) {i t o : Nat} {h' : wb_H} {H1 : Heap} (hi : L[i]? = some (t, o)) (hok : wb_ok fz L cn h') (he : ∀ t' o', (t', o') ≠ (t, o) → wb_ent fz adr cA h' t' o' = wb_ent fz adr cA h t' o')
    {en : va_E} (hen : en = wb_ent fz adr cA h' t o) (hP : va_P D wb_cls ((wb_wd fz adr cA h L).set i (adr t o, en)) H1) (hD : va_D A ((wb_wd fz adr cA h L).set i (adr t o, en))) : wb_rep fz D adr cA L cn h' A H1 s := by
  subst hen
  rw [wb_wd_set hR.1.1 hi he] at hP hD
  exact ⟨hok, hP, hD, hR.2.2.2.1, hR.2.2.2.2⟩
theorem wb_K1 (hR : wb_rep fz D adr cA L cn h A H s) {t o : Nat} (ht : 10 ≤ t) (ho : o < cn t) (hk : (wb_shp t).1 ≠ 0) : va_K D wb_cls [(cA t o, wb_ty (wb_shp t).1)] s := by
  refine ⟨hR.2.2.2.1.1, fun k q hq => ?_⟩
  have hz : k = 0 := by
    have := (List.getElem?_eq_some_iff.mp hq).1
    simp at this; exact this
  subst hz
  cases hq
  exact hR.2.2.2.2 t o ((hR.1.2.1 t o).mpr ⟨ht, ho⟩) hk
theorem wb_vin {i : Int32} {k : Nat} (h : wb_in i k = true) : vp_in i k := by
  simp only [wb_in, Bool.and_eq_true, Bool.not_eq_true', decide_eq_false_iff_not, decide_eq_true_eq] at h
  rintro (q | q)
  · exact h.1 q
  · omega
theorem wb_tvr {t o : Nat} (ht : 10 ≤ t) : wb_tv rv adr (.inr (.inr (t, o))) = .ref (adr t o) := by
  simp only [wb_tv]
  rw [if_neg (Nat.not_lt.mpr ht)]
/-- a word at its place in the tables -/
def wb_at (i : Nat) (w : Cond) : Bool := decide (lw_tbl[i]? = some w) && goodWord w
def wb_atn (i : Nat) (w : Cond) : Bool := decide (lw_tbl[i]? = some w) && wb_isN w
theorem wb_atn_in {i : Nat} {w : Cond} (h : wb_atn i w = true) (hro : wb_RO sc rv A s) : va_Nw w s := by
  simp only [wb_atn, Bool.and_eq_true, decide_eq_true_eq] at h
  exact hro.2.2.2.2.2.2.2.2.2.2.2.1 w (List.mem_of_getElem? h.1) h.2
theorem wb_at_in {i : Nat} {w : Cond} (h : wb_at i w = true) : w ∈ wb_TB := by
  simp only [wb_at, Bool.and_eq_true, decide_eq_true_eq] at h
  exact List.mem_filter.mpr ⟨List.mem_of_getElem? h.1, h.2⟩
def wb_ckg (m idx : Nat) (x : List Nat) : Bool := match x with
  | 100 :: 0 :: _ :: pos :: _ => wb_at pos (.fieldLink (wb_y m).cls idx "java/lang/String" "value" "[B")
  | 100 :: 1 :: _ :: pos :: _ => wb_at pos (.fieldLink (wb_y m).cls idx "java/lang/String" "coder" "B")
  | ci :: k :: ty :: pos :: _ => (match wb_cls[ci]? with
    | some (C, T, N) => decide (k < N) && wb_at pos (.fieldLink (wb_y m).cls idx C (T k).2.1 (T k).2.2.1) && (decide (wb_fk ci k = ty) || (decide (wb_fk ci k = 3) && decide (ty = 0)))
    | none => false)
  | _ => false
set_option maxHeartbeats 4000000 in
theorem wb_o_getfield {idx : Nat} (F : wb_fr p R s mth args meth c m A) (hd : decode (wb_b m) pc = .ok (.getfield idx, 3)) (hck : wb_ckg m idx x = true) (hro : wb_RO sc rv A s) (hp : wb_pk (wb_st fz sc m pc (.getfield idx) x ls st h n) = some c') (G : wb_G p l e R s mth args below meth c Q fz m rv A D adr0 L0 c') : wb_G p l e R s mth args below meth c Q fz m rv A D adr0 L0 (pc, ls, st, h, n) := by
  obtain ⟨hx, hb, hts, hown, hml, hA, hin, hnf, hnl, hnc, hns⟩ := F
  simp only [wb_st] at hp
  intro adr cA L H locs J hR hxt hl hS
  have hR : wb_rep fz D adr cA L n.1 h A H s := hR
  unfold wb_gf at hp
  split at hp
  · rename_i k x' t o st'
    split at hp
    · rename_i v hv
      cases hp
      have G1 := G adr cA L H locs J hR hxt hl hS
      unfold wb_str at hv
      split at hv
      · cases hv
        obtain ⟨a, ha, h1, h2, h3⟩ := hro.2.2.2.1 5 (Or.inl rfl)
        have hr : wb_tv rv adr (.inr (.inr (5, o))) = .ref a := by simp only [wb_tv]; rw [if_pos (by decide)]; exact ha
        have hr7 : wb_tv rv adr (.inr (.inr (7, 0))) = rv 7 := by simp only [wb_tv]; rw [if_pos (by decide)]
        simp only [List.map_cons, hr, hr7] at G1 ⊢
        match x', hck with
        | _ :: pos :: _, hck => exact vk_getf hx hb h2 hS hown (hts _ (wb_at_in hck)) (fun _ z => z) hd G1
      · cases hv
        obtain ⟨a, ha, h1, h2, h3⟩ := hro.2.2.2.1 6 (Or.inr rfl)
        have hr : wb_tv rv adr (.inr (.inr (6, o))) = .ref a := by simp only [wb_tv]; rw [if_pos (by decide)]; exact ha
        have hr7 : wb_tv rv adr (.inr (.inr (8, 0))) = rv 8 := by simp only [wb_tv]; rw [if_pos (by decide)]
        simp only [List.map_cons, hr, hr7] at G1 ⊢
        match x', hck with
        | _ :: pos :: _, hck => exact vk_getf hx hb h2 hS hown (hts _ (wb_at_in hck)) (fun _ z => z) hd G1
      · cases hv
        obtain ⟨a, ha, h1, h2, h3⟩ := hro.2.2.2.1 5 (Or.inl rfl)
        have hr : wb_tv rv adr (.inr (.inr (5, o))) = .ref a := by simp only [wb_tv]; rw [if_pos (by decide)]; exact ha
        simp only [List.map_cons, hr] at G1 ⊢
        match x', hck with
        | _ :: pos :: _, hck => exact vk_getf hx hb h3 hS hown (hts _ (wb_at_in hck)) (fun _ z => z) hd G1
      · cases hv
        obtain ⟨a, ha, h1, h2, h3⟩ := hro.2.2.2.1 6 (Or.inr rfl)
        have hr : wb_tv rv adr (.inr (.inr (6, o))) = .ref a := by simp only [wb_tv]; rw [if_pos (by decide)]; exact ha
        simp only [List.map_cons, hr] at G1 ⊢
        match x', hck with
        | _ :: pos :: _, hck => exact vk_getf hx hb h3 hS hown (hts _ (wb_at_in hck)) (fun _ z => z) hd G1
      · cases hv
    · cases hp
  · rename_i ci k ty x' t o st' hne
    split at hp
    · rename_i hsh
      rw [Bool.and_eq_true] at hsh
      have hsh : wb_shp t = (0, ci) := Prod.ext (Nat.eq_of_beq_eq_true hsh.1) (Nat.eq_of_beq_eq_true hsh.2)
      obtain ⟨ht10, hci, hrf⟩ := wb_tag_obj hsh
      obtain ⟨C, T, N, hcl, hN, hkk⟩ := wb_cls_at hci
      have hck2 : k < N ∧ (∃ pos, wb_at pos (.fieldLink (wb_y m).cls idx C (T k).2.1 (T k).2.2.1) = true) ∧ (wb_fk ci k = ty ∨ (wb_fk ci k = 3 ∧ ty = 0)) := by
        unfold wb_ckg at hck
        split at hck
        · rename_i e; cases e; exact absurd hci (by decide)
        · rename_i e; cases e; exact absurd hci (by decide)
        · rename_i e
          cases e
          rw [hcl] at hck
          simp only [Bool.and_eq_true, Bool.or_eq_true, decide_eq_true_eq] at hck
          exact ⟨hck.1.1, ⟨_, hck.1.2⟩, hck.2⟩
        · cases hck
      obtain ⟨hkN, ⟨pos, hw⟩, hfk⟩ := hck2
      have hw := hts _ (wb_at_in hw)
      have hsame : ∀ y, s.fieldFound? (T k).1 (T k).2.1 (T k).2.2.1 = some y → s.fieldFound? C (T k).2.1 (T k).2.2.1 = some y := by
        rw [(hkk k hkN).2]; exact fun _ z => z
      have key : o < n.1 t → W p l e R s mth args below meth c H locs n.2.1 n.2.2 Q (F0 mth (pc + 3) J (wb_fv fz adr h ci t o k :: st'.map (wb_tv rv adr))) → W p l e R s mth args below meth c H locs n.2.1 n.2.2 Q (F0 mth pc J (.ref (adr t o) :: st'.map (wb_tv rv adr))) := by
        intro ho hW
        obtain ⟨i, hi, hwd⟩ := wb_rep_at hR ht10 ho
        have hent : wb_ent fz adr cA h t o = .inr (ci, (List.range (wb_nfd ci)).map (wb_fv fz adr h ci t o)) := by unfold wb_ent; rw [hsh]; rfl
        rw [hent] at hwd
        exact va_get (D := D) (ci := ci) (C := C) (T := T) (N := N) hx hb hts (wb_uws hcl) hown hR.2.2.2.1 hR.2.1 i hwd hcl k hkN hw hsame (by rw [List.getElem?_map, List.getElem?_range (by rw [← hN]; exact hkN)]; rfl) hd hW
      split at hp
      · obtain ⟨h1, rfl⟩ := wb_pk_if hp
        have h1 := of_decide_eq_true h1
        have G1 := G adr cA L H locs J hR hxt hl hS
        have hfv : wb_fv fz adr h ci t o k = .int (h.1 t o k) := by
          rcases hfk with q | ⟨q, -⟩ <;> simp [wb_fv, q]
        rw [List.map_cons, wb_tvr ht10]
        exact key h1 (by rw [hfv]; exact G1)
      · obtain ⟨h1, rfl⟩ := wb_pk_if hp
        have h1 := of_decide_eq_true h1
        have G1 := G adr cA L H locs J hR hxt hl hS
        have hfv : wb_fv fz adr h ci t o k = .long (h.2.1 t o k) := by
          rcases hfk with q | ⟨-, q⟩
          · simp [wb_fv, q]
          · cases q
        rw [List.map_cons, wb_tvr ht10]
        exact key h1 (by rw [hfv]; exact G1)
      · have hk2 : wb_fk ci k = 2 := by
          rcases hfk with q | ⟨-, q⟩
          · exact q
          · cases q
        have hr10 := hrf k (by rw [← hN]; exact hkN) hk2
        split at hp
        · rename_i j hj
          obtain ⟨h1, rfl⟩ := wb_pk_if hp
          have h1 := of_decide_eq_true h1
          have G1 := G adr cA L H locs J hR hxt hl hS
          have hfv : wb_fv fz adr h ci t o k = .ref (adr (wb_rf t k).1 j) := by simp [wb_fv, hk2, wb_rq, hj, va_rf]
          rw [List.map_cons, wb_tvr ht10]
          refine key h1 ?_
          rw [hfv]
          have e1 := wb_tvr (rv := rv) (adr := adr) (o := j) hr10
          simp only [List.map_cons, e1] at G1
          exact G1
        · rename_i hj
          obtain ⟨h1, rfl⟩ := wb_pk_if hp
          simp only [Bool.and_eq_true, decide_eq_true_eq] at h1
          have G1 := G adr cA L H locs J hR hxt hl hS
          have hfv : wb_fv fz adr h ci t o k = .ref (adr (wb_rf t k).1 (h.2.2 t o k - 1)) := by
            simp only [wb_fv, hk2, wb_rq, hj]
            rw [if_neg (by omega)]
            rfl
          rw [List.map_cons, wb_tvr ht10]
          refine key h1.1 ?_
          rw [hfv]
          have e1 := wb_tvr (rv := rv) (adr := adr) (o := h.2.2 t o k - 1) hr10
          simp only [List.map_cons, e1] at G1
          exact G1
      · cases hp
    · cases hp
  · cases hp

theorem wb_ent_obj {t o ci : Nat} (hsh : wb_shp t = (0, ci)) : wb_ent fz adr cA h t o = .inr (ci, (List.range (wb_nfd ci)).map (wb_fv fz adr h ci t o)) := by
  unfold wb_ent; rw [hsh]; rfl
theorem wb_ent_int {t o k len : Nat} (hsh : wb_shp t = (k, len)) (hk : k = 1 ∨ k = 2 ∨ k = 3) : wb_ent fz adr cA h t o = .inl (cA t o, len, .inl (h.1 t o)) := by
  unfold wb_ent; rw [hsh]
  rcases hk with rfl | rfl | rfl <;> rfl
theorem wb_ent_long {t o len : Nat} (hsh : wb_shp t = (4, len)) : wb_ent fz adr cA h t o = .inl (cA t o, len, .inr (.inl (h.2.1 t o))) := by
  unfold wb_ent; rw [hsh]; rfl
theorem wb_ent_ref {t o len : Nat} (hsh : wb_shp t = (5, len)) : wb_ent fz adr cA h t o = .inl (cA t o, len, .inr (.inr (.inr (.inr (fun j => (wb_sq fz h t o j).map (adr (wb_rf t 0).1)))))) := by
  unfold wb_ent; rw [hsh]; rfl
theorem wb_fs_set {α : Type} {N k : Nat} {F F' : Nat → α} {v : α} (h1 : ∀ j, j ≠ k → F' j = F j) (h2 : F' k = v) : ((List.range N).map F).set k v = (List.range N).map F' := by
  apply List.ext_getElem?
  intro j
  by_cases hj : j = k
  · subst hj
    by_cases hl : j < N
    · rw [List.getElem?_set_self (by simpa using hl), List.getElem?_map, List.getElem?_range hl, ← h2]; rfl
    · rw [List.getElem?_eq_none (by simp; omega), List.getElem?_eq_none (by simp; omega)]
  · rw [List.getElem?_set_ne (Ne.symm hj), List.getElem?_map, List.getElem?_map]
    by_cases hl : j < N
    · rw [List.getElem?_range hl]; simp [h1 j hj]
    · rw [List.getElem?_eq_none (by simp; omega)]; rfl
theorem wb_fv_congr {h' : wb_H} {ci t o j : Nat} (e1 : h'.1 t o j = h.1 t o j) (e2 : h'.2.1 t o j = h.2.1 t o j) (e3 : h'.2.2 t o j = h.2.2 t o j) : wb_fv fz adr h' ci t o j = wb_fv fz adr h ci t o j := by
  simp only [wb_fv, wb_rq, e1, e2, e3]
theorem wb_u_nk {α : Type} {f : Nat → Nat → Nat → α} {t o k j : Nat} {v : α} (hj : j ≠ k) : wb_u f t o k v t o j = f t o j := by
  simp only [wb_u]; rw [if_neg]; exact fun q => hj q.2.2
theorem wb_kd0 {ty : FieldType} (h : wb_kd ty = 0) : ty = .int := by cases ty <;> first | rfl | cases h
theorem wb_kd1 {ty : FieldType} (h : wb_kd ty = 1) : ty = .long := by cases ty <;> first | rfl | cases h
theorem wb_kd3 {ty : FieldType} (h : wb_kd ty = 3) : ty = .boolean := by cases ty <;> first | rfl | cases h
theorem wb_kd2 {ty : FieldType} (h : wb_kd ty = 2) : (∃ n, ty = .object n) ∨ ∃ t, ty = .array t := by
  cases ty with
  | object n => exact Or.inl ⟨n, rfl⟩
  | array t => exact Or.inr ⟨t, rfl⟩
  | _ => cases h
def wb_ckp (m idx : Nat) (x : List Nat) : Bool := match x with
  | ci :: k :: ty :: pos :: _ => (match wb_cls[ci]? with
    | some (C, T, N) => decide (k < N) && wb_at pos (.fieldLink (wb_y m).cls idx C (T k).2.1 (T k).2.2.1) && decide (wb_fk ci k = ty) && (!(T k).2.2.2 || (decide ((wb_y m).name = "<init>") && decide (C = (wb_y m).cls)))
    | none => false)
  | _ => false
theorem wb_nb_or {v : Int32} (h : wb_nb v = true) : v = 0 ∨ v = 1 := by
  simp only [wb_nb, Bool.or_eq_true, decide_eq_true_eq] at h
  rcases h with h | h
  · exact Or.inl h
  · exact Or.inr h
set_option maxHeartbeats 4000000 in
theorem wb_o_putfield {idx : Nat} (F : wb_fr p R s mth args meth c m A) (hd : decode (wb_b m) pc = .ok (.putfield idx, 3)) (hck : wb_ckp m idx x = true) (hp : wb_pk (wb_st fz sc m pc (.putfield idx) x ls st h n) = some c') (G : wb_G p l e R s mth args below meth c Q fz m rv A D adr0 L0 c') : wb_G p l e R s mth args below meth c Q fz m rv A D adr0 L0 (pc, ls, st, h, n) := by
  obtain ⟨hx, hb, hts, hown, hml, hA, hin, hnf, hnl, hnc, hns⟩ := F
  simp only [wb_st] at hp
  intro adr cA L H locs J hR hxt hl hS
  have hR : wb_rep fz D adr cA L n.1 h A H s := hR
  unfold wb_pf at hp
  split at hp
  · rename_i ci k ty x' v t o st'
    split at hp
    · rename_i hsh
      rw [Bool.and_eq_true] at hsh
      have hsh : wb_shp t = (0, ci) := Prod.ext (Nat.eq_of_beq_eq_true hsh.1) (Nat.eq_of_beq_eq_true hsh.2)
      obtain ⟨ht10, hci, hrf⟩ := wb_tag_obj hsh
      obtain ⟨C, T, N, hcl, hN, hkk⟩ := wb_cls_at hci
      have hck2 : k < N ∧ (∃ pos, wb_at pos (.fieldLink (wb_y m).cls idx C (T k).2.1 (T k).2.2.1) = true) ∧ wb_fk ci k = ty ∧ ((T k).2.2.2 = false ∨ ((wb_y m).name = "<init>" ∧ C = (wb_y m).cls)) := by
        unfold wb_ckp at hck
        split at hck
        · rename_i e
          cases e
          rw [hcl] at hck
          simp only [Bool.and_eq_true, Bool.or_eq_true, decide_eq_true_eq, Bool.not_eq_true'] at hck
          exact ⟨hck.1.1.1, ⟨_, hck.1.1.2⟩, hck.1.2, hck.2⟩
        · cases hck
      obtain ⟨hkN, ⟨pos, hw⟩, hfk, hfin⟩ := hck2
      have hw := hts _ (wb_at_in hw)
      have hsame : ∀ y, s.fieldFound? (T k).1 (T k).2.1 (T k).2.2.1 = some y → s.fieldFound? C (T k).2.1 (T k).2.2.1 = some y := by
        rw [(hkk k hkN).2]; exact fun _ z => z
      have hY := wb_Yok hcl
      have key : ∀ (h' : wb_H) (val : Value), o < n.1 t → narrow (wb_Yf ci k) val = val → fits (wb_Yf ci k) val = true → wb_ok fz L n.1 h' → (∀ t' o', (t', o') ≠ (t, o) → wb_ent fz adr cA h' t' o' = wb_ent fz adr cA h t' o') →
          (∀ j, j ≠ k → wb_fv fz adr h' ci t o j = wb_fv fz adr h ci t o j) → wb_fv fz adr h' ci t o k = val → wb_G p l e R s mth args below meth c Q fz m rv A D adr0 L0 (pc + 3, ls, st', h', n) →
          W p l e R s mth args below meth c H locs n.2.1 n.2.2 Q (F0 mth pc J (val :: .ref (adr t o) :: st'.map (wb_tv rv adr))) := by
        intro h' val ho hn1 hf1 hok he hj hk1 G'
        obtain ⟨i, hi, hwd⟩ := wb_rep_at hR ht10 ho
        rw [wb_ent_obj hsh] at hwd
        have hen : (Sum.inr (ci, ((List.range (wb_nfd ci)).map (wb_fv fz adr h ci t o)).set k val) : va_E) = wb_ent fz adr cA h' t o := by
          rw [wb_ent_obj hsh, wb_fs_set hj hk1]
        have kk : ∀ (H1 : Heap) (locs1 : List Loc), va_P D wb_cls ((wb_wd fz adr cA h L).set i (adr t o, .inr (ci, ((List.range (wb_nfd ci)).map (wb_fv fz adr h ci t o)).set k val))) H1 → va_D A ((wb_wd fz adr cA h L).set i (adr t o, .inr (ci, ((List.range (wb_nfd ci)).map (wb_fv fz adr h ci t o)).set k val))) → va_S A s.heap H1 locs1 → W p l e R s mth args below meth c H1 locs1 n.2.1 n.2.2 Q (F0 mth (pc + 3) J (st'.map (wb_tv rv adr))) :=
          fun H1 locs1 q1 q2 q3 => G' adr cA L H1 locs1 J (wb_rep_set hR hi hok he hen q1 q2) hxt hl q3
        cases hfv : (T k).2.2.2 with
        | false => exact va_put (D := D) (ci := ci) (C := C) (T := T) (N := N) (ty := wb_Yf ci k) hx hb hts (wb_uws hcl) (wb_Yf ci) hY.1 hY.2 hown hR.2.2.2.1 hR.2.1 hR.2.2.1 hS i hwd hcl k hkN hw hsame hfv (hY.1 k hkN) hn1 hf1 (by rw [List.length_map, List.length_range, ← hN]; exact hkN) hd kk
        | true =>
          obtain ⟨q1, q2⟩ : (wb_y m).name = "<init>" ∧ C = (wb_y m).cls := by
            rcases hfin with q | q
            · rw [hfv] at q; cases q
            · exact q
          exact va_putF (D := D) (ci := ci) (C := C) (T := T) (N := N) (ty := wb_Yf ci k) hx hb hts (wb_uws hcl) (wb_Yf ci) hY.1 hY.2 hown hR.2.2.2.1 hR.2.1 hR.2.2.1 hS i hwd hcl k hkN hw hsame hfv (hin q1) (by rw [(hkk k hkN).2]; exact q2) (hY.1 k hkN) hn1 hf1 (by rw [List.length_map, List.length_range, ← hN]; exact hkN) hd kk
      have hkd := (hkk k hkN).1
      rw [hfk] at hkd
      have hei : ∀ y t' o', (t', o') ≠ (t, o) → wb_ent fz adr cA (wb_iu h t o k y) t' o' = wb_ent fz adr cA h t' o' := fun y t' o' hne => wb_ent_congr (wb_u_ne hne) rfl rfl
      have hel : ∀ y t' o', (t', o') ≠ (t, o) → wb_ent fz adr cA (wb_lu h t o k y) t' o' = wb_ent fz adr cA h t' o' := fun y t' o' hne => wb_ent_congr rfl (wb_u_ne hne) rfl
      have hem : ∀ y t' o', (t', o') ≠ (t, o) → wb_ent fz adr cA (wb_mu h t o k y) t' o' = wb_ent fz adr cA h t' o' := fun y t' o' hne => wb_ent_congr rfl rfl (wb_u_ne hne)
      have hji : ∀ y j, j ≠ k → wb_fv fz adr (wb_iu h t o k y) ci t o j = wb_fv fz adr h ci t o j := fun y j hj => wb_fv_congr (wb_u_nk hj) rfl rfl
      have hjl : ∀ y j, j ≠ k → wb_fv fz adr (wb_lu h t o k y) ci t o j = wb_fv fz adr h ci t o j := fun y j hj => wb_fv_congr rfl (wb_u_nk hj) rfl
      have hjm : ∀ y j, j ≠ k → wb_fv fz adr (wb_mu h t o k y) ci t o j = wb_fv fz adr h ci t o j := fun y j hj => wb_fv_congr rfl rfl (wb_u_nk hj)
      split at hp
      · rename_i y
        obtain ⟨h1, rfl⟩ := wb_pk_if hp
        rw [List.map_cons, List.map_cons, wb_tvr ht10]
        exact key (wb_iu h t o k y) (.int y) (of_decide_eq_true h1) (by rw [wb_kd0 hkd]; rfl) (by rw [wb_kd0 hkd]; rfl) hR.1 (hei y) (hji y) (by simp [wb_fv, hfk, wb_iu, wb_u]) G
      · rename_i y
        obtain ⟨h1, rfl⟩ := wb_pk_if hp
        rw [Bool.and_eq_true] at h1
        rw [List.map_cons, List.map_cons, wb_tvr ht10]
        have hy := wb_nb_or h1.2
        exact key (wb_iu h t o k y) (.int y) (of_decide_eq_true h1.1) (by rw [wb_kd3 hkd]; rcases hy with rfl | rfl <;> rfl) (by rw [wb_kd3 hkd]; rcases hy with rfl | rfl <;> rfl) hR.1 (hei y) (hji y) (by simp [wb_fv, hfk, wb_iu, wb_u]) G
      · rename_i y
        obtain ⟨h1, rfl⟩ := wb_pk_if hp
        rw [List.map_cons, List.map_cons, wb_tvr ht10]
        exact key (wb_lu h t o k y) (.long y) (of_decide_eq_true h1) (by rw [wb_kd1 hkd]; rfl) (by rw [wb_kd1 hkd]; rfl) hR.1 (hel y) (hjl y) (by simp [wb_fv, hfk, wb_lu, wb_u]) G
      · rename_i t' o'
        split at hp
        · rename_i hbt hsi
          have hbt := Nat.eq_of_beq_eq_true hbt
          obtain ⟨h1, rfl⟩ := wb_pk_if hp
          simp only [Bool.and_eq_true, decide_eq_true_eq] at h1
          have hr10 := hrf k (by rw [← hN]; exact hkN) hfk
          rw [hbt] at hr10
          rw [List.map_cons, List.map_cons, wb_tvr ht10, wb_tvr hr10]
          have hfr : ∀ tt, (wb_Yf ci k = .object tt → True) := fun _ _ => trivial
          refine key (wb_mu h t o k (o' + 1)) (.ref (adr t' o')) h1.1 ?_ ?_ ?_ (hem (o' + 1)) (hjm (o' + 1)) ?_ G
          · rcases wb_kd2 hkd with ⟨a, e⟩ | ⟨a, e⟩ <;> rw [e] <;> rfl
          · rcases wb_kd2 hkd with ⟨a, e⟩ | ⟨a, e⟩ <;> rw [e] <;> rfl
          · refine ⟨hR.1.1, hR.1.2.1, fun q t2 o2 k2 hm2 hne => ?_⟩
            by_cases he : t2 = t ∧ o2 = o ∧ k2 = k
            · obtain ⟨rfl, rfl, rfl⟩ := he
              have e1 : (wb_mu h t2 o2 k2 (o' + 1)).2.2 t2 o2 k2 = o' + 1 := by simp [wb_mu, wb_u]
              rw [e1]
              have e2 : wb_tg t2 k2 = t' := by simp [wb_tg, hsh, hbt]
              rw [e2]
              exact (hR.1.2.1 t' o').mpr ⟨hr10, h1.2⟩
            · have e1 : (wb_mu h t o k (o' + 1)).2.2 t2 o2 k2 = h.2.2 t2 o2 k2 := by simp only [wb_mu, wb_u]; rw [if_neg he]
              rw [e1] at hne ⊢
              exact hR.1.2.2 q t2 o2 k2 hm2 hne
          · simp only [wb_fv, hfk, wb_rq]
            rw [hsi]
            simp [wb_mu, wb_u, va_rf, hbt]
        · cases hp
      · cases hp
    · cases hp
  · cases hp
end WBQ
