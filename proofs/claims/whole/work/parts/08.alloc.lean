/-! What is made: objects, arrays; stores of references; Object's constructor; System.arraycopy. -/
def wb_ad (adr : Nat → Nat → Nat) (t o q : Nat) : Nat → Nat → Nat := fun t' o' => if t' = t ∧ o' = o then q else adr t' o'
def wb_dv : Nat → Value
  | 1 => .long 0
  | 2 => .null
  | _ => .int 0
theorem wb_std_all : ∀ t, t < wb_NT → (wb_shp t).1 = 5 → wb_shp (wb_rf t 0).1 = (0, 7) := by decide +kernel
section WBN
variable {p : Program} {l : Launch} {e : Env} {R : Room} {s : State} {mth : MethodId} {args : Array Value} {below : List Frame} {meth : Method} {c : Code} {Q : State → Prop}
variable {fz : Bool} {sc : wb_X} {m pc : Nat} {rv : Nat → Value} {A : Nat → Prop} {D : va_G} {adr0 : Nat → Nat → Nat} {L0 : List (Nat × Nat)} {x : List Nat} {ls : wb_L} {st : List wb_V} {h : wb_H} {n : wb_N} {c' : wb_C}
variable {adr : Nat → Nat → Nat} {cA : Nat → Nat → ClassId} {L : List (Nat × Nat)} {cn : Nat → Nat} {H : Heap}
theorem wb_ad_ne {t o q t' o' : Nat} (h : ¬ (t' = t ∧ o' = o)) : wb_ad adr t o q t' o' = adr t' o' := by
  simp only [wb_ad]; rw [if_neg h]
theorem wb_ad_self {t o q : Nat} : wb_ad adr t o q t o = q := by simp [wb_ad]
theorem wb_vok_ad {t q : Nat} {v : wb_V} (hv : wb_vok cn v = true) : wb_tv rv (wb_ad adr t (cn t) q) v = wb_tv rv adr v := by
  match v, hv with
  | .inl x, _ => rfl
  | .inr (.inl x), _ => rfl
  | .inr (.inr (t', o')), hv =>
    simp only [wb_tv]
    by_cases h10 : t' < 10
    · rw [if_pos h10, if_pos h10]
    · rw [if_neg h10, if_neg h10, wb_ad_ne]
      rintro ⟨rfl, rfl⟩
      simp only [wb_vok, Bool.or_eq_true, decide_eq_true_eq] at hv
      omega
theorem wb_aok_ad {t q : Nat} : ∀ {st : List wb_V}, wb_aok cn st = true → st.map (wb_tv rv (wb_ad adr t (cn t) q)) = st.map (wb_tv rv adr)
  | [], _ => rfl
  | v :: st, h => by
    simp only [wb_aok, Bool.and_eq_true] at h
    rw [List.map_cons, List.map_cons, wb_vok_ad h.1, wb_aok_ad h.2]
theorem wb_lok_g : ∀ {ls : wb_L} {k : Nat} {v : wb_V}, wb_lok cn ls = true → wb_g ls k = some v → wb_vok cn v = true
  | [], k, v, _, h => by simp [wb_g] at h
  | none :: l, 0, v, _, h => by simp [wb_g] at h
  | some w :: l, 0, v, hk, h => by
    simp only [wb_lok, Bool.and_eq_true] at hk
    simp [wb_g] at h
    rw [← h]; exact hk.1
  | none :: l, k + 1, v, hk, h => wb_lok_g (ls := l) (by simpa [wb_lok] using hk) (by simpa [wb_g] using h)
  | some w :: l, k + 1, v, hk, h => by
    simp only [wb_lok, Bool.and_eq_true] at hk
    exact wb_lok_g (ls := l) hk.2 (by simpa [wb_g] using h)
theorem wb_lc_ad {t q nL : Nat} {J : Array Slot} (hl : wb_lc (wb_tv rv adr) ls J nL) (hk : wb_lok cn ls = true) : wb_lc (wb_tv rv (wb_ad adr t (cn t) q)) ls J nL :=
  ⟨hl.1, hl.2.1, fun k v hv => by rw [wb_vok_ad (wb_lok_g hk hv)]; exact hl.2.2 k v hv⟩
/-- the world with one more -/
theorem wb_rep_new (hR : wb_rep false D adr cA L cn h A H s) {t q : Nat} {cq : ClassId} (ht : 10 ≤ t) {H1 : Heap} {en : va_E} (hen : en = wb_ent false adr (wb_ad cA t (cn t) cq) (wb_nw h t (cn t)) t (cn t))
    (hP : va_P D wb_cls (wb_wd false adr cA h L ++ [(q, en)]) H1) (hD : va_D A (wb_wd false adr cA h L ++ [(q, en)])) (hKA : (wb_shp t).1 ≠ 0 → ArrOfT s cq (wb_ty (wb_shp t).1) ∧ va_RA s cq (wb_ty (wb_shp t).1)) :
    wb_rep false D (wb_ad adr t (cn t) q) (wb_ad cA t (cn t) cq) (L ++ [(t, cn t)]) (wb_cu cn t) (wb_nw h t (cn t)) A H1 s ∧ ∀ y ∈ L, ¬ (y.1 = t ∧ y.2 = cn t) := by
  obtain ⟨⟨hn, hm, hv⟩, -, -, hK, hA⟩ := hR
  have hnew : ∀ y ∈ L, ¬ (y.1 = t ∧ y.2 = cn t) := by
    rintro ⟨t', o'⟩ hy ⟨e1, e2⟩
    have := (hm t' o').mp hy
    simp only at e1 e2
    subst e1
    omega
  have hM : ∀ t' o' k, (t', o') ∈ L → (wb_nw h t (cn t)).2.2 t' o' k = h.2.2 t' o' k := fun t' o' k hy => by
    simp only [wb_nw, wb_z]; rw [if_neg (hnew _ hy)]
  have hI : ∀ t' o', (t', o') ∈ L → (wb_nw h t (cn t)).1 t' o' = h.1 t' o' := fun t' o' hy => by
    funext k; simp only [wb_nw, wb_z]; rw [if_neg (hnew _ hy)]
  have hLn : ∀ t' o', (t', o') ∈ L → (wb_nw h t (cn t)).2.1 t' o' = h.2.1 t' o' := fun t' o' hy => by
    funext k; simp only [wb_nw, wb_z]; rw [if_neg (hnew _ hy)]
  have hold : ∀ y ∈ L, (wb_ad adr t (cn t) q y.1 y.2, wb_ent false (wb_ad adr t (cn t) q) (wb_ad cA t (cn t) cq) (wb_nw h t (cn t)) y.1 y.2) = (adr y.1 y.2, wb_ent false adr cA h y.1 y.2) := by
    rintro ⟨t', o'⟩ hy
    have h1 := hnew _ hy
    simp only at h1 ⊢
    rw [wb_ad_ne h1]
    congr 1
    have hc : wb_ad cA t (cn t) cq t' o' = cA t' o' := wb_ad_ne h1
    have hrq : ∀ k, (wb_shp t').1 = 0 → (wb_rq false (wb_nw h t (cn t)) t' o' k).map (wb_ad adr t (cn t) q (wb_rf t' k).1) = (wb_rq false h t' o' k).map (adr (wb_rf t' k).1) := by
      intro k h0
      simp only [wb_rq, wb_si, hM t' o' k hy]
      by_cases hz : h.2.2 t' o' k = 0
      · rw [if_pos hz]; rfl
      · rw [if_neg hz]
        have h2 := hv rfl t' o' k hy hz
        have h3 : wb_tg t' k = (wb_rf t' k).1 := by simp only [wb_tg]; rw [if_neg (by rw [h0]; decide)]
        rw [h3] at h2
        simp only [Option.map_some]
        rw [wb_ad_ne (hnew _ h2)]
    have hsq : ∀ k, (wb_shp t').1 = 5 → (wb_sq false (wb_nw h t (cn t)) t' o' k).map (wb_ad adr t (cn t) q (wb_rf t' 0).1) = (wb_sq false h t' o' k).map (adr (wb_rf t' 0).1) := by
      intro k h0
      simp only [wb_sq, wb_sa, hM t' o' k hy]
      by_cases hz : h.2.2 t' o' k = 0
      · rw [if_pos hz]; rfl
      · rw [if_neg hz]
        have h2 := hv rfl t' o' k hy hz
        have h3 : wb_tg t' k = (wb_rf t' 0).1 := by simp only [wb_tg]; rw [if_pos h0]
        rw [h3] at h2
        simp only [Option.map_some]
        rw [wb_ad_ne (hnew _ h2)]
    unfold wb_ent
    split
    · rename_i ci hsh
      congr 2
      refine List.map_congr_left fun k _ => ?_
      simp only [wb_fv, hI t' o' hy, hLn t' o' hy, hrq k (by rw [hsh])]
    · rw [hc, hLn t' o' hy]
    · rename_i len hsh
      rw [hc]
      simp only [hsq _ (by rw [hsh] : (wb_shp t').1 = 5)]
    · rw [hc, hI t' o' hy]
  have hwd : wb_wd false (wb_ad adr t (cn t) q) (wb_ad cA t (cn t) cq) (wb_nw h t (cn t)) (L ++ [(t, cn t)]) = wb_wd false adr cA h L ++ [(q, en)] := by
    rw [wb_wd, List.map_append, List.map_cons, List.map_nil, wb_wd]
    congr 1
    · exact List.map_congr_left hold
    · simp only [wb_ad_self, hen]
      congr 2
      have hz : ∀ k, (wb_nw h t (cn t)).2.2 t (cn t) k = 0 := fun k => by simp [wb_nw, wb_z]
      unfold wb_ent
      split
      · congr 2
        refine List.map_congr_left fun k _ => ?_
        simp only [wb_fv, wb_rq, wb_si, hz]
        rfl
      · rfl
      · simp only [wb_sq, wb_sa, hz]
        rfl
      · rfl
  refine ⟨⟨⟨?_, ?_, ?_⟩, by rw [hwd]; exact hP, by rw [hwd]; exact hD, hK, ?_⟩, hnew⟩
  · exact List.nodup_append.mpr ⟨hn, by simp, fun a ha b hb e => by
      rw [List.mem_singleton] at hb
      subst hb; subst e
      exact hnew _ ha ⟨rfl, rfl⟩⟩
  · intro t' o'
    rw [List.mem_append, List.mem_singleton, hm]
    simp only [wb_cu]
    constructor
    · rintro (⟨a, b⟩ | e)
      · refine ⟨a, ?_⟩
        split <;> first | (rename_i e; subst e; omega) | exact b
      · cases e; exact ⟨ht, by rw [if_pos rfl]; omega⟩
    · rintro ⟨a, b⟩
      by_cases e : t' = t
      · subst e
        rw [if_pos rfl] at b
        by_cases e2 : o' = cn t'
        · exact Or.inr (by rw [e2])
        · exact Or.inl ⟨a, by omega⟩
      · rw [if_neg e] at b
        exact Or.inl ⟨a, b⟩
  · intro _ t' o' k hy hne
    rcases List.mem_append.mp hy with hy | hy
    · rw [hM t' o' k hy] at hne ⊢
      exact List.mem_append_left _ (hv rfl t' o' k hy hne)
    · rw [List.mem_singleton] at hy
      cases hy
      exact absurd (by simp [wb_nw, wb_z]) hne
  · intro t' o' hy hk
    rcases List.mem_append.mp hy with hy | hy
    · rw [wb_ad_ne (hnew _ hy)]
      exact hA t' o' hy hk
    · rw [List.mem_singleton] at hy
      cases hy
      rw [wb_ad_self]
      exact hKA hk
/-- what comes after something is made -/
theorem wb_made {t k q pc' : Nat} {cq : ClassId} {locs : List Loc} {J : Array Slot} (hR : wb_rep false D adr cA L n.1 h A H s) (hxt : (∀ y ∈ L0, y ∈ L ∧ adr y.1 y.2 = adr0 y.1 y.2) ∧ (false = true → adr = adr0)) (hl : wb_lc (wb_tv rv adr) ls J (wb_pn m)) (ht : 10 ≤ t) (hok : wb_fok false n.1 ls st = true)
    (G : wb_G p l e R s mth args below meth c Q false m rv A D adr0 L0 (pc', ls, .inr (.inr (t, n.1 t)) :: st, wb_nw h t (n.1 t), (wb_cu n.1 t, n.2.1 + 1, n.2.2 + k)))
    {H1 : Heap} {en : va_E} (hen : en = wb_ent false adr (wb_ad cA t (n.1 t) cq) (wb_nw h t (n.1 t)) t (n.1 t)) (hP : va_P D wb_cls (wb_wd false adr cA h L ++ [(q, en)]) H1) (hD : va_D A (wb_wd false adr cA h L ++ [(q, en)])) (hS : va_S A s.heap H1 locs)
    (hKA : (wb_shp t).1 ≠ 0 → ArrOfT s cq (wb_ty (wb_shp t).1) ∧ va_RA s cq (wb_ty (wb_shp t).1)) : W p l e R s mth args below meth c H1 locs (n.2.1 + 1) (n.2.2 + k) Q (F0 mth pc' J (.ref q :: st.map (wb_tv rv adr))) := by
  simp only [wb_fok, Bool.and_eq_true] at hok
  obtain ⟨h1, h2⟩ := wb_rep_new hR ht hen hP hD hKA
  have G1 := G (wb_ad adr t (n.1 t) q) (wb_ad cA t (n.1 t) cq) (L ++ [(t, n.1 t)]) H1 locs J h1 ⟨fun y hy => ⟨List.mem_append_left _ (hxt.1 y hy).1, by rw [wb_ad_ne (h2 y (hxt.1 y hy).1)]; exact (hxt.1 y hy).2⟩, fun q => by cases q⟩ (wb_lc_ad hl hok.1) hS
  simp only [List.map_cons, wb_tvr ht, wb_ad_self, wb_aok_ad hok.2] at G1
  exact G1
theorem wb_pk_mk {t k q : Nat} (hp : wb_pk (wb_mk m t k q ls st h n) = some c') : wb_fok false n.1 ls st = true ∧ n.2.1 + 1 ≤ wb_mc m ∧ n.2.2 + k ≤ wb_ms m ∧ c' = (q, ls, .inr (.inr (t, n.1 t)) :: st, wb_nw h t (n.1 t), (wb_cu n.1 t, n.2.1 + 1, n.2.2 + k)) := by
  obtain ⟨h1, h2⟩ := wb_pk_if hp
  simp only [Bool.and_eq_true, decide_eq_true_eq] at h1
  exact ⟨h1.1.1, h1.1.2, h1.2, h2⟩
def wb_ckn (m idx : Nat) (x : List Nat) : Bool := match x with
  | t :: p1 :: p2 :: p3 :: _ => (match wb_shp t with
    | (0, ci) => (match wb_cls[ci]? with
      | some (C, T, N) => wb_at p1 (.classLink (wb_y m).cls idx C) && wb_at p2 (.instantiable C N) && wb_at p3 (.initialized C)
      | none => false)
    | _ => false)
  | _ => false
set_option maxHeartbeats 2000000 in
theorem wb_o_new {idx : Nat} (F : wb_fr p R s mth args meth c m A) (hd : decode (wb_b m) pc = .ok (.new idx, 3)) (hck : wb_ckn m idx x = true) (hp : wb_pk (wb_st fz sc m pc (.new idx) x ls st h n) = some c') (G : wb_G p l e R s mth args below meth c Q fz m rv A D adr0 L0 c') : wb_G p l e R s mth args below meth c Q fz m rv A D adr0 L0 (pc, ls, st, h, n) := by
  obtain ⟨hx, hb, hts, hown, hml, hA, hin, hnf, hnl, hnc, hns⟩ := F
  simp only [wb_st] at hp
  intro adr cA L H locs J hR hxt hl hS
  replace hR : wb_rep fz D adr cA L n.1 h A H s := hR
  unfold wb_ne at hp
  split at hp
  · rename_i t x'
    split at hp
    · rename_i ci hsh
      obtain ⟨h1, h2, h3, rfl⟩ := wb_pk_mk hp
      obtain ⟨ht10, hci, hrf⟩ := wb_tag_obj hsh
      obtain ⟨C, T, N, hcl, hN, hkk⟩ := wb_cls_at hci
      have hck2 : ∃ p1 p2 p3, wb_at p1 (.classLink (wb_y m).cls idx C) = true ∧ wb_at p2 (.instantiable C N) = true ∧ wb_at p3 (.initialized C) = true := by
        unfold wb_ckn at hck
        split at hck
        · rename_i t' p1 p2 p3 x'' e
          cases e
          rw [hsh] at hck
          simp only [hcl, Bool.and_eq_true] at hck
          exact ⟨_, _, _, hck.1.1, hck.1.2, hck.2⟩
        · cases hck
      obtain ⟨p1, p2, p3, w1, w2, w3⟩ := hck2
      have hY := wb_Yok hcl
      have hN2 : (wb_nth [] wb_fkl ci).length = N := hN.symm
      rw [hN2] at G h3
      refine va_new (D := D) (ci := ci) (C := C) (T := T) (N := N) (fs := (List.range (wb_nfd ci)).map (wb_fv false adr (wb_nw h t (n.1 t)) ci t (n.1 t))) hx hb hts (wb_uws hcl) (wb_Yf ci) hY.1 hown (hts _ (wb_at_in w1)) (hts _ (wb_at_in w2)) (hts _ (wb_at_in w3)) hR.2.2.2.1 hR.2.1 hR.2.2.1 hS hA hcl ?_ (by simp only at h2 ⊢; omega) (by simp only at h3 ⊢; omega) hd (fun q H1 q1 q2 q3 => ?_)
      · intro j hj
        have hfk9 : ∀ ci, ci < 12 → ∀ j, j < wb_nfd ci → wb_fk ci j = 0 ∨ wb_fk ci j = 1 ∨ wb_fk ci j = 2 ∨ wb_fk ci j = 3 := by decide +kernel
        have hv : wb_fv false adr (wb_nw h t (n.1 t)) ci t (n.1 t) j = wb_dv (wb_fk ci j) := by
          rcases hfk9 ci hci j (by rw [← hN]; exact hj) with q | q | q | q <;> simp [wb_fv, q, wb_rq, wb_si, wb_nw, wb_z, wb_dv, va_rf]
        rw [vp_V, List.getD_eq_getElem?_getD, List.getElem?_map, List.getElem?_range (by rw [← hN]; exact hj)]
        simp only [Option.map_some, Option.getD_some, hv]
        have hkd := (hkk j hj).1
        rw [← hkd]
        have hk9 : ∀ ty : FieldType, wb_kd ty = 0 ∨ wb_kd ty = 1 ∨ wb_kd ty = 2 ∨ wb_kd ty = 3 → defaultValue ty = wb_dv (wb_kd ty) := by
          intro ty hq
          cases ty <;> first | rfl | (simp [wb_kd] at hq)
        exact hk9 _ (by rw [hkd]; exact hfk9 ci hci j (by rw [← hN]; exact hj))
      · exact wb_made (cq := 0) hR hxt hl ht10 h1 G (by rw [wb_ent_obj hsh]) q1 q2 q3 (fun q => absurd (by rw [hsh]) q)
    · cases hp
  · cases hp
def wb_ckm (a : ArrayType) (x : List Nat) : Bool := match x with
  | t :: p1 :: _ => wb_at p1 (.arrayClass (newarray.typeOf a)) && decide (10 ≤ t) && decide ((wb_shp t).2 ≤ 10000)
  | _ => false
theorem wb_ofi_nat {k : Nat} (h : k ≤ 10000) : ¬ Int32.ofInt (k : Int) < 0 ∧ (Int32.ofInt (k : Int)).toNatClampNeg = k := by
  rw [← wb_ofn]
  exact ⟨nI_pos (by omega), nI_clamp (by omega)⟩
set_option maxHeartbeats 2000000 in
theorem wb_o_newarray {a : ArrayType} (F : wb_fr p R s mth args meth c m A) (hd : decode (wb_b m) pc = .ok (.newarray a, 2)) (hck : wb_ckm a x = true) (hp : wb_pk (wb_st fz sc m pc (.newarray a) x ls st h n) = some c') (G : wb_G p l e R s mth args below meth c Q fz m rv A D adr0 L0 c') : wb_G p l e R s mth args below meth c Q fz m rv A D adr0 L0 (pc, ls, st, h, n) := by
  obtain ⟨hx, hb, hts, hown, hml, hA, hin, hnf, hnl, hnc, hns⟩ := F
  simp only [wb_st] at hp
  intro adr cA L H locs J hR hxt hl hS
  replace hR : wb_rep fz D adr cA L n.1 h A H s := hR
  unfold wb_na at hp
  split at hp
  · rename_i t x' y st'
    have hK0 : va_K D wb_cls ([] : List (ClassId × FieldType)) s := hR.2.2.2.1
    have hzI : (wb_nw h t (n.1 t)).1 t (n.1 t) = fun _ => 0 := by funext k; simp [wb_nw, wb_z]
    have hzL : (wb_nw h t (n.1 t)).2.1 t (n.1 t) = fun _ => 0 := by funext k; simp [wb_nw, wb_z]
    obtain ⟨hat, ht10, hsz⟩ : (∃ p1, wb_at p1 (.arrayClass (newarray.typeOf a)) = true) ∧ 10 ≤ t ∧ (wb_shp t).2 ≤ 10000 := by
      unfold wb_ckm at hck
      split at hck
      · rename_i e
        cases e
        simp only [Bool.and_eq_true, decide_eq_true_eq] at hck
        exact ⟨⟨_, hck.1.1⟩, hck.1.2, hck.2⟩
      · cases hck
    obtain ⟨p1, hat⟩ := hat
    split at hp
    · rename_i k hy hsh
      obtain ⟨h1, h2, h3, rfl⟩ := wb_pk_mk hp
      have hy := of_decide_eq_true hy
      rw [hsh] at hy hsz
      subst hy
      obtain ⟨g1, g2⟩ := wb_ofi_nat hsz
      refine va_newa (atype := .int) (ty := .int) (N' := k) (a0 := (k, .inl (fun _ => 0))) hx hb (hts _ (wb_at_in hat)) rfl hK0 hR.2.1 hR.2.2.1 hS hA (fun _ => rfl) g1 g2 (by show k * 4 ≤ _; simp only at hsz; omega) (by simp only at h2 ⊢; omega) (by simp only at h3 ⊢; omega) hd (fun q cq H1 qK q1 q2 q3 => ?_)
      refine wb_made (cq := cq) hR hxt hl ht10 h1 G ?_ q1 q2 q3 (fun _ => by rw [hsh]; exact qK.2 0 _ rfl)
      rw [wb_ent_int hsh (Or.inl rfl), wb_ad_self, hzI]
    · rename_i k hy hsh
      obtain ⟨h1, h2, h3, rfl⟩ := wb_pk_mk hp
      have hy := of_decide_eq_true hy
      rw [hsh] at hy hsz
      subst hy
      obtain ⟨g1, g2⟩ := wb_ofi_nat hsz
      refine va_newa (atype := .byte) (ty := .byte) (N' := k) (a0 := (k, .inl (fun _ => 0))) hx hb (hts _ (wb_at_in hat)) rfl hK0 hR.2.1 hR.2.2.1 hS hA (fun _ => rfl) g1 g2 (by show k * 1 ≤ _; simp only at hsz; omega) (by simp only at h2 ⊢; omega) (by simp only at h3 ⊢; omega) hd (fun q cq H1 qK q1 q2 q3 => ?_)
      refine wb_made (cq := cq) hR hxt hl ht10 h1 G ?_ q1 q2 q3 (fun _ => by rw [hsh]; exact qK.2 0 _ rfl)
      rw [wb_ent_int hsh (Or.inr (Or.inl rfl)), wb_ad_self, hzI]
    · rename_i k hy hsh
      obtain ⟨h1, h2, h3, rfl⟩ := wb_pk_mk hp
      have hy := of_decide_eq_true hy
      rw [hsh] at hy hsz
      subst hy
      obtain ⟨g1, g2⟩ := wb_ofi_nat hsz
      refine va_newa (atype := .boolean) (ty := .boolean) (N' := k) (a0 := (k, .inl (fun _ => 0))) hx hb (hts _ (wb_at_in hat)) rfl hK0 hR.2.1 hR.2.2.1 hS hA (fun _ => rfl) g1 g2 (by show k * 1 ≤ _; simp only at hsz; omega) (by simp only at h2 ⊢; omega) (by simp only at h3 ⊢; omega) hd (fun q cq H1 qK q1 q2 q3 => ?_)
      refine wb_made (cq := cq) hR hxt hl ht10 h1 G ?_ q1 q2 q3 (fun _ => by rw [hsh]; exact qK.2 0 _ rfl)
      rw [wb_ent_int hsh (Or.inr (Or.inr rfl)), wb_ad_self, hzI]
    · rename_i k hy hsh
      obtain ⟨h1, h2, h3, rfl⟩ := wb_pk_mk hp
      have hy := of_decide_eq_true hy
      rw [hsh] at hy hsz
      subst hy
      obtain ⟨g1, g2⟩ := wb_ofi_nat hsz
      refine va_newa (atype := .long) (ty := .long) (N' := k) (a0 := (k, .inr (.inl (fun _ => 0)))) hx hb (hts _ (wb_at_in hat)) rfl hK0 hR.2.1 hR.2.2.1 hS hA (fun _ => rfl) g1 g2 (by show k * 8 ≤ _; simp only at hsz; omega) (by simp only at h2 ⊢; omega) (by simp only at h3 ⊢; omega) hd (fun q cq H1 qK q1 q2 q3 => ?_)
      refine wb_made (cq := cq) hR hxt hl ht10 h1 G ?_ q1 q2 q3 (fun _ => by rw [hsh]; exact qK.2 0 _ rfl)
      rw [wb_ent_long hsh, wb_ad_self, hzL]
    · cases hp
  · cases hp
def wb_cka (m idx : Nat) (x : List Nat) : Bool := match x with
  | t :: p1 :: p2 :: _ => wb_at p1 (.classLink (wb_y m).cls idx "WhichBin$Standing") && decide (10 ≤ t) && decide ((wb_shp t).2 ≤ 10000)
  | _ => false
set_option maxHeartbeats 2000000 in
theorem wb_o_anewarray {idx : Nat} (F : wb_fr p R s mth args meth c m A) (hd : decode (wb_b m) pc = .ok (.anewarray idx, 3)) (hck : wb_cka m idx x = true) (hro : wb_RO sc rv A s) (hp : wb_pk (wb_st fz sc m pc (.anewarray idx) x ls st h n) = some c') (G : wb_G p l e R s mth args below meth c Q fz m rv A D adr0 L0 c') : wb_G p l e R s mth args below meth c Q fz m rv A D adr0 L0 (pc, ls, st, h, n) := by
  obtain ⟨hx, hb, hts, hown, hml, hA, hin, hnf, hnl, hnc, hns⟩ := F
  simp only [wb_st] at hp
  intro adr cA L H locs J hR hxt hl hS
  replace hR : wb_rep fz D adr cA L n.1 h A H s := hR
  unfold wb_an at hp
  split at hp
  · rename_i t x' y st'
    have hK0 : va_K D wb_cls ([] : List (ClassId × FieldType)) s := hR.2.2.2.1
    obtain ⟨⟨p1, w1⟩, ht10, hsz⟩ : (∃ p1, wb_at p1 (.classLink (wb_y m).cls idx "WhichBin$Standing") = true) ∧ 10 ≤ t ∧ (wb_shp t).2 ≤ 10000 := by
      unfold wb_cka at hck
      split at hck
      · rename_i e
        cases e
        simp only [Bool.and_eq_true, decide_eq_true_eq] at hck
        exact ⟨⟨_, hck.1.1⟩, hck.1.2, hck.2⟩
      · cases hck
    split at hp
    · rename_i k hy hsh
      obtain ⟨h1, h2, h3, rfl⟩ := wb_pk_mk hp
      have hy := of_decide_eq_true hy
      rw [hsh] at hy hsz
      subst hy
      obtain ⟨g1, g2⟩ := wb_ofi_nat hsz
      have hAO : va_AO "WhichBin$Standing" s := hro.2.2.2.2.2.2.2.2.2.2.2.2
      refine va_newq (C := "WhichBin$Standing") (N' := k) hx hb hown (hts _ (wb_at_in w1)) hAO hK0 hR.2.1 hR.2.2.1 hS hA g1 g2 (by simp only at hsz; omega) (by simp only at h2 ⊢; omega) (by simp only at h3 ⊢; omega) hd (fun q cq H1 qK q1 q2 q3 => ?_)
      refine wb_made (cq := cq) hR hxt hl ht10 h1 G ?_ q1 q2 q3 (fun _ => by rw [hsh]; exact qK.2 0 _ rfl)
      rw [wb_ent_ref hsh, wb_ad_self]
      congr 7
      funext j
      simp [wb_sq, wb_sa, wb_nw, wb_z]
    · cases hp
  · cases hp
set_option maxHeartbeats 2000000 in
theorem wb_o_aastore (F : wb_fr p R s mth args meth c m A) (hd : decode (wb_b m) pc = .ok (.aastore, 1)) (hp : wb_pk (wb_st fz sc m pc .aastore x ls st h n) = some c') (G : wb_G p l e R s mth args below meth c Q fz m rv A D adr0 L0 c') : wb_G p l e R s mth args below meth c Q fz m rv A D adr0 L0 (pc, ls, st, h, n) := by
  obtain ⟨hx, hb, hts, hown, hml, hA, hin, hnf, hnl, hnc, hns⟩ := F
  simp only [wb_st] at hp
  intro adr cA L H locs J hR hxt hl hS
  replace hR : wb_rep fz D adr cA L n.1 h A H s := hR
  unfold wb_qs at hp
  split at hp
  · rename_i t' o' i t o st'
    split at hp
    · rename_i len hsh
      split at hp
      · rename_i hbt
        have hbt := Nat.eq_of_beq_eq_true hbt
        obtain ⟨h1, rfl⟩ := wb_pk_if hp
        simp only [Bool.and_eq_true, decide_eq_true_eq] at h1
        obtain ⟨ht, hr10⟩ := wb_tag_arr hsh
        have hst := wb_std_all t (wb_shp_rng (by rw [hsh]; exact (by decide : (5 : Nat) ≠ 9))).2 (by rw [hsh])
        rw [hbt] at hr10 hst
        obtain ⟨j, hj, hwd⟩ := wb_rep_at hR ht h1.1.1
        obtain ⟨j2, hj2, hwd2⟩ := wb_rep_at hR hr10 h1.2
        rw [wb_ent_ref hsh] at hwd
        rw [wb_ent_obj hst] at hwd2
        have hK := wb_K1 hR ht h1.1.1 (by rw [hsh]; exact (by decide : (5 : Nat) ≠ 0))
        rw [hsh] at hK
        rw [List.map_cons, List.map_cons, List.map_cons, wb_tvr ht, wb_tvr hr10]
        refine va_astq (ci := 7) (r := (wb_C7, wb_T7, 8)) hx hb hK hR.2.1 hR.2.2.1 hS j 0 j2 hwd rfl hwd2 rfl (wb_vin h1.1.2) hd (fun H1 locs1 q1 q2 q3 => ?_)
        refine G adr cA L H1 locs1 J (wb_rep_set (h' := wb_mu h t o i.toNatClampNeg (o' + 1)) hR hj ?_ (fun t' o' hne => wb_ent_congr rfl rfl (wb_u_ne hne)) ?_ q1 q2) hxt hl q3
        · refine ⟨hR.1.1, hR.1.2.1, fun q t2 o2 k2 hm2 hne => ?_⟩
          by_cases he : t2 = t ∧ o2 = o ∧ k2 = i.toNatClampNeg
          · obtain ⟨rfl, rfl, rfl⟩ := he
            have e1 : (wb_mu h t2 o2 i.toNatClampNeg (o' + 1)).2.2 t2 o2 i.toNatClampNeg = o' + 1 := by simp [wb_mu, wb_u]
            rw [e1]
            have e2 : wb_tg t2 i.toNatClampNeg = t' := by simp [wb_tg, hsh, hbt]
            rw [e2]
            exact (hR.1.2.1 t' o').mpr ⟨hr10, h1.2⟩
          · have e1 : (wb_mu h t o i.toNatClampNeg (o' + 1)).2.2 t2 o2 k2 = h.2.2 t2 o2 k2 := by simp only [wb_mu, wb_u]; rw [if_neg he]
            rw [e1] at hne ⊢
            exact hR.1.2.2 q t2 o2 k2 hm2 hne
        · rw [wb_ent_ref hsh]
          congr 7
          funext j3
          simp only [va_up, wb_sq, wb_sa, wb_mu, wb_u, true_and]
          by_cases hj3 : j3 = i.toNatClampNeg
          · rw [if_pos hj3, if_pos hj3]
            simp [hbt]
          · rw [if_neg hj3, if_neg hj3]
      · cases hp
    · cases hp
  · cases hp
theorem wb_rw_sum (hcat : ∀ t, rv t = .null ∨ ∃ a, rv t = .ref a) : ∀ st : List wb_V, ((st.map (wb_tv rv adr)).map fun v => v.category).sum = wb_rw st
  | [] => rfl
  | v :: st => by
    have ih := wb_rw_sum hcat st
    simp only [wb_rw, List.map_cons, List.sum_cons] at ih ⊢
    rw [ih]
    congr 1
    match v with
    | .inl _ => rfl
    | .inr (.inl _) => rfl
    | .inr (.inr r) => exact wb_cat1 hcat r
def wb_cki (m idx : Nat) (x : List Nat) : Bool := match x with
  | [0, p1, p2, p3] => wb_at p1 (.methodLink (wb_y m).cls idx Lib.objectInit) && wb_at p2 (.instanceMethod Lib.objectInit) && wb_at p3 (.code Lib.objectInit ⟨#[0xb1]⟩ 1 none) && decide (1 ≤ wb_nf m) && decide (20 ≤ wb_nl m)
  | _ => false
set_option maxHeartbeats 2000000 in
theorem wb_o_objinit {idx : Nat} (F : wb_fr p R s mth args meth c m A) (hd : decode (wb_b m) pc = .ok (.invokespecial idx, 3)) (hck : wb_cki m idx x = true) (hcat : ∀ t, rv t = .null ∨ ∃ a, rv t = .ref a) (hp : wb_pk (wb_st fz sc m pc (.invokespecial idx) x ls st h n) = some c') (G : wb_G p l e R s mth args below meth c Q fz m rv A D adr0 L0 c') : wb_G p l e R s mth args below meth c Q fz m rv A D adr0 L0 (pc, ls, st, h, n) := by
  obtain ⟨hx, hb, hts, hown, hml, hA, hin, hnf, hnl, hnc, hns⟩ := F
  simp only [wb_st] at hp
  intro adr cA L H locs J hR hxt hl hS
  replace hR : wb_rep fz D adr cA L n.1 h A H s := hR
  unfold wb_cki at hck
  split at hck
  · rename_i p1 p2 p3
    simp only [Bool.and_eq_true, decide_eq_true_eq] at hck
    obtain ⟨⟨⟨⟨w1, w2⟩, w3⟩, hf⟩, hlo⟩ := hck
    simp only [wb_ca] at hp
    split at hp
    · rename_i t o st'
      split at hp
      · rename_i hb2
        simp only [Bool.and_eq_true, decide_eq_true_eq] at hb2
        cases hp
        rw [List.map_cons, wb_tvr hb2.1]
        exact W.objInit hx hb hown (hts _ (wb_at_in w1)) (hts _ (wb_at_in w2)) (hts _ (wb_at_in w3)) rfl (by show J.size = _; rw [hml]; exact hl.1) rfl hd (by omega) (by
          show 2 * 0 + _ + 12 ≤ R.locals
          rw [wb_rw_sum hcat]; omega) (G adr cA L H locs J hR hxt hl hS)
      · cases hp
    · cases hp
  · cases hck
def wb_ckx (m idx : Nat) (x : List Nat) : Bool := match x with
  | [1, p1, p2, p3, p4] => wb_at p1 (.methodLink (wb_y m).cls idx arraycopyName) && wb_at p2 (.native arraycopyName) && wb_at p3 (.static arraycopyName) && wb_at p4 (.initialized "java/lang/System") && decide (1 ≤ wb_nf m) && decide (8 + (nativeFrameWords "java/lang/System" "arraycopy" 5 + 11) ≤ wb_nl m)
  | _ => false
set_option maxHeartbeats 4000000 in
theorem wb_o_copy {idx : Nat} (F : wb_fr p R s mth args meth c m A) (hd : decode (wb_b m) pc = .ok (.invokestatic idx, 3)) (hck : wb_ckx m idx x = true) (hcat : ∀ t, rv t = .null ∨ ∃ a, rv t = .ref a) (hp : wb_pk (wb_st fz sc m pc (.invokestatic idx) x ls st h n) = some c') (G : wb_G p l e R s mth args below meth c Q fz m rv A D adr0 L0 c') : wb_G p l e R s mth args below meth c Q fz m rv A D adr0 L0 (pc, ls, st, h, n) := by
  obtain ⟨hx, hb, hts, hown, hml, hA, hin, hnf, hnl, hnc, hns⟩ := F
  simp only [wb_st] at hp
  intro adr cA L H locs J hR hxt hl hS
  replace hR : wb_rep fz D adr cA L n.1 h A H s := hR
  unfold wb_ckx at hck
  split at hck
  · rename_i p1 p2 p3 p4
    simp only [Bool.and_eq_true, decide_eq_true_eq] at hck
    obtain ⟨⟨⟨⟨⟨w1, w2⟩, w3⟩, w4⟩, hf⟩, hlo⟩ := hck
    simp only [wb_ca] at hp
    split at hp
    · rename_i cc d t2 o2 sp t o st'
      split at hp
      · rename_i l1 l2 hs1 hs2 hrw
        have hrw := of_decide_eq_true hrw
        obtain ⟨h1, rfl⟩ := wb_pk_if hp
        simp only [Bool.and_eq_true, decide_eq_true_eq, Bool.not_eq_true', decide_eq_false_iff_not] at h1
        obtain ⟨⟨ho, ho2⟩, ⟨⟨⟨hc1, hc2⟩, hc3⟩, hc4⟩, hc5⟩ := h1
        have ht := wb_sh10 hs1 (by decide)
        have ht2 := wb_sh10 hs2 (by decide)
        obtain ⟨j, hj, hwd⟩ := wb_rep_at hR ht ho
        obtain ⟨j2, hj2, hwd2⟩ := wb_rep_at hR ht2 ho2
        rw [wb_ent_int hs1 (Or.inl rfl)] at hwd
        rw [wb_ent_int hs2 (Or.inl rfl)] at hwd2
        have hK1 := wb_K1 hR ht ho (by rw [hs1]; exact (by decide : (1 : Nat) ≠ 0))
        have hK2 := wb_K1 hR ht2 ho2 (by rw [hs2]; exact (by decide : (1 : Nat) ≠ 0))
        rw [hs1] at hK1
        rw [hs2] at hK2
        have hK := hK1.app hK2
        rw [List.map_cons, List.map_cons, List.map_cons, List.map_cons, List.map_cons, wb_tvr ht, wb_tvr ht2]
        refine va_copyi (ty := .int) hx hb (by rw [hml]; exact hl.1.symm) hown (hts _ (wb_at_in w1)) (hts _ (wb_at_in w2)) (hts _ (wb_at_in w3)) (hts _ (wb_at_in w4)) hK hR.2.1 hR.2.2.1 hS j j2 0 1 hwd hwd2 rfl rfl rfl hc1 hc2 hc3 hc4 hc5 (fun _ _ => rfl) (by omega) (by rw [wb_rw_sum hcat]; omega) hd (fun H1 locs1 q1 q2 q3 => ?_)
        refine G adr cA L H1 locs1 J (wb_rep_set (h' := (wb_cp h.1 t o sp.toNatClampNeg t2 o2 d.toNatClampNeg cc.toNatClampNeg, h.2)) hR hj2 hR.1 (fun t' o' hne => wb_ent_congr ?_ rfl rfl) ?_ q1 q2) hxt hl q3
        · funext k'
          simp only [wb_cp]
          rw [if_neg]
          rintro ⟨⟨a, b⟩, -⟩
          exact hne (by rw [a, b])
        · rw [wb_ent_int hs2 (Or.inl rfl)]
          congr 4
          funext k'
          simp [wb_cp, va_cpy]
      · cases hp
    · cases hp
  · cases hck
end WBN
