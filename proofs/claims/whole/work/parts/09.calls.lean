/-! Calls and returns. -/
def wb_ws (y : Nat) : List Cond := Cond.code (wb_y y) (wb_b y) (wb_pn y) (wb_r y) :: wb_TB
def wb_rm (y : Nat) : Room := { frames := wb_nf y, cells := wb_mc y, slots := wb_ms y, locals := wb_nl y }
theorem wb_TB_good {w : Cond} (h : w ∈ wb_TB) : (w.onTables && w.keeps) = true ∨ ∃ ty, w = .arrayClass ty := good_of_word (List.mem_filter.mp h).2
theorem wb_goodIn {y : Nat} (h : Cond.code (wb_y y) (wb_b y) (wb_pn y) (wb_r y) ∈ wb_TB) : GoodIn wb_TB (wb_ws y) := by
  intro w hw
  rcases List.mem_cons.mp hw with e | hw
  · subst e; exact ⟨h, wb_TB_good h⟩
  · exact ⟨hw, wb_TB_good hw⟩
theorem wb_pop_ok : ∀ (k : Nat) (acc st : List wb_V) (as st' : List wb_V), wb_pop k acc st = some (as, st') → ∃ bs, bs.length = k ∧ as = bs ++ acc ∧ st = bs.reverse ++ st'
  | 0, acc, st, as, st', h => by
    simp only [wb_pop, Option.some.injEq, Prod.mk.injEq] at h
    exact ⟨[], rfl, h.1.symm, h.2⟩
  | k + 1, acc, [], as, st', h => by cases h
  | k + 1, acc, v :: st, as, st', h => by
    obtain ⟨bs, h1, h2, h3⟩ := wb_pop_ok k (v :: acc) st as st' h
    exact ⟨bs ++ [v], by simp [h1], by simp [h2], by simp [h3]⟩
theorem wb_el_has {rv : Nat → Value} {adr : Nat → Nat → Nat} (hcat : ∀ t, rv t = .null ∨ ∃ a, rv t = .ref a) : ∀ (as : List wb_V) (n i : Nat) (v : wb_V) (k : Nat), wb_g (wb_el as n) k = some v → (i + k, wb_tv rv adr v) ∈ lv_args i (as.map (wb_tv rv adr))
  | _, 0, i, v, k, h => by simp [wb_el, wb_g] at h
  | [], n + 1, i, v, 0, h => by simp [wb_el, wb_g] at h
  | [], n + 1, i, v, k + 1, h => by
    have := wb_el_has (adr := adr) hcat [] n (i + 1) v k (by simpa [wb_el, wb_g] using h)
    simp [lv_args] at this
  | .inr (.inl x) :: as, n + 1, i, v, 0, h => by
    cases n <;> simp [wb_el, wb_g] at h <;> (subst h; exact List.mem_cons_self)
  | .inr (.inl x) :: as, 1, i, v, k + 1, h => by simp [wb_el, wb_g] at h
  | .inr (.inl x) :: as, n + 2, i, v, 1, h => by simp [wb_el, wb_g] at h
  | .inr (.inl x) :: as, n + 2, i, v, k + 2, h => by
    have := wb_el_has (adr := adr) hcat as n (i + 2) v k (by simpa [wb_el, wb_g] using h)
    refine List.mem_cons_of_mem _ ?_
    have e : (if (Value.long x).category = 2 then i + 2 else i + 1) = i + 2 := rfl
    rw [show wb_tv rv adr (.inr (.inl x)) = .long x from rfl, e, show i + (k + 2) = i + 2 + k by omega]
    exact this
  | .inl x :: as, n + 1, i, v, 0, h => by
    simp [wb_el, wb_g] at h
    subst h
    exact List.mem_cons_self
  | .inl x :: as, n + 1, i, v, k + 1, h => by
    have := wb_el_has (adr := adr) hcat as n (i + 1) v k (by simpa [wb_el, wb_g] using h)
    refine List.mem_cons_of_mem _ ?_
    have e : (if (Value.int x).category = 2 then i + 2 else i + 1) = i + 1 := rfl
    rw [show wb_tv rv adr (.inl x) = .int x from rfl, e, show i + (k + 1) = i + 1 + k by omega]
    exact this
  | .inr (.inr r) :: as, n + 1, i, v, 0, h => by
    simp [wb_el, wb_g] at h
    subst h
    exact List.mem_cons_self
  | .inr (.inr r) :: as, n + 1, i, v, k + 1, h => by
    have := wb_el_has (adr := adr) hcat as n (i + 1) v k (by simpa [wb_el, wb_g] using h)
    refine List.mem_cons_of_mem _ ?_
    have e : (if (wb_tv rv adr (.inr (.inr r))).category = 2 then i + 2 else i + 1) = i + 1 := by
      rw [if_neg]
      rw [wb_cat1 hcat]; decide
    rw [e, show i + (k + 1) = i + 1 + k by omega]
    exact this
theorem wb_sl_len {rv : Nat → Value} {adr : Nat → Nat → Nat} (hcat : ∀ t, rv t = .null ∨ ∃ a, rv t = .ref a) : ∀ as : List wb_V, (lg_sl (as.map (wb_tv rv adr))).length = wb_rw as
  | [] => rfl
  | v :: as => by
    have ih := wb_sl_len (adr := adr) hcat as
    simp only [lg_sl, wb_rw, List.map_cons, List.flatMap_cons, List.length_append, List.sum_cons] at ih ⊢
    rw [ih]
    congr 1
    match v with
    | .inl _ => rfl
    | .inr (.inl _) => rfl
    | .inr (.inr r) =>
      rw [if_neg]
      · rfl
      · rw [wb_cat1 hcat]; decide
section WBC
variable {p : Program} {l : Launch} {e : Env} {R : Room} {s : State} {mth : MethodId} {args : Array Value} {below : List Frame} {meth : Method} {c : Code} {Q : State → Prop}
variable {fz : Bool} {sc : wb_X} {m pc : Nat} {rv : Nat → Value} {A : Nat → Prop} {D : va_G} {adr0 : Nat → Nat → Nat} {L0 : List (Nat × Nat)} {x : List Nat} {ls : wb_L} {st : List wb_V} {h : wb_H} {n : wb_N} {c' : wb_C}
variable {adr : Nat → Nat → Nat} {cA : Nat → Nat → ClassId} {L : List (Nat × Nat)} {cn : Nat → Nat} {H : Heap}
theorem wb_rep_moved {U : State} (hv : s.vm.Alike U.vm) (hR : wb_rep fz D adr cA L cn h A H s) : wb_rep fz D adr cA L cn h A H U :=
  ⟨hR.1, hR.2.1, hR.2.2.1, va_K.moved hv hR.2.2.2.1, fun t o hm hk => ⟨arrOfT_moved hv (hR.2.2.2.2 t o hm hk).1, (hR.2.2.2.2 t o hm hk).2.moved hv⟩⟩
theorem wb_rep_mono {B : Nat → Prop} (hAB : ∀ q, A q → B q) (hR : wb_rep fz D adr cA L cn h A H s) : wb_rep fz D adr cA L cn h B H s :=
  ⟨hR.1, hR.2.1, hR.2.2.1.weaken (fun _ _ _ z => hAB _ z), hR.2.2.2.1, hR.2.2.2.2⟩
theorem wb_rep_self {sz : Nat} (hR : wb_rep fz D adr cA L cn h A H s) : wb_rep fz D adr cA L cn h (va_A (wb_wd fz adr cA h L) sz) H s :=
  ⟨hR.1, hR.2.1, hR.2.2.1.self, hR.2.2.2.1, hR.2.2.2.2⟩
theorem wb_RO_same {U V : State} {B : Nat → Prop} (hv : V.vm = U.vm) (hh : V.heap = U.heap) (h : wb_RO sc rv B U) : wb_RO sc rv B V := by
  have ha : U.vm.Alike V.vm := by rw [hv]; exact Vm.Alike.refl _
  obtain ⟨h0, h1, h2, h3, h4, h5, h6, h7, h8, h9, h10, h11, h12⟩ := h
  refine ⟨h0, fun t q h => ?_, fun t q h => ?_, fun t ht => ?_, fun a ha => (h4 a ha).same hv, fun a ha => (h5 a ha).same hv, ?_, ?_, ?_, ?_, ?_, fun w hw hn => wb_Nw_same hn hv.symm (h11 w hw hn), h12.moved ha⟩
  · obtain ⟨a, e, g⟩ := h1 t q h
    exact ⟨a, e, by rw [hh]; exact g.moved ha⟩
  · obtain ⟨a, e, g⟩ := h2 t q h
    exact ⟨a, e, by rw [hh]; exact g.moved ha⟩
  · obtain ⟨a, e, g1, g2, g3⟩ := h3 t ht
    exact ⟨a, e, by rw [hh]; exact g1.moved ha, by rw [hh]; exact g2.moved ha, by rw [hh]; exact g3.moved ha⟩
  all_goals rw [hh]
  · exact h6.moved ha
  · exact h7.moved ha
  · exact h8.moved ha
  · exact h9.moved ha
  · exact h10.moved ha
/-- a method's start -/
def wb_Pc (fz : Bool) (sc : wb_X) (rv : Nat → Value) (D : va_G) (adr : Nat → Nat → Nat) (cA : Nat → Nat → ClassId) (L : List (Nat × Nat)) (cn : Nat → Nat) (h : wb_H) (H : Heap) (as : List wb_V) : Array Value → State → Prop :=
  va_Pc (as.map (wb_tv rv adr)) (fun U => U.heap = H ∧ wb_rep fz D adr cA L cn h (va_A (wb_wd fz adr cA h L) H.size) H U ∧ wb_RO sc rv (va_A (wb_wd fz adr cA h L) H.size) U)
/-- a method's end -/
def wb_Qc (fz : Bool) (rv : Nat → Value) (D : va_G) (adr : Nat → Nat → Nat) (cA : Nat → Nat → ClassId) (L : List (Nat × Nat)) (h : wb_H) (H : Heap) (r : wb_R) : Array Value → State → Outcome → State → Prop := fun _ st o t =>
  (∃ (adr' : Nat → Nat → Nat) (cA' : Nat → Nat → ClassId) (L' : List (Nat × Nat)), o = .returned (r.1.map (wb_tv rv adr')) ∧ wb_rep fz D adr' cA' L' r.2.2.1 r.2.1 (va_A (wb_wd fz adr cA h L) H.size) t.heap t ∧ (∀ q ∈ L, q ∈ L' ∧ adr' q.1 q.2 = adr q.1 q.2) ∧ (fz = true → adr' = adr)) ∧ va_F (va_A (wb_wd fz adr cA h L) H.size) st t
def wb_Met (l : Launch) (fz : Bool) (sc : wb_X) (D : va_G) (y : Nat) (as : List wb_V) (h : wb_H) (cn : Nat → Nat) (r : wb_R) : Prop :=
  ∀ (rv : Nat → Value) (adr : Nat → Nat → Nat) (cA : Nat → Nat → ClassId) (L : List (Nat × Nat)) (H : Heap), Met l (wb_y y) (wb_ws y) (wb_rm y) (wb_Pc fz sc rv D adr cA L cn h H as) (wb_Qc fz rv D adr cA L h H r) (wb_mc y) (wb_ms y) (va_A (wb_wd fz adr cA h L) H.size)
theorem wb_Pc_blind {as : List wb_V} : FrameBlind (wb_Pc fz sc rv D adr cA L cn h H as) := fun a U g mk q => by
  obtain ⟨q1, q2, q3, q4⟩ := q
  exact ⟨q1, q2, wb_rep_moved (Vm.Alike.refl _) q3, wb_RO_same (U := U) (V := U.calling g mk a) rfl rfl q4⟩
theorem wb_Pc_at {as : List wb_V} {locs : List Loc} (hR : wb_rep fz D adr cA L cn h A H s) (hro : wb_RO sc rv A s) (hA : ∀ q, s.heap.size ≤ q → A q) (hS : va_S A s.heap H locs) (U : State) (hU : U.heap = H) (hW : s.WarmedH U.vm) : wb_Pc fz sc rv D adr cA L cn h H as (as.map (wb_tv rv adr)).toArray U :=
  ⟨rfl, hU, wb_rep_moved hW.alike (wb_rep_self hR), hro.call hS hU hW (fun q hq => by
    rcases hq with ⟨k, en, hk⟩ | hq
    · exact hR.2.2.1.2 k (q, en) hk
    · exact hA q (Nat.le_trans hS.1 hq))⟩
theorem wb_vok_ext {adr' : Nat → Nat → Nat} (hm : ∀ t o, (t, o) ∈ L ↔ 10 ≤ t ∧ o < cn t) (he : ∀ q ∈ L, adr' q.1 q.2 = adr q.1 q.2) {v : wb_V} (hv : wb_vok cn v = true) : wb_tv rv adr' v = wb_tv rv adr v := by
  match v, hv with
  | .inl x, _ => rfl
  | .inr (.inl x), _ => rfl
  | .inr (.inr (t', o')), hv =>
    simp only [wb_tv]
    by_cases h10 : t' < 10
    · rw [if_pos h10, if_pos h10]
    · rw [if_neg h10, if_neg h10]
      simp only [wb_vok, Bool.or_eq_true, decide_eq_true_eq] at hv
      rw [he (t', o') ((hm t' o').mpr ⟨by omega, by omega⟩)]
theorem wb_aok_ext {adr' : Nat → Nat → Nat} (hm : ∀ t o, (t, o) ∈ L ↔ 10 ≤ t ∧ o < cn t) (he : ∀ q ∈ L, adr' q.1 q.2 = adr q.1 q.2) : ∀ {st : List wb_V}, wb_aok cn st = true → st.map (wb_tv rv adr') = st.map (wb_tv rv adr)
  | [], _ => rfl
  | v :: st, h => by
    simp only [wb_aok, Bool.and_eq_true] at h
    rw [List.map_cons, List.map_cons, wb_vok_ext hm he h.1, wb_aok_ext hm he h.2]
/-- behind a call -/
theorem wb_after {y : Nat} {as : List wb_V} {r : wb_R} {locs : List Loc} {J : Array Slot} {st0 : List Value} {a : Array Value} {st' st2 : List wb_V} {kd : Nat}
    (hA : ∀ q, s.heap.size ≤ q → A q) (hR : wb_rep fz D adr cA L n.1 h A H s) (hxt : (∀ q ∈ L0, q ∈ L ∧ adr q.1 q.2 = adr0 q.1 q.2) ∧ (fz = true → adr = adr0)) (hl : wb_lc (wb_tv rv adr) ls J (wb_pn m)) (hS : va_S A s.heap H locs) (hok : wb_fok fz n.1 ls st' = true) (hfz : fz = true → r.2.2.1 = n.1)
    (hk : wb_rk kd r.1 st' = some st2) (G : wb_G p l e R s mth args below meth c Q fz m rv A D adr0 L0 (pc + 3, ls, st2, r.2.1, wb_nn fz n r.2.2 y))
    (hmc : fz = true → n.2.1 + wb_mc y = n.2.1 ∧ n.2.2 + wb_ms y = n.2.2)
    (hr : va_Run p l e R s mth args below meth c H locs n.2.1 n.2.2 (wb_mc y) (wb_ms y) (F0 mth pc J st0) (st'.map (wb_tv rv adr)) (wb_Qc fz rv D adr cA L h H r a) (va_A (wb_wd fz adr cA h L) H.size)) :
    W p l e R s mth args below meth c H locs n.2.1 n.2.2 Q (F0 mth pc J st0) := by
  intro T hT X
  obtain ⟨v, st₀, t, T', Lc, h0, X', hL, e1, e2, ⟨⟨adr', cA', L', hv, hR', hext, hfa⟩, hF⟩, st⟩ := hr T hT X
  have hv : v = r.1.map (wb_tv rv adr') := by injection hv
  have hA1 : ∀ q, va_A (wb_wd fz adr cA h L) H.size q → A q := fun q hq => by
    rcases hq with ⟨k, en, hk⟩ | hq
    · exact hR.2.2.1.2 k (q, en) hk
    · exact hA q (Nat.le_trans hS.1 hq)
  unfold va_F at hF
  rw [h0] at hF
  have hvm : s.vm.Alike t.vm := by rw [← e2]; exact X'.warmed.alike
  have hR2 : wb_rep fz D adr' cA' L' r.2.2.1 r.2.1 A t.heap s := wb_rep_mono hA1 (wb_rep_moved hvm.symm hR')
  have hn1 : (wb_nn fz n r.2.2 y).1 = r.2.2.1 := by
    cases fz with
    | true => exact (hfz rfl).symm
    | false => rfl
  have hn2 : (wb_nn fz n r.2.2 y).2.1 = n.2.1 + wb_mc y ∧ (wb_nn fz n r.2.2 y).2.2 = n.2.2 + wb_ms y := by
    cases fz with
    | true => exact ⟨(hmc rfl).1.symm, (hmc rfl).2.symm⟩
    | false => exact ⟨rfl, rfl⟩
  have hlc : wb_lc (wb_tv rv adr') ls J (wb_pn m) := by
    cases fz with
    | true => rw [hfa rfl]; exact hl
    | false =>
      simp only [wb_fok, Bool.and_eq_true] at hok
      exact ⟨hl.1, hl.2.1, fun k w hw => by rw [wb_vok_ext hR.1.2.1 (fun q hq => (hext q hq).2) (wb_lok_g hok.1 hw)]; exact hl.2.2 k w hw⟩
  have hst : st'.map (wb_tv rv adr') = st'.map (wb_tv rv adr) := by
    cases fz with
    | true => rw [hfa rfl]
    | false =>
      simp only [wb_fok, Bool.and_eq_true] at hok
      exact wb_aok_ext hR.1.2.1 (fun q hq => (hext q hq).2) hok.2
  have hst2 : v.toList ++ st'.map (wb_tv rv adr) = st2.map (wb_tv rv adr') := by
    rw [hv, ← hst]
    unfold wb_rk at hk
    split at hk
    · rename_i e; rw [e]; cases hk; rfl
    · rename_i e; rw [e]; cases hk; rfl
    · rename_i e; rw [e]; cases hk; rfl
    · rename_i k0 r0 e
      rw [e]
      cases hb0 : (Nat.beq r0.1 k0 && Nat.beq r0.2 0) with
      | false => rw [hb0] at hk; cases hk
      | true =>
        rw [hb0] at hk
        cases hk
        rw [Bool.and_eq_true] at hb0
        obtain ⟨t0, o0⟩ := r0
        have q1 : t0 = k0 := Nat.eq_of_beq_eq_true hb0.1
        have q2 : o0 = 0 := Nat.eq_of_beq_eq_true hb0.2
        subst q1; subst q2
        rfl
    · cases hk
  have G1 := G adr' cA' L' t.heap (locs ++ Lc) J (by show wb_rep fz D adr' cA' L' (wb_nn fz n r.2.2 y).1 r.2.1 A t.heap s; rw [hn1]; exact hR2)
    ⟨fun q hq => ⟨(hext q (hxt.1 q hq).1).1, (hext q (hxt.1 q hq).1).2.trans (hxt.1 q hq).2⟩, fun q => (hfa q).trans (hxt.2 q)⟩ hlc
    ⟨Nat.le_trans hS.1 hF.1, fun q g1 g2 => by rw [hF.2 q (Nat.lt_of_lt_of_le g1 hS.1) (fun z => g2 (hA1 q z))]; exact hS.2.1 q g1 g2, fun q hq => by
      rcases List.mem_append.mp hq with g | g
      · exact hS.2.2 q g
      · exact hA1 _ (hL q g)⟩
  simp only [hn2.1, hn2.2, ← hst2] at G1
  obtain ⟨t2, a1, b1⟩ := G1 T' e1 X'
  exact ⟨t2, st t2 a1, b1⟩
def wb_cky (m idx : Nat) (i : Instr) (x : List Nat) : Bool := match x with
  | [y, k, _, ci, lk, code, ini, sec, sel, nest] =>
    Nat.ble 2 y && Nat.blt y 283 && Nat.blt y wb_NM && wb_at ini (.initialized (wb_y y).cls) &&
    (match nest with
      | 0 => wb_at lk (.methodLink (wb_y m).cls idx (wb_y y))
      | _ => wb_atn lk (.methodLinkNest (wb_y m).cls idx (wb_y y) "WhichBin")) &&
    decide ((wb_y y).cls ≠ "java/lang/invoke/MethodHandle" ∧ (wb_y y).cls ≠ "java/lang/invoke/VarHandle") &&
    decide (wb_nf y + 1 ≤ wb_nf m ∧ 8 + (wb_pn y + 11) + wb_nl y ≤ wb_nl m) &&
    (match i with
      | .invokestatic _ => wb_at sec (.static (wb_y y)) && decide ((parseMethodDescriptor (wb_y y).desc).map (fun d => d.parameters.length) = some k)
      | .invokevirtual _ => wb_at sec (.instanceMethod (wb_y y)) && wb_at sel (.selects (wb_y y).cls (wb_y y) (wb_y y)) && decide ((parseMethodDescriptor (wb_y y).desc).map (fun d => d.parameters.length + 1) = some k) &&
        ((Nat.beq ci 100 && decide ((wb_y y).cls = "java/lang/String")) || (Nat.blt ci 12 && decide ((wb_cls[ci]?).map (fun q => q.1) = some (wb_y y).cls)))
      | .invokespecial _ => wb_at sec (.instanceMethod (wb_y y)) && decide ((wb_y y).name = "<init>") && decide (wb_r y = none) && decide ((parseMethodDescriptor (wb_y y).desc).map (fun d => d.parameters.length + 1) = some k) && Nat.beq ci 201
      | _ => false)
  | _ => false
end WBC
