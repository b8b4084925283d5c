/-! The plain machine's values, locals, objects in the JVM's state. -/
def wb_TB : List Cond := lw_tbl.filter goodWord
def wb_y (m : Nat) : MethodName := (wb_mi m).1
def wb_b (m : Nat) : ByteArray := (wb_mi m).2.1
def wb_r (m : Nat) : Option FieldType := (wb_mi m).2.2.2.1
def wb_nf (m : Nat) : Nat := (wb_mi m).2.2.2.2.1
def wb_nl (m : Nat) : Nat := (wb_mi m).2.2.2.2.2.1
def wb_tv (rv : Nat → Value) (adr : Nat → Nat → Nat) : wb_V → Value
  | .inl x => .int x
  | .inr (.inl x) => .long x
  | .inr (.inr (t, o)) => if t < 10 then rv t else .ref (adr t o)
def wb_rq (fz : Bool) (h : wb_H) (t o k : Nat) : Option Nat := match wb_si fz t o k with
  | some j => some j
  | none => if h.2.2 t o k = 0 then none else some (h.2.2 t o k - 1)
def wb_sq (fz : Bool) (h : wb_H) (t o k : Nat) : Option Nat := match wb_sa fz t k with
  | some j => some j
  | none => if h.2.2 t o k = 0 then none else some (h.2.2 t o k - 1)
def wb_fv (fz : Bool) (adr : Nat → Nat → Nat) (h : wb_H) (ci t o k : Nat) : Value := match wb_fk ci k with
  | 1 => .long (h.2.1 t o k)
  | 2 => va_rf ((wb_rq fz h t o k).map (adr (wb_rf t k).1))
  | _ => .int (h.1 t o k)
def wb_nfd (ci : Nat) : Nat := (wb_nth [] wb_fkl ci).length
def wb_ent (fz : Bool) (adr : Nat → Nat → Nat) (cA : Nat → Nat → ClassId) (h : wb_H) (t o : Nat) : va_E := match wb_shp t with
  | (0, ci) => .inr (ci, (List.range (wb_nfd ci)).map (wb_fv fz adr h ci t o))
  | (4, len) => .inl (cA t o, len, .inr (.inl (h.2.1 t o)))
  | (5, len) => .inl (cA t o, len, .inr (.inr (.inr (.inr (fun j => (wb_sq fz h t o j).map (adr (wb_rf t 0).1))))))
  | (_, len) => .inl (cA t o, len, .inl (h.1 t o))
def wb_wd (fz : Bool) (adr : Nat → Nat → Nat) (cA : Nat → Nat → ClassId) (h : wb_H) (L : List (Nat × Nat)) : va_W := L.map (fun q => (adr q.1 q.2, wb_ent fz adr cA h q.1 q.2))
def wb_ty : Nat → FieldType
  | 1 => .int
  | 2 => .byte
  | 3 => .boolean
  | 4 => .long
  | _ => .object "WhichBin$Standing"
def wb_KA (s : State) (cA : Nat → Nat → ClassId) (L : List (Nat × Nat)) : Prop := ∀ t o, (t, o) ∈ L → (wb_shp t).1 ≠ 0 → ArrOfT s (cA t o) (wb_ty (wb_shp t).1) ∧ va_RA s (cA t o) (wb_ty (wb_shp t).1)
/-- the tag of what a reference field (or an element) holds -/
def wb_tg (t k : Nat) : Nat := if (wb_shp t).1 = 5 then (wb_rf t 0).1 else (wb_rf t k).1
def wb_ok (fz : Bool) (L : List (Nat × Nat)) (cn : Nat → Nat) (h : wb_H) : Prop := L.Nodup ∧ (∀ t o, (t, o) ∈ L ↔ 10 ≤ t ∧ o < cn t) ∧ (fz = false → ∀ t o k, (t, o) ∈ L → h.2.2 t o k ≠ 0 → (wb_tg t k, h.2.2 t o k - 1) ∈ L)
def wb_rep (fz : Bool) (D : va_G) (adr : Nat → Nat → Nat) (cA : Nat → Nat → ClassId) (L : List (Nat × Nat)) (cn : Nat → Nat) (h : wb_H) (A : Nat → Prop) (H : Heap) (s : State) : Prop :=
  wb_ok fz L cn h ∧ va_P D wb_cls (wb_wd fz adr cA h L) H ∧ va_D A (wb_wd fz adr cA h L) ∧ va_K D wb_cls [] s ∧ wb_KA s cA L
def wb_lc (tv : wb_V → Value) (ls : wb_L) (J : Array Slot) (nL : Nat) : Prop := J.size = nL ∧ lv_wf J ∧ ∀ k v, wb_g ls k = some v → J[k]? = some (.val (tv v))
def wb_isN : Cond → Bool
  | .fieldLinkNest _ _ _ _ _ _ => true
  | .methodLinkNest _ _ _ _ => true
  | _ => false
theorem wb_Nw_warm {w : Cond} {s U : State} (hw : wb_isN w = true) (hW : s.WarmedH U.vm) (h : va_Nw w s) : va_Nw w U := by
  cases w <;> first | exact va_Nw.warmF hW h | exact va_Nw.warmM hW h | cases hw
theorem wb_Nw_same {w : Cond} {s U : State} (hw : wb_isN w = true) (hv : s.vm = U.vm) (h : va_Nw w s) : va_Nw w U := by
  cases w <;> first | exact va_Nw.same rfl hv h | cases hw
theorem wb_Nw_use {w : Cond} {s : State} {args : Array Value} (hw : wb_isN w = true) (h : va_Nw w s) : w.before args s = true := by
  cases w <;> first | exact va_Nw.use rfl h | cases hw
/-- the tables, texts and statics that nobody writes -/
def wb_RO (sc : wb_X) (rv : Nat → Value) (A : Nat → Prop) (s : State) : Prop :=
  (∀ t, rv t = .null ∨ ∃ a, rv t = .ref a) ∧
  (∀ t q, wb_roi sc t = some q → ∃ a, rv t = .ref a ∧ va_T .int a q.1 (fun j => .int (q.2 j)) A s s.heap) ∧
  (∀ t q, wb_rob t = some q → ∃ a, rv t = .ref a ∧ va_T .byte a q.1 (fun j => .int (q.2 j)) A s s.heap) ∧
  (∀ t, t = 5 ∨ t = 6 → ∃ a, rv t = .ref a ∧ va_O "java/lang/String" a A s s.heap ∧ va_OF "java/lang/String" "value" "[B" (rv (t + 2)) a A s s.heap ∧ va_OF "java/lang/String" "coder" "B" (.int 0) a A s s.heap) ∧
  (∀ a, rv 5 = .ref a → vk_R "WhichBin$Tokens" 23 "house brown fine both leaflet seed own most first as wise two if then else sign browns blues sees sure number lead " a s) ∧
  (∀ a, rv 6 = .ref a → vk_R "WhichBin$Tokens" 75 ";=+-*/<()" a s) ∧
  va_Z "WhichBin" "THREES" "[I" (rv 2) A s s.heap ∧ va_Z "WhichBin" "TENS" "[I" (rv 3) A s s.heap ∧ va_Z "WhichBin$Evening" "ROWS_FROM" "[I" (rv 4) A s s.heap ∧
  va_Z "java/lang/String" "COMPACT_STRINGS" "Z" (.int 1) A s s.heap ∧ va_Z "jdk/internal/util/Preconditions" "SIOOBE_FORMATTER" "Ljava/util/function/BiFunction;" (rv 9) A s s.heap ∧
  (∀ w ∈ lw_tbl, wb_isN w = true → va_Nw w s) ∧ va_AO "WhichBin$Standing" s
theorem wb_RO.call {sc : wb_X} {rv : Nat → Value} {A B : Nat → Prop} {s U : State} {H : Heap} {locs : List Loc} (h : wb_RO sc rv A s) (hS : va_S A s.heap H locs) (hU : U.heap = H) (hW : s.WarmedH U.vm) (hAB : ∀ q, B q → A q) : wb_RO sc rv B U := by
  have hq : ∀ a : Nat, a < s.heap.size → ¬ A a → H[a]? = s.heap[a]? := hS.2.1
  have hv := hW.alike
  obtain ⟨h0, h1, h2, h3, h4, h5, h6, h7, h8, h9, h10, h11, h12⟩ := h
  subst hU
  refine ⟨h0, fun t q h => ?_, fun t q h => ?_, fun t ht => ?_, fun a ha => (h4 a ha).warm hW, fun a ha => (h5 a ha).warm hW, ((h6.kept hq).moved hv).narrow hAB, ((h7.kept hq).moved hv).narrow hAB, ((h8.kept hq).moved hv).narrow hAB, ((h9.kept hq).moved hv).narrow hAB, ((h10.kept hq).moved hv).narrow hAB, fun w hw hn => wb_Nw_warm hn hW (h11 w hw hn), h12.moved hv⟩
  · obtain ⟨a, e, g⟩ := h1 t q h
    exact ⟨a, e, ((g.kept hq).moved hv).narrow hAB⟩
  · obtain ⟨a, e, g⟩ := h2 t q h
    exact ⟨a, e, ((g.kept hq).moved hv).narrow hAB⟩
  · obtain ⟨a, e, g1, g2, g3⟩ := h3 t ht
    exact ⟨a, e, ((g1.kept hq).moved hv).narrow hAB, ((g2.kept hq).moved hv).narrow hAB, ((g3.kept hq).moved hv).narrow hAB⟩
theorem wb_tv_cat {rv : Nat → Value} {adr : Nat → Nat → Nat} (h : ∀ t, rv t = .null ∨ ∃ a, rv t = .ref a) (v : wb_V) : (wb_tv rv adr v).category = 2 → ∃ x, v = .inr (.inl x) := by
  intro hc
  match v with
  | .inl x => cases hc
  | .inr (.inl x) => exact ⟨x, rfl⟩
  | .inr (.inr (t, o)) =>
    exfalso
    simp only [wb_tv] at hc
    split at hc
    · rcases h t with e | ⟨a, e⟩ <;> rw [e] at hc <;> cases hc
    · cases hc
theorem wb_g_s_self : ∀ (ls : wb_L) (k : Nat) (v w : wb_V), wb_g (wb_s ls k (some v)) k = some w → w = v
  | [], k, v, w, h => by simp [wb_s, wb_g] at h
  | a :: l, 0, v, w, h => by simp [wb_s, wb_g] at h; exact h.symm
  | a :: l, k + 1, v, w, h => wb_g_s_self l k v w (by simpa [wb_s, wb_g] using h)
theorem wb_g_s_none : ∀ (ls : wb_L) (k : Nat), wb_g (wb_s ls k none) k = none
  | [], k => by simp [wb_s, wb_g]
  | a :: l, 0 => by simp [wb_s, wb_g]
  | a :: l, k + 1 => by simpa [wb_s, wb_g] using wb_g_s_none l k
theorem wb_g_s_ne : ∀ (ls : wb_L) (k j : Nat) (v : Option wb_V), j ≠ k → wb_g (wb_s ls k v) j = wb_g ls j
  | [], k, j, v, h => by simp [wb_s]
  | a :: l, 0, 0, v, h => absurd rfl h
  | a :: l, 0, j + 1, v, h => by simp [wb_s, wb_g]
  | a :: l, k + 1, 0, v, h => by simp [wb_s, wb_g]
  | a :: l, k + 1, j + 1, v, h => by simpa [wb_s, wb_g] using wb_g_s_ne l k j v (fun e => h (by rw [e]))
theorem wb_g_kl {ls : wb_L} {k j : Nat} {w : wb_V} (h : wb_g (wb_kl ls k) j = some w) : wb_g ls j = some w ∧ ¬ (j + 1 = k ∧ ∃ x, w = .inr (.inl x)) := by
  cases k with
  | zero => exact ⟨h, fun q => by omega⟩
  | succ i =>
    simp only [wb_kl] at h
    split at h
    · rename_i x hx
      by_cases hj : j = i
      · subst hj; rw [wb_g_s_none] at h; cases h
      · rw [wb_g_s_ne _ _ _ _ hj] at h
        exact ⟨h, fun q => hj (by omega)⟩
    · rename_i hx
      refine ⟨h, fun q => ?_⟩
      obtain ⟨q1, x, rfl⟩ := q
      have : j = i := by omega
      subst this
      exact hx x h
def wb_as (tv : wb_V → Value) (ls : wb_L) (n : Nat) : List (Nat × Value) := (List.range n).filterMap fun i => (wb_g ls i).map fun v => (i, tv v)
theorem wb_as_mem {tv : wb_V → Value} {ls : wb_L} {n i : Nat} {v : wb_V} (hi : i < n) (h : wb_g ls i = some v) : (i, tv v) ∈ wb_as tv ls n :=
  List.mem_filterMap.mpr ⟨i, List.mem_range.mpr hi, by rw [h]; rfl⟩
theorem wb_as_has {tv : wb_V → Value} {ls : wb_L} {J : Array Slot} {n : Nat} (h : wb_lc tv ls J n) : lv_has J n (wb_as tv ls n) := by
  refine ⟨h.1, h.2.1, fun q hq => ?_⟩
  obtain ⟨i, -, hi⟩ := List.mem_filterMap.mp hq
  cases hg : wb_g ls i with
  | none => rw [hg] at hi; cases hi
  | some v => rw [hg] at hi; cases hi; exact h.2.2 i v hg
theorem wb_lc_lt {tv : wb_V → Value} {ls : wb_L} {J : Array Slot} {n k : Nat} {v : wb_V} (h : wb_lc tv ls J n) (hg : wb_g ls k = some v) : k < n := by
  have := (Array.getElem?_eq_some_iff.mp (h.2.2 k v hg)).1
  rw [h.1] at this; exact this
theorem wb_lc_s1 {tv : wb_V → Value} (hc : ∀ v, (tv v).category = 2 → ∃ x, v = .inr (.inl x)) {ls : wb_L} {J J' : Array Slot} {n k : Nat} {v : wb_V} (h : wb_lc tv ls J n)
    (h' : lv_has J' n ((k, tv v) :: (wb_as tv ls n).filter (fun q => !(q.1 == k) && !(q.1 + 1 == k && q.2.category == 2)))) : wb_lc tv (wb_s1 ls k v) J' n := by
  refine ⟨h'.1, h'.2.1, fun j w hw => ?_⟩
  by_cases hj : j = k
  · subst hj
    rw [wb_g_s_self _ _ _ _ hw]
    exact h'.2.2 (j, tv v) List.mem_cons_self
  · rw [wb_s1, wb_g_s_ne _ _ _ _ hj] at hw
    obtain ⟨g1, g2⟩ := wb_g_kl hw
    refine h'.2.2 (j, tv w) (List.mem_cons_of_mem _ (List.mem_filter.mpr ⟨wb_as_mem (wb_lc_lt h g1) g1, ?_⟩))
    simp only [Bool.and_eq_true, Bool.not_eq_true', beq_eq_false_iff_ne, Bool.and_eq_false_iff, ne_eq]
    refine ⟨hj, ?_⟩
    by_cases q : j + 1 = k
    · exact Or.inr (fun e => g2 ⟨q, hc w e⟩)
    · exact Or.inl q
theorem wb_lc_s2 {tv : wb_V → Value} (hc : ∀ v, (tv v).category = 2 → ∃ x, v = .inr (.inl x)) {ls : wb_L} {J J' : Array Slot} {n k : Nat} {v : wb_V} (h : wb_lc tv ls J n)
    (h' : lv_has J' n ((k, tv v) :: (wb_as tv ls n).filter (fun q => !(q.1 == k) && (!(q.1 == k + 1) && !(q.1 + 1 == k && q.2.category == 2))))) : wb_lc tv (wb_s2 ls k v) J' n := by
  refine ⟨h'.1, h'.2.1, fun j w hw => ?_⟩
  rw [wb_s2] at hw
  by_cases hj1 : j = k + 1
  · subst hj1; rw [wb_g_s_none] at hw; cases hw
  rw [wb_g_s_ne _ _ _ _ hj1] at hw
  by_cases hj : j = k
  · subst hj
    rw [wb_g_s_self _ _ _ _ hw]
    exact h'.2.2 (j, tv v) List.mem_cons_self
  · rw [wb_g_s_ne _ _ _ _ hj] at hw
    obtain ⟨g1, g2⟩ := wb_g_kl hw
    refine h'.2.2 (j, tv w) (List.mem_cons_of_mem _ (List.mem_filter.mpr ⟨wb_as_mem (wb_lc_lt h g1) g1, ?_⟩))
    simp only [Bool.and_eq_true, Bool.not_eq_true', beq_eq_false_iff_ne, Bool.and_eq_false_iff, ne_eq]
    refine ⟨hj, hj1, ?_⟩
    by_cases q : j + 1 = k
    · exact Or.inr (fun e => g2 ⟨q, hc w e⟩)
    · exact Or.inl q
theorem wb_TB_in {w : Cond} (h : w ∈ wb_TB) : w ∈ lw_tbl ∧ goodWord w = true := List.mem_filter.mp h
def wb_pick : List (Bool × Option wb_C) → Option wb_C → Option wb_C
  | [], d => d
  | (b, c) :: l, d => bif b then c else wb_pick l d
theorem wb_ib_pick {ρ : Type} (K : wb_C → Option ρ) : ∀ (l : List (Bool × Option wb_C)) (d : Option wb_C), wb_ib K l d = (wb_pick l d).bind K
  | [], none => rfl
  | [], some c => rfl
  | (b, none) :: l, d => by cases b <;> simp [wb_ib, wb_pick, wb_ib_pick K l d]
  | (b, some c) :: l, d => by cases b <;> simp [wb_ib, wb_pick, wb_ib_pick K l d]
def wb_pk : wb_A → Option wb_C
  | .inl b => wb_pick b.1 b.2
  | _ => none
theorem wb_pk_wr {c : wb_C} (h : wb_pk wb_wr = some c) : False := by cases h
theorem wb_pk_if {b : Bool} {p : Nat} {ls : wb_L} {st : List wb_V} {h : wb_H} {n : wb_N} {c : wb_C} (q : wb_pk (wb_if b p ls st h n) = some c) : b = true ∧ c = (p, ls, st, h, n) := by
  cases b with
  | true => exact ⟨rfl, (Option.some.inj q).symm⟩
  | false => cases q
theorem wb_pk_br {b : Bool} {p p2 : Nat} {ls : wb_L} {st : List wb_V} {h : wb_H} {n : wb_N} {c : wb_C} (q : wb_pk (wb_br b p p2 ls st h n) = some c) : (b = true ∧ c = (p, ls, st, h, n)) ∨ (b = false ∧ c = (p2, ls, st, h, n)) := by
  cases b with
  | true => exact Or.inl ⟨rfl, (Option.some.inj q).symm⟩
  | false => exact Or.inr ⟨rfl, (Option.some.inj q).symm⟩
section WBF
variable {p : Program} {l : Launch} {e : Env} {R : Room} {s : State} {mth : MethodId} {args : Array Value} {below : List Frame} {meth : Method} {c : Code} {Q : State → Prop}
def wb_fr (p : Program) (R : Room) (s : State) (mth : MethodId) (args : Array Value) (meth : Method) (c : Code) (m : Nat) (A : Nat → Prop) : Prop :=
  p.tables.exec = Jvm.exec ∧ c.code = wb_b m ∧ (∀ w ∈ wb_TB, w.before args s = true) ∧ s.vm.findClass (wb_y m).cls = some mth.cls ∧ c.maxLocals = wb_pn m ∧ (∀ q, s.heap.size ≤ q → A q) ∧ ((wb_y m).name = "<init>" → meth.name = "<init>") ∧ wb_nf m ≤ R.frames ∧ wb_nl m ≤ R.locals ∧ wb_mc m ≤ R.cells ∧ wb_ms m ≤ R.slots
def wb_G (p : Program) (l : Launch) (e : Env) (R : Room) (s : State) (mth : MethodId) (args : Array Value) (below : List Frame) (meth : Method) (c : Code) (Q : State → Prop) (fz : Bool) (m : Nat) (rv : Nat → Value) (A : Nat → Prop) (D : va_G) (adr0 : Nat → Nat → Nat) (L0 : List (Nat × Nat)) (x : wb_C) : Prop :=
  ∀ (adr : Nat → Nat → Nat) (cA : Nat → Nat → ClassId) (L : List (Nat × Nat)) (H : Heap) (locs : List Loc) (J : Array Slot),
    wb_rep fz D adr cA L x.2.2.2.2.1 x.2.2.2.1 A H s → ((∀ q ∈ L0, q ∈ L ∧ adr q.1 q.2 = adr0 q.1 q.2) ∧ (fz = true → adr = adr0)) → wb_lc (wb_tv rv adr) x.2.1 J (wb_pn m) → va_S A s.heap H locs →
    W p l e R s mth args below meth c H locs x.2.2.2.2.2.1 x.2.2.2.2.2.2 Q (F0 mth x.1 J (x.2.2.1.map (wb_tv rv adr)))
end WBF
