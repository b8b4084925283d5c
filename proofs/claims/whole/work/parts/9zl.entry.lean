/-! The law's entry: the tables, texts and statics that nobody writes; the classes' numbers and slots. -/
def wb_rv (b r1 t2 t3 t4 t5 t6 t7 t8 : Nat) (v9 : Value) (t : Nat) : Value :=
  if t = 0 then .ref b else if t = 1 then .ref r1 else if t = 2 then .ref t2 else if t = 3 then .ref t3 else if t = 4 then .ref t4 else if t = 5 then .ref t5 else if t = 6 then .ref t6 else if t = 7 then .ref t7 else if t = 8 then .ref t8 else if t = 9 then v9 else .null
def wb_FG : List Cond := flatC (Jvm.Cond.and given_1 narrow_1)
section
variable {s : State} {args : Array Value} {A : Nat → Prop}
theorem wb_tabZ {tm : Term} {ty : FieldType} {l : List Int32} {N : Nat} (hs : ∀ c ∈ wb_FG, c.before args s = true) (hA : ∀ a : Nat, a < s.heap.size → ¬ A a) (hN : N < 2 ^ 31) (ha : Cond.arrayOf tm ty ∈ wb_FG) (hl : Cond.eq (.length tm) (.int (Int32.ofNat N)) ∈ wb_FG) (hm : ∀ j, j < N → Cond.eq (.elem tm (.int (Int32.ofNat j))) (.int (wb_nth 0 l j)) ∈ wb_FG) : ∃ t : Nat, tm.eval args s none [] s = some (.ref t) ∧ va_T ty t N (fun j => .int (wb_nth 0 l j)) A s s.heap :=
  va_Tof hN (hs _ ha) (va_eqt (hs _ hl)) (fun j hj => va_eqt (hs _ (hm j hj))) hA
theorem wb_strO {tm : Term} (hA : ∀ a : Nat, a < s.heap.size → ¬ A a) (hex : (Cond.exactly tm "java/lang/String").before args s = true) : ∃ a : Nat, tm.eval args s none [] s = some (.ref a) ∧ va_O "java/lang/String" a A s s.heap := by
  obtain ⟨a, c, cA, kA, q1, q2, q3, q4, q5, q6, -⟩ := Cond.exactly_spec (args := args) (first := s) (o := none) (s := s) (idx := []) (t := tm) (cls := "java/lang/String") hex
  exact ⟨a, q1, cA, q3, q5, by rw [q6]; exact q2, hA a (Array.getElem?_eq_some_iff.mp q3).1⟩
def wb_tT : Term := .static "WhichBin" "THREES" "[I"
def wb_tN : Term := .static "WhichBin" "TENS" "[I"
def wb_tR : Term := .static "WhichBin$Evening" "ROWS_FROM" "[I"
def wb_tW : Term := .string "WhichBin$Tokens" 23
def wb_tS : Term := .string "WhichBin$Tokens" 75
theorem wb_f1 : Cond.arrayOf wb_tT .int ∈ wb_FG ∧ Cond.eq (.length wb_tT) (.int (Int32.ofNat 7)) ∈ wb_FG ∧ ∀ j, j < 7 → Cond.eq (.elem wb_tT (.int (Int32.ofNat j))) (.int (wb_nth 0 [1, 3, 9, 27, 81, 243, 729] j)) ∈ wb_FG := by decide +kernel
theorem wb_f2 : Cond.arrayOf wb_tN .int ∈ wb_FG ∧ Cond.eq (.length wb_tN) (.int (Int32.ofNat 8)) ∈ wb_FG ∧ ∀ j, j < 8 → Cond.eq (.elem wb_tN (.int (Int32.ofNat j))) (.int (wb_nth 0 [1, 10, 100, 1000, 10000, 100000, 1000000, 10000000] j)) ∈ wb_FG := by decide +kernel
theorem wb_f3 : Cond.arrayOf wb_tR .int ∈ wb_FG ∧ Cond.eq (.length wb_tR) (.int (Int32.ofNat 8)) ∈ wb_FG ∧ ∀ j, j < 8 → Cond.eq (.elem wb_tR (.int (Int32.ofNat j))) (.int (wb_nth 0 [0, 1, 4, 13, 40, 121, 364, 1093] j)) ∈ wb_FG := by decide +kernel
theorem wb_f4 : Cond.arrayOf (.field wb_tW "java/lang/String" "value" "[B") .byte ∈ wb_FG ∧ Cond.eq (.length (.field wb_tW "java/lang/String" "value" "[B")) (.int (Int32.ofNat 115)) ∈ wb_FG ∧ ∀ j, j < 115 → Cond.eq (.elem (.field wb_tW "java/lang/String" "value" "[B") (.int (Int32.ofNat j))) (.int (wb_nth 0 wb_WB j)) ∈ wb_FG := by decide +kernel
theorem wb_f5 : Cond.arrayOf (.field wb_tS "java/lang/String" "value" "[B") .byte ∈ wb_FG ∧ Cond.eq (.length (.field wb_tS "java/lang/String" "value" "[B")) (.int (Int32.ofNat 9)) ∈ wb_FG ∧ ∀ j, j < 9 → Cond.eq (.elem (.field wb_tS "java/lang/String" "value" "[B") (.int (Int32.ofNat j))) (.int (wb_nth 0 wb_SB j)) ∈ wb_FG := by decide +kernel
theorem wb_f6 : Cond.exactly wb_tW "java/lang/String" ∈ wb_FG ∧ Cond.eq (.field wb_tW "java/lang/String" "coder" "B") (.int 0) ∈ wb_FG ∧ Cond.exactly wb_tS "java/lang/String" ∈ wb_FG ∧ Cond.eq (.field wb_tS "java/lang/String" "coder" "B") (.int 0) ∈ wb_FG ∧ Cond.eq (.static "java/lang/String" "COMPACT_STRINGS" "Z") (.int 1) ∈ wb_FG ∧ Cond.isRef (.static "jdk/internal/util/Preconditions" "SIOOBE_FORMATTER" "Ljava/util/function/BiFunction;") ∈ wb_FG := by decide +kernel
theorem wb_f7 : Cond.laysStatic "WhichBin" "TENS" "[I" ∈ lw_tbl ∧ Cond.laysStatic "WhichBin" "THREES" "[I" ∈ lw_tbl ∧ Cond.laysStatic "WhichBin$Evening" "ROWS_FROM" "[I" ∈ lw_tbl ∧ Cond.laysStatic "java/lang/String" "COMPACT_STRINGS" "Z" ∈ lw_tbl ∧ Cond.laysStatic "jdk/internal/util/Preconditions" "SIOOBE_FORMATTER" "Ljava/util/function/BiFunction;" ∈ lw_tbl := by decide +kernel
theorem wb_f8 : Cond.initialized "WhichBin" ∈ lw_tbl ∧ Cond.initialized "WhichBin$Evening" ∈ lw_tbl ∧ Cond.initialized "java/lang/String" ∈ lw_tbl ∧ Cond.initialized "jdk/internal/util/Preconditions" ∈ lw_tbl := by decide +kernel
theorem wb_f9 : Cond.stringRef "WhichBin$Tokens" 23 "house brown fine both leaflet seed own most first as wise two if then else sign browns blues sees sure number lead " ∈ lw_tbl ∧ Cond.stringRef "WhichBin$Tokens" 75 ";=+-*/<()" ∈ lw_tbl ∧ Cond.arrayOver (.object "WhichBin$Standing") ∈ lw_tbl := by decide +kernel
theorem wb_RO_at {b : Nat} (hts : ∀ w ∈ lw_tbl, w.before args s = true) (hs : ∀ c ∈ wb_FG, c.before args s = true) (hA : ∀ a : Nat, a < s.heap.size → ¬ A a) : ∃ (t2 t3 t4 t5 t6 t7 t8 : Nat) (v9 : Value), va_T .int t2 7 (fun j => .int (wb_nth 0 [1, 3, 9, 27, 81, 243, 729] j)) A s s.heap ∧
    ∀ (sc : wb_X) (r1 : Nat), va_T .int r1 sc.1 (fun j => .int (sc.2 j)) A s s.heap → wb_RO sc (wb_rv b r1 t2 t3 t4 t5 t6 t7 t8 v9) A s := by
  obtain ⟨a1, a2, a3⟩ := wb_f1
  obtain ⟨b1, b2, b3⟩ := wb_f2
  obtain ⟨c1, c2, c3⟩ := wb_f3
  obtain ⟨d1, d2, d3⟩ := wb_f4
  obtain ⟨e1, e2, e3⟩ := wb_f5
  obtain ⟨f1, f2, f3, f4, f5, f6⟩ := wb_f6
  obtain ⟨g1, g2, g3, g4, g5⟩ := wb_f7
  obtain ⟨i1, i2, i3, i4⟩ := wb_f8
  obtain ⟨j1, j2, j3⟩ := wb_f9
  obtain ⟨t2, T2, U2⟩ := wb_tabZ hs hA (by decide) a1 a2 a3
  obtain ⟨t3, T3, U3⟩ := wb_tabZ hs hA (by decide) b1 b2 b3
  obtain ⟨t4, T4, U4⟩ := wb_tabZ hs hA (by decide) c1 c2 c3
  obtain ⟨t7, T7, U7⟩ := wb_tabZ hs hA (by decide) d1 d2 d3
  obtain ⟨t8, T8, U8⟩ := wb_tabZ hs hA (by decide) e1 e2 e3
  obtain ⟨t5, T5, U5⟩ := wb_strO hA (hs _ f1)
  obtain ⟨t6, T6, U6⟩ := wb_strO hA (hs _ f3)
  have Z2 := va_Zof (hts _ g2) (hts _ i1) T2 hA
  have Z3 := va_Zof (hts _ g1) (hts _ i1) T3 hA
  have Z4 := va_Zof (hts _ g3) (hts _ i2) T4 hA
  have Z5 := va_Zof (hts _ g4) (hts _ i3) (va_eqi (hs _ f5)) hA
  have hZ9 : ∃ v9 : Value, (v9 = .null ∨ ∃ a, v9 = .ref a) ∧ va_Z "jdk/internal/util/Preconditions" "SIOOBE_FORMATTER" "Ljava/util/function/BiFunction;" v9 A s s.heap := by
    rcases va_Zqof (hts _ g5) (hts _ i4) (hs _ f6) hA with q | ⟨t, q⟩
    · exact ⟨_, Or.inl rfl, q⟩
    · exact ⟨_, Or.inr ⟨t, rfl⟩, q⟩
  obtain ⟨v9, V9, Z9⟩ := hZ9
  refine ⟨t2, t3, t4, t5, t6, t7, t8, v9, U2, fun sc r1 hr1 => ⟨?_, ?_, ?_, ?_, ?_, ?_, Z2, Z3, Z4, Z5, Z9, ?_, va_AO.of (hts _ j3)⟩⟩
  · intro t
    unfold wb_rv
    repeat' split
    all_goals first | exact Or.inr ⟨_, rfl⟩ | exact V9 | exact Or.inl rfl
  · intro t q h
    match t, h with
    | 0, h => cases h
    | 1, h => cases h; exact ⟨r1, rfl, hr1⟩
    | 2, h => cases h; exact ⟨t2, rfl, U2⟩
    | 3, h => cases h; exact ⟨t3, rfl, U3⟩
    | 4, h => cases h; exact ⟨t4, rfl, U4⟩
    | t + 5, h => cases h
  · intro t q h
    match t, h with
    | 0, h => cases h
    | 1, h => cases h
    | 2, h => cases h
    | 3, h => cases h
    | 4, h => cases h
    | 5, h => cases h
    | 6, h => cases h
    | 7, h => cases h; exact ⟨t7, rfl, U7⟩
    | 8, h => cases h; exact ⟨t8, rfl, U8⟩
    | t + 9, h => cases h
  · intro t ht
    rcases ht with rfl | rfl
    · exact ⟨t5, rfl, U5, vk_OFof T5 T7 hA, vk_OFof T5 (va_eqt (hs _ f2)) hA⟩
    · exact ⟨t6, rfl, U6, vk_OFof T6 T8 hA, vk_OFof T6 (va_eqt (hs _ f4)) hA⟩
  · intro a ha
    cases ha
    exact vk_R.of (hts _ j1) T5
  · intro a ha
    cases ha
    exact vk_R.of (hts _ j2) T6
  · intro w hw hn
    have h := hts w hw
    cases w <;> first | exact va_Nw.of rfl h | cases hn
def wb_insq : Bool := wb_cls.all fun q => lw_tbl.any fun w => match w with
  | .instantiable C _ => decide (C = q.1)
  | _ => false
theorem wb_insq_ok : wb_insq = true := by decide +kernel
/-- each class's number and slots -/
theorem wb_classes (hts : ∀ w ∈ lw_tbl, w.before args s = true) : ∃ D : va_G, va_K D wb_cls [] s := by
  have h1 : ∀ c : Nat, ∃ d : ClassId × (Nat → Nat), ∀ q, wb_cls[c]? = some q → u_Kn s q.1 q.2.1 q.2.2 d.1 d.2 := by
    intro c
    cases e : wb_cls[c]? with
    | none => exact ⟨(0, fun _ => 0), fun q hq => by cases hq⟩
    | some q =>
      obtain ⟨C, T, N⟩ := q
      have h2 := List.all_eq_true.mp wb_insq_ok (C, T, N) (List.mem_of_getElem? e)
      obtain ⟨w, hw, hwq⟩ := List.any_eq_true.mp h2
      have h3 : ∃ n, (Cond.instantiable C n).before args s = true := by
        cases w with
        | instantiable C' n =>
          have e2 : C' = C := of_decide_eq_true hwq
          exact ⟨n, by rw [← e2]; exact hts _ hw⟩
        | _ => cases hwq
      obtain ⟨n, h3⟩ := h3
      obtain ⟨cC, iS, h4⟩ := u_known (ws := lw_tbl) hts (fun w hw => (wb_TB_in (wb_uws e w hw)).1) h3
      exact ⟨(cC, iS), fun q hq => by cases hq; exact h4⟩
  obtain ⟨f, hf⟩ := Classical.axiomOfChoice h1
  exact ⟨(fun c => (f c).1, fun c => (f c).2), fun c q hq => hf c q hq, fun k q hk => by cases hk⟩
end
