/-! The main theorem: by the check of each entry, a run of the plain machine is a run of the JVM. -/
def wb_ln (i : Instr) (x : List Nat) : Nat := match i with
  | .aload _ => 2 | .iload _ => 2 | .lload _ => 2 | .istore _ => 2 | .lstore _ => 2 | .astore _ => 2 | .bipush _ => 2 | .ldc _ => 2 | .newarray _ => 2
  | .sipush _ => 3 | .ldc_w _ => 3 | .ldc2_w _ => 3 | .iinc _ _ => 3 | .if_icmp _ _ => 3 | .ifCond _ _ => 3 | .goto _ => 3 | .getfield _ => 3 | .putfield _ => 3 | .getstatic _ => 3
  | .invokevirtual _ => 3 | .invokestatic _ => 3 | .invokespecial _ => 3 | .new _ => 3 | .anewarray _ => 3
  | .tableswitch _ _ _ _ => x.headD 0 | .lookupswitch _ _ => x.headD 0
  | _ => 1
def wb_ckj (pc : Nat) (off : Int) (x : List Nat) : Bool := match x with
  | [t] => decide ((pc : Int) + off = (t : Int))
  | _ => false
def wb_ckr (m : Nat) (x : List Nat) : Bool := match x with
  | [0] => decide (wb_r m = some .int)
  | [1] => decide (wb_r m = some .boolean)
  | [2] => decide (wb_r m = some .char)
  | [3] => decide (wb_r m = some .byte)
  | _ => false
def wb_cki2 (m : Nat) (e : Nat × Instr × List Nat) : Bool := match e.2.1 with
  | .istore_n k => decide (k.val < wb_pn m)
  | .astore_n k => decide (k.val < wb_pn m)
  | .lstore_n k => decide (k.val + 1 < wb_pn m)
  | .istore k => decide (k < wb_pn m)
  | .astore k => decide (k < wb_pn m)
  | .lstore k => decide (k + 1 < wb_pn m)
  | .bipush z => decide ((Int8.ofInt z).toInt32 = Int32.ofInt z)
  | .sipush z => decide ((Int16.ofInt z).toInt32 = Int32.ofInt z)
  | .if_icmp _ off => wb_ckj e.1 off e.2.2
  | .ifCond _ off => wb_ckj e.1 off e.2.2
  | .goto off => wb_ckj e.1 off e.2.2
  | .tableswitch d lo hi offs => wb_ckw e.1 d lo hi offs e.2.2
  | .lookupswitch d ps => wb_ckk e.1 d ps e.2.2
  | .getfield idx => wb_ckg m idx e.2.2
  | .putfield idx => wb_ckp m idx e.2.2
  | .getstatic idx => wb_cks m idx e.2.2
  | .ldc idx => wb_ckl m idx e.2.2
  | .ldc_w idx => wb_ckl m idx e.2.2
  | .ldc2_w idx => wb_ck2 m idx e.2.2
  | .new idx => wb_ckn m idx e.2.2
  | .newarray a => wb_ckm a e.2.2
  | .anewarray idx => wb_cka m idx e.2.2
  | .invokespecial idx => wb_cki m idx e.2.2 || wb_cky m idx e.2.1 e.2.2
  | .invokestatic idx => wb_ckx m idx e.2.2 || wb_cky m idx e.2.1 e.2.2
  | .invokevirtual idx => wb_cky m idx e.2.1 e.2.2
  | .ireturn => wb_ckr m e.2.2
  | .lreturn => decide (wb_r m = some .long)
  | .areturn => (match wb_r m with | some (.object _) => true | _ => false)
  | .return_ => decide (wb_r m = none)
  | _ => true
def wb_ck (m : Nat) (e : wb_E) : Bool := decide (decode (wb_b m) e.1 = .ok (e.2.1, wb_ln e.2.1 e.2.2.1)) && wb_cki2 m (e.1, e.2.1, e.2.2.1)
theorem wb_ft_mem : ∀ (cl : List wb_E) (p : Nat) (e : wb_E), wb_ft cl p = some e → e ∈ cl ∧ e.1 = p
  | [], p, e, h => by cases h
  | e0 :: cl, p, e, h => by
    simp only [wb_ft] at h
    cases hb : Nat.beq e0.1 p with
    | true =>
      rw [hb] at h
      simp only [cond_true, Option.some.injEq] at h
      subst h
      exact ⟨List.mem_cons_self, Nat.eq_of_beq_eq_true hb⟩
    | false =>
      rw [hb] at h
      simp only [cond_false] at h
      obtain ⟨h1, h2⟩ := wb_ft_mem cl p e h
      exact ⟨List.mem_cons_of_mem _ h1, h2⟩
section WBM
variable {p : Program} {l : Launch} {e : Env} {R : Room} {s : State} {mth : MethodId} {args : Array Value} {below : List Frame} {meth : Method} {c : Code} {Q : State → Prop}
variable {fz : Bool} {sc : wb_X} {m pc : Nat} {rv : Nat → Value} {A : Nat → Prop} {D : va_G} {adr0 : Nat → Nat → Nat} {L0 : List (Nat × Nat)} {x : List Nat} {ls : wb_L} {st : List wb_V} {h : wb_H} {n : wb_N} {c' : wb_C}
variable {adr : Nat → Nat → Nat} {cA : Nat → Nat → ClassId} {L : List (Nat × Nat)} {cn : Nat → Nat} {H : Heap}
theorem wb_ca_pk {x : List Nat} (hy : ∀ y x', x = y :: x' → 2 ≤ y) (hp : wb_pk (wb_ca fz m pc x ls st h n) = some c') : False := by
  unfold wb_ca at hp
  split at hp
  · exact absurd (hy _ _ rfl) (by omega)
  · exact absurd (hy _ _ rfl) (by omega)
  · split at hp
    · split at hp <;> cases hp
    · cases hp
  · cases hp
theorem wb_cky_y {idx : Nat} {i : Instr} (h : wb_cky m idx i x = true) : ∀ y x', x = y :: x' → 2 ≤ y := by
  intro y x' e
  subst e
  unfold wb_cky at h
  split at h
  · rename_i e
    cases e
    simp only [Bool.and_eq_true] at h
    exact Nat.le_of_ble_eq_true h.1.1.1.1.1.1.1
  · cases h
set_option maxHeartbeats 4000000 in
/-- an instruction that is no call and no return -/
theorem wb_o_all {i : Instr} (F : wb_fr p R s mth args meth c m A) (hd : decode (wb_b m) pc = .ok (i, wb_ln i x)) (hck : wb_cki2 m (pc, i, x) = true) (hro : wb_RO sc rv A s) (hp : wb_pk (wb_st fz sc m pc i x ls st h n) = some c') (G : wb_G p l e R s mth args below meth c Q fz m rv A D adr0 L0 c') : wb_G p l e R s mth args below meth c Q fz m rv A D adr0 L0 (pc, ls, st, h, n) := by
  have hcat := hro.1
  have hrv : ∀ t, 1 ≤ t → t ≠ 9 → t < 10 → ∃ a, rv t = .ref a := by
    intro t h1 h2 h3
    rcases (show t = 1 ∨ t = 2 ∨ t = 3 ∨ t = 4 ∨ t = 5 ∨ t = 6 ∨ t = 7 ∨ t = 8 by omega) with rfl | rfl | rfl | rfl | rfl | rfl | rfl | rfl
    · obtain ⟨a, q, -⟩ := hro.2.1 1 _ rfl; exact ⟨a, q⟩
    · obtain ⟨a, q, -⟩ := hro.2.1 2 _ rfl; exact ⟨a, q⟩
    · obtain ⟨a, q, -⟩ := hro.2.1 3 _ rfl; exact ⟨a, q⟩
    · obtain ⟨a, q, -⟩ := hro.2.1 4 _ rfl; exact ⟨a, q⟩
    · obtain ⟨a, q, -⟩ := hro.2.2.2.1 5 (Or.inl rfl); exact ⟨a, q⟩
    · obtain ⟨a, q, -⟩ := hro.2.2.2.1 6 (Or.inr rfl); exact ⟨a, q⟩
    · obtain ⟨a, q, -⟩ := hro.2.2.1 7 _ rfl; exact ⟨a, q⟩
    · obtain ⟨a, q, -⟩ := hro.2.2.1 8 _ rfl; exact ⟨a, q⟩
  have hj : ∀ off, wb_ckj pc off x = true → ∀ t, x = [t] → (pc : Int) + off = ((t : Nat) : Int) := by
    intro off q t e
    subst e
    exact of_decide_eq_true q
  have ofd := @of_decide_eq_true
  cases i with
  | aload_n k => exact wb_o_aload_n F hd hrv hp G
  | aload k => exact wb_o_aload F hd hrv hp G
  | iload_n k => exact wb_o_iload_n F hd hp G
  | iload k => exact wb_o_iload F hd hp G
  | lload_n k => exact wb_o_lload_n F hd hp G
  | lload k => exact wb_o_lload F hd hp G
  | astore_n k => exact wb_o_astore_n F hd (of_decide_eq_true hck) hrv hcat hp G
  | astore k => exact wb_o_astore F hd (of_decide_eq_true hck) hrv hcat hp G
  | istore_n k => exact wb_o_istore_n F hd (of_decide_eq_true hck) hcat hp G
  | istore k => exact wb_o_istore F hd (of_decide_eq_true hck) hcat hp G
  | lstore_n k => exact wb_o_lstore_n F hd (of_decide_eq_true hck) hcat hp G
  | lstore k => exact wb_o_lstore F hd (of_decide_eq_true hck) hcat hp G
  | iconst z => exact wb_o_iconst F hd hp G
  | bipush z => exact wb_o_bipush F hd (of_decide_eq_true hck) hp G
  | sipush z => exact wb_o_sipush F hd (of_decide_eq_true hck) hp G
  | lconst z => exact wb_o_lconst F hd hp G
  | ldc idx => exact wb_o_ldc F hd hck hro hp G
  | ldc_w idx => exact wb_o_ldcw F hd hck hp G
  | ldc2_w idx => exact wb_o_ldc2 F hd hck hp G
  | iinc k z => exact wb_o_iinc F hd hcat hp G
  | iadd => exact wb_o_iadd F hd hp G
  | isub => exact wb_o_isub F hd hp G
  | imul => exact wb_o_imul F hd hp G
  | iand => exact wb_o_iand F hd hp G
  | ior => exact wb_o_ior F hd hp G
  | ixor => exact wb_o_ixor F hd hp G
  | ishl => exact wb_o_ishl F hd hp G
  | ishr => exact wb_o_ishr F hd hp G
  | iushr => exact wb_o_iushr F hd hp G
  | idiv => exact wb_o_idiv F hd hp G
  | irem => exact wb_o_irem F hd hp G
  | ineg => exact wb_o_ineg F hd hp G
  | ladd => exact wb_o_ladd F hd hp G
  | lsub => exact wb_o_lsub F hd hp G
  | lmul => exact wb_o_lmul F hd hp G
  | ldiv => exact wb_o_ldiv F hd hp G
  | lrem => exact wb_o_lrem F hd hp G
  | lneg => exact wb_o_lneg F hd hp G
  | lcmp => exact wb_o_lcmp F hd hp G
  | i2l => exact wb_o_i2l F hd hp G
  | l2i => exact wb_o_l2i F hd hp G
  | i2b => exact wb_o_i2b F hd hp G
  | i2c => exact wb_o_i2c F hd hp G
  | dup => exact wb_o_dup F hd hcat hp G
  | dup2 => exact wb_o_dup2 F hd hcat hp G
  | pop => exact wb_o_pop F hd hp G
  | if_icmp cc off => exact wb_o_icmp F hd (hj off hck) hp G
  | ifCond cc off => exact wb_o_ifc F hd (hj off hck) hp G
  | goto off => exact wb_o_goto F hd (hj off hck) hp G
  | tableswitch d lo hi offs => exact wb_o_tableswitch F hd hck hp G
  | lookupswitch d ps => exact wb_o_lookupswitch F hd hck hp G
  | getfield idx => exact wb_o_getfield F hd hck hro hp G
  | putfield idx => exact wb_o_putfield F hd hck hp G
  | getstatic idx => exact wb_o_getstatic F hd hck hro hp G
  | iaload => exact wb_o_iaload F hd hro hp G
  | baload => exact wb_o_baload F hd hro hp G
  | laload => exact wb_o_laload F hd hp G
  | aaload => exact wb_o_aaload F hd hp G
  | iastore => exact wb_o_iastore F hd hp G
  | bastore => exact wb_o_bastore F hd hp G
  | lastore => exact wb_o_lastore F hd hp G
  | aastore => exact wb_o_aastore F hd hp G
  | arraylength => exact wb_o_arraylength F hd hro hp G
  | new idx => exact wb_o_new F hd hck hp G
  | newarray a => exact wb_o_newarray F hd hck hp G
  | anewarray idx => exact wb_o_anewarray F hd hck hro hp G
  | invokespecial idx =>
    have hck : (wb_cki m idx x || wb_cky m idx (.invokespecial idx) x) = true := hck
    rw [Bool.or_eq_true] at hck
    rcases hck with hck | hck
    · exact wb_o_objinit F hd hck hcat hp G
    · exact (wb_ca_pk (wb_cky_y hck) hp).elim
  | invokestatic idx =>
    have hck : (wb_ckx m idx x || wb_cky m idx (.invokestatic idx) x) = true := hck
    rw [Bool.or_eq_true] at hck
    rcases hck with hck | hck
    · exact wb_o_copy F hd hck hcat hp G
    · exact (wb_ca_pk (wb_cky_y hck) hp).elim
  | invokevirtual idx => exact (wb_ca_pk (wb_cky_y (m := m) (idx := idx) (i := .invokevirtual idx) hck) hp).elim
  | ireturn =>
    exfalso
    simp only [wb_st] at hp
    unfold wb_rt at hp
    split at hp <;> cases hp
  | lreturn =>
    exfalso
    simp only [wb_st] at hp
    split at hp <;> cases hp
  | areturn =>
    exfalso
    simp only [wb_st] at hp
    split at hp <;> cases hp
  | return_ =>
    exfalso
    simp only [wb_st] at hp
    split at hp <;> cases hp
  | _ => cases hp
end WBM
