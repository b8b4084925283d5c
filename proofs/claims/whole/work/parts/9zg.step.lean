/-! One step of a method by its contract's parts; the main theorem, Math's own methods too; the head of the law up to its loop. -/
theorem wb_MetofW {l : Launch} {y : MethodName} {ws ws' : List Cond} {rm : Room} {Pc : Array Value → State → Prop} {Qc : Array Value → State → Outcome → State → Prop} {mc ms : Nat} {free : Addr → Prop} {cc : ByteArray} {maxL : Nat} {ret : Option FieldType}
    (hy : plainFor y = true) (hw : ws = Cond.code y cc maxL ret :: ws')
    (body : ∀ p e s m args below meth c s₁, BodyLoose p l y (headSpec ws rm) cc maxL ret e s m args below meth c s₁ → c.maxLocals = maxL → Pc args s →
      W p l e (headSpec ws rm).room s m args below meth c s.heap [] 0 0 (MQ below Qc args s mc ms free) (entryFrame m args maxL)) : Met l y ws rm Pc Qc mc ms free := by
  refine MetFree.of_bodySF (code := cc) (maxLocals := maxL) (ret := ret) hy ?_ ?_
  · intro args s m h hn
    obtain ⟨meth, c, h1, h2, h3, h4, h5, h6, -, -⟩ := Cond.code_spec hn (atoms_spec (ws := ws) h _ (by rw [hw]; exact List.mem_cons_self))
    exact ⟨meth, c, h1, h2, h3, h4, h5, h6⟩
  · intro p e s m args below meth c s₁ B hml hP _
    have hh0 : s₁.heap = s.heap := by rw [B.state]; rfl
    obtain ⟨t, a1, o, b1, b2, b3⟩ := body p e s m args below meth c s₁ B hml hP s₁ hh0 (Stand.of_body B)
    exact ⟨t, o, a1, b1, b2, ⟨b3.1, b3.2⟩⟩
section WBT2
variable {fz : Bool} {sc : wb_X} {D : va_G}
set_option maxHeartbeats 4000000 in
theorem wb_stp (hall : ∀ m, 2 ≤ m → m < wb_NM → (wb_code m).all (wb_ck m) = true) (l : Launch) (k : Nat)
    (callee : ∀ (y : Nat) (as : List wb_V) (h : wb_H) (n : wb_N) (r : wb_R), 2 ≤ y → y < wb_NM → wb_rw as ≤ wb_pn y → wb_ru fz sc k y (wb_en y as h n) = some r → wb_Met l fz sc D y as h n.1 r)
    (K : wb_C → Option wb_R) (m : Nat) (c0 : wb_C) (r : wb_R) (hm2 : 2 ≤ m) (hmN : m < wb_NM) (hrun : wb_ex fz K (wb_ru fz sc k) (wb_ac fz sc m (wb_code m) c0) = some r)
    (p : Program) (e : Env) (R : Room) (s : State) (mth : MethodId) (args : Array Value) (below : List Frame) (meth : Method) (c : Code) (Q : State → Prop) (rv : Nat → Value) (A : Nat → Prop) (adr0 : Nat → Nat → Nat) (L0 : List (Nat × Nat))
    (F : wb_fr p R s mth args meth c m A) (hro : wb_RO sc rv A s) (hret : wb_hret fz m rv A D adr0 L0 r s (fun H locs kc ks pc J st => W p l e R s mth args below meth c H locs kc ks Q (F0 mth pc J st)))
    (hG : ∀ c', K c' = some r → wb_G p l e R s mth args below meth c Q fz m rv A D adr0 L0 c') : wb_G p l e R s mth args below meth c Q fz m rv A D adr0 L0 c0 := by
  obtain ⟨pc0, ls, st, h, n⟩ := c0
  cases hft : wb_ft (wb_code m) pc0 with
  | none =>
    have : wb_ac fz sc m (wb_code m) (pc0, ls, st, h, n) = wb_wr := by simp only [wb_ac, hft]
    rw [this] at hrun
    cases hrun
  | some en =>
    obtain ⟨hmem, hpc⟩ := wb_ft_mem _ _ _ hft
    have hck := List.all_eq_true.mp (hall m hm2 hmN) en hmem
    have hac : wb_ac fz sc m (wb_code m) (pc0, ls, st, h, n) = wb_st fz sc m pc0 en.2.1 en.2.2.1 (wb_dr ls en.2.2.2) st h n := by simp only [wb_ac, hft, hpc]
    rw [hac] at hrun
    obtain ⟨p0, i, x, dd⟩ := en
    simp only at hpc hrun hck
    subst hpc
    suffices hdr : wb_G p l e R s mth args below meth c Q fz m rv A D adr0 L0 (p0, wb_dr ls dd, st, h, n) from
      fun adr cA L H locs J hR hxt hl hS => hdr adr cA L H locs J hR hxt ⟨hl.1, hl.2.1, fun k v hk => hl.2.2 k v (wb_g_dr dd ls k v hk)⟩ hS
    generalize wb_dr ls dd = ls at hrun ⊢
    unfold wb_ck at hck
    simp only [Bool.and_eq_true, decide_eq_true_eq] at hck
    obtain ⟨hd, hck⟩ := hck
    cases ha : wb_st fz sc m p0 i x ls st h n with
    | inl b =>
      rw [ha] at hrun
      simp only [wb_ex, wb_ib_pick] at hrun
      cases hp : wb_pick b.1 b.2 with
      | none => rw [hp] at hrun; cases hrun
      | some c' =>
        rw [hp] at hrun
        exact wb_o_all F hd hck hro (by rw [ha]; exact hp) (hG c' hrun)
    | inr q =>
      have hicl : wb_icl i ≠ 0 := by
        intro q0
        have := wb_isl_st (fz := fz) (sc := sc) (m := m) (pc := p0) (x := x) (ls := ls) (st := st) (h := h) (n := n) q0
        rw [ha] at this
        cases this
      cases q with
      | inl q =>
        obtain ⟨⟨y, as, h1, n1⟩, b, kd, p', ls', st'⟩ := q
        have hcall : ∃ idx, (i = .invokestatic idx ∨ i = .invokevirtual idx ∨ i = .invokespecial idx) ∧ wb_ca fz m p0 x ls st h n = .inr (.inl ((y, as, h1, n1), b, kd, p', ls', st')) ∧ wb_cky m idx i x = true := by
          have ckx : ∀ idx, wb_ca fz m p0 x ls st h n = .inr (.inl ((y, as, h1, n1), b, kd, p', ls', st')) → wb_ckx m idx x = true → False := by
            intro idx q1 q2
            obtain ⟨k0, kd0, ci0, x0, st0, rfl, hy, -⟩ := wb_ca_inv (q := ((y, as, h1, n1), b, kd, p', ls', st')) q1
            unfold wb_ckx at q2
            split at q2
            · rename_i e; cases e; omega
            · cases q2
          have cki : ∀ idx, wb_ca fz m p0 x ls st h n = .inr (.inl ((y, as, h1, n1), b, kd, p', ls', st')) → wb_cki m idx x = true → False := by
            intro idx q1 q2
            obtain ⟨k0, kd0, ci0, x0, st0, rfl, hy, -⟩ := wb_ca_inv (q := ((y, as, h1, n1), b, kd, p', ls', st')) q1
            unfold wb_cki at q2
            split at q2
            · rename_i e; cases e; omega
            · cases q2
          cases i with
          | invokestatic idx =>
            have ha2 : wb_ca fz m p0 x ls st h n = .inr (.inl ((y, as, h1, n1), b, kd, p', ls', st')) := ha
            have hck2 : (wb_ckx m idx x || wb_cky m idx (.invokestatic idx) x) = true := hck
            rw [Bool.or_eq_true] at hck2
            exact ⟨idx, Or.inl rfl, ha2, hck2.resolve_left (fun q => ckx idx ha2 q)⟩
          | invokevirtual idx => exact ⟨idx, Or.inr (Or.inl rfl), ha, hck⟩
          | invokespecial idx =>
            have ha2 : wb_ca fz m p0 x ls st h n = .inr (.inl ((y, as, h1, n1), b, kd, p', ls', st')) := ha
            have hck2 : (wb_cki m idx x || wb_cky m idx (.invokespecial idx) x) = true := hck
            rw [Bool.or_eq_true] at hck2
            exact ⟨idx, Or.inr (Or.inr rfl), ha2, hck2.resolve_left (fun q => cki idx ha2 q)⟩
          | ireturn =>
            simp only [wb_st] at ha
            unfold wb_rt at ha
            split at ha <;> cases ha
          | lreturn => simp only [wb_st] at ha; split at ha <;> cases ha
          | areturn => simp only [wb_st] at ha; split at ha <;> cases ha
          | return_ => simp only [wb_st] at ha; split at ha <;> cases ha
          | _ => exact absurd rfl hicl
        obtain ⟨idx, hi, hca, hcky⟩ := hcall
        rw [ha] at hrun
        simp only [wb_ex] at hrun
        cases b with
        | false => cases hrun
        | true =>
          simp only [cond_true, Option.bind_eq_some_iff] at hrun
          obtain ⟨r1, hr1, st2, hk2, hr2⟩ := hrun
          obtain ⟨k0, kd0, ci0, x0, st0, rfl, hy2, hpop, rfl, rfl, hrw, hra, -⟩ := wb_ca_inv (q := ((y, as, h1, n1), true, kd, p', ls', st')) hca
          have hyN : y < wb_NM := by
            unfold wb_cky at hcky
            split at hcky
            · rename_i e
              cases e
              simp only [Bool.and_eq_true] at hcky
              exact Nat.lt_of_succ_le (Nat.le_of_ble_eq_true hcky.1.1.1.1.1.2)
            · cases hcky
          have hd3 : decode (wb_b m) p0 = .ok (i, 3) := by
            rcases hi with rfl | rfl | rfl <;> exact hd
          exact wb_o_call hi F hd3 hcky hro hca rfl (callee y as h1 n1 r1 hy2 hyN hra hr1) (fun q => by subst q; exact wb_ru_n k y _ r1 hr1) hk2 (hG _ hr2)
      | inr q =>
        obtain ⟨b, r1⟩ := q
        rw [ha] at hrun
        simp only [wb_ex] at hrun
        cases b with
        | false => cases hrun
        | true =>
          simp only [cond_true, Option.some.injEq] at hrun
          subst hrun
          intro adr cA L H locs J hR hxt hl hS
          cases i with
          | ireturn =>
            obtain ⟨y, rt, rfl, rfl, h1, h2, h3, h4⟩ := wb_rt_inv hck ha rfl
            exact hret adr cA L H locs J p0 _ hR hxt hS (Or.inl ⟨y, rt, hd, rfl, rfl, h1, h2⟩) h3 h4
          | lreturn =>
            simp only [wb_st] at ha
            split at ha
            · rename_i y
              have ha2 := Sum.inr.inj (Sum.inr.inj ha)
              have hb := congrArg Prod.fst ha2
              have hr1 := congrArg Prod.snd ha2
              simp only at hb hr1
              subst hr1
              exact hret adr cA L H locs J p0 _ hR hxt hS (Or.inr (Or.inl ⟨y, hd, rfl, rfl, of_decide_eq_true hck⟩)) (by simp only [wb_rok, Bool.and_eq_true, decide_eq_true_eq] at hb; exact hb.1.1) (by simp only [wb_rok, Bool.and_eq_true, decide_eq_true_eq] at hb; exact hb.1.2)
            · cases ha
          | areturn =>
            simp only [wb_st] at ha
            split at ha
            · rename_i r0
              have ha2 := Sum.inr.inj (Sum.inr.inj ha)
              have hb := congrArg Prod.fst ha2
              have hr1 := congrArg Prod.snd ha2
              simp only at hb hr1
              subst hr1
              simp only [wb_rok, Bool.and_eq_true, decide_eq_true_eq] at hb
              obtain ⟨t, o⟩ := r0
              have hck2 : ∃ o, wb_r m = some (.object o) := by
                have : (match wb_r m with | some (.object _) => true | _ => false) = true := hck
                split at this
                · rename_i o e; exact ⟨o, e⟩
                · cases this
              obtain ⟨ob, hck2⟩ := hck2
              exact hret adr cA L H locs J p0 _ hR hxt hS (Or.inr (Or.inr (Or.inl ⟨(t, o), adr t o, ob, hd, rfl, wb_tvr hb.2, by rw [List.map_cons, wb_tvr hb.2]; rfl, hck2⟩))) hb.1.1 hb.1.2
            · cases ha
          | return_ =>
            simp only [wb_st] at ha
            split at ha
            · have ha2 := Sum.inr.inj (Sum.inr.inj ha)
              have hb := congrArg Prod.fst ha2
              have hr1 := congrArg Prod.snd ha2
              simp only at hb hr1
              subst hr1
              simp only [wb_rok, Bool.and_eq_true, decide_eq_true_eq] at hb
              exact hret adr cA L H locs J p0 _ hR hxt hS (Or.inr (Or.inr (Or.inr ⟨hd, rfl, rfl, of_decide_eq_true hck⟩))) hb.1.1 hb.1.2
            · cases ha
          | invokestatic idx =>
            have ha : wb_ca fz m p0 x ls st h n = _ := ha
            unfold wb_ca at ha
            repeat' split at ha
            all_goals cases ha
          | invokevirtual idx =>
            have ha : wb_ca fz m p0 x ls st h n = _ := ha
            unfold wb_ca at ha
            repeat' split at ha
            all_goals cases ha
          | invokespecial idx =>
            have ha : wb_ca fz m p0 x ls st h n = _ := ha
            unfold wb_ca at ha
            repeat' split at ha
            all_goals cases ha
          | _ => exact absurd rfl hicl
set_option maxHeartbeats 4000000 in
theorem wb_main2 (hall : ∀ m, 2 ≤ m → m < wb_NM → (wb_code m).all (wb_ck m) = true) (hpl : ∀ m, 2 ≤ m → m < wb_NM → plainFor (wb_y m) = true) (l : Launch) : ∀ k : Nat,
    (∀ (y : Nat) (as : List wb_V) (h : wb_H) (n : wb_N) (r : wb_R), 2 ≤ y → y < wb_NM → wb_rw as ≤ wb_pn y → wb_ru fz sc k y (wb_en y as h n) = some r → wb_Met l fz sc D y as h n.1 r) ∧
    (∀ (m : Nat) (c0 : wb_C) (r : wb_R), 2 ≤ m → m < wb_NM → wb_ru fz sc k m c0 = some r → ∀ (p : Program) (e : Env) (R : Room) (s : State) (mth : MethodId) (args : Array Value) (below : List Frame) (meth : Method) (c : Code) (Q : State → Prop) (rv : Nat → Value) (A : Nat → Prop) (adr0 : Nat → Nat → Nat) (L0 : List (Nat × Nat)),
      wb_fr p R s mth args meth c m A → wb_RO sc rv A s → wb_hret fz m rv A D adr0 L0 r s (fun H locs kc ks pc J st => W p l e R s mth args below meth c H locs kc ks Q (F0 mth pc J st)) → wb_G p l e R s mth args below meth c Q fz m rv A D adr0 L0 c0) := by
  intro k
  have first : ∀ k, (∀ (m : Nat) (c0 : wb_C) (r : wb_R), 2 ≤ m → m < wb_NM → wb_ru fz sc k m c0 = some r → ∀ (p : Program) (e : Env) (R : Room) (s : State) (mth : MethodId) (args : Array Value) (below : List Frame) (meth : Method) (c : Code) (Q : State → Prop) (rv : Nat → Value) (A : Nat → Prop) (adr0 : Nat → Nat → Nat) (L0 : List (Nat × Nat)),
      wb_fr p R s mth args meth c m A → wb_RO sc rv A s → wb_hret fz m rv A D adr0 L0 r s (fun H locs kc ks pc J st => W p l e R s mth args below meth c H locs kc ks Q (F0 mth pc J st)) → wb_G p l e R s mth args below meth c Q fz m rv A D adr0 L0 c0) →
      (∀ (y : Nat) (as : List wb_V) (h : wb_H) (n : wb_N) (r : wb_R), 2 ≤ y → y < wb_NM → wb_rw as ≤ wb_pn y → wb_ru fz sc k y (wb_en y as h n) = some r → wb_Met l fz sc D y as h n.1 r) := by
    intro k second y as h n r hy2 hyN hrw hrun rv adr cA L H
    refine wb_MetofW (cc := wb_b y) (maxL := wb_pn y) (ret := wb_r y) (hpl y hy2 hyN) rfl ?_
    intro p e s m args below meth c s₁ B hml hv
    obtain ⟨rfl, rfl, hR, hro⟩ := hv
    have hts := atoms_spec (ws := wb_ws y) B.pre
    have hcat := hro.1
    rw [lg_entry_eq]
    have hle : (lg_sl (as.map (wb_tv rv adr))).length ≤ wb_pn y := by rw [wb_sl_len hcat]; exact hrw
    have hl := lv_entry (as.map (wb_tv rv adr)) (n := wb_pn y) hle
    generalize (lg_sl (as.map (wb_tv rv adr)) ++ List.replicate (wb_pn y - (lg_sl (as.map (wb_tv rv adr))).length) Slot.unset).toArray = J at hl ⊢
    have hS0 : va_S (va_A (wb_wd fz adr cA h L) s.heap.size) s.heap s.heap [] := va_S.rf
    have F : wb_fr p (headSpec (wb_ws y) (wb_rm y)).room s m (as.map (wb_tv rv adr)).toArray meth c y (va_A (wb_wd fz adr cA h L) s.heap.size) :=
      ⟨B.exec, B.bytes, fun w hw => hts w (List.mem_cons_of_mem _ hw), findClass_of_methodNamed B.named, hml, fun q hq => Or.inr hq, fun q => (name_of_methodNamed B.named B.method).1.trans q, Nat.le_refl _, Nat.le_refl _, Nat.le_refl _, Nat.le_refl _⟩
    have hlc : wb_lc (wb_tv rv adr) (wb_el as (wb_pn y)) J (wb_pn y) := ⟨hl.1, hl.2.1, fun k v hk => by
      have := wb_el_has (adr := adr) hcat as (wb_pn y) 0 v k hk
      rw [Nat.zero_add] at this
      exact hl.2.2 _ this⟩
    refine second y (wb_en y as h n) r hy2 hyN hrun p e (headSpec (wb_ws y) (wb_rm y)).room s m (as.map (wb_tv rv adr)).toArray below meth c _ rv _ adr L F hro ?_ adr cA L s.heap [] J hR ⟨fun q hq => ⟨hq, rfl⟩, fun _ => rfl⟩ hlc hS0
    intro adr' cA' L' H' locs J' pc st hR' hxt hS hrt hk1 hk2
    refine W.widen hk1 hk2 ?_
    have hpost : ∀ (o : Outcome) (t : State), o = .returned (r.1.map (wb_tv rv adr')) → t.heap = H' → s.WarmedH t.vm → wb_Qc fz rv D adr cA L h s.heap r (as.map (wb_tv rv adr)).toArray s o t := by
      intro o t ho ht hW
      subst ht
      exact ⟨⟨adr', cA', L', ho, wb_rep_moved hW.alike hR', hxt.1, hxt.2⟩, hS.F rfl⟩
    rcases hrt with ⟨x, rt, hd, hv, rfl, hrr, hn⟩ | ⟨x, hd, hv, rfl, hrr⟩ | ⟨r1, a, o, hd, hv, hta, rfl, hrr⟩ | ⟨hd, hv, rfl, hrr⟩
    · exact W.zret (v := x) B.exec B.bytes (B.returns.trans hrr) hn (fun t ht hW => hpost _ t (by rw [hv]; rfl) ht hW) hS.2.2 hd B.notSynchronized
    · exact W.lret (v := x) B.exec B.bytes (B.returns.trans hrr) (fun t ht hW => hpost _ t (by rw [hv]; rfl) ht hW) hS.2.2 hd B.notSynchronized
    · exact W.aret (v := .ref a) B.exec B.bytes (B.returns.trans hrr) (Or.inl ⟨o, rfl⟩) (Or.inr ⟨a, rfl⟩) (fun t ht hW => hpost _ t (by rw [hv, ← hta]; rfl) ht hW) hS.2.2 hd B.notSynchronized
    · exact W.vret B.exec B.bytes (B.returns.trans hrr) (fun t ht hW => hpost _ t (by rw [hv]; rfl) ht hW) hS.2.2 hd B.notSynchronized
  suffices second : (∀ (m : Nat) (c0 : wb_C) (r : wb_R), 2 ≤ m → m < wb_NM → wb_ru fz sc k m c0 = some r → ∀ (p : Program) (e : Env) (R : Room) (s : State) (mth : MethodId) (args : Array Value) (below : List Frame) (meth : Method) (c : Code) (Q : State → Prop) (rv : Nat → Value) (A : Nat → Prop) (adr0 : Nat → Nat → Nat) (L0 : List (Nat × Nat)),
      wb_fr p R s mth args meth c m A → wb_RO sc rv A s → wb_hret fz m rv A D adr0 L0 r s (fun H locs kc ks pc J st => W p l e R s mth args below meth c H locs kc ks Q (F0 mth pc J st)) → wb_G p l e R s mth args below meth c Q fz m rv A D adr0 L0 c0) from ⟨first k second, second⟩
  induction k with
  | zero => intro m c0 r _ _ q; cases q
  | succ k ih =>
    intro m c0 r hm2 hmN hrun p e R s mth args below meth c Q rv A adr0 L0 F hro hret
    exact wb_stp hall l k (first k ih) (wb_ru fz sc k m) m c0 r hm2 hmN hrun p e R s mth args below meth c Q rv A adr0 L0 F hro hret (fun c' q => ih m c' r hm2 hmN q p e R s mth args below meth c Q rv A adr0 L0 F hro hret)
/-- the next place of a method -/
def wb_nxt (fz : Bool) (sc : wb_X) (k m : Nat) (c0 : wb_C) : Option wb_C := match wb_ac fz sc m (wb_code m) c0 with
  | .inl b => wb_pick b.1 b.2
  | .inr (.inl ((y, as, h, n), b, kd, p, ls, st)) => bif b then (wb_ru fz sc k y (wb_en y as h n)).bind (fun r => (wb_rk kd r.1 st).bind (fun st' => some (p, ls, st', r.2.1, wb_nn fz n r.2.2 y))) else none
  | .inr (.inr _) => none
def wb_rp (fz : Bool) (sc : wb_X) (k m : Nat) : Nat → wb_C → Option wb_C
  | 0, c => some c
  | j + 1, c => (wb_nxt fz sc k m c).bind (wb_rp fz sc k m j)
end WBT2
