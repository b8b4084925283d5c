/-! THE CLAIM OUT OF ONE WALK OF THE LAW'S BODY. Your part is whole_start (and what it stands on); all else here is the same for every law, but numbers. -/
def R_law : String := "WhichBinLaw"
def lw_P (b : Addr) (xs : List Int32) (args : Array Value) (s : State) : Prop := args = #[.ref b] ∧ s.IntsAt b xs ∧ xs.length ≤ 3584 ∧ (Jvm.Cond.and given_1 narrow_1).before args s = true
def lw_Q (_ : Array Value) (s : State) (o : Outcome) (t : State) : Prop := o = .returned (some (.int 1)) ∧ Framed s o t [] 600000 7302250
def lw_Z (below : List Frame) (a : Array Value) (s : State) : State → Prop := fun t => ∃ o, t.status = .running ∧ Ended t below o ∧ lw_Q a s o t
/-- the law's own end, with 1 on the stack, nothing written that was there before, its room as the claim has it -/
theorem lw_ret {p : Program} {l : Launch} {e : Env} {s : State} {m : MethodId} {below : List Frame} {meth : Method} {c : Code} {b : Nat} (hx : p.tables.exec = Jvm.exec) (hb : c.code = code) (hr : meth.sig.returnType = ret) (hlocks : meth.locks = false) {pc : Nat} {H : Heap} {ls : Array Slot} (hdg : decode code pc = .ok (.ireturn, 1)) : W p l e room_1 s m #[Value.ref b] below meth c H [] 600000 7302250 (lw_Z below #[Value.ref b] s) (F0 m pc ls [.int 1]) := by
  intro T hT X
  obtain ⟨fs, hret, hrun, hended, hW, hframe⟩ := X.leave (v := some (.int 1)) (hlocks := hlocks) (fun h => by rw [hr] at h; cases h)
  have hmeth' : T.vm.method? m = some meth := X.method'
  refine ⟨T.setFrames fs, ?_, .returned (some (.int 1)), hrun, hended, rfl, ⟨_, rfl⟩, hW, hframe⟩
  jvm_step X.here [X.here.top, hx, hb, hdg, hmeth', hr, ret, narrow_b1]
  (try refine ⟨rfl, ?_⟩); (try refine ⟨rfl, ?_⟩)
  first | (intro acts; rw [hret _ acts rfl rfl rfl]) | rw [hret _ _ rfl rfl rfl]
  exact Steps.refl _
/-- what holds at the law's entry: the machine, the code, the tables' words (any of lw_tbl by 'hts w (by decide +kernel)'), the script of L ints xs at the cell b, what the Statement gives of the start (any of its parts by flat_of_before) -/
def lw_At (p : Program) (s : State) (m : MethodId) (meth : Method) (c : Code) (b L : Nat) (xs : Nat → Int32) : Prop :=
  p.tables.exec = Jvm.exec ∧ c.code = code ∧ meth.sig.returnType = ret ∧ c.maxLocals = 4 ∧ s.vm.findClass R_law = some m.cls ∧ (∀ w ∈ lw_tbl, w.before #[Value.ref b] s = true) ∧ va_X b L xs s s.heap ∧ b < s.heap.size ∧ meth.locks = false ∧ (Jvm.Cond.and given_1 narrow_1).before #[Value.ref b] s = true
set_option maxHeartbeats 4000000 in
theorem whole_start {p : Program} {e : Env} {s : State} {m : MethodId} {below : List Frame} {meth : Method} {c : Code} (l : Launch) (hflags : l.flags = flags0) {b L : Nat} {xs : Nat → Int32} (hL : L ≤ 3584) (C0 : lw_At p s m meth c b L xs) : W p l e room_1 s m #[Value.ref b] below meth c s.heap [] 0 0 (lw_Z below #[Value.ref b] s) (entryFrame m ([Value.ref b] : List Value).toArray 4) := by
  obtain ⟨hx, hb, hr, hml, hown, hts, hX, hbl, hlocks, hgv⟩ := C0
  have hs : ∀ c ∈ wb_FG, c.before #[Value.ref b] s = true := flat_of_before _ hgv
  have hA : ∀ a : Nat, a < s.heap.size → ¬ (fun q : Nat => s.heap.size ≤ q) a := fun a h q => absurd (show s.heap.size ≤ a from q) (Nat.not_le.mpr h)
  obtain ⟨t2, t3, t4, t5, t6, t7, t8, v9, U2, hRO⟩ := wb_RO_at (b := b) hts hs hA
  obtain ⟨D, hK⟩ := wb_classes hts
  obtain ⟨scr, x1, x2, x3, x4, x5⟩ := hX
  have hXT : va_T .int b L (fun j => .int (xs j)) (fun q : Nat => s.heap.size ≤ q) s s.heap := ⟨scr, x1, x2, x3, Nat.le_of_eq x4.symm, by rw [x4], x5, hA b hbl⟩
  have R1 : wb_RO wb_s0 (wb_rv b t2 t2 t3 t4 t5 t6 t7 t8 v9) (fun q : Nat => s.heap.size ≤ q) s := hRO wb_s0 t2 U2
  have R2 : wb_RO (L, xs) (wb_rv b b t2 t3 t4 t5 t6 t7 t8 v9) (fun q : Nat => s.heap.size ≤ q) s := hRO (L, xs) b hXT
  have hN : (283 : Nat) < wb_NM := by decide +kernel
  have F : wb_fr p room_1 s m #[Value.ref b] meth c 283 (fun q : Nat => s.heap.size ≤ q) :=
    ⟨hx, hb, fun w hw => hts w (wb_TB_in hw).1, hown, hml, fun q h => h, fun q => absurd q (by decide +kernel), by decide +kernel, by decide +kernel, by decide +kernel, by decide +kernel⟩
  obtain ⟨h1, e1, e2, I0⟩ := wb_head
  obtain ⟨⟨x, hf⟩, er, hv⟩ := law_loop (sc := (L, xs)) hL 512 0 h1 0 I0 (by decide) (by show L < _; omega) (by decide)
  have hv : x = nN 1 := hv
  subst hv
  obtain ⟨r, er1, er2⟩ := Option.bind_eq_some_iff.mp (show (wb_D (L, xs) 283 (18, [some (.inr (.inr (1, 0))), some (.inr (.inr (20, 0))), some (.inr (.inr (21, 0))), some (.inl (nN 0))], [], h1, wb_n1)).bind wb_vi = some (nN 1, hf) from er)
  have hr1 : r.1 = some (.inl (nN 1)) := by
    revert er2
    obtain ⟨v, h2, n2⟩ := r
    match v with
    | none => intro q; cases q
    | some (.inl y) => intro q; have := congrArg Prod.fst (Option.some.inj q); exact congrArg (fun z => some (Sum.inl z)) this
    | some (.inr y) => intro q; cases q
  obtain ⟨k, hk⟩ := wb_D_iff.mp er1
  have G18 : ∀ adr0 : Nat → Nat → Nat, wb_G p l e room_1 s m #[Value.ref b] below meth c (lw_Z below #[Value.ref b] s) false 283 (wb_rv b t2 t2 t3 t4 t5 t6 t7 t8 v9) (fun q : Nat => s.heap.size ≤ q) D adr0 [] (18, [some (.inr (.inr (0, 0))), some (.inr (.inr (20, 0))), some (.inr (.inr (21, 0))), some (.inl (nN 0))], [], h1, (wb_cnt, 199, 26182)) := by
    intro adr0 adr cA LL H locs J hR hxt hlc hS
    refine (wb_main2 (fz := true) (sc := (L, xs)) (D := D) wb_hall wb_hpl l k).2 283 _ r (by decide) hN hk p e room_1 s m #[Value.ref b] below meth c (lw_Z below #[Value.ref b] s) (wb_rv b b t2 t3 t4 t5 t6 t7 t8 v9) (fun q : Nat => s.heap.size ≤ q) adr LL F R2 ?_ adr cA LL H locs J (wb_freeze e2 hR) ⟨fun q h => ⟨h, rfl⟩, fun _ => rfl⟩ ⟨hlc.1, hlc.2.1, ?_⟩ hS
    · intro adr' cA' L' H' locs' J' pc st hR' hxt' hS' hrt hk1 hk2
      rw [hr1] at hrt
      rcases hrt with ⟨y, rt, hd, hv, rfl, -, -⟩ | ⟨y, hd, hv, -, -⟩ | ⟨r0, a0, o0, hd, hv, -, -, -⟩ | ⟨hd, hv, -, -⟩
      · cases hv
        exact va_forget hS'.2.2 (W.widen (Nat.le_trans hk1 (by decide +kernel)) (Nat.le_trans hk2 (by decide +kernel)) (lw_ret hx hb hr hlocks hd))
      · cases hv
      · cases hv
      · cases hv
    · intro j v hj
      match j, hj with
      | 0, hj => cases hj; exact hlc.2.2 0 _ rfl
      | 1, hj => cases hj; exact hlc.2.2 1 _ rfl
      | 2, hj => cases hj; exact hlc.2.2 2 _ rfl
      | 3, hj => cases hj; exact hlc.2.2 3 _ rfl
      | j + 4, hj => cases hj
  have G0 := wb_rp_G wb_hall l 100000 (wb_main2 (fz := false) (sc := wb_s0) (D := D) wb_hall wb_hpl l 100000).1 283 (by decide) hN p e room_1 s m #[Value.ref b] below meth c (lw_Z below #[Value.ref b] s) (wb_rv b t2 t2 t3 t4 t5 t6 t7 t8 v9) (fun q : Nat => s.heap.size ≤ q) (fun _ _ => 0) [] F R1 10 wb_e0 _ e1 (G18 _)
  have hle : (lg_sl [Value.ref b]).length ≤ 4 := by
    show (1 : Nat) ≤ 4
    decide
  have hl := lv_entry [Value.ref b] (n := 4) hle
  rw [lg_entry_eq]
  generalize (lg_sl [Value.ref b] ++ List.replicate (4 - (lg_sl [Value.ref b]).length) Slot.unset).toArray = J at hl ⊢
  refine G0 (fun _ _ => 0) (fun _ _ => 0) [] s.heap [] J ?_ ⟨fun q h => (by cases h), fun q => (by cases q)⟩ ⟨hl.1, hl.2.1, ?_⟩ va_S.rf
  · exact ⟨⟨List.nodup_nil, fun t o => ⟨fun h => (by cases h), fun h => absurd h.2 (Nat.not_lt_zero _)⟩, fun _ t o k h => (by cases h)⟩, fun k q h => (by cases h), ⟨fun i j p q h => (by cases h), fun k q h => (by cases h)⟩, hK, fun t o h => (by cases h)⟩
  · intro j v hj
    match j, hj with
    | 0, hj => cases hj; exact hl.2.2 (0, Value.ref b) List.mem_cons_self
    | 1, hj => cases hj
    | 2, hj => cases hj
    | 3, hj => cases hj
    | j + 4, hj => cases hj
set_option maxHeartbeats 4000000 in
theorem lw_walk (l : Launch) (hflags : l.flags = flags0) (b : Addr) (xs : List Int32) : MetFree l x (headSpec (Jvm.Cond.code x code maxLocals ret :: tables_1) room_1) (lw_P b xs) (fun _ _ _ _ _ => True) lw_Q := by
  refine MetFree.of_bodyS (code := code) (maxLocals := maxLocals) (ret := ret) (by decide) ?_ ?_
  · intro args s m h hn
    obtain ⟨meth, c, h1, h2, h3, h4, h5, h6, -, -⟩ := Cond.code_spec hn (atoms_spec (ws := Jvm.Cond.code x code maxLocals ret :: tables_1) h _ List.mem_cons_self)
    exact ⟨meth, c, h1, h2, h3, h4, h5, h6⟩
  · intro p e s m args below meth c s₁ B hml0 hP _
    obtain ⟨rfl, hx, hbd, hgv⟩ := hP
    obtain ⟨scr, harrAt, hlist, hof, hsmall⟩ := hx
    obtain ⟨hcb, hkn, -, -⟩ := State.arrayAt?_spec harrAt
    have hown : s.vm.findClass R_law = some m.cls := findClass_of_methodNamed B.named
    have hts0 : ∀ c ∈ (Jvm.Cond.code x code maxLocals ret :: tables_1), c.before #[Value.ref b] s = true := atoms_spec (ws := Jvm.Cond.code x code maxLocals ret :: tables_1) B.pre
    have hts : ∀ w ∈ lw_tbl, w.before #[Value.ref b] s = true := k2_hts_sels lw_privs (fun w hw => hts0 w (List.mem_cons_of_mem _ hw)) lw_privs_ok
    have hml : c.maxLocals = 4 := B.maxLocals_eq (hts0 _ List.mem_cons_self)
    have X₀ : Stand p l e room_1 s m #[Value.ref b] below meth c s₁ [] 0 0 := Stand.of_body B
    have hh0 : s₁.heap = s.heap := by rw [B.state]; rfl
    have hsz : scr.slots.size = xs.length := by rw [← Array.length_toList, hlist, List.length_map]
    have hval : ∀ j : Nat, j < xs.length → scr.slots[j]? = some (.int (xs.getD j 0)) := fun j hj => by
      rw [← Array.getElem?_toList, hlist]
      simp [hj]
    have hbl : b < s.heap.size := (Array.getElem?_eq_some_iff.mp hcb).1
    have hX : va_X b xs.length (fun j => xs.getD j 0) s s.heap := ⟨scr, hcb, hof, hkn, hsz, hval⟩
    have K : W p l e room_1 s m #[Value.ref b] below meth c s₁.heap [] 0 0 (lw_Z below #[Value.ref b] s) (entryFrame m ([Value.ref b] : List Value).toArray 4) := by
      rw [hh0]
      exact whole_start l hflags hbd ⟨B.exec, B.bytes, B.returns, hml, hown, hts, hX, hbl, B.notSynchronized, hgv⟩
    obtain ⟨t, a1, o, b1, b2, b3⟩ := K s₁ rfl X₀
    exact ⟨t, o, a1, b1, b2, b3⟩
theorem lw_pre_spec {args : Array Value} {s : State} (h : (Jvm.Cond.and given_1 narrow_1).before args s = true) (hr : rest_1_c.before args s = true) : ∃ (b : Addr) (xs : List Int32), lw_P b xs args s := by
  have hs := flat_of_before _ h
  have hq := flat_of_before _ hr
  have hc : (Cond.count 1).before args s = true := hs _ (by decide +kernel)
  have harr : (Cond.arrayOf (.arg 0) .int).before args s = true := hs _ (by decide +kernel)
  have hle : (Cond.le (.length (.arg 0)) (.int 3584)).before args s = true := hs _ (by decide +kernel)
  have hlen : (Cond.isInt (.length (.arg 0))).before args s = true := hq _ (by decide +kernel)
  have hall : (Cond.all (.arg 0) (.isInt (.elem (.arg 0) (.index 0)))).before args s = true := hq _ (by decide +kernel)
  obtain ⟨b, xs, hb, hx⟩ := State.ints_of_pre rfl harr hlen hall
  have hsm : xs.length < 2 ^ 31 := hx.choose_spec.2.2.2
  have hev : (Term.length (.arg 0)).eval args s none [] s = some (.int xs.length.toInt32) := hx.length_eval hb
  have hv := Cond.le_ints hev (show (Term.int 3584).eval args s none [] s = some (.int 3584) from rfl)
  have hd : xs.length.toInt32 ≤ 3584 := by
    simpa [Cond.before, Cond.holds, hv] using hle
  have hN : xs.length ≤ 3584 := (Int32.ofNat_le_ofNat hsm (by decide)).mp (show Int32.ofNat xs.length ≤ Int32.ofNat 3584 from hd)
  exact ⟨b, xs, Cond.one_arg hc (show args[0]? = some (.ref b) from hb), hx, hN, h⟩
theorem lw_comes (l : Launch) (hflags : l.flags = flags0) : Comes l x (Jvm.Cond.code x code maxLocals ret :: tables_1) room_1 (fun tb e args s => Calls_1 tb e args s ∧ rest_1 tb e args s ∧ Pre_1 tb e args s)
    (fun _ _ args s o t => lw_Q args s o t) := by
  intro p e ha hc hk s m args below hf hfit hheap happ hpre
  obtain ⟨b, xs, hP⟩ := lw_pre_spec hpre.2.2 hpre.2.1
  obtain ⟨k, o, h1, h2, h3, hQ⟩ := lw_walk l hflags b xs p e ha hc hk s m args below hf ((Spec.applies_iff_loose hf).mp happ).1 hP trivial
  exact ⟨k, o, h1, h2, h3, hQ⟩
theorem lw_frame {s t : State} {o : Outcome} {args : Array Value} (h : Framed s o t [] 600000 7302250) :
    Framed s o t (fieldLocs frame_1_writes args s ++ arrayLocs frame_1_arrays args s ++ staticLocs frame_1_statics s) 600000 7302250 := h
theorem lw_limb (L : Cond) (hL : ∀ (args : Array Value) (s t : State), L.after args s (.returned (some (.int 1))) t = true) :
    ArmFor flags0 classFile x code maxLocals ret World_1 tables_1 room_1 Calls_1 rest_1 Pre_1
      (fun tb e a s o t => postC L tb e a s o t ∧ Framed s o t (fieldLocs frame_1_writes a s ++ arrayLocs frame_1_arrays a s ++ staticLocs frame_1_statics s) 600000 7302250) := by
  intro l hflags _ _ p e ha hc hk s m args below hf hfit hheap happ hpre
  obtain ⟨k, o, h1, h2, h3, rfl, hF⟩ := lw_comes l hflags p e ha hc hk s m args below hf hfit hheap happ hpre
  exact ⟨k, _, h1, h2, h3, hL args s _, lw_frame hF⟩
theorem i_vc : Claimed_1_1 ∧ Claimed_1_2 := ⟨lw_limb limb_1_1 (fun args s t => by simp [limb_1_1, Cond.after, Cond.holds, Cond.value]), lw_limb limb_1_2 (fun args s t => Cond.after_iff.mpr (by
  first | (rw [show limb_1_2 = Cond.eq .result (.int 1) from rfl, Cond.eq_ints (x := 1) (y := 1) rfl rfl]; simp; done) | (simp [limb_1_2, Cond.value, Term.eval]; done)))⟩
