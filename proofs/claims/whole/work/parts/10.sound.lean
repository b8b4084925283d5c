/-! A run of the plain machine is a run of the JVM. -/
section WBS
variable {p : Program} {l : Launch} {e : Env} {R : Room} {s : State} {mth : MethodId} {args : Array Value} {below : List Frame} {meth : Method} {c : Code} {Q : State → Prop}
variable {fz : Bool} {sc : wb_X} {m pc : Nat} {rv : Nat → Value} {A : Nat → Prop} {D : va_G} {adr0 : Nat → Nat → Nat} {L0 : List (Nat × Nat)} {x : List Nat} {ls : wb_L} {st : List wb_V} {h : wb_H} {n : wb_N} {c' : wb_C}
variable {adr : Nat → Nat → Nat} {cA : Nat → Nat → ClassId} {L : List (Nat × Nat)} {cn : Nat → Nat} {H : Heap}
theorem wb_ca_inv {q : wb_K} {b : Bool × (Nat × (Nat × (wb_L × List wb_V)))} {y : Nat} {as : List wb_V} {h1 : wb_H} {n1 : wb_N} (ha : wb_ca fz m pc x ls st h n = .inr (.inl ((y, as, h1, n1), b))) :
    ∃ k kd ci x' st', x = y :: k :: kd :: ci :: x' ∧ 2 ≤ y ∧ wb_pop k [] st = some (as, st') ∧ h1 = h ∧ n1 = n ∧ wb_rw st' ≤ 8 ∧ wb_rw as ≤ wb_pn y ∧
      b = ((wb_fok fz n.1 ls st' && wb_fo2 fz n.1 as y && decide (n.2.1 + wb_mc y ≤ wb_mc m) && decide (n.2.2 + wb_ms y ≤ wb_ms m)) && wb_rc n.1 ci as, kd, pc + 3, ls, st') := by
  unfold wb_ca at ha
  split at ha
  · split at ha
    · split at ha <;> cases ha
    · cases ha
  · split at ha
    · split at ha <;> cases ha
    · cases ha
  · rename_i y' k kd ci x' h0 h1'
    split at ha
    · rename_i as' st' hpop
      split at ha
      · rename_i hrw
        simp only [Bool.and_eq_true, decide_eq_true_eq] at hrw
        cases ha
        refine ⟨k, kd, ci, x', st', rfl, ?_, hpop, rfl, rfl, hrw.1, hrw.2, rfl⟩
        cases y with
        | zero => exact (h0 rfl).elim
        | succ y =>
          cases y with
          | zero => exact (h1' rfl).elim
          | succ y => omega
      · cases ha
    · cases ha
  · cases ha
set_option maxHeartbeats 4000000 in
/-- a call, by the callee's contract -/
theorem wb_o_call {i : Instr} {idx : Nat} (hi : i = .invokestatic idx ∨ i = .invokevirtual idx ∨ i = .invokespecial idx) (F : wb_fr p R s mth args meth c m A) (hd : decode (wb_b m) pc = .ok (i, 3)) (hck : wb_cky m idx i x = true) (hro : wb_RO sc rv A s)
    {y kd p' : Nat} {as st' st2 : List wb_V} {h1 : wb_H} {n1 : wb_N} {b : Bool} {ls' : wb_L} (ha : wb_ca fz m pc x ls st h n = .inr (.inl ((y, as, h1, n1), b, kd, p', ls', st'))) (hb : b = true) {r : wb_R} (hM : wb_Met l fz sc D y as h1 n1.1 r) (hfz : fz = true → r.2.2.1 = n.1)
    (hk : wb_rk kd r.1 st' = some st2) (G : wb_G p l e R s mth args below meth c Q fz m rv A D adr0 L0 (p', ls', st2, r.2.1, wb_nn fz n1 r.2.2 y)) : wb_G p l e R s mth args below meth c Q fz m rv A D adr0 L0 (pc, ls, st, h, n) := by
  obtain ⟨hx, hbb, hts, hown, hml, hA, hin, hnf, hnl, hnc, hns⟩ := F
  obtain ⟨k, kd', ci, x', st'', rfl, hy2, hpop, rfl, rfl, hrw, hra, hbe⟩ := wb_ca_inv (q := ((y, as, h1, n1), b, kd, p', ls', st')) ha
  cases hbe
  simp only [Bool.and_eq_true, decide_eq_true_eq] at hb
  obtain ⟨⟨⟨⟨hok, hf2⟩, hcc⟩, hss⟩, hrc⟩ := hb
  intro adr cA L H locs J hR hxt hl hS
  replace hR : wb_rep fz D adr cA L n1.1 h1 A H s := hR
  have hcat := hro.1
  have hmc : fz = true → n1.2.1 + wb_mc y = n1.2.1 ∧ n1.2.2 + wb_ms y = n1.2.2 := by
    intro q
    subst q
    simp only [wb_fo2, Bool.and_eq_true] at hf2
    have q1 := Nat.eq_of_beq_eq_true hf2.1
    have q2 := Nat.eq_of_beq_eq_true hf2.2
    omega
  obtain ⟨bs, hbl, hbs, hst⟩ := wb_pop_ok k [] st as st' hpop
  rw [List.append_nil] at hbs
  subst hbs
  have hS' : CallFix p mth c (wb_b m) (wb_pn m) s args wb_TB (wb_y m).cls := ⟨hx, hbb, hml, hown, hts⟩
  unfold wb_cky at hck
  split at hck
  · rename_i y' k' kd'' ci' lk code ini sec sel nest e
    cases e
    simp only [Bool.and_eq_true, decide_eq_true_eq] at hck
    obtain ⟨⟨⟨⟨⟨⟨⟨hy2', hy3⟩, -⟩, wini⟩, wlk⟩, hcls⟩, hroom⟩, hrest⟩ := hck
    have hG := wb_goodIn (wb_cod y hy2 (Nat.lt_of_succ_le (Nat.le_of_ble_eq_true hy3)))
    have hini := hts _ (wb_at_in wini)
    have hroom2 : (wb_rm y).frames + 1 ≤ R.frames ∧ 8 + (wb_pn y + 11) + (wb_rm y).locals ≤ R.locals := ⟨Nat.le_trans hroom.1 hnf, Nat.le_trans hroom.2 hnl⟩
    have hmap : st.map (wb_tv rv adr) = (as.map (wb_tv rv adr)).reverse ++ st'.map (wb_tv rv adr) := by rw [hst, List.map_append, List.map_reverse]
    have hWr : ((st'.map (wb_tv rv adr)).map fun v => v.category).sum ≤ 8 := by rw [wb_rw_sum hcat]; exact hrw
    have hff : n1.2.1 + wb_mc y ≤ R.cells ∧ n1.2.2 + wb_ms y ≤ R.slots := ⟨Nat.le_trans hcc hnc, Nat.le_trans hss hns⟩
    have hPs := wb_Pc_at (as := as) hR hro hA hS
    rcases hi with rfl | rfl | rfl
    · simp only [Bool.and_eq_true, decide_eq_true_eq] at hrest
      have hstt := hts _ (wb_at_in hrest.1)
      have hpre : PreS s H (wb_Pc fz sc rv D adr cA L n1.1 h1 H as) (as.map (wb_tv rv adr)) := ⟨wb_Pc_blind, hPs⟩
      have hlen : (as.map (wb_tv rv adr)).length = k := by rw [List.length_map, hbl]
      rw [show (pc, ls, st, h1, n1).2.2.1 = st from rfl, hmap]
      refine wb_after (y := y) (as := []) hA hR hxt hl hS hok hfz hk G hmc (a := (as.map (wb_tv rv adr)).toArray) ?_
      cases nest with
      | zero => exact va_runS hS' (hM rv adr cA L H) ⟨callB_of k hts hG rfl rfl rfl hini (hts _ (wb_at_in wlk)) ⟨hcls.1, hcls.2, hrest.2⟩ hroom2, hstt⟩ hpre rfl hlen hl.1 rfl (lv_room hWr) hd hff
      | succ nest => exact va_runSN hS' (hM rv adr cA L H) ⟨va_cnB k hts hG rfl rfl rfl (wb_atn_in wlk hro) hini ⟨hcls.1, hcls.2, hrest.2⟩ hroom2, hstt, trivial⟩ hpre rfl hlen hl.1 rfl (lv_room hWr) hd hff
    · simp only [Bool.and_eq_true, Bool.or_eq_true, decide_eq_true_eq] at hrest
      obtain ⟨⟨⟨wsec, wsel⟩, hpar⟩, hci⟩ := hrest
      obtain ⟨t, o, as', rfl, hrecv⟩ : ∃ t o as', as = .inr (.inr (t, o)) :: as' ∧ ∃ bb, wb_tv rv adr (.inr (.inr (t, o))) = .ref bb ∧ ∃ cellB : Cell, H[bb]? = some cellB ∧ cellB.vm.isStatics = false ∧ s.vm.findClass (wb_y y).cls = some cellB.cls := by
        rcases hci with ⟨q1, q2⟩ | ⟨q1, q2⟩
        · have q1 := Nat.eq_of_beq_eq_true q1
          subst q1
          match as, hrc with
          | .inr (.inr (t, o)) :: as', hrc =>
            replace hrc : (Nat.beq t 5 || Nat.beq t 6) = true := hrc
            simp only [Bool.or_eq_true] at hrc
            have ht : t = 5 ∨ t = 6 := hrc.imp Nat.eq_of_beq_eq_true Nat.eq_of_beq_eq_true
            obtain ⟨a, ha1, ⟨cell, g1, g2, g3, g4⟩, -⟩ := hro.2.2.2.1 t ht
            refine ⟨t, o, as', rfl, a, wb_tvro (by omega) ha1, cell, ?_, g2, by rw [q2]; exact g3⟩
            rw [hS.2.1 a (Array.getElem?_eq_some_iff.mp g1).1 g4]; exact g1
          | [], hrc => cases hrc
          | .inl _ :: _, hrc => cases hrc
          | .inr (.inl _) :: _, hrc => cases hrc
        · have q1 : ci < 12 := Nat.lt_of_succ_le (Nat.le_of_ble_eq_true q1)
          unfold wb_rc at hrc
          split at hrc
          · omega
          · omega
          · omega
          · rename_i t o as' _ _ _
            simp only [Bool.and_eq_true, decide_eq_true_eq] at hrc
            have hsh : wb_shp t = (0, ci) := Prod.ext (Nat.eq_of_beq_eq_true hrc.1) (Nat.eq_of_beq_eq_true hrc.2.1)
            obtain ⟨ht10, -, -⟩ := wb_tag_obj hsh
            obtain ⟨i0, hi0, hwd⟩ := wb_rep_at hR ht10 hrc.2.2
            rw [wb_ent_obj hsh] at hwd
            obtain ⟨C, T, N, hcl, -, -⟩ := wb_cls_at q1
            rw [hcl] at q2
            simp only [Option.map_some, Option.some.injEq] at q2
            obtain ⟨cell, g1, g2, g3⟩ := va_recv hR.2.2.2.1 hR.2.1 hcl hwd
            exact ⟨t, o, as', rfl, _, wb_tvr ht10, cell, g1, g2, by rw [← q2]; exact g3⟩
          · cases hrc
      obtain ⟨bb, hbb2, hrecv⟩ := hrecv
      have hinst := hts _ (wb_at_in wsec)
      have hsel := hts _ (wb_at_in wsel)
      have hm2 : (Sum.inr (Sum.inr (t, o)) :: as' : List wb_V).map (wb_tv rv adr) = .ref bb :: as'.map (wb_tv rv adr) := by rw [List.map_cons, hbb2]
      rw [hm2] at hPs hmap
      have hpre : PreV s H (wb_y y).cls bb (wb_Pc fz sc rv D adr cA L n1.1 h1 H (.inr (.inr (t, o)) :: as')) (as'.map (wb_tv rv adr)) := ⟨wb_Pc_blind, hrecv, hPs⟩
      have hlen : (as'.map (wb_tv rv adr)).length = k - 1 := by rw [List.length_map]; simp only [List.length_cons] at hbl; omega
      have hpar2 : (parseMethodDescriptor (wb_y y).desc).map (fun d => d.parameters.length) = some (k - 1) := by
        cases hq : parseMethodDescriptor (wb_y y).desc with
        | none => rw [hq] at hpar; cases hpar
        | some d =>
          rw [hq] at hpar
          simp only [Option.map_some, Option.some.injEq] at hpar ⊢
          omega
      rw [show (pc, ls, st, h1, n1).2.2.1 = st from rfl, hmap]
      refine wb_after (y := y) (as := []) hA hR hxt hl hS hok hfz hk G hmc (a := (Value.ref bb :: as'.map (wb_tv rv adr)).toArray) ?_
      have hsk : (Value.ref bb :: as'.map (wb_tv rv adr)).reverse ++ st'.map (wb_tv rv adr) = (as'.map (wb_tv rv adr)).reverse ++ Value.ref bb :: st'.map (wb_tv rv adr) := by simp
      cases nest with
      | zero => exact va_runV hS' (hM rv adr cA L H) ⟨callB_of (k - 1) hts hG rfl rfl rfl hini (hts _ (wb_at_in wlk)) ⟨hcls.1, hcls.2, hpar2⟩ hroom2, hinst, hsel⟩ hpre rfl hlen hl.1 hsk (lv_room hWr) hd hff
      | succ nest => exact va_runVN hS' (hM rv adr cA L H) ⟨va_cnB (k - 1) hts hG rfl rfl rfl (wb_atn_in wlk hro) hini ⟨hcls.1, hcls.2, hpar2⟩ hroom2, hinst, hsel⟩ hpre rfl hlen hl.1 hsk (lv_room hWr) hd hff
    · simp only [Bool.and_eq_true, decide_eq_true_eq] at hrest
      obtain ⟨⟨⟨⟨wsec, hname⟩, hret⟩, hpar⟩, hci⟩ := hrest
      have hci := Nat.eq_of_beq_eq_true hci
      subst hci
      obtain ⟨t, o, as', rfl, ht10⟩ : ∃ t o as', as = .inr (.inr (t, o)) :: as' ∧ 10 ≤ t := by
        match as, hrc with
        | .inr (.inr (t, o)) :: as', hrc => exact ⟨t, o, as', rfl, Nat.le_of_ble_eq_true hrc⟩
        | [], hrc => cases hrc
        | .inl _ :: _, hrc => cases hrc
        | .inr (.inl _) :: _, hrc => cases hrc
      have hinst := hts _ (wb_at_in wsec)
      have hm2 : (Sum.inr (Sum.inr (t, o)) :: as' : List wb_V).map (wb_tv rv adr) = .ref (adr t o) :: as'.map (wb_tv rv adr) := by rw [List.map_cons, wb_tvr ht10]
      rw [hm2] at hPs hmap
      have hpre : PreS s H (wb_Pc fz sc rv D adr cA L n1.1 h1 H (.inr (.inr (t, o)) :: as')) (Value.ref (adr t o) :: as'.map (wb_tv rv adr)) := ⟨wb_Pc_blind, hPs⟩
      have hlen : (as'.map (wb_tv rv adr)).length = k - 1 := by rw [List.length_map]; simp only [List.length_cons] at hbl; omega
      have hpar2 : (parseMethodDescriptor (wb_y y).desc).map (fun d => d.parameters.length) = some (k - 1) := by
        cases hq : parseMethodDescriptor (wb_y y).desc with
        | none => rw [hq] at hpar; cases hpar
        | some d =>
          rw [hq] at hpar
          simp only [Option.map_some, Option.some.injEq] at hpar ⊢
          omega
      rw [show (pc, ls, st, h1, n1).2.2.1 = st from rfl, hmap]
      refine wb_after (y := y) (as := []) hA hR hxt hl hS hok hfz hk G hmc (a := (Value.ref (adr t o) :: as'.map (wb_tv rv adr)).toArray) ?_
      have hsk : (Value.ref (adr t o) :: as'.map (wb_tv rv adr)).reverse ++ st'.map (wb_tv rv adr) = (as'.map (wb_tv rv adr)).reverse ++ Value.ref (adr t o) :: st'.map (wb_tv rv adr) := by simp
      have hMr := hM rv adr cA L H
      have hwsr : wb_ws y = Cond.code (wb_y y) (wb_b y) (wb_pn y) none :: wb_TB := by rw [wb_ws, hret]
      cases nest with
      | zero => exact va_runI hS' hMr ⟨callB_of (k - 1) hts hG hwsr rfl rfl hini (hts _ (wb_at_in wlk)) ⟨hcls.1, hcls.2, hpar2⟩ hroom2, hname, hinst⟩ hpre rfl hlen hl.1 hsk (lv_room hWr) hd hff
      | succ nest => exact va_runIN hS' hMr ⟨va_cnB (k - 1) hts hG hwsr rfl rfl (wb_atn_in wlk hro) hini ⟨hcls.1, hcls.2, hpar2⟩ hroom2, hname, hinst⟩ hpre rfl hlen hl.1 hsk (lv_room hWr) hd hff
  · cases hck
end WBS
