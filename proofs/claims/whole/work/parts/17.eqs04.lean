/-! Unfolding equations, written by wip/whole/gen5.py; each is checked by the kernel against the code lists. -/
set_option maxRecDepth 100000
noncomputable def q_Past_recall (sc : wb_X) (h : wb_H) (o1 : Nat) : Option (Int32 × wb_H) := wb_F sc wb_vi 48 [.inr (.inr (14, 0)), .inr (.inr (17, o1))] h
set_option maxHeartbeats 1000000 in
theorem q_Past_recall_eq (sc : wb_X) (h : wb_H) (o1 : Nat) : q_Past_recall sc h o1 = (bif (!decide ((h.1 14 0 2) = (Int32.ofInt 0))) then bif (wb_in ((wb_iu (wb_iu h 14 0 1 (wb_rem (((h.1 14 0 1) + (Int32.ofInt 40)) - (Int32.ofInt 1)) (Int32.ofInt 40))) 14 0 2 (((wb_iu h 14 0 1 (wb_rem (((h.1 14 0 1) + (Int32.ofInt 40)) - (Int32.ofInt 1)) (Int32.ofInt 40))).1 14 0 2) - (Int32.ofInt 1))).1 14 0 1) 40) then bif (decide (o1 < 44)) then ((q_Standing_copy sc (wb_iu (wb_iu h 14 0 1 (wb_rem (((h.1 14 0 1) + (Int32.ofInt 40)) - (Int32.ofInt 1)) (Int32.ofInt 40))) 14 0 2 (((wb_iu h 14 0 1 (wb_rem (((h.1 14 0 1) + (Int32.ofInt 40)) - (Int32.ofInt 1)) (Int32.ofInt 40))).1 14 0 2) - (Int32.ofInt 1))) o1 (1 + (((wb_iu (wb_iu h 14 0 1 (wb_rem (((h.1 14 0 1) + (Int32.ofInt 40)) - (Int32.ofInt 1)) (Int32.ofInt 40))) 14 0 2 (((wb_iu h 14 0 1 (wb_rem (((h.1 14 0 1) + (Int32.ofInt 40)) - (Int32.ofInt 1)) (Int32.ofInt 40))).1 14 0 2) - (Int32.ofInt 1))).1 14 0 1)).toNatClampNeg)).bind fun h1 => some ((Int32.ofInt 1), h1)) else none else none else some ((Int32.ofInt 0), h)) :=
  (wb_g2_eq (m := 48) (cl := wb_k_Past_recall) rfl wb_vi [] 3000 0 _ [] h).symm.trans rfl
noncomputable def q_X_undo (sc : wb_X) (h : wb_H) : Option (Int32 × wb_H) := wb_F sc wb_vi 113 [.inr (.inr (20, 0))] h
set_option maxHeartbeats 1000000 in
theorem q_X_undo_eq (sc : wb_X) (h : wb_H) : q_X_undo sc h = (((q_Past_recall sc h 0).bind fun r1 => bif (!decide (r1.1 = (Int32.ofInt 0))) then ((q_X_forgetAnswers sc r1.2).bind fun h2 => some ((Int32.ofInt 1), h2)) else some ((Int32.ofInt 0), r1.2))) :=
  (wb_g2_eq (m := 113) (cl := wb_k_X_undo) rfl wb_vi [] 3000 0 _ [] h).symm.trans rfl
noncomputable def q_M_undo (sc : wb_X) (h : wb_H) : Option (Int32 × wb_H) := wb_F sc wb_vi 227 [.inr (.inr (21, 0))] h
noncomputable def q_M_undo_L21 (sc : wb_X) (h : wb_H) (v1 : Int32) : Option (Int32 × wb_H) := wb_Q sc wb_vi 227 21 [some (.inr (.inr (21, 0))), some (.inl v1)] [] h
set_option maxHeartbeats 1000000 in
theorem q_M_undo_eq (sc : wb_X) (h : wb_H) : q_M_undo sc h = (bif (!decide ((h.1 21 0 54) = (Int32.ofInt 0))) then (q_M_undo_L21 sc (wb_iu h 21 0 54 ((h.1 21 0 54) - (Int32.ofInt 1))) (Int32.ofInt 0)) else some ((Int32.ofInt 0), h)) :=
  (wb_g2_eq (m := 227) (cl := wb_k_M_undo) rfl wb_vi [21] 3000 0 _ [] h).symm.trans rfl
set_option maxHeartbeats 1000000 in
theorem q_M_undo_L21_eq (sc : wb_X) (h : wb_H) (v1 : Int32) : q_M_undo_L21 sc h v1 = (bif (decide ((Int32.ofInt 48) ≤ v1)) then some ((Int32.ofInt 1), h) else bif (wb_in (((Int32.ofInt 48) * (h.1 21 0 54)) + v1) 1920) then bif (wb_in v1 48) then (q_M_undo_L21 sc (wb_iu h 95 0 (v1).toNatClampNeg (h.1 100 0 ((((Int32.ofInt 48) * (h.1 21 0 54)) + v1)).toNatClampNeg)) (v1 + (Int32.ofInt 1))) else none else none) :=
  (wb_g2_eq (m := 227) (cl := wb_k_M_undo) rfl wb_vi [21] 3000 21 [some (.inr (.inr (21, 0))), some (.inl v1)] [] h).symm.trans rfl
noncomputable def q_X_isRow (sc : wb_X) (h : wb_H) (a0 : Int32) : Option (Int32 × wb_H) := wb_F sc wb_vi 105 [.inl a0] h
set_option maxHeartbeats 1000000 in
theorem q_X_isRow_eq (sc : wb_X) (h : wb_H) (a0 : Int32) : q_X_isRow sc h a0 = (bif (decide (a0 < (Int32.ofInt 0))) then some ((Int32.ofInt 0), h) else bif (wb_in (Int32.ofInt 6) (wb_tab [1, 3, 9, 27, 81, 243, 729]).1) then bif (decide (((wb_tab [1, 3, 9, 27, 81, 243, 729]).2 ((Int32.ofInt 6)).toNatClampNeg) ≤ a0)) then some ((Int32.ofInt 0), h) else some ((Int32.ofInt 1), h) else none) :=
  (wb_g2_eq (m := 105) (cl := wb_k_X_isRow) rfl wb_vi [] 3000 0 _ [] h).symm.trans rfl
noncomputable def q_X_puts (sc : wb_X) (h : wb_H) (a1 : Int32) (a2 : Int32) (a3 : Int32) : Option (Int32 × wb_H) := wb_F sc wb_vi 117 [.inr (.inr (20, 0)), .inl a1, .inl a2, .inl a3] h
set_option maxHeartbeats 1000000 in
theorem q_X_puts_eq (sc : wb_X) (h : wb_H) (a1 : Int32) (a2 : Int32) (a3 : Int32) : q_X_puts sc h a1 a2 a3 = (((q_X_isHouse sc h a1).bind fun r1 => bif (decide (r1.1 = (Int32.ofInt 0))) then some ((Int32.ofInt (-1)), r1.2) else ((q_X_isRow sc r1.2 a3).bind fun r2 => bif (!decide (r2.1 = (Int32.ofInt 0))) then ((q_X_tonight sc r2.2).bind fun h3 => ((q_Standing_of sc h3 0 (Int32.ofInt 0) a1).bind fun r4 => ((q_Evening_binAt sc r4.2 r4.1 a2 a3).bind fun r5 => some (r5.1, r5.2)))) else some ((Int32.ofInt (-1)), r2.2)))) :=
  (wb_g2_eq (m := 117) (cl := wb_k_X_puts) rfl wb_vi [] 3000 0 _ [] h).symm.trans rfl
noncomputable def q_M_isRow (sc : wb_X) (h : wb_H) (a0 : Int32) : Option (Int32 × wb_H) := wb_F sc wb_vi 228 [.inl a0] h
set_option maxHeartbeats 1000000 in
theorem q_M_isRow_eq (sc : wb_X) (h : wb_H) (a0 : Int32) : q_M_isRow sc h a0 = (((q_M_in sc h a0 (Int32.ofInt 0) (Int32.ofInt 728)).bind fun r1 => bif wb_nb r1.1 then some (r1.1, r1.2) else none)) :=
  (wb_g2_eq (m := 228) (cl := wb_k_M_isRow) rfl wb_vi [] 3000 0 _ [] h).symm.trans rfl
noncomputable def q_M_lays (sc : wb_X) (h : wb_H) : Option (wb_H) := wb_F sc wb_vv 230 [.inr (.inr (21, 0))] h
set_option maxHeartbeats 1000000 in
theorem q_M_lays_eq (sc : wb_X) (h : wb_H) : q_M_lays sc h = (((q_M_copies sc h).bind fun h1 => ((q_M_fillsOut sc h1).bind fun h2 => some h2))) :=
  (wb_g2_eq (m := 230) (cl := wb_k_M_lays) rfl wb_vv [] 3000 0 _ [] h).symm.trans rfl
noncomputable def q_M_setsAhead (sc : wb_X) (h : wb_H) (a1 : Int32) : Option (wb_H) := wb_F sc wb_vv 229 [.inr (.inr (21, 0)), .inl a1] h
noncomputable def q_M_setsAhead_L4 (sc : wb_X) (h : wb_H) (v2 : Int32) (v3 : Int32) : Option (wb_H) := wb_Q sc wb_vv 229 4 [some (.inr (.inr (21, 0))), none, some (.inl v2), some (.inl v3)] [] h
set_option maxHeartbeats 1000000 in
theorem q_M_setsAhead_eq (sc : wb_X) (h : wb_H) (a1 : Int32) : q_M_setsAhead sc h a1 = ((q_M_setsAhead_L4 sc h a1 (Int32.ofInt 0))) :=
  (wb_g2_eq (m := 229) (cl := wb_k_M_setsAhead) rfl wb_vv [4] 3000 0 _ [] h).symm.trans rfl
set_option maxHeartbeats 1000000 in
theorem q_M_setsAhead_L4_eq (sc : wb_X) (h : wb_H) (v2 : Int32) (v3 : Int32) : q_M_setsAhead_L4 sc h v2 v3 = (bif (decide ((Int32.ofInt 6) ≤ v3)) then some h else bif (wb_in v3 6) then (q_M_setsAhead_L4 sc (wb_iu h 99 0 (v3).toNatClampNeg (wb_rem v2 (Int32.ofInt 3))) (v2 / (Int32.ofInt 3)) (v3 + (Int32.ofInt 1))) else none) :=
  (wb_g2_eq (m := 229) (cl := wb_k_M_setsAhead) rfl wb_vv [4] 3000 4 [some (.inr (.inr (21, 0))), none, some (.inl v2), some (.inl v3)] [] h).symm.trans rfl
noncomputable def q_M_puts (sc : wb_X) (h : wb_H) (a1 : Int32) (a2 : Int32) (a3 : Int32) : Option (Int32 × wb_H) := wb_F sc wb_vi 231 [.inr (.inr (21, 0)), .inl a1, .inl a2, .inl a3] h
set_option maxHeartbeats 1000000 in
theorem q_M_puts_eq (sc : wb_X) (h : wb_H) (a1 : Int32) (a2 : Int32) (a3 : Int32) : q_M_puts sc h a1 a2 a3 = (((q_M_isHouse sc h a1).bind fun r1 => bif (decide (r1.1 = (Int32.ofInt 0))) then some ((Int32.ofInt (-1)), r1.2) else ((q_M_isRow sc r1.2 a3).bind fun r2 => bif (!decide (r2.1 = (Int32.ofInt 0))) then ((q_M_lays sc r2.2).bind fun h3 => ((q_M_setsAhead sc h3 a3).bind fun h4 => ((q_M_putOf sc h4 a1 a2).bind fun r5 => some (r5.1, r5.2)))) else some ((Int32.ofInt (-1)), r2.2)))) :=
  (wb_g2_eq (m := 231) (cl := wb_k_M_puts) rfl wb_vi [] 3000 0 _ [] h).symm.trans rfl
noncomputable def q_X_allWeight (sc : wb_X) (h : wb_H) : Option (Int32 × wb_H) := wb_F sc wb_vi 142 [.inr (.inr (20, 0))] h
set_option maxHeartbeats 1000000 in
theorem q_X_allWeight_eq (sc : wb_X) (h : wb_H) : q_X_allWeight sc h = (bif (decide (0 < h.2.2 20 0 2)) then bif (decide ((h.2.2 20 0 2 - 1) < 2)) then bif (wb_in ((h.1 15 (h.2.2 20 0 2 - 1) 0) + (Int32.ofInt 1)) (wb_tab [1, 10, 100, 1000, 10000, 100000, 1000000, 10000000]).1) then some (((wb_tab [1, 10, 100, 1000, 10000, 100000, 1000000, 10000000]).2 (((h.1 15 (h.2.2 20 0 2 - 1) 0) + (Int32.ofInt 1))).toNatClampNeg), h) else none else none else none) :=
  (wb_g2_eq (m := 142) (cl := wb_k_X_allWeight) rfl wb_vi [] 3000 0 _ [] h).symm.trans rfl
noncomputable def q_JMath_abs (sc : wb_X) (h : wb_H) (a0 : Int64) : Option (Int64 × wb_H) := wb_F sc wb_vl 265 [.inr (.inl a0)] h
set_option maxHeartbeats 1000000 in
theorem q_JMath_abs_eq (sc : wb_X) (h : wb_H) (a0 : Int64) : q_JMath_abs sc h a0 = (bif (decide ((Int32.ofInt 0) ≤ (lg_cmp a0 (Int64.ofNat 0)))) then some (a0, h) else some ((-a0), h)) :=
  (wb_g2_eq (m := 265) (cl := wb_k_JMath_abs) rfl wb_vl [] 3000 0 _ [] h).symm.trans rfl
noncomputable def q_X_fraction (sc : wb_X) (h : wb_H) (a0 : Int64) (a1 : Int64) (a2 : Int32) : Option (Int32 × wb_H) := wb_F sc wb_vi 144 [.inr (.inl a0), .inr (.inl a1), .inl a2] h
noncomputable def q_X_fraction_L12 (sc : wb_X) (h : wb_H) (v0 : Int64) (v2 : Int64) (v4 : Int32) (v5 : Int64) (v7 : Int64) (v9 : Int32) : Option (Int32 × wb_H) := wb_Q sc wb_vi 144 12 [some (.inr (.inl v0)), none, some (.inr (.inl v2)), none, some (.inl v4), some (.inr (.inl v5)), none, some (.inr (.inl v7)), none, some (.inl v9), none, none] [] h
set_option maxHeartbeats 1000000 in
theorem q_X_fraction_eq (sc : wb_X) (h : wb_H) (a0 : Int64) (a1 : Int64) (a2 : Int32) : q_X_fraction sc h a0 a1 a2 = (((q_JMath_abs sc h a0).bind fun r1 => (q_X_fraction_L12 sc r1.2 a0 a1 a2 a1 r1.1 (Int32.ofInt 0)))) :=
  (wb_g2_eq (m := 144) (cl := wb_k_X_fraction) rfl wb_vi [12] 3000 0 _ [] h).symm.trans rfl
set_option maxHeartbeats 1000000 in
theorem q_X_fraction_L12_eq (sc : wb_X) (h : wb_H) (v0 : Int64) (v2 : Int64) (v4 : Int32) (v5 : Int64) (v7 : Int64) (v9 : Int32) : q_X_fraction_L12 sc h v0 v2 v4 v5 v7 v9 = (bif (decide ((Int32.ofInt 1000) ≤ v9)) then bif (decide (v4 = (Int32.ofInt 0))) then bif (!decide (v5 = 0)) then some (((v0 / v5)).toInt32, h) else none else bif (!decide (v5 = 0)) then some (((v2 / v5)).toInt32, h) else none else bif (decide ((lg_cmp v7 (Int64.ofNat 0)) = (Int32.ofInt 0))) then bif (decide (v4 = (Int32.ofInt 0))) then bif (!decide (v5 = 0)) then some (((v0 / v5)).toInt32, h) else none else bif (!decide (v5 = 0)) then some (((v2 / v5)).toInt32, h) else none else bif (!decide (v7 = 0)) then (q_X_fraction_L12 sc h v0 v2 v4 v7 (wb_reml v5 v7) (v9 + (Int32.ofInt 1))) else none) :=
  (wb_g2_eq (m := 144) (cl := wb_k_X_fraction) rfl wb_vi [12] 3000 12 [some (.inr (.inl v0)), none, some (.inr (.inl v2)), none, some (.inl v4), some (.inr (.inl v5)), none, some (.inr (.inl v7)), none, some (.inl v9), none, none] [] h).symm.trans rfl
noncomputable def q_X_partOfAll (sc : wb_X) (h : wb_H) (a1 : Int64) (a2 : Int32) : Option (Int32 × wb_H) := wb_F sc wb_vi 143 [.inr (.inr (20, 0)), .inr (.inl a1), .inl a2] h
set_option maxHeartbeats 1000000 in
theorem q_X_partOfAll_eq (sc : wb_X) (h : wb_H) (a1 : Int64) (a2 : Int32) : q_X_partOfAll sc h a1 a2 = (((q_X_allWeight sc h).bind fun r1 => ((q_X_fraction sc r1.2 a1 ((r1.1).toInt64) a2).bind fun r2 => some (r2.1, r2.2)))) :=
  (wb_g2_eq (m := 143) (cl := wb_k_X_partOfAll) rfl wb_vi [] 3000 0 _ [] h).symm.trans rfl
noncomputable def q_X_chance (sc : wb_X) (h : wb_H) (a1 : Int32) (a2 : Int32) : Option (Int32 × wb_H) := wb_F sc wb_vi 118 [.inr (.inr (20, 0)), .inl a1, .inl a2] h
set_option maxHeartbeats 1000000 in
theorem q_X_chance_eq (sc : wb_X) (h : wb_H) (a1 : Int32) (a2 : Int32) : q_X_chance sc h a1 a2 = (((q_X_isHouse sc h a1).bind fun r1 => bif (decide (r1.1 = (Int32.ofInt 0))) then some ((Int32.ofInt (-1)), r1.2) else ((q_X_tonight sc r1.2).bind fun h2 => bif (wb_in a1 6) then ((q_X_partOfAll sc h2 (((h2.1 36 0 (a1).toNatClampNeg)).toInt64) a2).bind fun r3 => some (r3.1, r3.2)) else none))) :=
  (wb_g2_eq (m := 118) (cl := wb_k_X_chance) rfl wb_vi [] 3000 0 _ [] h).symm.trans rfl
noncomputable def q_M_chanceOf (sc : wb_X) (h : wb_H) (a1 : Int32) : Option (Int32 × wb_H) := wb_F sc wb_vi 211 [.inr (.inr (21, 0)), .inl a1] h
noncomputable def q_M_chanceOf_L4 (sc : wb_X) (h : wb_H) (v1 : Int32) (v2 : Int32) (v3 : Int32) : Option (Int32 × wb_H) := wb_Q sc wb_vi 211 4 [some (.inr (.inr (21, 0))), some (.inl v1), some (.inl v2), some (.inl v3)] [] h
set_option maxHeartbeats 1000000 in
theorem q_M_chanceOf_eq (sc : wb_X) (h : wb_H) (a1 : Int32) : q_M_chanceOf sc h a1 = ((q_M_chanceOf_L4 sc h a1 (Int32.ofInt 0) (Int32.ofInt 0))) :=
  (wb_g2_eq (m := 211) (cl := wb_k_M_chanceOf) rfl wb_vi [4] 3000 0 _ [] h).symm.trans rfl
set_option maxHeartbeats 1000000 in
theorem q_M_chanceOf_L4_eq (sc : wb_X) (h : wb_H) (v1 : Int32) (v2 : Int32) (v3 : Int32) : q_M_chanceOf_L4 sc h v1 v2 v3 = (((q_M_worlds sc h).bind fun r1 => bif (decide (r1.1 ≤ v3)) then some (v2, r1.2) else ((q_M_isWrongIn sc r1.2 v1 v3).bind fun r2 => bif (decide (r2.1 = (Int32.ofInt 0))) then (q_M_chanceOf_L4 sc r2.2 v1 v2 (v3 + (Int32.ofInt 1))) else bif (wb_in v3 128) then (q_M_chanceOf_L4 sc r2.2 v1 (v2 + (r2.2.1 98 0 (v3).toNatClampNeg)) (v3 + (Int32.ofInt 1))) else none))) :=
  (wb_g2_eq (m := 211) (cl := wb_k_M_chanceOf) rfl wb_vi [4] 3000 4 [some (.inr (.inr (21, 0))), some (.inl v1), some (.inl v2), some (.inl v3)] [] h).symm.trans rfl
noncomputable def q_M_allWeight (sc : wb_X) (h : wb_H) : Option (Int32 × wb_H) := wb_F sc wb_vi 210 [.inr (.inr (21, 0))] h
noncomputable def q_M_allWeight_L5 (sc : wb_X) (h : wb_H) (v1 : Int32) (v2 : Int32) : Option (Int32 × wb_H) := wb_Q sc wb_vi 210 5 [some (.inr (.inr (21, 0))), some (.inl v1), some (.inl v2)] [] h
set_option maxHeartbeats 1000000 in
theorem q_M_allWeight_eq (sc : wb_X) (h : wb_H) : q_M_allWeight sc h = ((q_M_allWeight_L5 sc h (Int32.ofInt 10) (Int32.ofInt 0))) :=
  (wb_g2_eq (m := 210) (cl := wb_k_M_allWeight) rfl wb_vi [5] 3000 0 _ [] h).symm.trans rfl
set_option maxHeartbeats 1000000 in
theorem q_M_allWeight_L5_eq (sc : wb_X) (h : wb_H) (v1 : Int32) (v2 : Int32) : q_M_allWeight_L5 sc h v1 v2 = (bif (wb_in (h.1 21 0 18) 2) then bif (decide ((h.1 73 0 ((h.1 21 0 18)).toNatClampNeg) ≤ v2)) then some (v1, h) else (q_M_allWeight_L5 sc h (v1 * (Int32.ofInt 10)) (v2 + (Int32.ofInt 1))) else none) :=
  (wb_g2_eq (m := 210) (cl := wb_k_M_allWeight) rfl wb_vi [5] 3000 5 [some (.inr (.inr (21, 0))), some (.inl v1), some (.inl v2)] [] h).symm.trans rfl
noncomputable def q_M_common (sc : wb_X) (h : wb_H) (a0 : Int32) (a1 : Int32) : Option (Int32 × wb_H) := wb_F sc wb_vi 213 [.inl a0, .inl a1] h
noncomputable def q_M_common_L13 (sc : wb_X) (h : wb_H) (v2 : Int32) (v3 : Int32) : Option (Int32 × wb_H) := wb_Q sc wb_vi 213 13 [none, none, some (.inl v2), some (.inl v3), none] [] h
set_option maxHeartbeats 1000000 in
theorem q_M_common_eq (sc : wb_X) (h : wb_H) (a0 : Int32) (a1 : Int32) : q_M_common sc h a0 a1 = (bif (decide ((Int32.ofInt 0) ≤ a0)) then (q_M_common_L13 sc h a0 a1) else (q_M_common_L13 sc h (-a0) a1)) :=
  (wb_g2_eq (m := 213) (cl := wb_k_M_common) rfl wb_vi [13] 3000 0 _ [] h).symm.trans rfl
set_option maxHeartbeats 1000000 in
theorem q_M_common_L13_eq (sc : wb_X) (h : wb_H) (v2 : Int32) (v3 : Int32) : q_M_common_L13 sc h v2 v3 = (bif (decide (v3 = (Int32.ofInt 0))) then some (v2, h) else bif (!decide (v3 = 0)) then (q_M_common_L13 sc h v3 (wb_rem v2 v3)) else none) :=
  (wb_g2_eq (m := 213) (cl := wb_k_M_common) rfl wb_vi [13] 3000 13 [none, none, some (.inl v2), some (.inl v3), none] [] h).symm.trans rfl
noncomputable def q_M_lineOf (sc : wb_X) (h : wb_H) (a0 : Int32) (a1 : Int32) (a2 : Int32) : Option (Int32 × wb_H) := wb_F sc wb_vi 214 [.inl a0, .inl a1, .inl a2] h
set_option maxHeartbeats 1000000 in
theorem q_M_lineOf_eq (sc : wb_X) (h : wb_H) (a0 : Int32) (a1 : Int32) (a2 : Int32) : q_M_lineOf sc h a0 a1 a2 = (((q_M_common sc h a0 a1).bind fun r1 => bif (decide (a2 = (Int32.ofInt 0))) then bif (!decide (r1.1 = 0)) then some ((a0 / r1.1), r1.2) else none else bif (!decide (r1.1 = 0)) then some ((a1 / r1.1), r1.2) else none)) :=
  (wb_g2_eq (m := 214) (cl := wb_k_M_lineOf) rfl wb_vi [] 3000 0 _ [] h).symm.trans rfl
noncomputable def q_M_chance (sc : wb_X) (h : wb_H) (a1 : Int32) (a2 : Int32) : Option (Int32 × wb_H) := wb_F sc wb_vi 232 [.inr (.inr (21, 0)), .inl a1, .inl a2] h
set_option maxHeartbeats 1000000 in
theorem q_M_chance_eq (sc : wb_X) (h : wb_H) (a1 : Int32) (a2 : Int32) : q_M_chance sc h a1 a2 = (((q_M_isHouse sc h a1).bind fun r1 => bif (!decide (r1.1 = (Int32.ofInt 0))) then ((q_M_lays sc r1.2).bind fun h2 => ((q_M_chanceOf sc h2 a1).bind fun r3 => ((q_M_allWeight sc r3.2).bind fun r4 => ((q_M_lineOf sc r4.2 r3.1 r4.1 a2).bind fun r5 => some (r5.1, r5.2))))) else some ((Int32.ofInt (-1)), r1.2))) :=
  (wb_g2_eq (m := 232) (cl := wb_k_M_chance) rfl wb_vi [] 3000 0 _ [] h).symm.trans rfl
noncomputable def q_Evening_weightOfWrongs (sc : wb_X) (h : wb_H) (a1 : Int32) : Option (Int32 × wb_H) := wb_F sc wb_vi 20 [.inr (.inr (11, 0)), .inl a1] h
noncomputable def q_Evening_weightOfWrongs_L4 (sc : wb_X) (h : wb_H) (v1 : Int32) (v2 : Int32) (v3 : Int32) : Option (Int32 × wb_H) := wb_Q sc wb_vi 20 4 [some (.inr (.inr (11, 0))), some (.inl v1), some (.inl v2), some (.inl v3)] [] h
set_option maxHeartbeats 1000000 in
theorem q_Evening_weightOfWrongs_eq (sc : wb_X) (h : wb_H) (a1 : Int32) : q_Evening_weightOfWrongs sc h a1 = ((q_Evening_weightOfWrongs_L4 sc h a1 (Int32.ofInt 0) (Int32.ofInt 0))) :=
  (wb_g2_eq (m := 20) (cl := wb_k_Evening_weightOfWrongs) rfl wb_vi [4] 3000 0 _ [] h).symm.trans rfl
set_option maxHeartbeats 1000000 in
theorem q_Evening_weightOfWrongs_L4_eq (sc : wb_X) (h : wb_H) (v1 : Int32) (v2 : Int32) (v3 : Int32) : q_Evening_weightOfWrongs_L4 sc h v1 v2 v3 = (bif (wb_in (h.1 11 0 1) (wb_tab [1, 3, 9, 27, 81, 243, 729]).1) then bif (decide (((wb_tab [1, 3, 9, 27, 81, 243, 729]).2 ((h.1 11 0 1)).toNatClampNeg) ≤ v3)) then some (v2, h) else ((q_Evening_binsOf sc h (Int32.ofInt 0) v3 (h.1 11 0 1)).bind fun r1 => bif (!decide (r1.1 = v1)) then ((q_Evening_binsOf sc r1.2 (Int32.ofInt 1) v3 (r1.2.1 11 0 1)).bind fun r2 => bif (!decide (r2.1 = v1)) then (q_Evening_weightOfWrongs_L4 sc r2.2 v1 v2 (v3 + (Int32.ofInt 1))) else bif (wb_in (r2.2.1 11 0 1) (wb_tab [0, 1, 4, 13, 40, 121, 364, 1093]).1) then bif (wb_in (((wb_tab [0, 1, 4, 13, 40, 121, 364, 1093]).2 ((r2.2.1 11 0 1)).toNatClampNeg) + v3) 1093) then (q_Evening_weightOfWrongs_L4 sc r2.2 v1 (v2 + (r2.2.1 33 0 ((((wb_tab [0, 1, 4, 13, 40, 121, 364, 1093]).2 ((r2.2.1 11 0 1)).toNatClampNeg) + v3)).toNatClampNeg)) (v3 + (Int32.ofInt 1))) else none else none) else bif (wb_in (r1.2.1 11 0 1) (wb_tab [0, 1, 4, 13, 40, 121, 364, 1093]).1) then bif (wb_in (((wb_tab [0, 1, 4, 13, 40, 121, 364, 1093]).2 ((r1.2.1 11 0 1)).toNatClampNeg) + v3) 1093) then ((q_Evening_binsOf sc r1.2 (Int32.ofInt 1) v3 (r1.2.1 11 0 1)).bind fun r3 => bif (!decide (r3.1 = v1)) then (q_Evening_weightOfWrongs_L4 sc r3.2 v1 (v2 + (r1.2.1 32 0 ((((wb_tab [0, 1, 4, 13, 40, 121, 364, 1093]).2 ((r1.2.1 11 0 1)).toNatClampNeg) + v3)).toNatClampNeg)) (v3 + (Int32.ofInt 1))) else bif (wb_in (r3.2.1 11 0 1) (wb_tab [0, 1, 4, 13, 40, 121, 364, 1093]).1) then bif (wb_in (((wb_tab [0, 1, 4, 13, 40, 121, 364, 1093]).2 ((r3.2.1 11 0 1)).toNatClampNeg) + v3) 1093) then (q_Evening_weightOfWrongs_L4 sc r3.2 v1 ((v2 + (r1.2.1 32 0 ((((wb_tab [0, 1, 4, 13, 40, 121, 364, 1093]).2 ((r1.2.1 11 0 1)).toNatClampNeg) + v3)).toNatClampNeg)) + (r3.2.1 33 0 ((((wb_tab [0, 1, 4, 13, 40, 121, 364, 1093]).2 ((r3.2.1 11 0 1)).toNatClampNeg) + v3)).toNatClampNeg)) (v3 + (Int32.ofInt 1))) else none else none) else none else none) else none) :=
  (wb_g2_eq (m := 20) (cl := wb_k_Evening_weightOfWrongs) rfl wb_vi [4] 3000 4 [some (.inr (.inr (11, 0))), some (.inl v1), some (.inl v2), some (.inl v3)] [] h).symm.trans rfl
noncomputable def q_X_street (sc : wb_X) (h : wb_H) (a1 : Int32) (a2 : Int32) : Option (Int32 × wb_H) := wb_F sc wb_vi 119 [.inr (.inr (20, 0)), .inl a1, .inl a2] h
set_option maxHeartbeats 1000000 in
theorem q_X_street_eq (sc : wb_X) (h : wb_H) (a1 : Int32) (a2 : Int32) : q_X_street sc h a1 a2 = (bif (decide (a1 < (Int32.ofInt 0))) then some ((Int32.ofInt (-1)), h) else bif (decide (a1 ≤ (Int32.ofInt 6))) then ((q_X_tonight sc h).bind fun h1 => ((q_Evening_weightOfWrongs sc h1 a1).bind fun r2 => ((q_X_partOfAll sc r2.2 ((r2.1).toInt64) a2).bind fun r3 => some (r3.1, r3.2)))) else some ((Int32.ofInt (-1)), h)) :=
  (wb_g2_eq (m := 119) (cl := wb_k_X_street) rfl wb_vi [] 3000 0 _ [] h).symm.trans rfl
noncomputable def q_M_street (sc : wb_X) (h : wb_H) (a1 : Int32) (a2 : Int32) : Option (Int32 × wb_H) := wb_F sc wb_vi 233 [.inr (.inr (21, 0)), .inl a1, .inl a2] h
noncomputable def q_M_street_L21 (sc : wb_X) (h : wb_H) (v1 : Int32) (v2 : Int32) (v3 : Int32) (v4 : Int32) : Option (Int32 × wb_H) := wb_Q sc wb_vi 233 21 [some (.inr (.inr (21, 0))), some (.inl v1), some (.inl v2), some (.inl v3), some (.inl v4)] [] h
set_option maxHeartbeats 1000000 in
theorem q_M_street_eq (sc : wb_X) (h : wb_H) (a1 : Int32) (a2 : Int32) : q_M_street sc h a1 a2 = (((q_M_in sc h a1 (Int32.ofInt 0) (Int32.ofInt 6)).bind fun r1 => bif (!decide (r1.1 = (Int32.ofInt 0))) then ((q_M_lays sc r1.2).bind fun h2 => (q_M_street_L21 sc h2 a1 a2 (Int32.ofInt 0) (Int32.ofInt 0))) else some ((Int32.ofInt (-1)), r1.2))) :=
  (wb_g2_eq (m := 233) (cl := wb_k_M_street) rfl wb_vi [21] 3000 0 _ [] h).symm.trans rfl
set_option maxHeartbeats 1000000 in
theorem q_M_street_L21_eq (sc : wb_X) (h : wb_H) (v1 : Int32) (v2 : Int32) (v3 : Int32) (v4 : Int32) : q_M_street_L21 sc h v1 v2 v3 v4 = (((q_M_worlds sc h).bind fun r1 => bif (decide (r1.1 ≤ v4)) then ((q_M_allWeight sc r1.2).bind fun r2 => ((q_M_lineOf sc r2.2 v3 r2.1 v2).bind fun r3 => some (r3.1, r3.2))) else ((q_M_wrongIn sc r1.2 v4).bind fun r4 => bif (!decide (r4.1 = v1)) then (q_M_street_L21 sc r4.2 v1 v2 v3 (v4 + (Int32.ofInt 1))) else bif (wb_in v4 128) then (q_M_street_L21 sc r4.2 v1 v2 (v3 + (r4.2.1 98 0 (v4).toNatClampNeg)) (v4 + (Int32.ofInt 1))) else none))) :=
  (wb_g2_eq (m := 233) (cl := wb_k_M_street) rfl wb_vi [21] 3000 21 [some (.inr (.inr (21, 0))), some (.inl v1), some (.inl v2), some (.inl v3), some (.inl v4)] [] h).symm.trans rfl
noncomputable def q_Evening_allWrong (sc : wb_X) (h : wb_H) : Option (Int32 × wb_H) := wb_F sc wb_vi 18 [.inr (.inr (11, 0))] h
noncomputable def q_Evening_allWrong_L4 (sc : wb_X) (h : wb_H) (v1 : Int32) (v2 : Int32) : Option (Int32 × wb_H) := wb_Q sc wb_vi 18 4 [some (.inr (.inr (11, 0))), some (.inl v1), some (.inl v2)] [] h
set_option maxHeartbeats 1000000 in
theorem q_Evening_allWrong_eq (sc : wb_X) (h : wb_H) : q_Evening_allWrong sc h = ((q_Evening_allWrong_L4 sc h (Int32.ofInt 0) (Int32.ofInt 0))) :=
  (wb_g2_eq (m := 18) (cl := wb_k_Evening_allWrong) rfl wb_vi [4] 3000 0 _ [] h).symm.trans rfl
set_option maxHeartbeats 1000000 in
theorem q_Evening_allWrong_L4_eq (sc : wb_X) (h : wb_H) (v1 : Int32) (v2 : Int32) : q_Evening_allWrong_L4 sc h v1 v2 = (bif (decide ((h.1 11 0 1) ≤ v2)) then some (v1, h) else bif (wb_in v2 6) then (q_Evening_allWrong_L4 sc h (v1 + (h.1 36 0 (v2).toNatClampNeg)) (v2 + (Int32.ofInt 1))) else none) :=
  (wb_g2_eq (m := 18) (cl := wb_k_Evening_allWrong) rfl wb_vi [4] 3000 4 [some (.inr (.inr (11, 0))), some (.inl v1), some (.inl v2)] [] h).symm.trans rfl
noncomputable def q_X_meanWith (sc : wb_X) (h : wb_H) (a1 : Int32) : Option (Int32 × wb_H) := wb_F sc wb_vi 128 [.inr (.inr (20, 0)), .inl a1] h
set_option maxHeartbeats 1000000 in
theorem q_X_meanWith_eq (sc : wb_X) (h : wb_H) (a1 : Int32) : q_X_meanWith sc h a1 = (bif (wb_in a1 64) then bif (!decide ((h.1 62 0 (a1).toNatClampNeg) = (Int32.ofInt (-1)))) then bif (wb_in a1 64) then some ((h.1 62 0 (a1).toNatClampNeg), h) else none else bif (decide (0 < h.2.2 20 0 2)) then ((q_Evening_arrange sc h (h.2.2 20 0 2 - 1) 0 a1 (Int32.ofInt 0)).bind fun h1 => ((q_Evening_unfold sc h1 (Int32.ofInt 0)).bind fun h2 => bif (!decide (a1 = (h2.1 17 0 2))) then ((q_Evening_allWrong sc (wb_iu h2 20 0 15 (Int32.ofInt 0))).bind fun r3 => bif (wb_in a1 64) then bif (wb_in a1 64) then some (((wb_iu r3.2 62 0 (a1).toNatClampNeg r3.1).1 62 0 (a1).toNatClampNeg), (wb_iu r3.2 62 0 (a1).toNatClampNeg r3.1)) else none else none) else ((q_Evening_allWrong sc (wb_iu h2 20 0 15 (Int32.ofInt 1))).bind fun r4 => bif (wb_in a1 64) then bif (wb_in a1 64) then some (((wb_iu r4.2 62 0 (a1).toNatClampNeg r4.1).1 62 0 (a1).toNatClampNeg), (wb_iu r4.2 62 0 (a1).toNatClampNeg r4.1)) else none else none))) else none else none) :=
  (wb_g2_eq (m := 128) (cl := wb_k_X_meanWith) rfl wb_vi [] 3000 0 _ [] h).symm.trans rfl
noncomputable def q_X_mean (sc : wb_X) (h : wb_H) (a1 : Int32) : Option (Int32 × wb_H) := wb_F sc wb_vi 120 [.inr (.inr (20, 0)), .inl a1] h
set_option maxHeartbeats 1000000 in
theorem q_X_mean_eq (sc : wb_X) (h : wb_H) (a1 : Int32) : q_X_mean sc h a1 = (((q_X_meanWith sc h (h.1 17 0 2)).bind fun r1 => ((q_X_partOfAll sc r1.2 ((r1.1).toInt64) a1).bind fun r2 => some (r2.1, r2.2)))) :=
  (wb_g2_eq (m := 120) (cl := wb_k_X_mean) rfl wb_vi [] 3000 0 _ [] h).symm.trans rfl
noncomputable def q_M_meanNow (sc : wb_X) (h : wb_H) : Option (Int32 × wb_H) := wb_F sc wb_vi 212 [.inr (.inr (21, 0))] h
noncomputable def q_M_meanNow_L8 (sc : wb_X) (h : wb_H) (v1 : Int32) (v2 : Int32) : Option (Int32 × wb_H) := wb_Q sc wb_vi 212 8 [some (.inr (.inr (21, 0))), some (.inl v1), some (.inl v2)] [] h
set_option maxHeartbeats 1000000 in
theorem q_M_meanNow_eq (sc : wb_X) (h : wb_H) : q_M_meanNow sc h = (((q_M_fillsOut sc h).bind fun h1 => (q_M_meanNow_L8 sc h1 (Int32.ofInt 0) (Int32.ofInt 0)))) :=
  (wb_g2_eq (m := 212) (cl := wb_k_M_meanNow) rfl wb_vi [8] 3000 0 _ [] h).symm.trans rfl
set_option maxHeartbeats 1000000 in
theorem q_M_meanNow_L8_eq (sc : wb_X) (h : wb_H) (v1 : Int32) (v2 : Int32) : q_M_meanNow_L8 sc h v1 v2 = (((q_M_worlds sc h).bind fun r1 => bif (decide (r1.1 ≤ v2)) then some (v1, r1.2) else bif (wb_in v2 128) then ((q_M_wrongIn sc r1.2 v2).bind fun r2 => (q_M_meanNow_L8 sc r2.2 (v1 + ((r1.2.1 98 0 (v2).toNatClampNeg) * r2.1)) (v2 + (Int32.ofInt 1)))) else none)) :=
  (wb_g2_eq (m := 212) (cl := wb_k_M_meanNow) rfl wb_vi [8] 3000 8 [some (.inr (.inr (21, 0))), some (.inl v1), some (.inl v2)] [] h).symm.trans rfl
noncomputable def q_M_mean (sc : wb_X) (h : wb_H) (a1 : Int32) : Option (Int32 × wb_H) := wb_F sc wb_vi 234 [.inr (.inr (21, 0)), .inl a1] h
set_option maxHeartbeats 1000000 in
theorem q_M_mean_eq (sc : wb_X) (h : wb_H) (a1 : Int32) : q_M_mean sc h a1 = (((q_M_copies sc h).bind fun h1 => ((q_M_meanNow sc h1).bind fun r2 => ((q_M_allWeight sc r2.2).bind fun r3 => ((q_M_lineOf sc r3.2 r2.1 r3.1 a1).bind fun r4 => some (r4.1, r4.2)))))) :=
  (wb_g2_eq (m := 234) (cl := wb_k_M_mean) rfl wb_vi [] 3000 0 _ [] h).symm.trans rfl
noncomputable def q_X_pays (sc : wb_X) (h : wb_H) (a1 : Int32) : Option (Int32 × wb_H) := wb_F sc wb_vi 121 [.inr (.inr (20, 0)), .inl a1] h
set_option maxHeartbeats 1000000 in
theorem q_X_pays_eq (sc : wb_X) (h : wb_H) (a1 : Int32) : q_X_pays sc h a1 = (((q_X_tonight sc h).bind fun h1 => ((q_Evening_allWrong sc h1).bind fun r2 => bif (decide (0 < r2.2.2.2 20 0 2)) then bif (decide ((r2.2.2.2 20 0 2 - 1) < 2)) then bif (decide (0 < r2.2.2.2 20 0 2)) then bif (decide ((r2.2.2.2 20 0 2 - 1) < 2)) then ((q_X_partOfAll sc r2.2 (((r2.1).toInt64 * ((r2.2.1 15 (r2.2.2.2 20 0 2 - 1) 8)).toInt64) + (((r2.2.1 11 0 12)).toInt64 * ((r2.2.1 15 (r2.2.2.2 20 0 2 - 1) 9)).toInt64)) a1).bind fun r3 => some (r3.1, r3.2)) else none else none else none else none))) :=
  (wb_g2_eq (m := 121) (cl := wb_k_X_pays) rfl wb_vi [] 3000 0 _ [] h).symm.trans rfl
noncomputable def q_M_pays (sc : wb_X) (h : wb_H) (a1 : Int32) : Option (Int32 × wb_H) := wb_F sc wb_vi 235 [.inr (.inr (21, 0)), .inl a1] h
noncomputable def q_M_pays_L8 (sc : wb_X) (h : wb_H) (v1 : Int32) (v2 : Int32) (v3 : Int32) : Option (Int32 × wb_H) := wb_Q sc wb_vi 235 8 [some (.inr (.inr (21, 0))), some (.inl v1), some (.inl v2), some (.inl v3), none, none] [] h
noncomputable def q_M_pays_L36 (sc : wb_X) (h : wb_H) (v1 : Int32) (v2 : Int32) (v3 : Int32) (v4 : Int32) (v5 : Int32) : Option (Int32 × wb_H) := wb_Q sc wb_vi 235 36 [some (.inr (.inr (21, 0))), some (.inl v1), some (.inl v2), some (.inl v3), some (.inl v4), some (.inl v5)] [] h
set_option maxHeartbeats 1000000 in
theorem q_M_pays_eq (sc : wb_X) (h : wb_H) (a1 : Int32) : q_M_pays sc h a1 = (((q_M_lays sc h).bind fun h1 => (q_M_pays_L8 sc h1 a1 (Int32.ofInt 0) (Int32.ofInt 0)))) :=
  (wb_g2_eq (m := 235) (cl := wb_k_M_pays) rfl wb_vi [8, 36] 3000 0 _ [] h).symm.trans rfl
set_option maxHeartbeats 1000000 in
theorem q_M_pays_L8_eq (sc : wb_X) (h : wb_H) (v1 : Int32) (v2 : Int32) (v3 : Int32) : q_M_pays_L8 sc h v1 v2 v3 = (((q_M_worlds sc h).bind fun r1 => bif (decide (r1.1 ≤ v3)) then ((q_M_allWeight sc r1.2).bind fun r2 => ((q_M_lineOf sc r2.2 v2 r2.1 v1).bind fun r3 => some (r3.1, r3.2))) else bif (wb_in (r1.2.1 21 0 18) 2) then ((q_M_wrongIn sc r1.2 v3).bind fun r4 => (q_M_pays_L36 sc r4.2 v1 v2 v3 ((r1.2.1 81 0 ((r1.2.1 21 0 18)).toNatClampNeg) * r4.1) (Int32.ofInt 0))) else none)) :=
  (wb_g2_eq (m := 235) (cl := wb_k_M_pays) rfl wb_vi [8, 36] 3000 8 [some (.inr (.inr (21, 0))), some (.inl v1), some (.inl v2), some (.inl v3), none, none] [] h).symm.trans rfl
set_option maxHeartbeats 1000000 in
theorem q_M_pays_L36_eq (sc : wb_X) (h : wb_H) (v1 : Int32) (v2 : Int32) (v3 : Int32) (v4 : Int32) (v5 : Int32) : q_M_pays_L36 sc h v1 v2 v3 v4 v5 = (bif (wb_in (h.1 21 0 18) 2) then bif (decide ((h.1 73 0 ((h.1 21 0 18)).toNatClampNeg) ≤ v5)) then bif (wb_in v3 128) then (q_M_pays_L8 sc h v1 (v2 + ((h.1 98 0 (v3).toNatClampNeg) * v4)) (v3 + (Int32.ofInt 1))) else none else bif (wb_in (((Int32.ofInt 6) * v3) + v5) 768) then bif (!decide ((h.1 97 0 ((((Int32.ofInt 6) * v3) + v5)).toNatClampNeg) = (Int32.ofInt 2))) then (q_M_pays_L36 sc h v1 v2 v3 v4 (v5 + (Int32.ofInt 1))) else bif (wb_in (h.1 21 0 18) 2) then (q_M_pays_L36 sc h v1 v2 v3 (v4 + (h.1 82 0 ((h.1 21 0 18)).toNatClampNeg)) (v5 + (Int32.ofInt 1))) else none else none else none) :=
  (wb_g2_eq (m := 235) (cl := wb_k_M_pays) rfl wb_vi [8, 36] 3000 36 [some (.inr (.inr (21, 0))), some (.inl v1), some (.inl v2), some (.inl v3), some (.inl v4), some (.inl v5)] [] h).symm.trans rfl
noncomputable def q_Evening_weightOfRow (sc : wb_X) (h : wb_H) (a1 : Int32) (a2 : Int32) : Option (Int32 × wb_H) := wb_F sc wb_vi 19 [.inr (.inr (11, 0)), .inl a1, .inl a2] h
set_option maxHeartbeats 1000000 in
theorem q_Evening_weightOfRow_eq (sc : wb_X) (h : wb_H) (a1 : Int32) (a2 : Int32) : q_Evening_weightOfRow sc h a1 a2 = (bif (wb_in (h.1 11 0 1) (wb_tab [0, 1, 4, 13, 40, 121, 364, 1093]).1) then bif (wb_in (h.1 11 0 1) (wb_tab [1, 3, 9, 27, 81, 243, 729]).1) then bif (!decide (((wb_tab [1, 3, 9, 27, 81, 243, 729]).2 ((h.1 11 0 1)).toNatClampNeg) = 0)) then bif (decide (a2 = (Int32.ofInt 0))) then bif (wb_in (((wb_tab [0, 1, 4, 13, 40, 121, 364, 1093]).2 ((h.1 11 0 1)).toNatClampNeg) + (wb_rem a1 ((wb_tab [1, 3, 9, 27, 81, 243, 729]).2 ((h.1 11 0 1)).toNatClampNeg))) 1093) then some ((h.1 33 0 ((((wb_tab [0, 1, 4, 13, 40, 121, 364, 1093]).2 ((h.1 11 0 1)).toNatClampNeg) + (wb_rem a1 ((wb_tab [1, 3, 9, 27, 81, 243, 729]).2 ((h.1 11 0 1)).toNatClampNeg)))).toNatClampNeg), h) else none else bif (wb_in (((wb_tab [0, 1, 4, 13, 40, 121, 364, 1093]).2 ((h.1 11 0 1)).toNatClampNeg) + (wb_rem a1 ((wb_tab [1, 3, 9, 27, 81, 243, 729]).2 ((h.1 11 0 1)).toNatClampNeg))) 1093) then some ((h.1 32 0 ((((wb_tab [0, 1, 4, 13, 40, 121, 364, 1093]).2 ((h.1 11 0 1)).toNatClampNeg) + (wb_rem a1 ((wb_tab [1, 3, 9, 27, 81, 243, 729]).2 ((h.1 11 0 1)).toNatClampNeg)))).toNatClampNeg), h) else none else none else none else none) :=
  (wb_g2_eq (m := 19) (cl := wb_k_Evening_weightOfRow) rfl wb_vi [] 3000 0 _ [] h).symm.trans rfl
noncomputable def q_X_tells (sc : wb_X) (h : wb_H) (a1 : Int32) (a2 : Int32) : Option (Int32 × wb_H) := wb_F sc wb_vi 122 [.inr (.inr (20, 0)), .inl a1, .inl a2] h
set_option maxHeartbeats 1000000 in
theorem q_X_tells_eq (sc : wb_X) (h : wb_H) (a1 : Int32) (a2 : Int32) : q_X_tells sc h a1 a2 = (((q_X_isRow sc h a1).bind fun r1 => bif (!decide (r1.1 = (Int32.ofInt 0))) then ((q_X_tonight sc r1.2).bind fun h2 => ((q_Evening_weightOfRow sc h2 a1 (Int32.ofInt 1)).bind fun r3 => ((q_Evening_weightOfRow sc r3.2 a1 (Int32.ofInt 0)).bind fun r4 => bif (!decide ((r3.1 + r4.1) = (Int32.ofInt 0))) then ((q_X_fraction sc r4.2 ((r3.1).toInt64) (((r3.1 + r4.1)).toInt64) a2).bind fun r5 => some (r5.1, r5.2)) else some ((Int32.ofInt (-2)), r4.2)))) else some ((Int32.ofInt (-1)), r1.2))) :=
  (wb_g2_eq (m := 122) (cl := wb_k_X_tells) rfl wb_vi [] 3000 0 _ [] h).symm.trans rfl
noncomputable def q_M_tells (sc : wb_X) (h : wb_H) (a1 : Int32) (a2 : Int32) : Option (Int32 × wb_H) := wb_F sc wb_vi 236 [.inr (.inr (21, 0)), .inl a1, .inl a2] h
noncomputable def q_M_tells_L26 (sc : wb_X) (h : wb_H) (v2 : Int32) (v3 : Int32) (v4 : Int32) (v5 : Int32) : Option (Int32 × wb_H) := wb_Q sc wb_vi 236 26 [some (.inr (.inr (21, 0))), none, some (.inl v2), some (.inl v3), some (.inl v4), some (.inl v5), none, none] [] h
noncomputable def q_M_tells_L41 (sc : wb_X) (h : wb_H) (v2 : Int32) (v3 : Int32) (v4 : Int32) (v5 : Int32) (v6 : Int32) (v7 : Int32) : Option (Int32 × wb_H) := wb_Q sc wb_vi 236 41 [some (.inr (.inr (21, 0))), none, some (.inl v2), some (.inl v3), some (.inl v4), some (.inl v5), some (.inl v6), some (.inl v7)] [] h
set_option maxHeartbeats 1000000 in
theorem q_M_tells_eq (sc : wb_X) (h : wb_H) (a1 : Int32) (a2 : Int32) : q_M_tells sc h a1 a2 = (((q_M_isRow sc h a1).bind fun r1 => bif (!decide (r1.1 = (Int32.ofInt 0))) then ((q_M_lays sc r1.2).bind fun h2 => ((q_M_setsAhead sc h2 a1).bind fun h3 => (q_M_tells_L26 sc h3 a2 (Int32.ofInt 0) (Int32.ofInt 0) (Int32.ofInt 0)))) else some ((Int32.ofInt (-1)), r1.2))) :=
  (wb_g2_eq (m := 236) (cl := wb_k_M_tells) rfl wb_vi [26, 41] 3000 0 _ [] h).symm.trans rfl
set_option maxHeartbeats 1000000 in
theorem q_M_tells_L26_eq (sc : wb_X) (h : wb_H) (v2 : Int32) (v3 : Int32) (v4 : Int32) (v5 : Int32) : q_M_tells_L26 sc h v2 v3 v4 v5 = (((q_M_worlds sc h).bind fun r1 => bif (decide (r1.1 ≤ v5)) then bif (!decide (v3 = (Int32.ofInt 0))) then ((q_M_lineOf sc r1.2 v4 v3 v2).bind fun r2 => some (r2.1, r2.2)) else some ((Int32.ofInt (-2)), r1.2) else (q_M_tells_L41 sc r1.2 v2 v3 v4 v5 (Int32.ofInt 1) (Int32.ofInt 0)))) :=
  (wb_g2_eq (m := 236) (cl := wb_k_M_tells) rfl wb_vi [26, 41] 3000 26 [some (.inr (.inr (21, 0))), none, some (.inl v2), some (.inl v3), some (.inl v4), some (.inl v5), none, none] [] h).symm.trans rfl
set_option maxHeartbeats 1000000 in
theorem q_M_tells_L41_eq (sc : wb_X) (h : wb_H) (v2 : Int32) (v3 : Int32) (v4 : Int32) (v5 : Int32) (v6 : Int32) (v7 : Int32) : q_M_tells_L41 sc h v2 v3 v4 v5 v6 v7 = (bif (wb_in (h.1 21 0 18) 2) then bif (decide ((h.1 73 0 ((h.1 21 0 18)).toNatClampNeg) ≤ v7)) then bif (!decide (v6 = (Int32.ofInt 0))) then bif (wb_in v5 128) then bif (!decide ((v5 &&& (Int32.ofInt 1)) = (Int32.ofInt 1))) then (q_M_tells_L26 sc h v2 (v3 + (h.1 98 0 (v5).toNatClampNeg)) v4 (v5 + (Int32.ofInt 1))) else bif (wb_in v5 128) then (q_M_tells_L26 sc h v2 (v3 + (h.1 98 0 (v5).toNatClampNeg)) (v4 + (h.1 98 0 (v5).toNatClampNeg)) (v5 + (Int32.ofInt 1))) else none else none else (q_M_tells_L26 sc h v2 v3 v4 (v5 + (Int32.ofInt 1))) else bif (wb_in (((Int32.ofInt 6) * v5) + v7) 768) then bif (wb_in v7 6) then bif (decide ((h.1 97 0 ((((Int32.ofInt 6) * v5) + v7)).toNatClampNeg) = (h.1 99 0 (v7).toNatClampNeg))) then (q_M_tells_L41 sc h v2 v3 v4 v5 v6 (v7 + (Int32.ofInt 1))) else (q_M_tells_L41 sc h v2 v3 v4 v5 (Int32.ofInt 0) (v7 + (Int32.ofInt 1))) else none else none else none) :=
  (wb_g2_eq (m := 236) (cl := wb_k_M_tells) rfl wb_vi [26, 41] 3000 41 [some (.inr (.inr (21, 0))), none, some (.inl v2), some (.inl v3), some (.inl v4), some (.inl v5), some (.inl v6), some (.inl v7)] [] h).symm.trans rfl
noncomputable def q_X_herd (sc : wb_X) (h : wb_H) (a1 : Int32) : Option (Int32 × wb_H) := wb_F sc wb_vi 123 [.inr (.inr (20, 0)), .inl a1] h
noncomputable def q_X_herd_L22 (sc : wb_X) (h : wb_H) (v1 : Int32) (v3 : Int32) : Option (Int32 × wb_H) := wb_Q sc wb_vi 123 22 [some (.inr (.inr (20, 0))), some (.inl v1), some (.inr (.inr (11, 0))), some (.inl v3)] [] h
set_option maxHeartbeats 1000000 in
theorem q_X_herd_eq (sc : wb_X) (h : wb_H) (a1 : Int32) : q_X_herd sc h a1 = (((q_X_isRow sc h a1).bind fun r1 => bif (!decide (r1.1 = (Int32.ofInt 0))) then ((q_X_tonight sc r1.2).bind fun h2 => bif (decide (0 < h2.2.2 20 0 2)) then bif (decide ((h2.2.2 20 0 2 - 1) < 2)) then (q_X_herd_L22 sc h2 a1 (h2.1 15 (h2.2.2 20 0 2 - 1) 0)) else none else none) else some ((Int32.ofInt (-1)), r1.2))) :=
  (wb_g2_eq (m := 123) (cl := wb_k_X_herd) rfl wb_vi [22] 3000 0 _ [] h).symm.trans rfl
set_option maxHeartbeats 1000000 in
theorem q_X_herd_L22_eq (sc : wb_X) (h : wb_H) (v1 : Int32) (v3 : Int32) : q_X_herd_L22 sc h v1 v3 = (bif (decide (v3 ≤ (Int32.ofInt 0))) then bif (decide (0 < h.2.2 20 0 2)) then bif (decide ((h.2.2 20 0 2 - 1) < 2)) then bif (!decide (v3 = (h.1 15 (h.2.2 20 0 2 - 1) 0))) then some (v3, h) else some ((Int32.ofInt (-2)), h) else none else none else ((q_Evening_binAt sc h (v3 - (Int32.ofInt 1)) (Int32.ofInt 1) v1).bind fun r1 => ((q_Evening_binAt sc r1.2 (v3 - (Int32.ofInt 1)) (Int32.ofInt 0) v1).bind fun r2 => bif (!decide (r1.1 = r2.1)) then bif (decide (0 < r2.2.2.2 20 0 2)) then bif (decide ((r2.2.2.2 20 0 2 - 1) < 2)) then bif (!decide (v3 = (r2.2.1 15 (r2.2.2.2 20 0 2 - 1) 0))) then some (v3, r2.2) else some ((Int32.ofInt (-2)), r2.2) else none else none else (q_X_herd_L22 sc r2.2 v1 (v3 + (Int32.ofInt (-1))))))) :=
  (wb_g2_eq (m := 123) (cl := wb_k_X_herd) rfl wb_vi [22] 3000 22 [some (.inr (.inr (20, 0))), some (.inl v1), some (.inr (.inr (11, 0))), some (.inl v3)] [] h).symm.trans rfl
noncomputable def q_M_herd (sc : wb_X) (h : wb_H) (a1 : Int32) : Option (Int32 × wb_H) := wb_F sc wb_vi 237 [.inr (.inr (21, 0)), .inl a1] h
noncomputable def q_M_herd_L28 (sc : wb_X) (h : wb_H) (v2 : Int32) : Option (Int32 × wb_H) := wb_Q sc wb_vi 237 28 [some (.inr (.inr (21, 0))), none, some (.inl v2)] [] h
set_option maxHeartbeats 1000000 in
theorem q_M_herd_eq (sc : wb_X) (h : wb_H) (a1 : Int32) : q_M_herd sc h a1 = (((q_M_isRow sc h a1).bind fun r1 => bif (!decide (r1.1 = (Int32.ofInt 0))) then ((q_M_lays sc r1.2).bind fun h2 => ((q_M_setsAhead sc h2 a1).bind fun h3 => bif (wb_in (h3.1 21 0 18) 2) then (q_M_herd_L28 sc h3 (h3.1 73 0 ((h3.1 21 0 18)).toNatClampNeg)) else none)) else some ((Int32.ofInt (-1)), r1.2))) :=
  (wb_g2_eq (m := 237) (cl := wb_k_M_herd) rfl wb_vi [28] 3000 0 _ [] h).symm.trans rfl
set_option maxHeartbeats 1000000 in
theorem q_M_herd_L28_eq (sc : wb_X) (h : wb_H) (v2 : Int32) : q_M_herd_L28 sc h v2 = (bif (decide (v2 ≤ (Int32.ofInt 0))) then bif (wb_in (h.1 21 0 18) 2) then bif (!decide (v2 = (h.1 73 0 ((h.1 21 0 18)).toNatClampNeg))) then some (v2, h) else some ((Int32.ofInt (-2)), h) else none else ((q_M_houseAt sc h (v2 - (Int32.ofInt 1))).bind fun r1 => ((q_M_putOf sc r1.2 r1.1 (Int32.ofInt 1)).bind fun r2 => ((q_M_houseAt sc r2.2 (v2 - (Int32.ofInt 1))).bind fun r3 => ((q_M_putOf sc r3.2 r3.1 (Int32.ofInt 0)).bind fun r4 => bif (!decide (r2.1 = r4.1)) then bif (wb_in (r4.2.1 21 0 18) 2) then bif (!decide (v2 = (r4.2.1 73 0 ((r4.2.1 21 0 18)).toNatClampNeg))) then some (v2, r4.2) else some ((Int32.ofInt (-2)), r4.2) else none else (q_M_herd_L28 sc r4.2 (v2 + (Int32.ofInt (-1))))))))) :=
  (wb_g2_eq (m := 237) (cl := wb_k_M_herd) rfl wb_vi [28] 3000 28 [some (.inr (.inr (21, 0))), none, some (.inl v2)] [] h).symm.trans rfl
noncomputable def q_X_allHouses (sc : wb_X) (h : wb_H) : Option (Int32 × wb_H) := wb_F sc wb_vi 107 [.inr (.inr (20, 0))] h
set_option maxHeartbeats 1000000 in
theorem q_X_allHouses_eq (sc : wb_X) (h : wb_H) : q_X_allHouses sc h = (bif (decide (0 < h.2.2 20 0 2)) then bif (decide ((h.2.2 20 0 2 - 1) < 2)) then some ((((Int32.ofInt 1) <<< ((h.1 15 (h.2.2 20 0 2 - 1) 0) &&& 31)) - (Int32.ofInt 1)), h) else none else none) :=
  (wb_g2_eq (m := 107) (cl := wb_k_X_allHouses) rfl wb_vi [] 3000 0 _ [] h).symm.trans rfl
noncomputable def q_JInteger_bitCount (sc : wb_X) (h : wb_H) (a0 : Int32) : Option (Int32 × wb_H) := wb_F sc wb_vi 264 [.inl a0] h
set_option maxHeartbeats 1000000 in
theorem q_JInteger_bitCount_eq (sc : wb_X) (h : wb_H) (a0 : Int32) : q_JInteger_bitCount sc h a0 = (some (((((((((a0 - (((a0).toUInt32 >>> (((Int32.ofInt 1)).toUInt32 &&& Int32.toUInt32 31)).toInt32 &&& (Int32.ofInt 1431655765))) &&& (Int32.ofInt 858993459)) + ((((a0 - (((a0).toUInt32 >>> (((Int32.ofInt 1)).toUInt32 &&& Int32.toUInt32 31)).toInt32 &&& (Int32.ofInt 1431655765)))).toUInt32 >>> (((Int32.ofInt 2)).toUInt32 &&& Int32.toUInt32 31)).toInt32 &&& (Int32.ofInt 858993459))) + (((((a0 - (((a0).toUInt32 >>> (((Int32.ofInt 1)).toUInt32 &&& Int32.toUInt32 31)).toInt32 &&& (Int32.ofInt 1431655765))) &&& (Int32.ofInt 858993459)) + ((((a0 - (((a0).toUInt32 >>> (((Int32.ofInt 1)).toUInt32 &&& Int32.toUInt32 31)).toInt32 &&& (Int32.ofInt 1431655765)))).toUInt32 >>> (((Int32.ofInt 2)).toUInt32 &&& Int32.toUInt32 31)).toInt32 &&& (Int32.ofInt 858993459)))).toUInt32 >>> (((Int32.ofInt 4)).toUInt32 &&& Int32.toUInt32 31)).toInt32) &&& (Int32.ofInt 252645135)) + (((((((a0 - (((a0).toUInt32 >>> (((Int32.ofInt 1)).toUInt32 &&& Int32.toUInt32 31)).toInt32 &&& (Int32.ofInt 1431655765))) &&& (Int32.ofInt 858993459)) + ((((a0 - (((a0).toUInt32 >>> (((Int32.ofInt 1)).toUInt32 &&& Int32.toUInt32 31)).toInt32 &&& (Int32.ofInt 1431655765)))).toUInt32 >>> (((Int32.ofInt 2)).toUInt32 &&& Int32.toUInt32 31)).toInt32 &&& (Int32.ofInt 858993459))) + (((((a0 - (((a0).toUInt32 >>> (((Int32.ofInt 1)).toUInt32 &&& Int32.toUInt32 31)).toInt32 &&& (Int32.ofInt 1431655765))) &&& (Int32.ofInt 858993459)) + ((((a0 - (((a0).toUInt32 >>> (((Int32.ofInt 1)).toUInt32 &&& Int32.toUInt32 31)).toInt32 &&& (Int32.ofInt 1431655765)))).toUInt32 >>> (((Int32.ofInt 2)).toUInt32 &&& Int32.toUInt32 31)).toInt32 &&& (Int32.ofInt 858993459)))).toUInt32 >>> (((Int32.ofInt 4)).toUInt32 &&& Int32.toUInt32 31)).toInt32) &&& (Int32.ofInt 252645135))).toUInt32 >>> (((Int32.ofInt 8)).toUInt32 &&& Int32.toUInt32 31)).toInt32) + ((((((((a0 - (((a0).toUInt32 >>> (((Int32.ofInt 1)).toUInt32 &&& Int32.toUInt32 31)).toInt32 &&& (Int32.ofInt 1431655765))) &&& (Int32.ofInt 858993459)) + ((((a0 - (((a0).toUInt32 >>> (((Int32.ofInt 1)).toUInt32 &&& Int32.toUInt32 31)).toInt32 &&& (Int32.ofInt 1431655765)))).toUInt32 >>> (((Int32.ofInt 2)).toUInt32 &&& Int32.toUInt32 31)).toInt32 &&& (Int32.ofInt 858993459))) + (((((a0 - (((a0).toUInt32 >>> (((Int32.ofInt 1)).toUInt32 &&& Int32.toUInt32 31)).toInt32 &&& (Int32.ofInt 1431655765))) &&& (Int32.ofInt 858993459)) + ((((a0 - (((a0).toUInt32 >>> (((Int32.ofInt 1)).toUInt32 &&& Int32.toUInt32 31)).toInt32 &&& (Int32.ofInt 1431655765)))).toUInt32 >>> (((Int32.ofInt 2)).toUInt32 &&& Int32.toUInt32 31)).toInt32 &&& (Int32.ofInt 858993459)))).toUInt32 >>> (((Int32.ofInt 4)).toUInt32 &&& Int32.toUInt32 31)).toInt32) &&& (Int32.ofInt 252645135)) + (((((((a0 - (((a0).toUInt32 >>> (((Int32.ofInt 1)).toUInt32 &&& Int32.toUInt32 31)).toInt32 &&& (Int32.ofInt 1431655765))) &&& (Int32.ofInt 858993459)) + ((((a0 - (((a0).toUInt32 >>> (((Int32.ofInt 1)).toUInt32 &&& Int32.toUInt32 31)).toInt32 &&& (Int32.ofInt 1431655765)))).toUInt32 >>> (((Int32.ofInt 2)).toUInt32 &&& Int32.toUInt32 31)).toInt32 &&& (Int32.ofInt 858993459))) + (((((a0 - (((a0).toUInt32 >>> (((Int32.ofInt 1)).toUInt32 &&& Int32.toUInt32 31)).toInt32 &&& (Int32.ofInt 1431655765))) &&& (Int32.ofInt 858993459)) + ((((a0 - (((a0).toUInt32 >>> (((Int32.ofInt 1)).toUInt32 &&& Int32.toUInt32 31)).toInt32 &&& (Int32.ofInt 1431655765)))).toUInt32 >>> (((Int32.ofInt 2)).toUInt32 &&& Int32.toUInt32 31)).toInt32 &&& (Int32.ofInt 858993459)))).toUInt32 >>> (((Int32.ofInt 4)).toUInt32 &&& Int32.toUInt32 31)).toInt32) &&& (Int32.ofInt 252645135))).toUInt32 >>> (((Int32.ofInt 8)).toUInt32 &&& Int32.toUInt32 31)).toInt32)).toUInt32 >>> (((Int32.ofInt 16)).toUInt32 &&& Int32.toUInt32 31)).toInt32) &&& (Int32.ofInt 63)), h)) :=
  (wb_g2_eq (m := 264) (cl := wb_k_JInteger_bitCount) rfl wb_vi [] 3000 0 _ [] h).symm.trans rfl
noncomputable def q_X_bestLeaflets (sc : wb_X) (h : wb_H) (a1 : Int32) : Option (Int32 × wb_H) := wb_F sc wb_vi 127 [.inr (.inr (20, 0)), .inl a1] h
noncomputable def q_X_bestLeaflets_L20 (sc : wb_X) (h : wb_H) (v1 : Int32) (v2 : Int32) (v3 : Int32) (v4 : Int32) : Option (Int32 × wb_H) := wb_Q sc wb_vi 127 20 [some (.inr (.inr (20, 0))), some (.inl v1), some (.inl v2), some (.inl v3), some (.inl v4)] [] h
set_option maxHeartbeats 1000000 in
theorem q_X_bestLeaflets_eq (sc : wb_X) (h : wb_H) (a1 : Int32) : q_X_bestLeaflets sc h a1 = (((q_X_allHouses sc h).bind fun r1 => (q_X_bestLeaflets_L20 sc r1.2 a1 (r1.1 &&& ((r1.2.1 17 0 2) ^^^ (Int32.ofInt (-1)))) (Int32.ofInt (-1)) (Int32.ofInt 0)))) :=
  (wb_g2_eq (m := 127) (cl := wb_k_X_bestLeaflets) rfl wb_vi [20] 3000 0 _ [] h).symm.trans rfl
set_option maxHeartbeats 1000000 in
theorem q_X_bestLeaflets_L20_eq (sc : wb_X) (h : wb_H) (v1 : Int32) (v2 : Int32) (v3 : Int32) (v4 : Int32) : q_X_bestLeaflets_L20 sc h v1 v2 v3 v4 = (bif (decide (v2 < v4)) then some (v3, h) else bif (!decide ((v4 &&& (v2 ^^^ (Int32.ofInt (-1)))) = (Int32.ofInt 0))) then (q_X_bestLeaflets_L20 sc h v1 v2 v3 (v4 + (Int32.ofInt 1))) else ((q_JInteger_bitCount sc h v4).bind fun r1 => bif (!decide (r1.1 = v1)) then (q_X_bestLeaflets_L20 sc r1.2 v1 v2 v3 (v4 + (Int32.ofInt 1))) else bif (decide (v3 = (Int32.ofInt (-1)))) then (q_X_bestLeaflets_L20 sc r1.2 v1 v2 v4 (v4 + (Int32.ofInt 1))) else ((q_X_meanWith sc r1.2 ((r1.2.1 17 0 2) ||| v4)).bind fun r2 => ((q_X_meanWith sc r2.2 ((r2.2.1 17 0 2) ||| v3)).bind fun r3 => bif (decide (r3.1 ≤ r2.1)) then (q_X_bestLeaflets_L20 sc r3.2 v1 v2 v3 (v4 + (Int32.ofInt 1))) else (q_X_bestLeaflets_L20 sc r3.2 v1 v2 v4 (v4 + (Int32.ofInt 1))))))) :=
  (wb_g2_eq (m := 127) (cl := wb_k_X_bestLeaflets) rfl wb_vi [20] 3000 20 [some (.inr (.inr (20, 0))), some (.inl v1), some (.inl v2), some (.inl v3), some (.inl v4)] [] h).symm.trans rfl
noncomputable def q_X_whom (sc : wb_X) (h : wb_H) (a1 : Int32) : Option (Int32 × wb_H) := wb_F sc wb_vi 124 [.inr (.inr (20, 0)), .inl a1] h
set_option maxHeartbeats 1000000 in
theorem q_X_whom_eq (sc : wb_X) (h : wb_H) (a1 : Int32) : q_X_whom sc h a1 = (bif (decide (a1 < (Int32.ofInt 0))) then some ((Int32.ofInt (-1)), h) else bif (decide (a1 ≤ (Int32.ofInt 6))) then ((q_X_allHouses sc h).bind fun r1 => ((q_JInteger_bitCount sc r1.2 (r1.1 &&& ((r1.2.1 17 0 2) ^^^ (Int32.ofInt (-1))))).bind fun r2 => bif (decide (a1 ≤ r2.1)) then ((q_X_bestLeaflets sc r2.2 a1).bind fun r3 => some (r3.1, r3.2)) else some ((Int32.ofInt (-2)), r2.2))) else some ((Int32.ofInt (-1)), h)) :=
  (wb_g2_eq (m := 124) (cl := wb_k_X_whom) rfl wb_vi [] 3000 0 _ [] h).symm.trans rfl
noncomputable def q_M_allHouses (sc : wb_X) (h : wb_H) : Option (Int32 × wb_H) := wb_F sc wb_vi 239 [.inr (.inr (21, 0))] h
set_option maxHeartbeats 1000000 in
theorem q_M_allHouses_eq (sc : wb_X) (h : wb_H) : q_M_allHouses sc h = (bif (wb_in (h.1 21 0 18) 2) then some ((((Int32.ofInt 1) <<< ((h.1 73 0 ((h.1 21 0 18)).toNatClampNeg) &&& 31)) - (Int32.ofInt 1)), h) else none) :=
  (wb_g2_eq (m := 239) (cl := wb_k_M_allHouses) rfl wb_vi [] 3000 0 _ [] h).symm.trans rfl
noncomputable def q_M_bits (sc : wb_X) (h : wb_H) (a0 : Int32) : Option (Int32 × wb_H) := wb_F sc wb_vi 183 [.inl a0] h
noncomputable def q_M_bits_L4 (sc : wb_X) (h : wb_H) (v0 : Int32) (v1 : Int32) (v2 : Int32) : Option (Int32 × wb_H) := wb_Q sc wb_vi 183 4 [some (.inl v0), some (.inl v1), some (.inl v2)] [] h
set_option maxHeartbeats 1000000 in
theorem q_M_bits_eq (sc : wb_X) (h : wb_H) (a0 : Int32) : q_M_bits sc h a0 = ((q_M_bits_L4 sc h a0 (Int32.ofInt 0) (Int32.ofInt 0))) :=
  (wb_g2_eq (m := 183) (cl := wb_k_M_bits) rfl wb_vi [4] 3000 0 _ [] h).symm.trans rfl
set_option maxHeartbeats 1000000 in
theorem q_M_bits_L4_eq (sc : wb_X) (h : wb_H) (v0 : Int32) (v1 : Int32) (v2 : Int32) : q_M_bits_L4 sc h v0 v1 v2 = (bif (decide ((Int32.ofInt 6) ≤ v2)) then some (v1, h) else (q_M_bits_L4 sc h v0 (v1 + ((v0 >>> (v2 &&& 31)) &&& (Int32.ofInt 1))) (v2 + (Int32.ofInt 1)))) :=
  (wb_g2_eq (m := 183) (cl := wb_k_M_bits) rfl wb_vi [4] 3000 4 [some (.inl v0), some (.inl v1), some (.inl v2)] [] h).symm.trans rfl
noncomputable def q_M_meanWith (sc : wb_X) (h : wb_H) (a1 : Int32) : Option (Int32 × wb_H) := wb_F sc wb_vi 238 [.inr (.inr (21, 0)), .inl a1] h
set_option maxHeartbeats 1000000 in
theorem q_M_meanWith_eq (sc : wb_X) (h : wb_H) (a1 : Int32) : q_M_meanWith sc h a1 = (((q_M_copies sc h).bind fun h1 => bif (wb_in (Int32.ofInt 12) 48) then bif (wb_in (Int32.ofInt 12) 48) then ((q_M_meanNow sc (wb_iu h1 96 0 ((Int32.ofInt 12)).toNatClampNeg ((h1.1 96 0 ((Int32.ofInt 12)).toNatClampNeg) ||| a1))).bind fun r2 => some (r2.1, r2.2)) else none else none)) :=
  (wb_g2_eq (m := 238) (cl := wb_k_M_meanWith) rfl wb_vi [] 3000 0 _ [] h).symm.trans rfl
noncomputable def q_M_bestLeaflets (sc : wb_X) (h : wb_H) (a1 : Int32) : Option (Int32 × wb_H) := wb_F sc wb_vi 240 [.inr (.inr (21, 0)), .inl a1] h
noncomputable def q_M_bestLeaflets_L24 (sc : wb_X) (h : wb_H) (v1 : Int32) (v2 : Int32) (v3 : Int32) (v4 : Int32) (v5 : Int32) : Option (Int32 × wb_H) := wb_Q sc wb_vi 240 24 [some (.inr (.inr (21, 0))), some (.inl v1), some (.inl v2), some (.inl v3), some (.inl v4), some (.inl v5), none] [] h
set_option maxHeartbeats 1000000 in
theorem q_M_bestLeaflets_eq (sc : wb_X) (h : wb_H) (a1 : Int32) : q_M_bestLeaflets sc h a1 = (((q_M_allHouses sc h).bind fun r1 => bif (wb_in (Int32.ofInt 12) 48) then (q_M_bestLeaflets_L24 sc r1.2 a1 (r1.1 &&& ((r1.2.1 95 0 ((Int32.ofInt 12)).toNatClampNeg) ^^^ (Int32.ofInt (-1)))) (Int32.ofInt (-2)) (Int32.ofInt 0) (Int32.ofInt 0)) else none)) :=
  (wb_g2_eq (m := 240) (cl := wb_k_M_bestLeaflets) rfl wb_vi [24] 3000 0 _ [] h).symm.trans rfl
set_option maxHeartbeats 1000000 in
theorem q_M_bestLeaflets_L24_eq (sc : wb_X) (h : wb_H) (v1 : Int32) (v2 : Int32) (v3 : Int32) (v4 : Int32) (v5 : Int32) : q_M_bestLeaflets_L24 sc h v1 v2 v3 v4 v5 = (bif (decide (v2 < v5)) then some (v3, h) else bif (!decide ((v5 &&& (v2 ^^^ (Int32.ofInt (-1)))) = (Int32.ofInt 0))) then (q_M_bestLeaflets_L24 sc h v1 v2 v3 v4 (v5 + (Int32.ofInt 1))) else ((q_M_bits sc h v5).bind fun r1 => bif (decide (r1.1 = v1)) then ((q_M_meanWith sc r1.2 v5).bind fun r2 => bif (decide (v3 < (Int32.ofInt 0))) then (q_M_bestLeaflets_L24 sc r2.2 v1 v2 v5 r2.1 (v5 + (Int32.ofInt 1))) else bif (decide (r2.1 < v4)) then (q_M_bestLeaflets_L24 sc r2.2 v1 v2 v5 r2.1 (v5 + (Int32.ofInt 1))) else (q_M_bestLeaflets_L24 sc r2.2 v1 v2 v3 v4 (v5 + (Int32.ofInt 1)))) else (q_M_bestLeaflets_L24 sc r1.2 v1 v2 v3 v4 (v5 + (Int32.ofInt 1))))) :=
  (wb_g2_eq (m := 240) (cl := wb_k_M_bestLeaflets) rfl wb_vi [24] 3000 24 [some (.inr (.inr (21, 0))), some (.inl v1), some (.inl v2), some (.inl v3), some (.inl v4), some (.inl v5), none] [] h).symm.trans rfl
noncomputable def q_M_whom (sc : wb_X) (h : wb_H) (a1 : Int32) : Option (Int32 × wb_H) := wb_F sc wb_vi 241 [.inr (.inr (21, 0)), .inl a1] h
set_option maxHeartbeats 1000000 in
theorem q_M_whom_eq (sc : wb_X) (h : wb_H) (a1 : Int32) : q_M_whom sc h a1 = (((q_M_in sc h a1 (Int32.ofInt 0) (Int32.ofInt 6)).bind fun r1 => bif (decide (r1.1 = (Int32.ofInt 0))) then some ((Int32.ofInt (-1)), r1.2) else ((q_M_bestLeaflets sc r1.2 a1).bind fun r2 => some (r2.1, r2.2)))) :=
  (wb_g2_eq (m := 241) (cl := wb_k_M_whom) rfl wb_vi [] 3000 0 _ [] h).symm.trans rfl
noncomputable def q_X_worth (sc : wb_X) (h : wb_H) (a1 : Int32) (a2 : Int32) : Option (Int32 × wb_H) := wb_F sc wb_vi 125 [.inr (.inr (20, 0)), .inl a1, .inl a2] h
set_option maxHeartbeats 1000000 in
theorem q_X_worth_eq (sc : wb_X) (h : wb_H) (a1 : Int32) (a2 : Int32) : q_X_worth sc h a1 a2 = (((q_X_isHouse sc h a1).bind fun r1 => bif (!decide (r1.1 = (Int32.ofInt 0))) then ((q_X_meanWith sc r1.2 (r1.2.1 17 0 2)).bind fun r2 => ((q_X_meanWith sc r2.2 ((r2.2.1 17 0 2) ||| ((Int32.ofInt 1) <<< (a1 &&& 31)))).bind fun r3 => ((q_X_partOfAll sc r3.2 (((r2.1 - r3.1)).toInt64) a2).bind fun r4 => some (r4.1, r4.2)))) else some ((Int32.ofInt (-1)), r1.2))) :=
  (wb_g2_eq (m := 125) (cl := wb_k_X_worth) rfl wb_vi [] 3000 0 _ [] h).symm.trans rfl
noncomputable def q_M_worth (sc : wb_X) (h : wb_H) (a1 : Int32) (a2 : Int32) : Option (Int32 × wb_H) := wb_F sc wb_vi 242 [.inr (.inr (21, 0)), .inl a1, .inl a2] h
set_option maxHeartbeats 1000000 in
theorem q_M_worth_eq (sc : wb_X) (h : wb_H) (a1 : Int32) (a2 : Int32) : q_M_worth sc h a1 a2 = (((q_M_isHouse sc h a1).bind fun r1 => bif (!decide (r1.1 = (Int32.ofInt 0))) then ((q_M_meanWith sc r1.2 (Int32.ofInt 0)).bind fun r2 => ((q_M_meanWith sc r2.2 ((Int32.ofInt 1) <<< (a1 &&& 31))).bind fun r3 => ((q_M_allWeight sc r3.2).bind fun r4 => ((q_M_lineOf sc r4.2 (r2.1 - r3.1) r4.1 a2).bind fun r5 => some (r5.1, r5.2))))) else some ((Int32.ofInt (-1)), r1.2))) :=
  (wb_g2_eq (m := 242) (cl := wb_k_M_worth) rfl wb_vi [] 3000 0 _ [] h).symm.trans rfl
noncomputable def q_X_fewest (sc : wb_X) (h : wb_H) (a1 : Int32) : Option (Int32 × wb_H) := wb_F sc wb_vi 126 [.inr (.inr (20, 0)), .inl a1] h
noncomputable def q_X_fewest_L32 (sc : wb_X) (h : wb_H) (v1 : Int32) (v2 : Int32) (v3 : Int32) : Option (Int32 × wb_H) := wb_Q sc wb_vi 126 32 [some (.inr (.inr (20, 0))), some (.inl v1), some (.inl v2), some (.inl v3)] [] h
set_option maxHeartbeats 1000000 in
theorem q_X_fewest_eq (sc : wb_X) (h : wb_H) (a1 : Int32) : q_X_fewest sc h a1 = (bif (decide (a1 < (Int32.ofInt 0))) then some ((Int32.ofInt (-1)), h) else bif (decide (a1 ≤ (Int32.ofInt 60))) then ((q_X_allHouses sc h).bind fun r1 => ((q_JInteger_bitCount sc r1.2 (r1.1 &&& ((r1.2.1 17 0 2) ^^^ (Int32.ofInt (-1))))).bind fun r2 => (q_X_fewest_L32 sc r2.2 a1 r2.1 (Int32.ofInt 0)))) else some ((Int32.ofInt (-1)), h)) :=
  (wb_g2_eq (m := 126) (cl := wb_k_X_fewest) rfl wb_vi [32] 3000 0 _ [] h).symm.trans rfl
set_option maxHeartbeats 1000000 in
theorem q_X_fewest_L32_eq (sc : wb_X) (h : wb_H) (v1 : Int32) (v2 : Int32) (v3 : Int32) : q_X_fewest_L32 sc h v1 v2 v3 = (bif (decide (v2 ≤ v3)) then some (v2, h) else ((q_X_bestLeaflets sc h v3).bind fun r1 => ((q_X_meanWith sc r1.2 ((h.1 17 0 2) ||| r1.1)).bind fun r2 => ((q_X_allWeight sc r2.2).bind fun r3 => bif (decide ((Int32.ofInt 0) < (lg_cmp ((Int64.ofNat 10) * (r2.1).toInt64) ((v1).toInt64 * (r3.1).toInt64)))) then (q_X_fewest_L32 sc r3.2 v1 v2 (v3 + (Int32.ofInt 1))) else some (v3, r3.2))))) :=
  (wb_g2_eq (m := 126) (cl := wb_k_X_fewest) rfl wb_vi [32] 3000 32 [some (.inr (.inr (20, 0))), some (.inl v1), some (.inl v2), some (.inl v3)] [] h).symm.trans rfl
noncomputable def q_M_fewest (sc : wb_X) (h : wb_H) (a1 : Int32) : Option (Int32 × wb_H) := wb_F sc wb_vi 243 [.inr (.inr (21, 0)), .inl a1] h
noncomputable def q_M_fewest_L14 (sc : wb_X) (h : wb_H) (v1 : Int32) (v2 : Int32) : Option (Int32 × wb_H) := wb_Q sc wb_vi 243 14 [some (.inr (.inr (21, 0))), some (.inl v1), some (.inl v2)] [] h
set_option maxHeartbeats 1000000 in
theorem q_M_fewest_eq (sc : wb_X) (h : wb_H) (a1 : Int32) : q_M_fewest sc h a1 = (((q_M_in sc h a1 (Int32.ofInt 0) (Int32.ofInt 60)).bind fun r1 => bif (!decide (r1.1 = (Int32.ofInt 0))) then (q_M_fewest_L14 sc r1.2 a1 (Int32.ofInt 0)) else some ((Int32.ofInt (-1)), r1.2))) :=
  (wb_g2_eq (m := 243) (cl := wb_k_M_fewest) rfl wb_vi [14] 3000 0 _ [] h).symm.trans rfl
set_option maxHeartbeats 1000000 in
theorem q_M_fewest_L14_eq (sc : wb_X) (h : wb_H) (v1 : Int32) (v2 : Int32) : q_M_fewest_L14 sc h v1 v2 = (((q_M_bestLeaflets sc h v2).bind fun r1 => ((q_M_meanWith sc r1.2 r1.1).bind fun r2 => ((q_M_allWeight sc r2.2).bind fun r3 => bif (decide (r2.1 ≤ ((r3.1 / (Int32.ofInt 10)) * v1))) then some (v2, r3.2) else (q_M_fewest_L14 sc r3.2 v1 (v2 + (Int32.ofInt 1))))))) :=
  (wb_g2_eq (m := 243) (cl := wb_k_M_fewest) rfl wb_vi [14] 3000 14 [some (.inr (.inr (21, 0))), some (.inl v1), some (.inl v2)] [] h).symm.trans rfl
noncomputable def q_Evening_changePlaces (sc : wb_X) (h : wb_H) (a1 : Int32) (a2 : Int32) : Option (wb_H) := wb_F sc wb_vv 10 [.inr (.inr (11, 0)), .inl a1, .inl a2] h
set_option maxHeartbeats 1000000 in
theorem q_Evening_changePlaces_eq (sc : wb_X) (h : wb_H) (a1 : Int32) (a2 : Int32) : q_Evening_changePlaces sc h a1 a2 = (bif (wb_in a1 6) then bif (wb_in a2 6) then ((q_Evening_moveTo sc h a1 (h.1 28 0 (a2).toNatClampNeg)).bind fun h1 => ((q_Evening_moveTo sc h1 a2 (h.1 28 0 (a1).toNatClampNeg)).bind fun h2 => some h2)) else none else none) :=
  (wb_g2_eq (m := 10) (cl := wb_k_Evening_changePlaces) rfl wb_vv [] 3000 0 _ [] h).symm.trans rfl
noncomputable def q_X_meanIfChanged (sc : wb_X) (h : wb_H) (a1 : Int32) (a2 : Int32) : Option (Int32 × wb_H) := wb_F sc wb_vi 130 [.inr (.inr (20, 0)), .inl a1, .inl a2] h
set_option maxHeartbeats 1000000 in
theorem q_X_meanIfChanged_eq (sc : wb_X) (h : wb_H) (a1 : Int32) (a2 : Int32) : q_X_meanIfChanged sc h a1 a2 = (bif (decide (0 < (wb_iu h 20 0 15 (Int32.ofInt 0)).2.2 20 0 2)) then ((q_Evening_arrange sc (wb_iu h 20 0 15 (Int32.ofInt 0)) ((wb_iu h 20 0 15 (Int32.ofInt 0)).2.2 20 0 2 - 1) 0 ((wb_iu h 20 0 15 (Int32.ofInt 0)).1 17 0 2) (Int32.ofInt 0)).bind fun h1 => ((q_Evening_changePlaces sc h1 a1 a2).bind fun h2 => ((q_Evening_unfold sc h2 (Int32.ofInt 0)).bind fun h3 => ((q_Evening_allWrong sc h3).bind fun r4 => some (r4.1, r4.2))))) else none) :=
  (wb_g2_eq (m := 130) (cl := wb_k_X_meanIfChanged) rfl wb_vi [] 3000 0 _ [] h).symm.trans rfl
noncomputable def q_X_bestSwap (sc : wb_X) (h : wb_H) : Option (Int32 × wb_H) := wb_F sc wb_vi 129 [.inr (.inr (20, 0))] h
noncomputable def q_X_bestSwap_L17 (sc : wb_X) (h : wb_H) (v1 : Int32) (v2 : Int32) (v3 : Int32) : Option (Int32 × wb_H) := wb_Q sc wb_vi 129 17 [some (.inr (.inr (20, 0))), some (.inl v1), some (.inl v2), some (.inl v3), none, none] [] h
noncomputable def q_X_bestSwap_L33 (sc : wb_X) (h : wb_H) (v1 : Int32) (v2 : Int32) (v3 : Int32) (v4 : Int32) : Option (Int32 × wb_H) := wb_Q sc wb_vi 129 33 [some (.inr (.inr (20, 0))), some (.inl v1), some (.inl v2), some (.inl v3), some (.inl v4), none] [] h
set_option maxHeartbeats 1000000 in
theorem q_X_bestSwap_eq (sc : wb_X) (h : wb_H) : q_X_bestSwap sc h = (((q_X_meanWith sc h (h.1 17 0 2)).bind fun r1 => (q_X_bestSwap_L17 sc r1.2 (Int32.ofInt (-2)) r1.1 (Int32.ofInt 0)))) :=
  (wb_g2_eq (m := 129) (cl := wb_k_X_bestSwap) rfl wb_vi [17, 33] 3000 0 _ [] h).symm.trans rfl
set_option maxHeartbeats 1000000 in
theorem q_X_bestSwap_L17_eq (sc : wb_X) (h : wb_H) (v1 : Int32) (v2 : Int32) (v3 : Int32) : q_X_bestSwap_L17 sc h v1 v2 v3 = (bif (decide (0 < h.2.2 20 0 2)) then bif (decide ((h.2.2 20 0 2 - 1) < 2)) then bif (decide ((h.1 15 (h.2.2 20 0 2 - 1) 0) ≤ v3)) then some (v1, h) else (q_X_bestSwap_L33 sc h v1 v2 v3 (v3 + (Int32.ofInt 1))) else none else none) :=
  (wb_g2_eq (m := 129) (cl := wb_k_X_bestSwap) rfl wb_vi [17, 33] 3000 17 [some (.inr (.inr (20, 0))), some (.inl v1), some (.inl v2), some (.inl v3), none, none] [] h).symm.trans rfl
set_option maxHeartbeats 1000000 in
theorem q_X_bestSwap_L33_eq (sc : wb_X) (h : wb_H) (v1 : Int32) (v2 : Int32) (v3 : Int32) (v4 : Int32) : q_X_bestSwap_L33 sc h v1 v2 v3 v4 = (bif (decide (0 < h.2.2 20 0 2)) then bif (decide ((h.2.2 20 0 2 - 1) < 2)) then bif (decide ((h.1 15 (h.2.2 20 0 2 - 1) 0) ≤ v4)) then (q_X_bestSwap_L17 sc h v1 v2 (v3 + (Int32.ofInt 1))) else ((q_X_meanIfChanged sc h v3 v4).bind fun r1 => bif (decide (v2 ≤ r1.1)) then (q_X_bestSwap_L33 sc r1.2 v1 v2 v3 (v4 + (Int32.ofInt 1))) else (q_X_bestSwap_L33 sc r1.2 (((Int32.ofInt 10) * v3) + v4) r1.1 v3 (v4 + (Int32.ofInt 1)))) else none else none) :=
  (wb_g2_eq (m := 129) (cl := wb_k_X_bestSwap) rfl wb_vi [17, 33] 3000 33 [some (.inr (.inr (20, 0))), some (.inl v1), some (.inl v2), some (.inl v3), some (.inl v4), none] [] h).symm.trans rfl
noncomputable def q_M_bestSwap (sc : wb_X) (h : wb_H) : Option (Int32 × wb_H) := wb_F sc wb_vi 244 [.inr (.inr (21, 0))] h
noncomputable def q_M_bestSwap_L14 (sc : wb_X) (h : wb_H) (v1 : Int32) (v2 : Int32) (v3 : Int32) : Option (Int32 × wb_H) := wb_Q sc wb_vi 244 14 [some (.inr (.inr (21, 0))), some (.inl v1), some (.inl v2), some (.inl v3), none, none] [] h
noncomputable def q_M_bestSwap_L32 (sc : wb_X) (h : wb_H) (v1 : Int32) (v2 : Int32) (v3 : Int32) (v4 : Int32) : Option (Int32 × wb_H) := wb_Q sc wb_vi 244 32 [some (.inr (.inr (21, 0))), some (.inl v1), some (.inl v2), some (.inl v3), some (.inl v4), none] [] h
set_option maxHeartbeats 1000000 in
theorem q_M_bestSwap_eq (sc : wb_X) (h : wb_H) : q_M_bestSwap sc h = (((q_M_copies sc h).bind fun h1 => ((q_M_meanNow sc h1).bind fun r2 => (q_M_bestSwap_L14 sc r2.2 r2.1 (Int32.ofInt (-2)) (Int32.ofInt 0))))) :=
  (wb_g2_eq (m := 244) (cl := wb_k_M_bestSwap) rfl wb_vi [14, 32] 3000 0 _ [] h).symm.trans rfl
set_option maxHeartbeats 1000000 in
theorem q_M_bestSwap_L14_eq (sc : wb_X) (h : wb_H) (v1 : Int32) (v2 : Int32) (v3 : Int32) : q_M_bestSwap_L14 sc h v1 v2 v3 = (bif (wb_in (h.1 21 0 18) 2) then bif (decide ((h.1 73 0 ((h.1 21 0 18)).toNatClampNeg) ≤ v3)) then some (v2, h) else (q_M_bestSwap_L32 sc h v1 v2 v3 (v3 + (Int32.ofInt 1))) else none) :=
  (wb_g2_eq (m := 244) (cl := wb_k_M_bestSwap) rfl wb_vi [14, 32] 3000 14 [some (.inr (.inr (21, 0))), some (.inl v1), some (.inl v2), some (.inl v3), none, none] [] h).symm.trans rfl
set_option maxHeartbeats 1000000 in
theorem q_M_bestSwap_L32_eq (sc : wb_X) (h : wb_H) (v1 : Int32) (v2 : Int32) (v3 : Int32) (v4 : Int32) : q_M_bestSwap_L32 sc h v1 v2 v3 v4 = (bif (wb_in (h.1 21 0 18) 2) then bif (decide ((h.1 73 0 ((h.1 21 0 18)).toNatClampNeg) ≤ v4)) then (q_M_bestSwap_L14 sc h v1 v2 (v3 + (Int32.ofInt 1))) else ((q_M_copies sc h).bind fun h1 => ((q_M_swaps sc h1 v3 v4).bind fun h2 => ((q_M_meanNow sc h2).bind fun r3 => bif (decide (r3.1 < v1)) then (q_M_bestSwap_L32 sc r3.2 r3.1 (((Int32.ofInt 10) * v3) + v4) v3 (v4 + (Int32.ofInt 1))) else (q_M_bestSwap_L32 sc r3.2 v1 v2 v3 (v4 + (Int32.ofInt 1)))))) else none) :=
  (wb_g2_eq (m := 244) (cl := wb_k_M_bestSwap) rfl wb_vi [14, 32] 3000 32 [some (.inr (.inr (21, 0))), some (.inl v1), some (.inl v2), some (.inl v3), some (.inl v4), none] [] h).symm.trans rfl
noncomputable def q_X_meanIfPutRight (sc : wb_X) (h : wb_H) (a1 : Int32) : Option (Int32 × wb_H) := wb_F sc wb_vi 133 [.inr (.inr (20, 0)), .inl a1] h
set_option maxHeartbeats 1000000 in
theorem q_X_meanIfPutRight_eq (sc : wb_X) (h : wb_H) (a1 : Int32) : q_X_meanIfPutRight sc h a1 = (bif (decide (0 < (wb_iu h 20 0 15 (Int32.ofInt 0)).2.2 20 0 2)) then ((q_Evening_arrange sc (wb_iu h 20 0 15 (Int32.ofInt 0)) ((wb_iu h 20 0 15 (Int32.ofInt 0)).2.2 20 0 2 - 1) 0 ((wb_iu h 20 0 15 (Int32.ofInt 0)).1 17 0 2) (Int32.ofInt 0)).bind fun h1 => ((q_Evening_unfold sc h1 a1).bind fun h2 => ((q_Evening_allWrong sc h2).bind fun r3 => some (r3.1, r3.2)))) else none) :=
  (wb_g2_eq (m := 133) (cl := wb_k_X_meanIfPutRight) rfl wb_vi [] 3000 0 _ [] h).symm.trans rfl
noncomputable def q_X_hour (sc : wb_X) (h : wb_H) (a1 : Int32) (a2 : Int32) : Option (Int32 × wb_H) := wb_F sc wb_vi 131 [.inr (.inr (20, 0)), .inl a1, .inl a2] h
set_option maxHeartbeats 1000000 in
theorem q_X_hour_eq (sc : wb_X) (h : wb_H) (a1 : Int32) (a2 : Int32) : q_X_hour sc h a1 a2 = (bif (decide (a1 < (Int32.ofInt 0))) then some ((Int32.ofInt (-1)), h) else bif (decide (0 < h.2.2 20 0 2)) then bif (decide ((h.2.2 20 0 2 - 1) < 2)) then bif (decide (a1 ≤ (h.1 15 (h.2.2 20 0 2 - 1) 0))) then ((q_X_meanIfPutRight sc h a1).bind fun r1 => ((q_X_partOfAll sc r1.2 ((r1.1).toInt64) a2).bind fun r2 => some (r2.1, r2.2))) else some ((Int32.ofInt (-1)), h) else none else none) :=
  (wb_g2_eq (m := 131) (cl := wb_k_X_hour) rfl wb_vi [] 3000 0 _ [] h).symm.trans rfl
noncomputable def q_M_meanFrom (sc : wb_X) (h : wb_H) (a1 : Int32) : Option (Int32 × wb_H) := wb_F sc wb_vi 245 [.inr (.inr (21, 0)), .inl a1] h
set_option maxHeartbeats 1000000 in
theorem q_M_meanFrom_eq (sc : wb_X) (h : wb_H) (a1 : Int32) : q_M_meanFrom sc h a1 = (((q_M_copies sc h).bind fun h1 => ((q_M_meanNow sc (wb_iu h1 21 0 50 a1)).bind fun r2 => some (r2.1, r2.2)))) :=
  (wb_g2_eq (m := 245) (cl := wb_k_M_meanFrom) rfl wb_vi [] 3000 0 _ [] h).symm.trans rfl
noncomputable def q_M_hour (sc : wb_X) (h : wb_H) (a1 : Int32) (a2 : Int32) : Option (Int32 × wb_H) := wb_F sc wb_vi 246 [.inr (.inr (21, 0)), .inl a1, .inl a2] h
set_option maxHeartbeats 1000000 in
theorem q_M_hour_eq (sc : wb_X) (h : wb_H) (a1 : Int32) (a2 : Int32) : q_M_hour sc h a1 a2 = (bif (wb_in (h.1 21 0 18) 2) then ((q_M_in sc h a1 (Int32.ofInt 0) (h.1 73 0 ((h.1 21 0 18)).toNatClampNeg)).bind fun r1 => bif (decide (r1.1 = (Int32.ofInt 0))) then some ((Int32.ofInt (-1)), r1.2) else ((q_M_meanFrom sc r1.2 a1).bind fun r2 => ((q_M_allWeight sc r2.2).bind fun r3 => ((q_M_lineOf sc r3.2 r2.1 r3.1 a2).bind fun r4 => some (r4.1, r4.2))))) else none) :=
  (wb_g2_eq (m := 246) (cl := wb_k_M_hour) rfl wb_vi [] 3000 0 _ [] h).symm.trans rfl
noncomputable def q_X_bestHour (sc : wb_X) (h : wb_H) : Option (Int32 × wb_H) := wb_F sc wb_vi 132 [.inr (.inr (20, 0))] h
noncomputable def q_X_bestHour_L10 (sc : wb_X) (h : wb_H) (v1 : Int32) (v2 : Int32) (v3 : Int32) : Option (Int32 × wb_H) := wb_Q sc wb_vi 132 10 [some (.inr (.inr (20, 0))), some (.inl v1), some (.inl v2), some (.inl v3), none] [] h
set_option maxHeartbeats 1000000 in
theorem q_X_bestHour_eq (sc : wb_X) (h : wb_H) : q_X_bestHour sc h = (((q_X_meanIfPutRight sc h (Int32.ofInt 0)).bind fun r1 => (q_X_bestHour_L10 sc r1.2 (Int32.ofInt 0) r1.1 (Int32.ofInt 1)))) :=
  (wb_g2_eq (m := 132) (cl := wb_k_X_bestHour) rfl wb_vi [10] 3000 0 _ [] h).symm.trans rfl
set_option maxHeartbeats 1000000 in
theorem q_X_bestHour_L10_eq (sc : wb_X) (h : wb_H) (v1 : Int32) (v2 : Int32) (v3 : Int32) : q_X_bestHour_L10 sc h v1 v2 v3 = (bif (decide (0 < h.2.2 20 0 2)) then bif (decide ((h.2.2 20 0 2 - 1) < 2)) then bif (decide ((h.1 15 (h.2.2 20 0 2 - 1) 0) < v3)) then some (v1, h) else ((q_X_meanIfPutRight sc h v3).bind fun r1 => bif (decide (v2 ≤ r1.1)) then (q_X_bestHour_L10 sc r1.2 v1 v2 (v3 + (Int32.ofInt 1))) else (q_X_bestHour_L10 sc r1.2 v3 r1.1 (v3 + (Int32.ofInt 1)))) else none else none) :=
  (wb_g2_eq (m := 132) (cl := wb_k_X_bestHour) rfl wb_vi [10] 3000 10 [some (.inr (.inr (20, 0))), some (.inl v1), some (.inl v2), some (.inl v3), none] [] h).symm.trans rfl
noncomputable def q_M_bestHour (sc : wb_X) (h : wb_H) : Option (Int32 × wb_H) := wb_F sc wb_vi 247 [.inr (.inr (21, 0))] h
noncomputable def q_M_bestHour_L4 (sc : wb_X) (h : wb_H) (v1 : Int32) (v2 : Int32) : Option (Int32 × wb_H) := wb_Q sc wb_vi 247 4 [some (.inr (.inr (21, 0))), some (.inl v1), some (.inl v2)] [] h
set_option maxHeartbeats 1000000 in
theorem q_M_bestHour_eq (sc : wb_X) (h : wb_H) : q_M_bestHour sc h = ((q_M_bestHour_L4 sc h (Int32.ofInt 0) (Int32.ofInt 1))) :=
  (wb_g2_eq (m := 247) (cl := wb_k_M_bestHour) rfl wb_vi [4] 3000 0 _ [] h).symm.trans rfl
set_option maxHeartbeats 1000000 in
theorem q_M_bestHour_L4_eq (sc : wb_X) (h : wb_H) (v1 : Int32) (v2 : Int32) : q_M_bestHour_L4 sc h v1 v2 = (bif (wb_in (h.1 21 0 18) 2) then bif (decide ((h.1 73 0 ((h.1 21 0 18)).toNatClampNeg) < v2)) then some (v1, h) else ((q_M_meanFrom sc h v2).bind fun r1 => ((q_M_meanFrom sc r1.2 v1).bind fun r2 => bif (decide (r2.1 ≤ r1.1)) then (q_M_bestHour_L4 sc r2.2 v1 (v2 + (Int32.ofInt 1))) else (q_M_bestHour_L4 sc r2.2 v2 (v2 + (Int32.ofInt 1))))) else none) :=
  (wb_g2_eq (m := 247) (cl := wb_k_M_bestHour) rfl wb_vi [4] 3000 4 [some (.inr (.inr (21, 0))), some (.inl v1), some (.inl v2)] [] h).symm.trans rfl
noncomputable def q_X_two (sc : wb_X) (h : wb_H) : Option (Int32 × wb_H) := wb_F sc wb_vi 134 [.inr (.inr (20, 0))] h
noncomputable def q_X_two_L9 (sc : wb_X) (h : wb_H) (v2 : Int32) (v3 : Int32) : Option (Int32 × wb_H) := wb_Q sc wb_vi 134 9 [some (.inr (.inr (20, 0))), some (.inr (.inr (11, 0))), some (.inl v2), some (.inl v3)] [] h
set_option maxHeartbeats 1000000 in
theorem q_X_two_eq (sc : wb_X) (h : wb_H) : q_X_two sc h = (((q_X_tonight sc h).bind fun h1 => (q_X_two_L9 sc h1 (Int32.ofInt 0) (Int32.ofInt 0)))) :=
  (wb_g2_eq (m := 134) (cl := wb_k_X_two) rfl wb_vi [9] 3000 0 _ [] h).symm.trans rfl
set_option maxHeartbeats 1000000 in
theorem q_X_two_L9_eq (sc : wb_X) (h : wb_H) (v2 : Int32) (v3 : Int32) : q_X_two_L9 sc h v2 v3 = (bif (decide (0 < h.2.2 20 0 2)) then bif (decide ((h.2.2 20 0 2 - 1) < 2)) then bif (decide ((h.1 15 (h.2.2 20 0 2 - 1) 0) ≤ v3)) then some (v2, h) else bif (wb_in v3 6) then bif (decide (0 < h.2.2 20 0 2)) then bif (decide ((h.2.2 20 0 2 - 1) < 2)) then bif (decide (0 < h.2.2 20 0 2)) then bif (decide ((h.2.2 20 0 2 - 1) < 2)) then ((q_X_allWeight sc h).bind fun r1 => bif (decide ((lg_cmp (((h.1 36 0 (v3).toNatClampNeg)).toInt64 * ((h.1 15 (h.2.2 20 0 2 - 1) 8)).toInt64) (((h.1 15 (h.2.2 20 0 2 - 1) 9)).toInt64 * (r1.1).toInt64)) ≤ (Int32.ofInt 0))) then (q_X_two_L9 sc r1.2 v2 (v3 + (Int32.ofInt 1))) else (q_X_two_L9 sc r1.2 (v2 ||| ((Int32.ofInt 1) <<< (v3 &&& 31))) (v3 + (Int32.ofInt 1)))) else none else none else none else none else none else none else none) :=
  (wb_g2_eq (m := 134) (cl := wb_k_X_two) rfl wb_vi [9] 3000 9 [some (.inr (.inr (20, 0))), some (.inr (.inr (11, 0))), some (.inl v2), some (.inl v3)] [] h).symm.trans rfl
noncomputable def q_M_two (sc : wb_X) (h : wb_H) : Option (Int32 × wb_H) := wb_F sc wb_vi 248 [.inr (.inr (21, 0))] h
noncomputable def q_M_two_L8 (sc : wb_X) (h : wb_H) (v1 : Int32) (v2 : Int32) : Option (Int32 × wb_H) := wb_Q sc wb_vi 248 8 [some (.inr (.inr (21, 0))), some (.inl v1), some (.inl v2)] [] h
set_option maxHeartbeats 1000000 in
theorem q_M_two_eq (sc : wb_X) (h : wb_H) : q_M_two sc h = (((q_M_lays sc h).bind fun h1 => (q_M_two_L8 sc h1 (Int32.ofInt 0) (Int32.ofInt 0)))) :=
  (wb_g2_eq (m := 248) (cl := wb_k_M_two) rfl wb_vi [8] 3000 0 _ [] h).symm.trans rfl
set_option maxHeartbeats 1000000 in
theorem q_M_two_L8_eq (sc : wb_X) (h : wb_H) (v1 : Int32) (v2 : Int32) : q_M_two_L8 sc h v1 v2 = (bif (wb_in (h.1 21 0 18) 2) then bif (decide ((h.1 73 0 ((h.1 21 0 18)).toNatClampNeg) ≤ v2)) then some (v1, h) else ((q_M_chanceOf sc h v2).bind fun r1 => bif (wb_in (r1.2.1 21 0 18) 2) then bif (wb_in (r1.2.1 21 0 18) 2) then ((q_M_allWeight sc r1.2).bind fun r2 => bif (decide ((r1.1 * (r1.2.1 81 0 ((r1.2.1 21 0 18)).toNatClampNeg)) ≤ ((r1.2.1 82 0 ((r1.2.1 21 0 18)).toNatClampNeg) * r2.1))) then (q_M_two_L8 sc r2.2 v1 (v2 + (Int32.ofInt 1))) else (q_M_two_L8 sc r2.2 (v1 ||| ((Int32.ofInt 1) <<< (v2 &&& 31))) (v2 + (Int32.ofInt 1)))) else none else none) else none) :=
  (wb_g2_eq (m := 248) (cl := wb_k_M_two) rfl wb_vi [8] 3000 8 [some (.inr (.inr (21, 0))), some (.inl v1), some (.inl v2)] [] h).symm.trans rfl
noncomputable def q_X_better (sc : wb_X) (h : wb_H) : Option (Int32 × wb_H) := wb_F sc wb_vi 135 [.inr (.inr (20, 0))] h
noncomputable def q_X_better_L9 (sc : wb_X) (h : wb_H) (v2 : Int32) (v3 : Int32) : Option (Int32 × wb_H) := wb_Q sc wb_vi 135 9 [some (.inr (.inr (20, 0))), some (.inr (.inr (11, 0))), some (.inl v2), some (.inl v3), none] [] h
set_option maxHeartbeats 1000000 in
theorem q_X_better_eq (sc : wb_X) (h : wb_H) : q_X_better sc h = (((q_X_tonight sc h).bind fun h1 => (q_X_better_L9 sc h1 (Int32.ofInt 0) (Int32.ofInt 0)))) :=
  (wb_g2_eq (m := 135) (cl := wb_k_X_better) rfl wb_vi [9] 3000 0 _ [] h).symm.trans rfl
set_option maxHeartbeats 1000000 in
theorem q_X_better_L9_eq (sc : wb_X) (h : wb_H) (v2 : Int32) (v3 : Int32) : q_X_better_L9 sc h v2 v3 = (bif (decide (0 < h.2.2 20 0 2)) then bif (decide ((h.2.2 20 0 2 - 1) < 2)) then bif (decide ((h.1 15 (h.2.2 20 0 2 - 1) 0) ≤ v3)) then some (v2, h) else bif (wb_in v3 6) then bif (decide (0 < h.2.2 20 0 2)) then bif (decide ((h.2.2 20 0 2 - 1) < 2)) then bif (wb_in (h.1 15 (h.2.2 20 0 2 - 1) 0) (wb_tab [1, 10, 100, 1000, 10000, 100000, 1000000, 10000000]).1) then bif (wb_in v3 6) then bif (decide ((h.1 36 0 (v3).toNatClampNeg) ≤ (((Int32.ofInt 10) - (h.1 29 0 (v3).toNatClampNeg)) * ((wb_tab [1, 10, 100, 1000, 10000, 100000, 1000000, 10000000]).2 ((h.1 15 (h.2.2 20 0 2 - 1) 0)).toNatClampNeg)))) then (q_X_better_L9 sc h v2 (v3 + (Int32.ofInt 1))) else (q_X_better_L9 sc h (v2 ||| ((Int32.ofInt 1) <<< (v3 &&& 31))) (v3 + (Int32.ofInt 1))) else none else none else none else none else none else none else none) :=
  (wb_g2_eq (m := 135) (cl := wb_k_X_better) rfl wb_vi [9] 3000 9 [some (.inr (.inr (20, 0))), some (.inr (.inr (11, 0))), some (.inl v2), some (.inl v3), none] [] h).symm.trans rfl
noncomputable def q_M_chanceNow (sc : wb_X) (h : wb_H) (a1 : Int32) : Option (Int32 × wb_H) := wb_F sc wb_vi 249 [.inr (.inr (21, 0)), .inl a1] h
set_option maxHeartbeats 1000000 in
theorem q_M_chanceNow_eq (sc : wb_X) (h : wb_H) (a1 : Int32) : q_M_chanceNow sc h a1 = (((q_M_fillsOut sc h).bind fun h1 => ((q_M_chanceOf sc h1 a1).bind fun r2 => some (r2.1, r2.2)))) :=
  (wb_g2_eq (m := 249) (cl := wb_k_M_chanceNow) rfl wb_vi [] 3000 0 _ [] h).symm.trans rfl
noncomputable def q_M_better (sc : wb_X) (h : wb_H) : Option (Int32 × wb_H) := wb_F sc wb_vi 250 [.inr (.inr (21, 0))] h
noncomputable def q_M_better_L4 (sc : wb_X) (h : wb_H) (v1 : Int32) (v2 : Int32) : Option (Int32 × wb_H) := wb_Q sc wb_vi 250 4 [some (.inr (.inr (21, 0))), some (.inl v1), some (.inl v2), none] [] h
set_option maxHeartbeats 1000000 in
theorem q_M_better_eq (sc : wb_X) (h : wb_H) : q_M_better sc h = ((q_M_better_L4 sc h (Int32.ofInt 0) (Int32.ofInt 0))) :=
  (wb_g2_eq (m := 250) (cl := wb_k_M_better) rfl wb_vi [4] 3000 0 _ [] h).symm.trans rfl
set_option maxHeartbeats 1000000 in
theorem q_M_better_L4_eq (sc : wb_X) (h : wb_H) (v1 : Int32) (v2 : Int32) : q_M_better_L4 sc h v1 v2 = (bif (wb_in (h.1 21 0 18) 2) then bif (decide ((h.1 73 0 ((h.1 21 0 18)).toNatClampNeg) ≤ v2)) then some (v1, h) else ((q_M_copies sc h).bind fun h1 => ((q_M_chanceNow sc h1 v2).bind fun r2 => bif (wb_in ((Int32.ofInt 6) + v2) 48) then ((q_M_chanceNow sc (wb_iu r2.2 96 0 (((Int32.ofInt 6) + v2)).toNatClampNeg (Int32.ofInt 0)) v2).bind fun r3 => bif (decide (r2.1 ≤ r3.1)) then (q_M_better_L4 sc r3.2 v1 (v2 + (Int32.ofInt 1))) else (q_M_better_L4 sc r3.2 (v1 ||| ((Int32.ofInt 1) <<< (v2 &&& 31))) (v2 + (Int32.ofInt 1)))) else none)) else none) :=
  (wb_g2_eq (m := 250) (cl := wb_k_M_better) rfl wb_vi [4] 3000 4 [some (.inr (.inr (21, 0))), some (.inl v1), some (.inl v2), none] [] h).symm.trans rfl
