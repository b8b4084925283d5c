/-! A plain machine over the code lists: values, objects by tag and instance, one step, runs. -/
abbrev wb_V : Type := Int32 ⊕ (Int64 ⊕ (Nat × Nat))
abbrev wb_L : Type := List (Option wb_V)
abbrev wb_H : Type := (Nat → Nat → Nat → Int32) × ((Nat → Nat → Nat → Int64) × (Nat → Nat → Nat → Nat))
abbrev wb_N : Type := (Nat → Nat) × (Nat × Nat)
abbrev wb_C : Type := Nat × (wb_L × (List wb_V × (wb_H × wb_N)))
abbrev wb_B : Type := List (Bool × Option wb_C) × Option wb_C
abbrev wb_K : Type := (Nat × (List wb_V × (wb_H × wb_N))) × (Bool × (Nat × (Nat × (wb_L × List wb_V))))
abbrev wb_R : Type := Option wb_V × (wb_H × wb_N)
abbrev wb_A : Type := wb_B ⊕ (wb_K ⊕ (Bool × wb_R))
abbrev wb_X : Type := Nat × (Nat → Int32)
def wb_g : wb_L → Nat → Option wb_V
  | [], _ => none
  | a :: _, 0 => a
  | _ :: l, k + 1 => wb_g l k
def wb_s : wb_L → Nat → Option wb_V → wb_L
  | [], _, _ => []
  | _ :: l, 0, v => v :: l
  | a :: l, k + 1, v => a :: wb_s l k v
def wb_kl (ls : wb_L) : Nat → wb_L
  | 0 => ls
  | j + 1 => match wb_g ls j with
    | some (.inr (.inl _)) => wb_s ls j none
    | _ => ls
def wb_s1 (ls : wb_L) (k : Nat) (v : wb_V) : wb_L := wb_s (wb_kl ls k) k (some v)
def wb_s2 (ls : wb_L) (k : Nat) (v : wb_V) : wb_L := wb_s (wb_s (wb_kl ls k) k (some v)) (k + 1) none
def wb_u {α : Type} (f : Nat → Nat → Nat → α) (t o k : Nat) (v : α) : Nat → Nat → Nat → α := fun t' o' k' => if t' = t ∧ o' = o ∧ k' = k then v else f t' o' k'
def wb_z {α : Type} (f : Nat → Nat → Nat → α) (t o : Nat) (v : α) : Nat → Nat → Nat → α := fun t' o' k' => if t' = t ∧ o' = o then v else f t' o' k'
def wb_cp {α : Type} (f : Nat → Nat → Nat → α) (t o sp t2 o2 dp n : Nat) : Nat → Nat → Nat → α := fun t' o' k' => if (t' = t2 ∧ o' = o2) ∧ dp ≤ k' ∧ k' < dp + n then f t o (sp + (k' - dp)) else f t' o' k'
def wb_nth {α : Type} (d : α) : List α → Nat → α
  | [], _ => d
  | a :: _, 0 => a
  | _ :: l, k + 1 => wb_nth d l k
def wb_shp (t : Nat) : Nat × Nat := wb_nth (9, 0) wb_shl t
def wb_cnt (t : Nat) : Nat := wb_nth 0 wb_cnl t
def wb_rf (t k : Nat) : Nat × (Nat × Nat) := wb_nth (0, 9, 0) (wb_nth [] wb_rfl t) k
def wb_fk (ci k : Nat) : Nat := wb_nth 9 (wb_nth [] wb_fkl ci) k
def wb_tab (l : List Int32) : wb_X := (l.length, fun j => wb_nth 0 l j)
/-- the tables that nobody writes, of ints: the script, THREES, TENS, ROWS_FROM -/
def wb_roi (sc : wb_X) : Nat → Option wb_X
  | 1 => some sc
  | 2 => some (wb_tab [1, 3, 9, 27, 81, 243, 729])
  | 3 => some (wb_tab [1, 10, 100, 1000, 10000, 100000, 1000000, 10000000])
  | 4 => some (wb_tab [0, 1, 4, 13, 40, 121, 364, 1093])
  | _ => none
/-- of bytes: the two texts -/
def wb_rob : Nat → Option wb_X
  | 7 => some (wb_tab wb_WB)
  | 8 => some (wb_tab wb_SB)
  | _ => none
def wb_in (i : Int32) (n : Nat) : Bool := !decide (i < 0) && decide (i.toNatClampNeg < n)
def wb_cm (c : ClassFile.Cond) (a b : Int32) : Bool := match c with
  | .eq => decide (a = b)
  | .ne => !decide (a = b)
  | .lt => decide (a < b)
  | .ge => decide (b ≤ a)
  | .gt => decide (b < a)
  | .le => decide (a ≤ b)
def wb_rem (a b : Int32) : Int32 := a - a / b * b
def wb_reml (a b : Int64) : Int64 := a - a / b * b
def wb_wr : wb_A := .inl ([], none)
def wb_nx (p : Nat) (ls : wb_L) (st : List wb_V) (h : wb_H) (n : wb_N) : wb_A := .inl ([], some (p, ls, st, h, n))
def wb_if (b : Bool) (p : Nat) (ls : wb_L) (st : List wb_V) (h : wb_H) (n : wb_N) : wb_A := .inl ([(b, some (p, ls, st, h, n))], none)
def wb_br (b : Bool) (p q : Nat) (ls : wb_L) (st : List wb_V) (h : wb_H) (n : wb_N) : wb_A := .inl ([(b, some (p, ls, st, h, n))], some (q, ls, st, h, n))
def wb_sw (v : Int32) (ls : wb_L) (st : List wb_V) (h : wb_H) (n : wb_N) : Int → List Nat → List (Bool × Option wb_C)
  | _, [] => []
  | z, t :: ts => (decide (v = Int32.ofInt z), some (t, ls, st, h, n)) :: wb_sw v ls st h n (z + 1) ts
def wb_lw (v : Int32) (ls : wb_L) (st : List wb_V) (h : wb_H) (n : wb_N) : List (Int × Int) → List Nat → List (Bool × Option wb_C)
  | z :: zs, t :: ts => (decide (v = Int32.ofInt z.1), some (t, ls, st, h, n)) :: wb_lw v ls st h n zs ts
  | _, _ => []
/-- a reference's static instance, once all is made -/
def wb_si (fz : Bool) (t o k : Nat) : Option Nat := match fz with
  | false => none
  | true => match (wb_rf t k).2 with
    | (0, _) => some o
    | (1, c) => some c
    | _ => none
def wb_sa (fz : Bool) (t k : Nat) : Option Nat := match fz with
  | false => none
  | true => some ((wb_rf t 0).2.2 + k)
def wb_nb (v : Int32) : Bool := decide (v = Int32.ofInt 0) || decide (v = Int32.ofInt 1)
def wb_vok (c : Nat → Nat) : wb_V → Bool
  | .inr (.inr (t, o)) => decide (t < 10) || decide (o < c t)
  | _ => true
def wb_lok (c : Nat → Nat) : wb_L → Bool
  | [] => true
  | none :: l => wb_lok c l
  | some v :: l => wb_vok c v && wb_lok c l
def wb_aok (c : Nat → Nat) : List wb_V → Bool
  | [] => true
  | v :: l => wb_vok c v && wb_aok c l
def wb_fok (fz : Bool) (c : Nat → Nat) (ls : wb_L) (st : List wb_V) : Bool := match fz with
  | true => true
  | false => wb_lok c ls && wb_aok c st
/-- the last arguments of a stack, first argument first, and the rest -/
def wb_pop : Nat → List wb_V → List wb_V → Option (List wb_V × List wb_V)
  | 0, acc, st => some (acc, st)
  | k + 1, acc, v :: st => wb_pop k (v :: acc) st
  | _ + 1, _, [] => none
/-- locals at a method's entry -/
def wb_el : List wb_V → Nat → wb_L
  | _, 0 => []
  | [], n + 1 => none :: wb_el [] n
  | .inl x :: as, n + 1 => some (.inl x) :: wb_el as n
  | .inr (.inr r) :: as, n + 1 => some (.inr (.inr r)) :: wb_el as n
  | .inr (.inl x) :: _, 1 => [some (.inr (.inl x))]
  | .inr (.inl x) :: as, n + 2 => some (.inr (.inl x)) :: none :: wb_el as n
def wb_rw (st : List wb_V) : Nat := (st.map fun v => match v with | .inr (.inl _) => 2 | _ => 1).sum
def wb_iu (h : wb_H) (t o k : Nat) (v : Int32) : wb_H := (wb_u h.1 t o k v, h.2)
def wb_lu (h : wb_H) (t o k : Nat) (v : Int64) : wb_H := (h.1, wb_u h.2.1 t o k v, h.2.2)
def wb_mu (h : wb_H) (t o k : Nat) (v : Nat) : wb_H := (h.1, h.2.1, wb_u h.2.2 t o k v)
def wb_nw (h : wb_H) (t o : Nat) : wb_H := (wb_z h.1 t o 0, wb_z h.2.1 t o 0, wb_z h.2.2 t o 0)
def wb_cu (c : Nat → Nat) (t : Nat) : Nat → Nat := fun t' => if t' = t then c t + 1 else c t'
def wb_str (k : Nat) (t : Nat) : Option wb_V := match k, t with
  | 0, 5 => some (.inr (.inr (7, 0)))
  | 0, 6 => some (.inr (.inr (8, 0)))
  | 1, 5 => some (.inl 0)
  | 1, 6 => some (.inl 0)
  | _, _ => none
def wb_pn (m : Nat) : Nat := (wb_mi m).2.2.1
def wb_mc (m : Nat) : Nat := (wb_mi m).2.2.2.2.2.2.1
def wb_ms (m : Nat) : Nat := (wb_mi m).2.2.2.2.2.2.2
def wb_gf (fz : Bool) (p : Nat) (x : List Nat) (ls : wb_L) (st : List wb_V) (h : wb_H) (n : wb_N) : wb_A := match x, st with
  | 100 :: k :: _, .inr (.inr (t, _)) :: st' => (match wb_str k t with
    | some v => wb_nx (p + 3) ls (v :: st') h n
    | none => wb_wr)
  | ci :: k :: ty :: _, .inr (.inr (t, o)) :: st' => (match Nat.beq (wb_shp t).1 0 && Nat.beq (wb_shp t).2 ci with
    | true => (match ty with
      | 0 => wb_if (decide (o < n.1 t)) (p + 3) ls (.inl (h.1 t o k) :: st') h n
      | 1 => wb_if (decide (o < n.1 t)) (p + 3) ls (.inr (.inl (h.2.1 t o k)) :: st') h n
      | 2 => (match wb_si fz t o k with
        | some j => wb_if (decide (o < n.1 t)) (p + 3) ls (.inr (.inr ((wb_rf t k).1, j)) :: st') h n
        | none => wb_if (decide (o < n.1 t) && decide (0 < h.2.2 t o k)) (p + 3) ls (.inr (.inr ((wb_rf t k).1, h.2.2 t o k - 1)) :: st') h n)
      | _ => wb_wr)
    | false => wb_wr)
  | _, _ => wb_wr
def wb_pf (fz : Bool) (p : Nat) (x : List Nat) (ls : wb_L) (st : List wb_V) (h : wb_H) (n : wb_N) : wb_A := match x, st with
  | ci :: k :: ty :: _, v :: .inr (.inr (t, o)) :: st' => (match Nat.beq (wb_shp t).1 0 && Nat.beq (wb_shp t).2 ci with
    | true => (match ty, v with
      | 0, .inl y => wb_if (decide (o < n.1 t)) (p + 3) ls st' (wb_iu h t o k y) n
      | 3, .inl y => wb_if (decide (o < n.1 t) && wb_nb y) (p + 3) ls st' (wb_iu h t o k y) n
      | 1, .inr (.inl y) => wb_if (decide (o < n.1 t)) (p + 3) ls st' (wb_lu h t o k y) n
      | 2, .inr (.inr (t', o')) => (match Nat.beq (wb_rf t k).1 t', wb_si fz t o k with
        | true, none => wb_if (decide (o < n.1 t) && decide (o' < n.1 t')) (p + 3) ls st' (wb_mu h t o k (o' + 1)) n
        | _, _ => wb_wr)
      | _, _ => wb_wr)
    | false => wb_wr)
  | _, _ => wb_wr
def wb_il (sc : wb_X) (p : Nat) (ls : wb_L) (st : List wb_V) (h : wb_H) (n : wb_N) : wb_A := match st with
  | .inl i :: .inr (.inr (t, o)) :: st' => (match wb_roi sc t with
    | some q => wb_if (wb_in i q.1) (p + 1) ls (.inl (q.2 i.toNatClampNeg) :: st') h n
    | none => (match wb_shp t with
      | (1, len) => wb_if (decide (o < n.1 t) && wb_in i len) (p + 1) ls (.inl (h.1 t o i.toNatClampNeg) :: st') h n
      | _ => wb_wr))
  | _ => wb_wr
def wb_bl (p : Nat) (ls : wb_L) (st : List wb_V) (h : wb_H) (n : wb_N) : wb_A := match st with
  | .inl i :: .inr (.inr (t, o)) :: st' => (match wb_rob t with
    | some q => wb_if (wb_in i q.1) (p + 1) ls (.inl (q.2 i.toNatClampNeg) :: st') h n
    | none => (match wb_shp t with
      | (2, len) => wb_if (decide (o < n.1 t) && wb_in i len) (p + 1) ls (.inl (h.1 t o i.toNatClampNeg) :: st') h n
      | (3, len) => wb_if (decide (o < n.1 t) && wb_in i len) (p + 1) ls (.inl (h.1 t o i.toNatClampNeg) :: st') h n
      | _ => wb_wr))
  | _ => wb_wr
def wb_al (sc : wb_X) (p : Nat) (ls : wb_L) (st : List wb_V) (h : wb_H) (n : wb_N) : wb_A := match st with
  | .inr (.inr (t, o)) :: st' => (match wb_roi sc t with
    | some q => wb_nx (p + 1) ls (.inl (Int32.ofInt (q.1 : Int)) :: st') h n
    | none => (match wb_rob t with
      | some q => wb_nx (p + 1) ls (.inl (Int32.ofInt (q.1 : Int)) :: st') h n
      | none => (match wb_shp t with
        | (k + 1, len) => (match Nat.ble k 4 with
          | true => wb_if (decide (o < n.1 t)) (p + 1) ls (.inl (Int32.ofInt (len : Int)) :: st') h n
          | false => wb_wr)
        | _ => wb_wr)))
  | _ => wb_wr
def wb_is (p : Nat) (ls : wb_L) (st : List wb_V) (h : wb_H) (n : wb_N) : wb_A := match st with
  | .inl y :: .inl i :: .inr (.inr (t, o)) :: st' => (match wb_shp t with
    | (1, len) => wb_if (decide (o < n.1 t) && wb_in i len) (p + 1) ls st' (wb_iu h t o i.toNatClampNeg y) n
    | _ => wb_wr)
  | _ => wb_wr
def wb_bs (p : Nat) (ls : wb_L) (st : List wb_V) (h : wb_H) (n : wb_N) : wb_A := match st with
  | .inl y :: .inl i :: .inr (.inr (t, o)) :: st' => (match wb_shp t with
    | (2, len) => wb_if (decide (o < n.1 t) && wb_in i len) (p + 1) ls st' (wb_iu h t o i.toNatClampNeg (vp_nar .byte y)) n
    | (3, len) => wb_if (decide (o < n.1 t) && wb_nb y && wb_in i len) (p + 1) ls st' (wb_iu h t o i.toNatClampNeg y) n
    | _ => wb_wr)
  | _ => wb_wr
def wb_ll (p : Nat) (ls : wb_L) (st : List wb_V) (h : wb_H) (n : wb_N) : wb_A := match st with
  | .inl i :: .inr (.inr (t, o)) :: st' => (match wb_shp t with
    | (4, len) => wb_if (decide (o < n.1 t) && wb_in i len) (p + 1) ls (.inr (.inl (h.2.1 t o i.toNatClampNeg)) :: st') h n
    | _ => wb_wr)
  | _ => wb_wr
def wb_ls (p : Nat) (ls : wb_L) (st : List wb_V) (h : wb_H) (n : wb_N) : wb_A := match st with
  | .inr (.inl y) :: .inl i :: .inr (.inr (t, o)) :: st' => (match wb_shp t with
    | (4, len) => wb_if (decide (o < n.1 t) && wb_in i len) (p + 1) ls st' (wb_lu h t o i.toNatClampNeg y) n
    | _ => wb_wr)
  | _ => wb_wr
def wb_ql (fz : Bool) (p : Nat) (ls : wb_L) (st : List wb_V) (h : wb_H) (n : wb_N) : wb_A := match st with
  | .inl i :: .inr (.inr (t, o)) :: st' => (match wb_shp t with
    | (5, len) => (match wb_sa fz t i.toNatClampNeg with
      | some j => wb_if (decide (o < n.1 t) && wb_in i len) (p + 1) ls (.inr (.inr ((wb_rf t 0).1, j)) :: st') h n
      | none => wb_if (decide (o < n.1 t) && wb_in i len && decide (0 < h.2.2 t o i.toNatClampNeg)) (p + 1) ls (.inr (.inr ((wb_rf t 0).1, h.2.2 t o i.toNatClampNeg - 1)) :: st') h n)
    | _ => wb_wr)
  | _ => wb_wr
def wb_qs (fz : Bool) (p : Nat) (ls : wb_L) (st : List wb_V) (h : wb_H) (n : wb_N) : wb_A := match fz, st with
  | false, .inr (.inr (t', o')) :: .inl i :: .inr (.inr (t, o)) :: st' => (match wb_shp t with
    | (5, len) => (match Nat.beq (wb_rf t 0).1 t' with
      | true => wb_if (decide (o < n.1 t) && wb_in i len && decide (o' < n.1 t')) (p + 1) ls st' (wb_mu h t o i.toNatClampNeg (o' + 1)) n
      | false => wb_wr)
    | _ => wb_wr)
  | _, _ => wb_wr
/-- a new object or array of a tag that takes k slots -/
def wb_mk (m t k q : Nat) (ls : wb_L) (st : List wb_V) (h : wb_H) (n : wb_N) : wb_A :=
  wb_if (wb_fok false n.1 ls st && decide (n.2.1 + 1 ≤ wb_mc m) && decide (n.2.2 + k ≤ wb_ms m)) q ls (.inr (.inr (t, n.1 t)) :: st) (wb_nw h t (n.1 t)) (wb_cu n.1 t, n.2.1 + 1, n.2.2 + k)
def wb_ne (fz : Bool) (m p : Nat) (x : List Nat) (ls : wb_L) (st : List wb_V) (h : wb_H) (n : wb_N) : wb_A := match fz, x with
  | false, t :: _ => (match wb_shp t with
    | (0, ci) => wb_mk m t (wb_nth [] wb_fkl ci).length (p + 3) ls st h n
    | _ => wb_wr)
  | _, _ => wb_wr
def wb_na (fz : Bool) (m p : Nat) (a : ArrayType) (x : List Nat) (ls : wb_L) (st : List wb_V) (h : wb_H) (n : wb_N) : wb_A := match fz, x, st with
  | false, t :: _, .inl y :: st' => (match decide (y = Int32.ofInt ((wb_shp t).2 : Int)), wb_shp t, a with
    | true, (1, k), .int => wb_mk m t k (p + 2) ls st' h n
    | true, (2, k), .byte => wb_mk m t k (p + 2) ls st' h n
    | true, (3, k), .boolean => wb_mk m t k (p + 2) ls st' h n
    | true, (4, k), .long => wb_mk m t k (p + 2) ls st' h n
    | _, _, _ => wb_wr)
  | _, _, _ => wb_wr
def wb_an (fz : Bool) (m p : Nat) (x : List Nat) (ls : wb_L) (st : List wb_V) (h : wb_H) (n : wb_N) : wb_A := match fz, x, st with
  | false, t :: _, .inl y :: st' => (match decide (y = Int32.ofInt ((wb_shp t).2 : Int)), wb_shp t with
    | true, (5, k) => wb_mk m t k (p + 3) ls st' h n
    | _, _ => wb_wr)
  | _, _, _ => wb_wr
def wb_gs (p : Nat) (x : List Nat) (ls : wb_L) (st : List wb_V) (h : wb_H) (n : wb_N) : wb_A := match x with
  | 0 :: t :: _ => wb_nx (p + 3) ls (.inr (.inr (t, 0)) :: st) h n
  | 1 :: v :: _ => wb_nx (p + 3) ls (.inl (Int32.ofInt (v : Int)) :: st) h n
  | _ => wb_wr
def wb_fo2 (fz : Bool) (c : Nat → Nat) (as : List wb_V) (y : Nat) : Bool := match fz with
  | true => Nat.beq (wb_mc y) 0 && Nat.beq (wb_ms y) 0
  | false => wb_aok c as
/-- the receiver: of a class (12 of them), a text (100), any object (201), none (200) -/
def wb_rc (c : Nat → Nat) (ci : Nat) (as : List wb_V) : Bool := match ci, as with
  | 200, _ => true
  | 100, .inr (.inr (t, _)) :: _ => Nat.beq t 5 || Nat.beq t 6
  | 201, .inr (.inr (t, _)) :: _ => Nat.ble 10 t
  | k, .inr (.inr (t, o)) :: _ => Nat.beq (wb_shp t).1 0 && (Nat.beq (wb_shp t).2 k && decide (o < c t))
  | _, _ => false
/-- calls: 0 is Object's constructor, 1 System.arraycopy over int arrays -/
def wb_ca (fz : Bool) (m p : Nat) (x : List Nat) (ls : wb_L) (st : List wb_V) (h : wb_H) (n : wb_N) : wb_A := match x with
  | 0 :: _ => (match st with
    | .inr (.inr (t, _)) :: st' => (match decide (10 ≤ t) && decide (wb_rw st' ≤ 8) with
      | true => wb_nx (p + 3) ls st' h n
      | false => wb_wr)
    | _ => wb_wr)
  | 1 :: _ => (match st with
    | .inl c :: .inl d :: .inr (.inr (t2, o2)) :: .inl s :: .inr (.inr (t, o)) :: st' => (match wb_shp t, wb_shp t2, decide (wb_rw st' ≤ 8) with
      | (1, l), (1, l2), true => wb_if (decide (o < n.1 t) && decide (o2 < n.1 t2) && (!decide (s < 0) && !decide (d < 0) && !decide (c < 0) && decide (s.toNatClampNeg + c.toNatClampNeg ≤ l) && decide (d.toNatClampNeg + c.toNatClampNeg ≤ l2))) (p + 3) ls st' (wb_cp h.1 t o s.toNatClampNeg t2 o2 d.toNatClampNeg c.toNatClampNeg, h.2) n
      | _, _, _ => wb_wr)
    | _ => wb_wr)
  | y :: k :: kd :: ci :: _ => (match wb_pop k [] st with
    | some (as, st') => (match decide (wb_rw st' ≤ 8) && decide (wb_rw as ≤ wb_pn y) with
      | true => .inr (.inl ((y, as, h, n), (wb_fok fz n.1 ls st' && wb_fo2 fz n.1 as y && decide (n.2.1 + wb_mc y ≤ wb_mc m) && decide (n.2.2 + wb_ms y ≤ wb_ms m)) && wb_rc n.1 ci as, kd, p + 3, ls, st'))
      | false => wb_wr)
    | none => wb_wr)
  | _ => wb_wr
def wb_rok (m : Nat) (n : wb_N) : Bool := decide (n.2.1 ≤ wb_mc m) && decide (n.2.2 ≤ wb_ms m)
def wb_re (b : Bool) (m : Nat) (v : Option wb_V) (h : wb_H) (n : wb_N) : wb_A := .inr (.inr (wb_rok m n && b, v, h, n))
def wb_rt (m : Nat) (x : List Nat) (st : List wb_V) (h : wb_H) (n : wb_N) : wb_A := match x, st with
  | [0], [.inl v] => wb_re true m (some (.inl v)) h n
  | [1], [.inl v] => wb_re (wb_nb v) m (some (.inl v)) h n
  | [2], [.inl v] => wb_re (decide (vp_nar .char v = v)) m (some (.inl v)) h n
  | [3], [.inl v] => wb_re (decide (vp_nar .byte v = v)) m (some (.inl v)) h n
  | _, _ => wb_wr
set_option maxHeartbeats 4000000 in
/-- one instruction -/
def wb_st (fz : Bool) (sc : wb_X) (m p : Nat) (i : Instr) (x : List Nat) (ls : wb_L) (st : List wb_V) (h : wb_H) (n : wb_N) : wb_A := match i with
  | .aload_n k => (match wb_g ls k.val with | some (.inr (.inr r)) => (match Nat.blt 0 r.1 && !Nat.beq r.1 9 with | true => wb_nx (p + 1) ls (.inr (.inr r) :: st) h n | false => wb_wr) | _ => wb_wr)
  | .aload k => (match wb_g ls k with | some (.inr (.inr r)) => (match Nat.blt 0 r.1 && !Nat.beq r.1 9 with | true => wb_nx (p + 2) ls (.inr (.inr r) :: st) h n | false => wb_wr) | _ => wb_wr)
  | .iload_n k => (match wb_g ls k.val with | some (.inl v) => wb_nx (p + 1) ls (.inl v :: st) h n | _ => wb_wr)
  | .iload k => (match wb_g ls k with | some (.inl v) => wb_nx (p + 2) ls (.inl v :: st) h n | _ => wb_wr)
  | .lload_n k => (match wb_g ls k.val with | some (.inr (.inl v)) => wb_nx (p + 1) ls (.inr (.inl v) :: st) h n | _ => wb_wr)
  | .lload k => (match wb_g ls k with | some (.inr (.inl v)) => wb_nx (p + 2) ls (.inr (.inl v) :: st) h n | _ => wb_wr)
  | .astore_n k => (match st with | .inr (.inr r) :: st' => (match Nat.blt 0 r.1 && !Nat.beq r.1 9 with | true => wb_nx (p + 1) (wb_s1 ls k.val (.inr (.inr r))) st' h n | false => wb_wr) | _ => wb_wr)
  | .astore k => (match st with | .inr (.inr r) :: st' => (match Nat.blt 0 r.1 && !Nat.beq r.1 9 with | true => wb_nx (p + 2) (wb_s1 ls k (.inr (.inr r))) st' h n | false => wb_wr) | _ => wb_wr)
  | .istore_n k => (match st with | .inl v :: st' => wb_nx (p + 1) (wb_s1 ls k.val (.inl v)) st' h n | _ => wb_wr)
  | .istore k => (match st with | .inl v :: st' => wb_nx (p + 2) (wb_s1 ls k (.inl v)) st' h n | _ => wb_wr)
  | .lstore_n k => (match st with | .inr (.inl v) :: st' => wb_nx (p + 1) (wb_s2 ls k.val (.inr (.inl v))) st' h n | _ => wb_wr)
  | .lstore k => (match st with | .inr (.inl v) :: st' => wb_nx (p + 2) (wb_s2 ls k (.inr (.inl v))) st' h n | _ => wb_wr)
  | .iconst c => wb_nx (p + 1) ls (.inl (Int32.ofInt c) :: st) h n
  | .bipush c => wb_nx (p + 2) ls (.inl (Int32.ofInt c) :: st) h n
  | .sipush c => wb_nx (p + 3) ls (.inl (Int32.ofInt c) :: st) h n
  | .lconst c => wb_nx (p + 1) ls (.inr (.inl (Int64.ofNat c.val)) :: st) h n
  | .ldc _ => (match x with
    | [0, v, _] => wb_nx (p + 2) ls (.inl (Int32.ofInt (v : Int)) :: st) h n
    | [1, t, _] => wb_nx (p + 2) ls (.inr (.inr (t, 0)) :: st) h n
    | _ => wb_wr)
  | .ldc_w _ => (match x with | [0, v, _] => wb_nx (p + 3) ls (.inl (Int32.ofInt (v : Int)) :: st) h n | _ => wb_wr)
  | .ldc2_w _ => (match x with | [v, _] => wb_nx (p + 3) ls (.inr (.inl (Int64.ofNat v)) :: st) h n | _ => wb_wr)
  | .iinc k c => (match wb_g ls k with | some (.inl v) => wb_nx (p + 3) (wb_s1 ls k (.inl (v + Int32.ofInt c))) st h n | _ => wb_wr)
  | .iadd => (match st with | .inl b :: .inl a :: st' => wb_nx (p + 1) ls (.inl (a + b) :: st') h n | _ => wb_wr)
  | .isub => (match st with | .inl b :: .inl a :: st' => wb_nx (p + 1) ls (.inl (a - b) :: st') h n | _ => wb_wr)
  | .imul => (match st with | .inl b :: .inl a :: st' => wb_nx (p + 1) ls (.inl (a * b) :: st') h n | _ => wb_wr)
  | .iand => (match st with | .inl b :: .inl a :: st' => wb_nx (p + 1) ls (.inl (a &&& b) :: st') h n | _ => wb_wr)
  | .ior => (match st with | .inl b :: .inl a :: st' => wb_nx (p + 1) ls (.inl (a ||| b) :: st') h n | _ => wb_wr)
  | .ixor => (match st with | .inl b :: .inl a :: st' => wb_nx (p + 1) ls (.inl (a ^^^ b) :: st') h n | _ => wb_wr)
  | .ishl => (match st with | .inl b :: .inl a :: st' => wb_nx (p + 1) ls (.inl (a <<< (b &&& 31)) :: st') h n | _ => wb_wr)
  | .ishr => (match st with | .inl b :: .inl a :: st' => wb_nx (p + 1) ls (.inl (a >>> (b &&& 31)) :: st') h n | _ => wb_wr)
  | .iushr => (match st with | .inl b :: .inl a :: st' => wb_nx (p + 1) ls (.inl (a.toUInt32 >>> (b.toUInt32 &&& Int32.toUInt32 31)).toInt32 :: st') h n | _ => wb_wr)
  | .idiv => (match st with | .inl b :: .inl a :: st' => wb_if (!decide (b = 0)) (p + 1) ls (.inl (a / b) :: st') h n | _ => wb_wr)
  | .irem => (match st with | .inl b :: .inl a :: st' => wb_if (!decide (b = 0)) (p + 1) ls (.inl (wb_rem a b) :: st') h n | _ => wb_wr)
  | .ineg => (match st with | .inl a :: st' => wb_nx (p + 1) ls (.inl (-a) :: st') h n | _ => wb_wr)
  | .ladd => (match st with | .inr (.inl b) :: .inr (.inl a) :: st' => wb_nx (p + 1) ls (.inr (.inl (a + b)) :: st') h n | _ => wb_wr)
  | .lsub => (match st with | .inr (.inl b) :: .inr (.inl a) :: st' => wb_nx (p + 1) ls (.inr (.inl (a - b)) :: st') h n | _ => wb_wr)
  | .lmul => (match st with | .inr (.inl b) :: .inr (.inl a) :: st' => wb_nx (p + 1) ls (.inr (.inl (a * b)) :: st') h n | _ => wb_wr)
  | .ldiv => (match st with | .inr (.inl b) :: .inr (.inl a) :: st' => wb_if (!decide (b = 0)) (p + 1) ls (.inr (.inl (a / b)) :: st') h n | _ => wb_wr)
  | .lrem => (match st with | .inr (.inl b) :: .inr (.inl a) :: st' => wb_if (!decide (b = 0)) (p + 1) ls (.inr (.inl (wb_reml a b)) :: st') h n | _ => wb_wr)
  | .lneg => (match st with | .inr (.inl a) :: st' => wb_nx (p + 1) ls (.inr (.inl (-a)) :: st') h n | _ => wb_wr)
  | .lcmp => (match st with | .inr (.inl b) :: .inr (.inl a) :: st' => wb_nx (p + 1) ls (.inl (lg_cmp a b) :: st') h n | _ => wb_wr)
  | .i2l => (match st with | .inl a :: st' => wb_nx (p + 1) ls (.inr (.inl a.toInt64) :: st') h n | _ => wb_wr)
  | .l2i => (match st with | .inr (.inl a) :: st' => wb_nx (p + 1) ls (.inl a.toInt32 :: st') h n | _ => wb_wr)
  | .i2b => (match st with | .inl a :: st' => wb_nx (p + 1) ls (.inl a.toInt8.toInt32 :: st') h n | _ => wb_wr)
  | .i2c => (match st with | .inl a :: st' => wb_nx (p + 1) ls (.inl (a.toUInt32 % 65536).toInt32 :: st') h n | _ => wb_wr)
  | .dup => (match st with
    | .inl a :: st' => wb_nx (p + 1) ls (.inl a :: .inl a :: st') h n
    | .inr (.inr r) :: st' => wb_nx (p + 1) ls (.inr (.inr r) :: .inr (.inr r) :: st') h n
    | _ => wb_wr)
  | .dup2 => (match st with | .inl b :: .inr (.inr r) :: st' => wb_nx (p + 1) ls (.inl b :: .inr (.inr r) :: .inl b :: .inr (.inr r) :: st') h n | _ => wb_wr)
  | .pop => (match st with | .inl _ :: st' => wb_nx (p + 1) ls st' h n | _ => wb_wr)
  | .if_icmp c _ => (match x, st with | [t], .inl b :: .inl a :: st' => wb_br (wb_cm c a b) t (p + 3) ls st' h n | _, _ => wb_wr)
  | .ifCond c _ => (match x, st with | [t], .inl a :: st' => wb_br (wb_cm c a (Int32.ofInt 0)) t (p + 3) ls st' h n | _, _ => wb_wr)
  | .goto _ => (match x with | [t] => wb_nx t ls st h n | _ => wb_wr)
  | .tableswitch _ lo _ _ => (match x, st with | _ :: d :: ts, .inl v :: st' => .inl (wb_sw v ls st' h n lo ts, some (d, ls, st', h, n)) | _, _ => wb_wr)
  | .lookupswitch _ ps => (match x, st with | _ :: d :: ts, .inl v :: st' => .inl (wb_lw v ls st' h n ps.toList ts, some (d, ls, st', h, n)) | _, _ => wb_wr)
  | .getfield _ => wb_gf fz p x ls st h n
  | .putfield _ => wb_pf fz p x ls st h n
  | .getstatic _ => wb_gs p x ls st h n
  | .iaload => wb_il sc p ls st h n
  | .baload => wb_bl p ls st h n
  | .laload => wb_ll p ls st h n
  | .aaload => wb_ql fz p ls st h n
  | .iastore => wb_is p ls st h n
  | .bastore => wb_bs p ls st h n
  | .lastore => wb_ls p ls st h n
  | .aastore => wb_qs fz p ls st h n
  | .arraylength => wb_al sc p ls st h n
  | .new _ => wb_ne fz m p x ls st h n
  | .newarray a => wb_na fz m p a x ls st h n
  | .anewarray _ => wb_an fz m p x ls st h n
  | .invokevirtual _ => wb_ca fz m p x ls st h n
  | .invokestatic _ => wb_ca fz m p x ls st h n
  | .invokespecial _ => wb_ca fz m p x ls st h n
  | .ireturn => wb_rt m x st h n
  | .lreturn => (match st with | [.inr (.inl v)] => wb_re true m (some (.inr (.inl v))) h n | _ => wb_wr)
  | .areturn => (match st with | [.inr (.inr r)] => wb_re (decide (10 ≤ r.1)) m (some (.inr (.inr r))) h n | _ => wb_wr)
  | .return_ => (match st with | [] => wb_re true m none h n | _ => wb_wr)
  | _ => wb_wr
def wb_ft : List wb_E → Nat → Option wb_E
  | [], _ => none
  | e :: l, p => bif Nat.beq e.1 p then some e else wb_ft l p
def wb_dr (ls : wb_L) : List Nat → wb_L
  | [] => ls
  | k :: ks => wb_dr (wb_s ls k none) ks
/-- what is done at a place of a code list (dead locals are dropped) -/
def wb_ac (fz : Bool) (sc : wb_X) (m : Nat) (cl : List wb_E) (c : wb_C) : wb_A := match wb_ft cl c.1 with
  | some e => wb_st fz sc m e.1 e.2.1 e.2.2.1 (wb_dr c.2.1 e.2.2.2) c.2.2.1 c.2.2.2.1 c.2.2.2.2
  | none => wb_wr
def wb_ib {ρ : Type} (K : wb_C → Option ρ) : List (Bool × Option wb_C) → Option wb_C → Option ρ
  | [], none => none
  | [], some c => K c
  | (b, none) :: l, d => bif b then none else wb_ib K l d
  | (b, some c) :: l, d => bif b then K c else wb_ib K l d
def wb_nn (fz : Bool) (n n' : wb_N) (y : Nat) : wb_N := match fz with
  | true => n
  | false => (n'.1, n.2.1 + wb_mc y, n.2.2 + wb_ms y)
def wb_rk (kd : Nat) (v : Option wb_V) (st : List wb_V) : Option (List wb_V) := match kd, v with
  | 0, none => some st
  | 1, some (.inl x) => some (.inl x :: st)
  | 2, some (.inr (.inl x)) => some (.inr (.inl x) :: st)
  | k + 3, some (.inr (.inr r)) => bif Nat.beq r.1 k && Nat.beq r.2 0 then some (.inr (.inr (k, 0)) :: st) else none
  | _, _ => none
def wb_en (y : Nat) (as : List wb_V) (h : wb_H) (n : wb_N) : wb_C := (0, wb_el as (wb_pn y), [], h, (n.1, 0, 0))
/-- one step with what comes after it, and calls -/
def wb_ex (fz : Bool) (K : wb_C → Option wb_R) (D : Nat → wb_C → Option wb_R) : wb_A → Option wb_R
  | .inl b => wb_ib K b.1 b.2
  | .inr (.inl ((y, as, h, n), b, kd, p, ls, st)) => bif b then (D y (wb_en y as h n)).bind (fun r => (wb_rk kd r.1 st).bind (fun st' => K (p, ls, st', r.2.1, wb_nn fz n r.2.2 y))) else none
  | .inr (.inr (b, r)) => bif b then some r else none
/-- a run of at most k steps and calls within one another -/
def wb_ru (fz : Bool) (sc : wb_X) : Nat → Nat → wb_C → Option wb_R
  | 0, _, _ => none
  | k + 1, m, c => wb_ex fz (wb_ru fz sc k m) (wb_ru fz sc k) (wb_ac fz sc m (wb_code m) c)
