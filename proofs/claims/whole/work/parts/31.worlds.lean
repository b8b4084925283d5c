/-! An evening: the weights of rows (the class's way) and the worlds (the reference's way). -/
abbrev wa : Type := (Nat × Nat) × (((Nat → Nat) × (Nat → Nat)) × (((Nat → Nat) × ((Nat → Nat) × ((Nat → Nat) × (Nat → Nat)))) × (Nat → Nat → Nat → Nat → Nat → Nat)))
def an (A : wa) : Nat := A.1.1
def aB (A : wa) : Nat := A.1.2
def apl (A : wa) (h : Nat) : Nat := A.2.1.1 h
def aho (A : wa) (p : Nat) : Nat := A.2.1.2 p
def asu (A : wa) (h : Nat) : Nat := A.2.2.1.1 h
def ahb (A : wa) (h : Nat) : Nat := A.2.2.1.2.1 h
def ase (A : wa) (h : Nat) : Nat := A.2.2.1.2.2.1 h
def amo (A : wa) (h : Nat) : Nat := A.2.2.1.2.2.2 h
def alw (A : wa) : Nat → Nat → Nat → Nat → Nat → Nat := A.2.2.2
def wa_ok (A : wa) : Prop := an A ≤ 6 ∧ aB A ≤ 10 ∧ (∀ h, h < an A → apl A h < an A ∧ aho A (apl A h) = h) ∧ (∀ p, p < an A → aho A p < an A ∧ apl A (aho A p) = p) ∧ (∀ h, h < an A → asu A h ≤ 10) ∧
  (∀ h, h < an A → ahb A h ≤ 6 ∧ ase A h ≤ 6 ∧ (ahb A h = 3 → amo A h < an A)) ∧ (∀ h s b l d, alw A h s b l d ≤ 1)
def dg (r q : Nat) : Nat := r / 3 ^ q % 3
def cd (b : Nat) : Nat → Nat → Nat
  | _, 0 => 0
  | r, k + 1 => (if r % 3 = b then 1 else 0) + cd b (r / 3) k
def one (b s : Nat) : Nat := if b = 2 then s else b
def sk (A : wa) (p : Nat) : Nat := min p (ase A (aho A p))
def seen (A : wa) (p r : Nat) : Nat := r / 3 ^ (p - sk A p)
def abin (A : wa) (wz : Nat → Nat → Nat) (p s r : Nat) : Nat := match ahb A (aho A p) with
  | 0 => s
  | 1 => if cd 1 (seen A p r) (sk A p) = cd 0 (seen A p r) (sk A p) then s else if cd 0 (seen A p r) (sk A p) < cd 1 (seen A p r) (sk A p) then 1 else 0
  | 2 => if p = 0 then s else one (r % 3) s
  | 3 => if p ≤ apl A (amo A (aho A p)) then s else one (dg r (apl A (amo A (aho A p)))) s
  | 4 => wz s r
  | 5 => 2
  | _ => alw A (aho A p) s (cd 1 (seen A p r) (sk A p)) (cd 0 (seen A p r) (sk A p)) (if p = 0 then 0 else if r % 3 = 1 then 2 else 1)
def wzc (s u v : Nat) : Nat := if u = v then s else if v < u then 1 else 0
abbrev wD : Type := (Nat → Nat) × (Nat → Nat)
def wcol (c : Nat) (D : wD) : Nat → Nat := if c = 1 then D.1 else D.2
def gat (p k : Nat) (D : Nat → Nat) (i : Nat) : Nat := sm (3 ^ p) (fun x => if x / 3 ^ (p - k) = i then D x else 0)
def wzD (A : wa) (D : wD) (p s r : Nat) : Nat := wzc s (gat p (sk A p) D.1 (seen A p r) * (if s = 1 then asu A (aho A p) else 10 - asu A (aho A p))) (gat p (sk A p) D.2 (seen A p r) * (if s = 0 then asu A (aho A p) else 10 - asu A (aho A p)))
def dstep (A : wa) (D : wD) (p : Nat) : wD :=
  (fun r' => D.1 (r' % 3 ^ p) * ((if abin A (wzD A D p) p 1 (r' % 3 ^ p) = r' / 3 ^ p then asu A (aho A p) else 0) + (if abin A (wzD A D p) p 0 (r' % 3 ^ p) = r' / 3 ^ p then 10 - asu A (aho A p) else 0)),
   fun r' => D.2 (r' % 3 ^ p) * ((if abin A (wzD A D p) p 1 (r' % 3 ^ p) = r' / 3 ^ p then 10 - asu A (aho A p) else 0) + (if abin A (wzD A D p) p 0 (r' % 3 ^ p) = r' / 3 ^ p then asu A (aho A p) else 0)))
def dright (D : wD) (p : Nat) : wD := (fun r => if r = (3 ^ p - 1) / 2 then sm (3 ^ p) D.1 else 0, fun r => if r = 0 then sm (3 ^ p) D.2 else 0)
def dp (A : wa) (R : Nat) : Nat → wD
  | 0 => (fun r => if r = 0 then aB A else 0, fun r => if r = 0 then 10 - aB A else 0)
  | p + 1 => dstep A (if p = R then dright (dp A R p) p else dp A R p) p
def dpr (A : wa) (R p : Nat) : wD := if p = R then dright (dp A R p) p else dp A R p
def wf (A : wa) (w h : Nat) : Nat := if tb w (1 + h) = 1 then asu A h else 10 - asu A h
def wc (A : wa) (c : Nat) : Nat := if c = 1 then aB A else 10 - aB A
def wt (A : wa) (w : Nat) : Nat := wc A (tb w 0) * pm (an A) (wf A w)
def sg (w h : Nat) : Nat := if tb w (1 + h) = tb w 0 then 1 else 0
def nw (A : wa) : Nat := 2 ^ (an A + 1)
def wzW (A : wa) (q : Nat → Nat) (p s r : Nat) : Nat := wzc s (sm (nw A) (fun w => if tb w 0 = 1 ∧ sg w (aho A p) = s ∧ seen A p (q w) = seen A p r then wt A w else 0)) (sm (nw A) (fun w => if tb w 0 = 0 ∧ sg w (aho A p) = s ∧ seen A p (q w) = seen A p r then wt A w else 0))
def rgt (p w : Nat) : Nat := if tb w 0 = 1 then (3 ^ p - 1) / 2 else 0
def ro (A : wa) (R : Nat) : Nat → Nat → Nat
  | 0, _ => 0
  | p + 1, w => (if p = R then rgt p w else ro A R p w) + 3 ^ p * abin A (wzW A (fun w => if p = R then rgt p w else ro A R p w) p) p (sg w (aho A p)) (if p = R then rgt p w else ro A R p w)
def rr (A : wa) (R p w : Nat) : Nat := if p = R then rgt p w else ro A R p w
theorem ro_succ (A : wa) (R p w : Nat) : ro A R (p + 1) w = rr A R p w + 3 ^ p * abin A (wzW A (rr A R p) p) p (sg w (aho A p)) (rr A R p w) := rfl
theorem dp_succ (A : wa) (R p : Nat) : dp A R (p + 1) = dstep A (dpr A R p) p := rfl
theorem sg_le (w h : Nat) : sg w h ≤ 1 := by unfold sg; split <;> omega
theorem wzc_le {s u v : Nat} (hs : s ≤ 1) : wzc s u v ≤ 1 := by unfold wzc; split <;> (try split) <;> omega
theorem one_le {b s : Nat} (hb : b ≤ 2) (hs : s ≤ 1) : one b s ≤ 1 := by unfold one; split <;> omega
theorem abin_le {A : wa} (hA : wa_ok A) {wz : Nat → Nat → Nat} (hw : ∀ s r, s ≤ 1 → wz s r ≤ 1) {p s r : Nat} (hs : s ≤ 1) : abin A wz p s r ≤ 2 := by
  unfold abin
  split
  · omega
  · split <;> (try split) <;> omega
  · split
    · omega
    · exact Nat.le_succ_of_le (one_le (by omega) hs)
  · split
    · omega
    · exact Nat.le_succ_of_le (one_le (by unfold dg; omega) hs)
  · exact Nat.le_succ_of_le (hw s r hs)
  · omega
  · exact Nat.le_succ_of_le (hA.2.2.2.2.2.2 _ _ _ _ _)
theorem pow3_pos (p : Nat) : 0 < 3 ^ p := Nat.pow_pos (by decide)
theorem rgt_lt (p w : Nat) : rgt p w < 3 ^ p := by
  have := pow3_pos p
  unfold rgt
  split <;> omega
theorem wzW_le {A : wa} {q : Nat → Nat} {p s r : Nat} (hs : s ≤ 1) : wzW A q p s r ≤ 1 := wzc_le hs
theorem wzD_le {A : wa} {D : wD} {p s r : Nat} (hs : s ≤ 1) : wzD A D p s r ≤ 1 := wzc_le hs
theorem ro_lt {A : wa} (hA : wa_ok A) (R : Nat) : ∀ p w, ro A R p w < 3 ^ p
  | 0, w => by simp [ro]
  | p + 1, w => by
    rw [ro_succ, Nat.pow_succ]
    have h1 : rr A R p w < 3 ^ p := by
      unfold rr
      split
      · exact rgt_lt p w
      · exact ro_lt hA R p w
    have h2 := abin_le (r := rr A R p w) (p := p) hA (wz := wzW A (rr A R p) p) (fun s r hs => wzW_le hs) (sg_le w (aho A p))
    have h3 : 3 ^ p * abin A (wzW A (rr A R p) p) p (sg w (aho A p)) (rr A R p w) ≤ 3 ^ p * 2 := Nat.mul_le_mul_left _ h2
    omega
theorem rr_lt {A : wa} (hA : wa_ok A) (R p w : Nat) : rr A R p w < 3 ^ p := by
  unfold rr
  split
  · exact rgt_lt p w
  · exact ro_lt hA R p w
theorem pow2_le {n : Nat} (h : n ≤ 6) : 2 ^ n ≤ 64 := Nat.pow_le_pow_right (by decide) h
/-- rows do not look at a house that is not yet there -/
theorem rr_inv {A : wa} (hA : wa_ok A) (R : Nat) {h x : Nat} (hx : x < 2 ^ an A) (hh : h < an A) : ∀ p, p ≤ apl A h → rr A R p (wins (h + 1) 0 x) = rr A R p (wins (h + 1) 1 x) := by
  have hx64 : x < 64 := Nat.lt_of_lt_of_le hx (pow2_le hA.1)
  have hb0 : tb (wins (h + 1) 0 x) 0 = tb (wins (h + 1) 1 x) 0 := wins_tb (h + 1) (by have := hA.1; omega) x hx64 0 (by decide) (by omega)
  have hrg : ∀ p, rgt p (wins (h + 1) 0 x) = rgt p (wins (h + 1) 1 x) := fun p => by unfold rgt; rw [hb0]
  have key : ∀ p, p ≤ apl A h → ro A R p (wins (h + 1) 0 x) = ro A R p (wins (h + 1) 1 x) := by
    intro p
    induction p with
    | zero => intro _; rfl
    | succ p ih =>
      intro hp
      have h1 := hA.2.2.1 h hh
      have hpn : p < an A := by omega
      have h2 := hA.2.2.2.1 p hpn
      have hne : aho A p ≠ h := fun e => by rw [e] at h2; omega
      have hrr : rr A R p (wins (h + 1) 0 x) = rr A R p (wins (h + 1) 1 x) := by
        unfold rr
        rw [hrg, ih (by omega)]
      have hsg : sg (wins (h + 1) 0 x) (aho A p) = sg (wins (h + 1) 1 x) (aho A p) := by
        unfold sg
        rw [hb0, wins_tb (h + 1) (by have := hA.1; omega) x hx64 (1 + aho A p) (by have := hA.1; omega) (by omega)]
      rw [ro_succ, ro_succ, hrr, hsg]
  intro p hp
  unfold rr
  rw [hrg, key p hp]
def woth (A : wa) (h w : Nat) : Nat := wc A (tb w 0) * pm (an A) (fun i => if i = h then 1 else wf A w i)
theorem wt_out {A : wa} {h w : Nat} (hh : h < an A) : wt A w = woth A h w * wf A w h := by
  unfold wt woth
  rw [pm_out (wf A w) hh, Nat.mul_comm (wf A w h), Nat.mul_assoc]
theorem woth_inv {A : wa} (hA : wa_ok A) {h x : Nat} (hx : x < 2 ^ an A) (hh : h < an A) : woth A h (wins (h + 1) 1 x) = woth A h (wins (h + 1) 0 x) := by
  have hx64 : x < 64 := Nat.lt_of_lt_of_le hx (pow2_le hA.1)
  have h6 := hA.1
  unfold woth
  rw [wins_tb (h + 1) (by omega) x hx64 0 (by decide) (by omega)]
  congr 1
  refine pm_congr fun i hi => ?_
  by_cases e : i = h
  · rw [if_pos e, if_pos e]
  · rw [if_neg e, if_neg e]
    unfold wf
    rw [wins_tb (h + 1) (by omega) x hx64 (1 + i) (by omega) (by omega)]
/-- one house's sign by itself -/
theorem wmarg {A : wa} (hA : wa_ok A) {h : Nat} (hh : h < an A) (P : Nat → Prop) [DecidablePred P] (hP : ∀ x, x < 2 ^ an A → (P (wins (h + 1) 0 x) ↔ P (wins (h + 1) 1 x))) (b : Nat) (hb : b ≤ 1) :
    sm (nw A) (fun w => if P w ∧ tb w (1 + h) = b then wt A w else 0) * 10 = sm (nw A) (fun w => if P w then wt A w else 0) * (if b = 1 then asu A h else 10 - asu A h) := by
  have h6 := hA.1
  have hs := hA.2.2.2.2.1 h hh
  have hk : h + 1 ≤ an A := hh
  unfold nw
  rw [sm_bit (h + 1) (an A) _ hk, sm_bit (h + 1) (an A) _ hk, ← sm_mul', ← sm_mul']
  refine sm_congr fun x hx => ?_
  have hx64 : x < 64 := Nat.lt_of_lt_of_le hx (pow2_le hA.1)
  obtain ⟨t0, t1⟩ := wins_tb0 (h + 1) (by omega) x hx64
  rw [Nat.add_comm 1 h]
  have w0 : wt A (wins (h + 1) 0 x) = woth A h (wins (h + 1) 0 x) * (10 - asu A h) := by
    rw [wt_out hh]; unfold wf; rw [Nat.add_comm 1 h, t0]; rfl
  have w1 : wt A (wins (h + 1) 1 x) = woth A h (wins (h + 1) 0 x) * asu A h := by
    rw [wt_out hh, woth_inv hA hx hh]; unfold wf; rw [Nat.add_comm 1 h, t1]; rfl
  have hPx := hP x hx
  rw [t0, t1, w0, w1]
  generalize woth A h (wins (h + 1) 0 x) = o
  by_cases hp : P (wins (h + 1) 0 x)
  · have hp1 := hPx.mp hp
    rcases (show b = 0 ∨ b = 1 by omega) with rfl | rfl
    · simp only [hp, hp1, true_and, if_true, Nat.zero_ne_one, Nat.one_ne_zero, if_false, Nat.add_zero]
      rw [← Nat.mul_add, show 10 - asu A h + asu A h = 10 by omega, Nat.mul_assoc, Nat.mul_assoc, Nat.mul_comm 10]
    · simp only [hp, hp1, true_and, if_true, Nat.zero_ne_one, if_false, Nat.zero_add]
      rw [← Nat.mul_add, show 10 - asu A h + asu A h = 10 by omega, Nat.mul_assoc, Nat.mul_assoc, Nat.mul_comm 10]
  · have hp1 : ¬ P (wins (h + 1) 1 x) := fun q => hp (hPx.mpr q)
    simp only [hp, hp1, false_and, if_false, Nat.add_zero, Nat.zero_mul]
