/-! The two ways are one: what the rows weigh is what the worlds weigh. -/
theorem tb_up1 : ∀ m, m < 6 → ∀ i, i < 64 → ∀ j, j < 7 → (j ≤ m → tb (2 ^ (m + 1) + i) j = tb i j) := by decide +kernel
theorem tb_up2 : ∀ m, m < 6 → ∀ i, i < 64 → (i < 2 ^ (m + 1) → tb (2 ^ (m + 1) + i) (m + 1) = 1 ∧ tb i (m + 1) = 0) := by decide +kernel
theorem tb_up (m : Nat) (hm : m < 6) (i : Nat) (hi : i < 64) (h : i < 2 ^ (m + 1)) : (∀ j, j < 7 → j ≤ m → tb (2 ^ (m + 1) + i) j = tb i j) ∧ tb (2 ^ (m + 1) + i) (m + 1) = 1 ∧ tb i (m + 1) = 0 := ⟨tb_up1 m hm i hi, tb_up2 m hm i hi h⟩
theorem wt_all {A : wa} (hA : wa_ok A) (c : Nat) (hc : c ≤ 1) : ∀ m, m ≤ an A → sm (2 ^ (m + 1)) (fun w => if tb w 0 = c then pm m (wf A w) else 0) = 10 ^ m
  | 0, _ => by rcases (show c = 0 ∨ c = 1 by omega) with rfl | rfl <;> rfl
  | m + 1, h => by
    have h6 := hA.1
    have hs := hA.2.2.2.2.1 m h
    have h64 : 2 ^ (m + 1) ≤ 64 := Nat.pow_le_pow_right (n := 2) (by decide) (show m + 1 ≤ 6 by omega)
    have ih := wt_all hA c hc m (by omega)
    rw [show 2 ^ (m + 1 + 1) = 2 ^ (m + 1) + 2 ^ (m + 1) by rw [Nat.pow_succ 2 (m + 1)]; omega, sm_split]
    have e1 : sm (2 ^ (m + 1)) (fun w => if tb w 0 = c then pm (m + 1) (wf A w) else 0) = sm (2 ^ (m + 1)) (fun w => if tb w 0 = c then pm m (wf A w) else 0) * (10 - asu A m) := by
      rw [← sm_mul']
      refine sm_congr fun w hw => ?_
      obtain ⟨_, _, t⟩ := tb_up m (by omega) w (by omega) hw
      have e : wf A w m = 10 - asu A m := by unfold wf; rw [Nat.add_comm 1 m, t]; rfl
      by_cases hc0 : tb w 0 = c
      · simp only [hc0, if_true]; rw [pm, e]
      · simp only [hc0, if_false, Nat.zero_mul]
    have e2 : sm (2 ^ (m + 1)) (fun i => if tb (2 ^ (m + 1) + i) 0 = c then pm (m + 1) (wf A (2 ^ (m + 1) + i)) else 0) = sm (2 ^ (m + 1)) (fun w => if tb w 0 = c then pm m (wf A w) else 0) * asu A m := by
      rw [← sm_mul']
      refine sm_congr fun w hw => ?_
      obtain ⟨t1, t2, _⟩ := tb_up m (by omega) w (by omega) hw
      have e : wf A (2 ^ (m + 1) + w) m = asu A m := by unfold wf; rw [Nat.add_comm 1 m, t2]; rfl
      have e3 : pm m (wf A (2 ^ (m + 1) + w)) = pm m (wf A w) := pm_congr fun i hi => by unfold wf; rw [t1 (1 + i) (by omega) (by omega)]
      rw [t1 0 (by omega) (by omega)]
      by_cases hc0 : tb w 0 = c
      · simp only [hc0, if_true]; rw [pm, e, e3]
      · simp only [hc0, if_false, Nat.zero_mul]
    rw [e1, e2, ih, ← Nat.mul_add, show 10 - asu A m + asu A m = 10 by omega, Nat.pow_succ]
theorem ws_all {A : wa} (hA : wa_ok A) (c : Nat) (hc : c ≤ 1) : sm (nw A) (fun w => if tb w 0 = c then wt A w else 0) = wc A c * 10 ^ an A := by
  rw [← wt_all hA c hc (an A) (Nat.le_refl _), ← sm_mul]
  refine sm_congr fun w _ => ?_
  by_cases h : tb w 0 = c
  · rw [if_pos h, if_pos h, wt, h]
  · rw [if_neg h, if_neg h]; rfl
def WS (A : wa) (c : Nat) (q : Nat → Nat) (r : Nat) : Nat := sm (nw A) (fun w => if tb w 0 = c ∧ q w = r then wt A w else 0)
theorem ws_part {A : wa} (c : Nat) {p : Nat} {q : Nat → Nat} (hq : ∀ w, q w < 3 ^ p) (P : Nat → Prop) [DecidablePred P] : sm (nw A) (fun w => if tb w 0 = c ∧ P (q w) then wt A w else 0) = sm (3 ^ p) (fun x => if P x then WS A c q x else 0) := by
  rw [sm_part (nw A) (3 ^ p) q _ (fun i _ => hq i)]
  refine sm_congr fun x _ => ?_
  by_cases hP : P x
  · rw [if_pos hP]
    unfold WS
    refine sm_congr fun w _ => ?_
    by_cases e : q w = x
    · rw [if_pos e, e]
      simp only [hP, and_true]
    · rw [if_neg e, if_neg (fun k => e k.2)]
  · rw [if_neg hP]
    refine sm_zero' fun w _ => ?_
    by_cases e : q w = x
    · rw [if_pos e, if_neg]
      rintro ⟨_, k⟩
      rw [e] at k
      exact hP k
    · rw [if_neg e]
def TT (A : wa) (q : Nat → Nat) (D : wD) (p : Nat) : Prop := ∀ c, c ≤ 1 → ∀ r, r < 3 ^ p → WS A c q r = wcol c D r * 10 ^ (an A - p)
theorem tt_part {A : wa} {c p : Nat} {q : Nat → Nat} {D : wD} (hc : c ≤ 1) (hq : ∀ w, q w < 3 ^ p) (h : TT A q D p) (P : Nat → Prop) [DecidablePred P] : sm (nw A) (fun w => if tb w 0 = c ∧ P (q w) then wt A w else 0) = sm (3 ^ p) (fun x => if P x then wcol c D x else 0) * 10 ^ (an A - p) := by
  rw [ws_part c hq P, ← sm_mul']
  refine sm_congr fun x hx => ?_
  by_cases hP : P x
  · rw [if_pos hP, if_pos hP, h c hc x hx]
  · rw [if_neg hP, if_neg hP, Nat.zero_mul]
theorem tt_zero {A : wa} (hA : wa_ok A) (R : Nat) : TT A (ro A R 0) (dp A R 0) 0 := by
  intro c hc r hr
  have hr0 : r = 0 := by rw [Nat.pow_zero] at hr; omega
  subst hr0
  have e : wcol c (dp A R 0) 0 = wc A c := by
    rcases (show c = 0 ∨ c = 1 by omega) with rfl | rfl <;> rfl
  rw [e, Nat.sub_zero, ← ws_all hA c hc]
  refine sm_congr fun w _ => ?_
  show (if tb w 0 = c ∧ (0 : Nat) = 0 then wt A w else 0) = _
  simp only [and_true]
theorem tt_right {A : wa} {q : Nat → Nat} {D : wD} {p : Nat} (hq : ∀ w, q w < 3 ^ p) (h : TT A q D p) : TT A (rgt p) (dright D p) p := by
  intro c hc r hr
  have tot : sm (nw A) (fun w => if tb w 0 = c then wt A w else 0) = sm (3 ^ p) (wcol c D) * 10 ^ (an A - p) := by
    have := tt_part hc hq h (fun _ => True)
    simp only [and_true, if_true] at this
    exact this
  have hrg : ∀ w, tb w 0 = c → rgt p w = if c = 1 then (3 ^ p - 1) / 2 else 0 := fun w hw => by unfold rgt; rw [hw]
  have hD : wcol c (dright D p) r = if r = (if c = 1 then (3 ^ p - 1) / 2 else 0) then sm (3 ^ p) (wcol c D) else 0 := by
    rcases (show c = 0 ∨ c = 1 by omega) with rfl | rfl <;> rfl
  rw [hD]
  by_cases e : r = (if c = 1 then (3 ^ p - 1) / 2 else 0)
  · rw [if_pos e, ← tot]
    refine sm_congr fun w _ => ?_
    by_cases t : tb w 0 = c
    · rw [if_pos t, if_pos ⟨t, by rw [hrg w t, ← e]⟩]
    · rw [if_neg t, if_neg (fun k => t k.1)]
  · rw [if_neg e, Nat.zero_mul]
    refine sm_zero' fun w _ => if_neg ?_
    rintro ⟨t, k⟩
    rw [hrg w t] at k
    exact e k.symm
def fs (A : wa) (p s c : Nat) : Nat := if s = c then asu A (aho A p) else 10 - asu A (aho A p)
theorem tt_marg {A : wa} (hA : wa_ok A) {q : Nat → Nat} {D : wD} {p : Nat} (hp : p < an A) (hq : ∀ w, q w < 3 ^ p) (hinv : ∀ x, x < 2 ^ an A → q (wins (aho A p + 1) 0 x) = q (wins (aho A p + 1) 1 x)) (h : TT A q D p)
    {c s : Nat} (hc : c ≤ 1) (hs : s ≤ 1) (P : Nat → Prop) [DecidablePred P] :
    sm (nw A) (fun w => if tb w 0 = c ∧ sg w (aho A p) = s ∧ P (q w) then wt A w else 0) = sm (3 ^ p) (fun x => if P x then wcol c D x else 0) * fs A p s c * 10 ^ (an A - (p + 1)) := by
  have hh := (hA.2.2.2.1 p hp).1
  have h6 := hA.1
  have hbit : ∀ w, tb w 0 = c → (sg w (aho A p) = s ↔ tb w (1 + aho A p) = (if s = 1 then c else 1 - c)) := by
    intro w hw
    have := tb_lt w (1 + aho A p)
    unfold sg
    rw [hw]
    rcases (show s = 0 ∨ s = 1 by omega) with rfl | rfl
    · rcases (show c = 0 ∨ c = 1 by omega) with rfl | rfl
      · by_cases t : tb w (1 + aho A p) = 0
        · simp [t]
        · have : tb w (1 + aho A p) = 1 := by omega
          simp [this]
      · by_cases t : tb w (1 + aho A p) = 0
        · simp [t]
        · have : tb w (1 + aho A p) = 1 := by omega
          simp [this]
    · by_cases t : tb w (1 + aho A p) = c <;> simp [t]
  have hb1 : (if s = 1 then c else 1 - c) ≤ 1 := by split <;> omega
  have hw := wmarg hA hh (fun w => tb w 0 = c ∧ P (q w)) (by
    intro x hx
    have hx64 : x < 64 := Nat.lt_of_lt_of_le hx (pow2_le h6)
    rw [hinv x hx, wins_tb (aho A p + 1) (by omega) x hx64 0 (by decide) (by omega)]) _ hb1
  have e1 : sm (nw A) (fun w => if tb w 0 = c ∧ sg w (aho A p) = s ∧ P (q w) then wt A w else 0) = sm (nw A) (fun w => if (tb w 0 = c ∧ P (q w)) ∧ tb w (1 + aho A p) = (if s = 1 then c else 1 - c) then wt A w else 0) := by
    refine sm_congr fun w _ => ?_
    by_cases t : tb w 0 = c
    · have hb := hbit w t
      by_cases hP : P (q w) <;> simp [t, hP, hb]
    · rw [if_neg (fun k => t k.1), if_neg (fun k => t k.1.1)]
  have e2 : (if (if s = 1 then c else 1 - c) = 1 then asu A (aho A p) else 10 - asu A (aho A p)) = fs A p s c := by
    unfold fs
    rcases (show s = 0 ∨ s = 1 by omega) with rfl | rfl <;> rcases (show c = 0 ∨ c = 1 by omega) with rfl | rfl <;> rfl
  rw [e1]
  rw [tt_part hc hq h P, e2, show an A - p = an A - (p + 1) + 1 by omega, Nat.pow_succ] at hw
  refine Nat.eq_of_mul_eq_mul_right (show 0 < 10 by decide) (hw.trans ?_)
  generalize 10 ^ (an A - (p + 1)) = t
  generalize sm (3 ^ p) (fun x => if P x then wcol c D x else 0) = u
  generalize fs A p s c = v
  rw [Nat.mul_assoc u, Nat.mul_assoc u, Nat.mul_assoc u, Nat.mul_comm (t * 10) v, Nat.mul_assoc v]
theorem wzc_scale {s u v k : Nat} (hk : 0 < k) : wzc s (u * k) (v * k) = wzc s u v := by
  unfold wzc
  have h1 : (u * k = v * k) ↔ u = v := ⟨fun e => Nat.eq_of_mul_eq_mul_right hk e, fun e => by rw [e]⟩
  have h2 : (v * k < u * k) ↔ v < u := Nat.mul_lt_mul_right hk
  simp only [h1, h2]
theorem wz_same {A : wa} (hA : wa_ok A) {q : Nat → Nat} {D : wD} {p : Nat} (hp : p < an A) (hq : ∀ w, q w < 3 ^ p) (hinv : ∀ x, x < 2 ^ an A → q (wins (aho A p + 1) 0 x) = q (wins (aho A p + 1) 1 x)) (h : TT A q D p)
    {s : Nat} (hs : s ≤ 1) (r : Nat) : wzW A q p s r = wzD A D p s r := by
  unfold wzW wzD
  rw [tt_marg hA hp hq hinv h (c := 1) (by decide) hs (fun x => seen A p x = seen A p r), tt_marg hA hp hq hinv h (c := 0) (by decide) hs (fun x => seen A p x = seen A p r), wzc_scale (Nat.pow_pos (by decide))]
  rfl
theorem abin_congr {A : wa} {wz wz' : Nat → Nat → Nat} {p s r : Nat} (h : wz s r = wz' s r) : abin A wz p s r = abin A wz' p s r := by
  unfold abin
  rw [h]
def bw (A : wa) (D : wD) (p c b : Nat) : Nat := sm (3 ^ p) (fun r => wcol c D r * ((if abin A (wzD A D p) p 1 r = b then fs A p 1 c else 0) + (if abin A (wzD A D p) p 0 r = b then fs A p 0 c else 0)))
/-- the worlds in which a bin of a kind is put out, by what rows there were -/
theorem tt_bins {A : wa} (hA : wa_ok A) {q : Nat → Nat} {D : wD} {p : Nat} (hp : p < an A) (hq : ∀ w, q w < 3 ^ p) (hinv : ∀ x, x < 2 ^ an A → q (wins (aho A p + 1) 0 x) = q (wins (aho A p + 1) 1 x)) (h : TT A q D p)
    {c : Nat} (hc : c ≤ 1) (b : Nat) (P : Nat → Prop) [DecidablePred P] :
    sm (nw A) (fun w => if tb w 0 = c ∧ (abin A (wzW A q p) p (sg w (aho A p)) (q w) = b ∧ P (q w)) then wt A w else 0) = sm (3 ^ p) (fun r => if P r then wcol c D r * ((if abin A (wzD A D p) p 1 r = b then fs A p 1 c else 0) + (if abin A (wzD A D p) p 0 r = b then fs A p 0 c else 0)) else 0) * 10 ^ (an A - (p + 1)) := by
  have e : ∀ w, (if tb w 0 = c ∧ (abin A (wzW A q p) p (sg w (aho A p)) (q w) = b ∧ P (q w)) then wt A w else 0) = (if tb w 0 = c ∧ sg w (aho A p) = 1 ∧ (abin A (wzD A D p) p 1 (q w) = b ∧ P (q w)) then wt A w else 0) + (if tb w 0 = c ∧ sg w (aho A p) = 0 ∧ (abin A (wzD A D p) p 0 (q w) = b ∧ P (q w)) then wt A w else 0) := by
    intro w
    have hsg := sg_le w (aho A p)
    rw [abin_congr (wz_same hA hp hq hinv h hsg (q w))]
    rcases (show sg w (aho A p) = 0 ∨ sg w (aho A p) = 1 by omega) with t | t <;> rw [t]
    · simp only [Nat.zero_ne_one, false_and, and_false, if_false, true_and, Nat.zero_add]
    · simp only [Nat.one_ne_zero, false_and, and_false, if_false, true_and, Nat.add_zero]
  rw [sm_congr (fun w _ => e w), sm_add, tt_marg hA hp hq hinv h hc (by decide) (fun x => abin A (wzD A D p) p 1 x = b ∧ P x), tt_marg hA hp hq hinv h hc (by decide) (fun x => abin A (wzD A D p) p 0 x = b ∧ P x), ← Nat.add_mul, ← sm_mul', ← sm_mul', ← sm_add]
  congr 1
  refine sm_congr fun r _ => ?_
  by_cases hP : P r
  · simp only [hP, and_true, if_true]
    rw [Nat.mul_add]
    by_cases a1 : abin A (wzD A D p) p 1 r = b <;> by_cases a0 : abin A (wzD A D p) p 0 r = b <;> simp [a1, a0]
  · simp only [hP, and_false, if_false, Nat.zero_mul]
theorem dstep_col {A : wa} {D : wD} {p c r : Nat} (hc : c ≤ 1) : wcol c (dstep A D p) r = wcol c D (r % 3 ^ p) * ((if abin A (wzD A D p) p 1 (r % 3 ^ p) = r / 3 ^ p then fs A p 1 c else 0) + (if abin A (wzD A D p) p 0 (r % 3 ^ p) = r / 3 ^ p then fs A p 0 c else 0)) := by
  rcases (show c = 0 ∨ c = 1 by omega) with rfl | rfl <;> rfl
theorem row_split {p x b r : Nat} (hx : x < 3 ^ p) : x + 3 ^ p * b = r ↔ b = r / 3 ^ p ∧ x = r % 3 ^ p := by
  have hp := pow3_pos p
  constructor
  · rintro rfl
    constructor
    · rw [Nat.add_mul_div_left _ _ hp, Nat.div_eq_of_lt hx, Nat.zero_add]
    · rw [Nat.add_mul_mod_self_left, Nat.mod_eq_of_lt hx]
  · rintro ⟨rfl, rfl⟩
    exact Nat.mod_add_div r (3 ^ p)
theorem tt_step {A : wa} (hA : wa_ok A) {q : Nat → Nat} {D : wD} {p : Nat} (hp : p < an A) (hq : ∀ w, q w < 3 ^ p) (hinv : ∀ x, x < 2 ^ an A → q (wins (aho A p + 1) 0 x) = q (wins (aho A p + 1) 1 x)) (h : TT A q D p) :
    TT A (fun w => q w + 3 ^ p * abin A (wzW A q p) p (sg w (aho A p)) (q w)) (dstep A D p) (p + 1) := by
  intro c hc r hr
  rw [dstep_col hc]
  have hr0 : r % 3 ^ p < 3 ^ p := Nat.mod_lt _ (pow3_pos p)
  have := tt_bins hA hp hq hinv h hc (r / 3 ^ p) (fun x => x = r % 3 ^ p)
  rw [sm_pt hr0] at this
  rw [← this]
  refine sm_congr fun w _ => ?_
  have e := row_split (b := abin A (wzW A q p) p (sg w (aho A p)) (q w)) (r := r) (hq w)
  simp only [e]
theorem tt_ro {A : wa} (hA : wa_ok A) (R : Nat) : ∀ p, p ≤ an A → TT A (ro A R p) (dp A R p) p
  | 0, _ => tt_zero hA R
  | p + 1, hp => by
    have ih := tt_ro hA R p (by omega)
    have hrr : TT A (rr A R p) (dpr A R p) p := by
      unfold dpr
      by_cases e : p = R
      · rw [if_pos e, show rr A R p = rgt p from funext fun w => if_pos e]
        exact tt_right (ro_lt hA R p) ih
      · rw [if_neg e, show rr A R p = ro A R p from funext fun w => if_neg e]
        exact ih
    have hh := hA.2.2.2.1 p hp
    exact tt_step hA hp (rr_lt hA R p) (fun x hx => rr_inv hA R hx hh.1 p (by omega)) hrr
theorem tt_rr {A : wa} (hA : wa_ok A) (R : Nat) (p : Nat) (hp : p ≤ an A) : TT A (rr A R p) (dpr A R p) p := by
  have ih := tt_ro hA R p hp
  unfold dpr
  by_cases e : p = R
  · rw [if_pos e, show rr A R p = rgt p from funext fun w => if_pos e]
    exact tt_right (ro_lt hA R p) ih
  · rw [if_neg e, show rr A R p = ro A R p from funext fun w => if_neg e]
    exact ih
