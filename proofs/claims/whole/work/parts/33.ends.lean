/-! What comes of an evening. -/
theorem rr_ne {A : wa} {R p : Nat} (h : p ≠ R) : rr A R p = ro A R p := funext fun _ => if_neg h
theorem rr_at {A : wa} {R : Nat} : rr A R R = rgt R := funext fun _ => if_pos rfl
theorem tt_ab {A : wa} (hA : wa_ok A) (R p w : Nat) : abin A (wzW A (rr A R p) p) p (sg w (aho A p)) (rr A R p w) ≤ 2 :=
  abin_le hA (fun _ _ hs => wzW_le hs) (sg_le w _)
theorem dg_low {p x b q : Nat} (hq : q < p) : dg (x + 3 ^ p * b) q = dg x q := by
  unfold dg
  obtain ⟨k, rfl⟩ : ∃ k, p = q + (k + 1) := ⟨p - q - 1, by omega⟩
  rw [Nat.pow_add, Nat.mul_assoc, Nat.add_mul_div_left _ _ (pow3_pos q), Nat.pow_succ, Nat.mul_comm (3 ^ k) 3, Nat.mul_assoc, Nat.add_mul_mod_self_left]
theorem dg_top {p x b : Nat} (hx : x < 3 ^ p) (hb : b ≤ 2) : dg (x + 3 ^ p * b) p = b := by
  unfold dg
  rw [Nat.add_mul_div_left _ _ (pow3_pos p), Nat.div_eq_of_lt hx, Nat.zero_add, Nat.mod_eq_of_lt (by omega)]
theorem dg_ro_top {A : wa} (hA : wa_ok A) (R p w : Nat) : dg (ro A R (p + 1) w) p = abin A (wzW A (rr A R p) p) p (sg w (aho A p)) (rr A R p w) := by
  rw [ro_succ]
  exact dg_top (rr_lt hA R p w) (tt_ab hA R p w)
theorem dg_ro_low {A : wa} {R p w q : Nat} (hq : q < p) : dg (ro A R (p + 1) w) q = dg (rr A R p w) q := by
  rw [ro_succ]
  exact dg_low hq
/-- nothing is put right after p -/
theorem dg_keep {A : wa} {R p w : Nat} : ∀ m, p < m → ¬ (p < R ∧ R ≤ m) → dg (rr A R m w) p = dg (ro A R (p + 1) w) p
  | 0, h, _ => by omega
  | m + 1, h, hR => by
    rw [rr_ne (by omega : m + 1 ≠ R)]
    by_cases e : m = p
    · rw [e]
    · rw [dg_ro_low (by omega), dg_keep m (by omega) (by omega)]
theorem rgt_dg1 : ∀ R, R < 7 → ∀ p, p < R → dg ((3 ^ R - 1) / 2) p = 1 := by decide +kernel
theorem rgt_dg {R p w : Nat} (hR : R ≤ 6) (hp : p < R) : dg (rgt R w) p = tb w 0 := by
  have := tb_lt w 0
  unfold rgt
  by_cases h : tb w 0 = 1
  · rw [if_pos h, rgt_dg1 R (by omega) p hp, h]
  · rw [if_neg h, show tb w 0 = 0 by omega]
    unfold dg
    rw [Nat.zero_div]
theorem dg_right {A : wa} (hA : wa_ok A) {R p w : Nat} (hp : p < R) : ∀ m, R ≤ m → m ≤ an A → dg (rr A R m w) p = tb w 0
  | 0, h, _ => by omega
  | m + 1, h, hm => by
    have h6 := hA.1
    by_cases e : m + 1 = R
    · rw [e, rr_at, rgt_dg (by omega) hp]
    · rw [rr_ne e, dg_ro_low (by omega), dg_right hA hp m (by omega) (by omega)]
/-- the bin at a place in a world at the end -/
def fin (A : wa) (R w p : Nat) : Nat := dg (rr A R (an A) w) p
theorem fin_le (A : wa) (R w p : Nat) : fin A R w p ≤ 2 := by unfold fin dg; omega
theorem fin_right {A : wa} (hA : wa_ok A) {R p w : Nat} (h1 : p < R) (h2 : R ≤ an A) : fin A R w p = tb w 0 := dg_right hA h1 (an A) h2 (Nat.le_refl _)
theorem fin_keep {A : wa} (hA : wa_ok A) {R p w : Nat} (hp : p < an A) (h : ¬ (p < R ∧ R ≤ an A)) : fin A R w p = abin A (wzW A (rr A R p) p) p (sg w (aho A p)) (rr A R p w) := by
  unfold fin
  rw [dg_keep (an A) hp h, dg_ro_top hA]
/-- worlds in which the bin at p is b and the colour c -/
def cnt (A : wa) (R p c b : Nat) : Nat := sm (nw A) (fun w => if tb w 0 = c ∧ fin A R w p = b then wt A w else 0)
def beh (A : wa) (p : Nat) : Nat := 10 ^ (an A - (p + 1))
theorem cnt_keep {A : wa} (hA : wa_ok A) {R p : Nat} (hp : p < an A) (h : ¬ (p < R ∧ R ≤ an A)) {c : Nat} (hc : c ≤ 1) (b : Nat) : cnt A R p c b = bw A (dpr A R p) p c b * beh A p := by
  have hh := hA.2.2.2.1 p hp
  have := tt_bins hA hp (rr_lt hA R p) (fun x hx => rr_inv hA R hx hh.1 p (by omega)) (tt_rr hA R p (by omega)) hc b (fun _ => True)
  simp only [and_true, if_true] at this
  unfold cnt beh bw
  rw [← this]
  refine sm_congr fun w _ => ?_
  rw [fin_keep hA hp h]
theorem cnt_right {A : wa} (hA : wa_ok A) {R p : Nat} (h1 : p < R) (h2 : R ≤ an A) {c b : Nat} (hb : c ≠ b) : cnt A R p c b = 0 := by
  refine sm_zero' fun w _ => if_neg ?_
  rintro ⟨t, k⟩
  rw [fin_right hA h1 h2] at k
  omega
/-- how often the bin at p is wrong, and how often both are out -/
def wrP (A : wa) (R p : Nat) : Nat := cnt A R p 1 0 + cnt A R p 0 1
def boP (A : wa) (R p : Nat) : Nat := cnt A R p 1 2 + cnt A R p 0 2
def isW (A : wa) (R w p : Nat) : Prop := fin A R w p < 2 ∧ fin A R w p ≠ tb w 0
theorem isW_iff {A : wa} {R w p : Nat} : (fin A R w p < 2 ∧ fin A R w p ≠ tb w 0) ↔ (tb w 0 = 1 ∧ fin A R w p = 0) ∨ (tb w 0 = 0 ∧ fin A R w p = 1) := by
  have := tb_lt w 0
  omega
theorem wrP_eq (A : wa) (R p : Nat) : wrP A R p = sm (nw A) (fun w => if fin A R w p < 2 ∧ fin A R w p ≠ tb w 0 then wt A w else 0) := by
  unfold wrP cnt
  rw [← sm_add]
  refine sm_congr fun w _ => ?_
  have := tb_lt w 0
  by_cases a : tb w 0 = 1 ∧ fin A R w p = 0
  · rw [if_pos a, if_neg (by omega), if_pos (by omega), Nat.add_zero]
  · rw [if_neg a, Nat.zero_add]
    by_cases b : tb w 0 = 0 ∧ fin A R w p = 1
    · rw [if_pos b, if_pos (by omega)]
    · rw [if_neg b, if_neg (by omega)]
theorem boP_eq (A : wa) (R p : Nat) : boP A R p = sm (nw A) (fun w => if fin A R w p = 2 then wt A w else 0) := by
  unfold boP cnt
  rw [← sm_add]
  refine sm_congr fun w _ => ?_
  have := tb_lt w 0
  by_cases a : tb w 0 = 1 ∧ fin A R w p = 2
  · rw [if_pos a, if_neg (by omega), if_pos (by omega), Nat.add_zero]
  · rw [if_neg a, Nat.zero_add]
    by_cases b : tb w 0 = 0 ∧ fin A R w p = 2
    · rw [if_pos b, if_pos (by omega)]
    · rw [if_neg b, if_neg (by omega)]
/-- over houses as over places -/
theorem sm_perm {n : Nat} {pl ho : Nat → Nat} (h1 : ∀ h, h < n → pl h < n ∧ ho (pl h) = h) (h2 : ∀ p, p < n → ho p < n ∧ pl (ho p) = p) (f : Nat → Nat) : sm n (fun h => f (pl h)) = sm n f := by
  rw [sm_part n n pl _ (fun i hi => (h1 i hi).1)]
  refine sm_congr fun p hp => ?_
  rw [← sm_one (h2 p hp).1 (f p)]
  refine sm_congr fun h hh => ?_
  by_cases e : h = ho p
  · rw [if_pos e, if_pos (by rw [e, (h2 p hp).2]), e, (h2 p hp).2]
  · rw [if_neg e, if_neg]
    intro k
    exact e (by rw [← k, (h1 h hh).2])
theorem sm_house {A : wa} (hA : wa_ok A) (f : Nat → Nat) : sm (an A) (fun h => f (apl A h)) = sm (an A) f := sm_perm hA.2.2.1 hA.2.2.2.1 f
theorem sm_ind {n : Nat} (P : Nat → Prop) [DecidablePred P] (c : Nat) : sm n (fun i => if P i then c else 0) = c * sm n (fun i => if P i then 1 else 0) := by
  rw [← sm_mul]
  refine sm_congr fun i _ => ?_
  by_cases h : P i
  · rw [if_pos h, if_pos h, Nat.mul_one]
  · rw [if_neg h, if_neg h, Nat.mul_zero]
/-- how many bins are wrong in a world -/
def wrW (A : wa) (R w : Nat) : Nat := sm (an A) (fun p => if fin A R w p < 2 ∧ fin A R w p ≠ tb w 0 then 1 else 0)
def boW (A : wa) (R w : Nat) : Nat := sm (an A) (fun p => if fin A R w p = 2 then 1 else 0)
theorem wr_sum (A : wa) (R : Nat) : sm (an A) (wrP A R) = sm (nw A) (fun w => wt A w * wrW A R w) := by
  rw [sm_congr (fun p _ => wrP_eq A R p), sm_comm]
  refine sm_congr fun w _ => ?_
  rw [wrW, sm_ind]
theorem bo_sum (A : wa) (R : Nat) : sm (an A) (boP A R) = sm (nw A) (fun w => wt A w * boW A R w) := by
  rw [sm_congr (fun p _ => boP_eq A R p), sm_comm]
  refine sm_congr fun w _ => ?_
  rw [boW, sm_ind]
theorem dg_zero (r : Nat) : dg r 0 = r % 3 := by unfold dg; rw [Nat.pow_zero, Nat.div_one]
theorem dg_succ (r q : Nat) : dg r (q + 1) = dg (r / 3) q := by unfold dg; rw [Nat.pow_succ, Nat.mul_comm, ← Nat.div_div_eq_div_mul]
theorem sm_head (n : Nat) (f : Nat → Nat) : sm (n + 1) f = f 0 + sm n (fun i => f (i + 1)) := by
  rw [Nat.add_comm n 1, sm_split]
  congr 1
  · show 0 + f 0 = f 0
    omega
  · exact sm_congr fun i _ => by rw [Nat.add_comm]
theorem cd_eq (b : Nat) : ∀ (n r : Nat), cd b r n = sm n (fun q => if dg r q = b then 1 else 0)
  | 0, r => rfl
  | n + 1, r => by
    rw [cd, cd_eq b n (r / 3), sm_head, dg_zero]
    congr 1
    exact sm_congr fun q _ => by rw [dg_succ]
theorem dg_div (r m i : Nat) : dg (r / 3 ^ m) i = dg r (m + i) := by
  unfold dg
  rw [Nat.div_div_eq_div_mul, ← Nat.pow_add]
theorem dg_ext : ∀ {n x y : Nat}, x < 3 ^ n → y < 3 ^ n → (∀ i, i < n → dg x i = dg y i) → x = y
  | 0, x, y, hx, hy, _ => by simp at hx hy; omega
  | n + 1, x, y, hx, hy, h => by
    have h0 := h 0 (by omega)
    rw [dg_zero, dg_zero] at h0
    have hr : x / 3 = y / 3 := by
      rw [Nat.pow_succ] at hx hy
      exact dg_ext (n := n) (by omega) (by omega) (fun i hi => by rw [← dg_succ, ← dg_succ]; exact h (i + 1) (by omega))
    omega
theorem div_pow_lt {p m r : Nat} (hm : m ≤ p) (hr : r < 3 ^ p) : r / 3 ^ m < 3 ^ (p - m) := by
  rw [Nat.div_lt_iff_lt_mul (pow3_pos m), ← Nat.pow_add, show p - m + m = p by omega]
  exact hr
/-- what is seen is alike just if the bins in sight are -/
theorem seen_iff {p m x y : Nat} (hm : m ≤ p) (hx : x < 3 ^ p) (hy : y < 3 ^ p) : x / 3 ^ m = y / 3 ^ m ↔ ∀ i, m ≤ i → i < p → dg x i = dg y i := by
  constructor
  · intro h i h1 h2
    rw [show i = m + (i - m) by omega, ← dg_div, ← dg_div, h]
  · intro h
    refine dg_ext (div_pow_lt hm hx) (div_pow_lt hm hy) fun i hi => ?_
    rw [dg_div, dg_div]
    exact h (m + i) (by omega) (by omega)
/-- the rows of all in colour c -/
theorem row_sum {A : wa} (hA : wa_ok A) (R : Nat) {c : Nat} (hc : c ≤ 1) (P : Nat → Prop) [DecidablePred P] : sm (nw A) (fun w => if tb w 0 = c ∧ P (rr A R (an A) w) then wt A w else 0) = sm (3 ^ an A) (fun x => if P x then wcol c (dpr A R (an A)) x else 0) := by
  rw [tt_part hc (rr_lt hA R (an A)) (tt_rr hA R (an A) (Nat.le_refl _)) P, Nat.sub_self, Nat.pow_zero, Nat.mul_one]
theorem wrW_row {A : wa} {R w : Nat} : wrW A R w = cd (if tb w 0 = 1 then 0 else 1) (rr A R (an A) w) (an A) := by
  rw [cd_eq, wrW]
  refine sm_congr fun p _ => ?_
  have := tb_lt w 0
  show (if dg (rr A R (an A) w) p < 2 ∧ dg (rr A R (an A) w) p ≠ tb w 0 then 1 else 0) = _
  have h2 : dg (rr A R (an A) w) p < 3 := Nat.mod_lt _ (by decide)
  by_cases h : tb w 0 = 1
  · simp only [h, if_true]
    by_cases k : dg (rr A R (an A) w) p = 0
    · rw [if_pos (by omega), if_pos k]
    · rw [if_neg (by omega), if_neg k]
  · simp only [h, if_false]
    by_cases k : dg (rr A R (an A) w) p = 1
    · rw [if_pos (by omega), if_pos k]
    · rw [if_neg (by omega), if_neg k]
theorem street_sum {A : wa} (hA : wa_ok A) (R k : Nat) : sm (nw A) (fun w => if wrW A R w = k then wt A w else 0) = sm (3 ^ an A) (fun x => (if cd 0 x (an A) = k then (dpr A R (an A)).1 x else 0) + (if cd 1 x (an A) = k then (dpr A R (an A)).2 x else 0)) := by
  rw [sm_add, show (fun x => if cd 0 x (an A) = k then (dpr A R (an A)).1 x else 0) = (fun x => if cd 0 x (an A) = k then wcol 1 (dpr A R (an A)) x else 0) from rfl, show (fun x => if cd 1 x (an A) = k then (dpr A R (an A)).2 x else 0) = (fun x => if cd 1 x (an A) = k then wcol 0 (dpr A R (an A)) x else 0) from rfl, ← row_sum hA R (c := 1) (by decide) (fun x => cd 0 x (an A) = k), ← row_sum hA R (c := 0) (by decide) (fun x => cd 1 x (an A) = k), ← sm_add]
  refine sm_congr fun w _ => ?_
  have := tb_lt w 0
  rw [wrW_row]
  by_cases h : tb w 0 = 1
  · simp only [h, if_true, true_and, Nat.one_ne_zero, false_and, if_false, Nat.add_zero]
  · have h0 : tb w 0 = 0 := by omega
    simp only [h0, Nat.zero_ne_one, if_false, false_and, true_and, Nat.zero_add]
/-- all weigh 10 times 10 to the houses -/
theorem wt_sum {A : wa} (hA : wa_ok A) : sm (nw A) (wt A) = 10 ^ (an A + 1) := by
  have h0 := ws_all hA 0 (by decide)
  have h1 := ws_all hA 1 (by decide)
  have hb := hA.2.1
  have : sm (nw A) (wt A) = sm (nw A) (fun w => if tb w 0 = 0 then wt A w else 0) + sm (nw A) (fun w => if tb w 0 = 1 then wt A w else 0) := by
    rw [← sm_add]
    refine sm_congr fun w _ => ?_
    have := tb_lt w 0
    rcases (show tb w 0 = 0 ∨ tb w 0 = 1 by omega) with h | h <;> simp [h]
  rw [this, h0, h1, ← Nat.add_mul, show wc A 0 = 10 - aB A from rfl, show wc A 1 = aB A from rfl, show 10 - aB A + aB A = 10 by omega, Nat.pow_succ, Nat.mul_comm]
theorem wrW_le (A : wa) (R w : Nat) : wrW A R w + boW A R w ≤ an A := by
  unfold wrW boW
  rw [← sm_add]
  have h1 : ∀ n, sm n (fun _ => 1) = n := by
    intro n
    induction n with
    | zero => rfl
    | succ n ih => rw [sm, ih]
  rw [← h1 (an A)]
  refine Nat.le_trans (sm_le (g := fun _ => 1) fun p _ => ?_) (Nat.le_of_eq (by rw [h1, h1]))
  by_cases h : fin A R w p = 2
  · rw [if_neg (by omega), if_pos h]; exact Nat.le_refl _
  · rw [if_neg h]; split <;> omega
theorem wrP_le {A : wa} (hA : wa_ok A) (R p : Nat) : wrP A R p + boP A R p ≤ 10 ^ (an A + 1) := by
  rw [wrP_eq, boP_eq, ← sm_add, ← wt_sum hA]
  refine sm_le fun w _ => ?_
  by_cases h : fin A R w p = 2
  · rw [if_neg (by omega), if_pos h, Nat.zero_add]; exact Nat.le_refl _
  · rw [if_neg h]; split <;> omega
