/-! The same, with locals and stack written out at every step. -/
def wb_fl {α : Type} : wb_L → (wb_L → α) → α
  | [], k => k []
  | none :: l, k => wb_fl l (fun r => k (none :: r))
  | some (.inl a) :: l, k => wb_fl l (fun r => k (some (.inl a) :: r))
  | some (.inr (.inl a)) :: l, k => wb_fl l (fun r => k (some (.inr (.inl a)) :: r))
  | some (.inr (.inr a)) :: l, k => wb_fl l (fun r => k (some (.inr (.inr a)) :: r))
theorem wb_fl_eq {α : Type} : ∀ (l : wb_L) (k : wb_L → α), wb_fl l k = k l
  | [], k => rfl
  | none :: l, k => by rw [wb_fl, wb_fl_eq l]
  | some (.inl a) :: l, k => by rw [wb_fl, wb_fl_eq l]
  | some (.inr (.inl a)) :: l, k => by rw [wb_fl, wb_fl_eq l]
  | some (.inr (.inr a)) :: l, k => by rw [wb_fl, wb_fl_eq l]
def wb_fs {α : Type} : List wb_V → (List wb_V → α) → α
  | [], k => k []
  | .inl a :: l, k => wb_fs l (fun r => k (.inl a :: r))
  | .inr (.inl a) :: l, k => wb_fs l (fun r => k (.inr (.inl a) :: r))
  | .inr (.inr a) :: l, k => wb_fs l (fun r => k (.inr (.inr a) :: r))
theorem wb_fs_eq {α : Type} : ∀ (l : List wb_V) (k : List wb_V → α), wb_fs l k = k l
  | [], k => rfl
  | .inl a :: l, k => by rw [wb_fs, wb_fs_eq l]
  | .inr (.inl a) :: l, k => by rw [wb_fs, wb_fs_eq l]
  | .inr (.inr a) :: l, k => by rw [wb_fs, wb_fs_eq l]
noncomputable def wb_g2 {ρ : Type} (sc : wb_X) (rt : wb_R → Option ρ) (cut : List Nat) (m : Nat) (cl : List wb_E) : Nat → Nat → wb_L → List wb_V → wb_H → Option ρ
  | 0, p, ls, st, h => wb_Q sc rt m p ls st h
  | f + 1, p, ls, st, h => wb_gx sc rt (fun c => match c with
    | (p', ls', st', h', _) => bif wb_mem p' cut then wb_Q sc rt m p' (wb_dp cl p' ls') st' h' else wb_fl ls' (fun l => wb_fs st' (fun s => wb_g2 sc rt cut m cl f p' l s h'))) (wb_ac true sc m cl (p, ls, st, h, wb_n0))
theorem wb_g2_go {ρ : Type} (sc : wb_X) (rt : wb_R → Option ρ) (cut : List Nat) (m : Nat) (cl : List wb_E) : ∀ (f p : Nat) (ls : wb_L) (st : List wb_V) (h : wb_H), wb_g2 sc rt cut m cl f p ls st h = wb_go sc rt cut m cl f p ls st h
  | 0, p, ls, st, h => rfl
  | f + 1, p, ls, st, h => by
    rw [wb_g2, wb_go]
    congr 1
    funext c
    obtain ⟨p', ls', st', h', n'⟩ := c
    simp only [wb_fl_eq, wb_fs_eq, wb_g2_go sc rt cut m cl f]
theorem wb_g2_eq {ρ : Type} {sc : wb_X} {m : Nat} {cl : List wb_E} (hcl : wb_code m = cl) (rt : wb_R → Option ρ) (cut : List Nat) (f p : Nat) (ls : wb_L) (st : List wb_V) (h : wb_H) : wb_g2 sc rt cut m cl f p ls st h = wb_Q sc rt m p ls st h :=
  (wb_g2_go sc rt cut m cl f p ls st h).trans (wb_go_eq hcl rt cut f p ls st h)
