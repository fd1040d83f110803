/-! The class's state in numbers, and what its methods compute. -/
section ABP
/-- an answer that is 1 or 0 -/
def kz_b (P : Prop) (r : Int32) : Prop := (r = 1 ∧ P) ∨ (r = 0 ∧ ¬ P)
theorem kz_b.t {P : Prop} {r : Int32} (h : kz_b P r) (c : ¬ r = 0) : P := by
  rcases h with h | h
  · exact h.2
  · exact absurd h.1 c
theorem kz_b.f {P : Prop} {r : Int32} (h : kz_b P r) (c : r = 0) : ¬ P := by
  rcases h with h | h
  · rw [h.1] at c; exact absurd c (by decide)
  · exact h.2
/-- a place, or -1 -/
def oI : Option Nat → Int32
  | none => -1
  | some k => nI k
theorem oI_n {o : Option Nat} (h : oI o = -1) (hb : ∀ k, o = some k → k < 2 ^ 31) : o = none := by
  cases o with
  | none => rfl
  | some k =>
    have h1 : nI k = -1 := h
    have h2 := nI_pos (hb k rfl)
    rw [h1] at h2
    exact absurd (by decide) h2
def ab_bef (D R : Nat → Int32) (a b : Nat) : Bool := if D a = D b then decide (R a < R b) else decide (D a < D b)
/-- the first of those below n, by due time, then rank -/
def ab_fst (S D R : Nat → Int32) : Nat → Option Nat
  | 0 => none
  | n + 1 => if S n = 0 then ab_fst S D R n else match ab_fst S D R n with
    | none => some n
    | some k => if ab_bef D R n k then some n else some k
theorem ab_fst_lt {S D R : Nat → Int32} : ∀ {n k : Nat}, ab_fst S D R n = some k → k < n ∧ S k ≠ 0 := by
  intro n
  induction n with
  | zero => intro k h; cases h
  | succ n ih =>
    intro k h
    unfold ab_fst at h
    by_cases h0 : S n = 0
    · rw [if_pos h0] at h
      exact ⟨Nat.lt_succ_of_lt (ih h).1, (ih h).2⟩
    · rw [if_neg h0] at h
      cases hf : ab_fst S D R n with
      | none => rw [hf] at h; cases h; exact ⟨Nat.lt_succ_self _, h0⟩
      | some j =>
        rw [hf] at h
        dsimp only at h
        split at h
        · cases h; exact ⟨Nat.lt_succ_self _, h0⟩
        · cases h; exact ⟨Nat.lt_succ_of_lt (ih hf).1, (ih hf).2⟩
theorem ab_fst_0 {S D R : Nat → Int32} {n : Nat} (h : S n = 0) : ab_fst S D R (n + 1) = ab_fst S D R n := by
  show (if S n = 0 then _ else _) = _
  rw [if_pos h]
theorem ab_fst_n {S D R : Nat → Int32} {n : Nat} (h : ¬ S n = 0) (h1 : ab_fst S D R n = none) : ab_fst S D R (n + 1) = some n := by
  show (if S n = 0 then _ else _) = _
  rw [if_neg h, h1]
theorem ab_fst_t {S D R : Nat → Int32} {n k : Nat} (h : ¬ S n = 0) (h1 : ab_fst S D R n = some k) (h2 : ab_bef D R n k = true) : ab_fst S D R (n + 1) = some n := by
  show (if S n = 0 then _ else _) = _
  rw [if_neg h, h1]
  show (if ab_bef D R n k then some n else some k) = _
  rw [if_pos h2]
theorem ab_fst_f {S D R : Nat → Int32} {n k : Nat} (h : ¬ S n = 0) (h1 : ab_fst S D R n = some k) (h2 : ¬ ab_bef D R n k = true) : ab_fst S D R (n + 1) = some k := by
  show (if S n = 0 then _ else _) = _
  rw [if_neg h, h1]
  show (if ab_bef D R n k then some n else some k) = _
  rw [if_neg h2]
/-- how many below n -/
def ab_cnt (P : Nat → Bool) : Nat → Nat
  | 0 => 0
  | n + 1 => ab_cnt P n + if P n then 1 else 0
theorem ab_cnt_t {P : Nat → Bool} {n : Nat} (h : P n = true) : ab_cnt P (n + 1) = ab_cnt P n + 1 := by
  show _ + (if P n then 1 else 0) = _
  rw [if_pos h]
theorem ab_cnt_f {P : Nat → Bool} {n : Nat} (h : ¬ P n = true) : ab_cnt P (n + 1) = ab_cnt P n := by
  show _ + (if P n then 1 else 0) = _
  rw [if_neg h]; rfl
/-- stopAll, when the places below k are through -/
def ab_sa (S T : Nat → Int32) (t : Int32) (k : Nat) : Nat → Int32 := fun j => if j < k ∧ S j ≠ 0 ∧ T j = t then 0 else S j
theorem ab_sa_0 (S T : Nat → Int32) (t : Int32) : ab_sa S T t 0 = S := by
  funext j
  unfold ab_sa
  rw [if_neg (fun h => absurd h.1 (Nat.not_lt_zero j))]
theorem ab_sa_at (S T : Nat → Int32) (t : Int32) (k : Nat) : ab_sa S T t k k = S k := by
  unfold ab_sa
  rw [if_neg (fun h => absurd h.1 (Nat.lt_irrefl k))]
theorem ab_sa_t {S T : Nat → Int32} {t : Int32} {k : Nat} (h : S k ≠ 0) (h2 : T k = t) : upd (ab_sa S T t k) k 0 = ab_sa S T t (k + 1) := by
  funext j
  unfold upd ab_sa
  by_cases e : j = k
  · subst e
    rw [if_pos rfl, if_pos ⟨Nat.lt_succ_self _, h, h2⟩]
  · rw [if_neg e]
    by_cases q : j < k ∧ S j ≠ 0 ∧ T j = t
    · rw [if_pos q, if_pos ⟨Nat.lt_succ_of_lt q.1, q.2⟩]
    · rw [if_neg q, if_neg (fun z => q ⟨by have := z.1; omega, z.2⟩)]
theorem ab_sa_f {S T : Nat → Int32} {t : Int32} {k : Nat} (h : ¬ (S k ≠ 0 ∧ T k = t)) : ab_sa S T t k = ab_sa S T t (k + 1) := by
  funext j
  unfold ab_sa
  by_cases e : j = k
  · subst e
    rw [if_neg (fun z => h z.2), if_neg (fun z => h z.2)]
  · by_cases q : j < k ∧ S j ≠ 0 ∧ T j = t
    · rw [if_pos q, if_pos ⟨Nat.lt_succ_of_lt q.1, q.2⟩]
    · rw [if_neg q, if_neg (fun z => q ⟨by have := z.1; omega, z.2⟩)]
end ABP
