/-! The reference: its cells, and its state in numbers. -/
section MDST
abbrev mdW (h1 b1 b2 b3 : Nat) (cJ : ClassId) (cd nw rk : Int32) (K E L : Nat → Int32) (td wd : Int32) : va_W := [(h1, .inr (1, [.int cd, .int nw, .int rk, .ref b1, .ref b2, .ref b3, .int td, .int wd])), (b1, .inl (cJ, 512, .inl K)), (b2, .inl (cJ, 512, .inl E)), (b3, .inl (cJ, 512, .inl L))]
abbrev mdT (cJ : ClassId) : List (ClassId × FieldType) := [(cJ, .int)]
abbrev MDs : Type := Int32 × Int32 × Int32 × (Nat → Int32) × (Nat → Int32) × (Nat → Int32) × Int32 × Int32
abbrev mdU (h1 b1 b2 b3 : Nat) (cJ : ClassId) (u : MDs) : va_W := mdW h1 b1 b2 b3 cJ u.1 u.2.1 u.2.2.1 u.2.2.2.1 u.2.2.2.2.1 u.2.2.2.2.2.1 u.2.2.2.2.2.2.1 u.2.2.2.2.2.2.2
def md_al (K : Nat → Int32) (x : Int32) : Prop := ∃ k : Nat, k < 512 ∧ x = nI k ∧ ¬ K k ≤ 0
/-- where the reference has an alarm, as the class would have it -/
def md_S (K : Nat → Int32) : Nat → Int32 := fun j => if K j ≤ 0 then 0 else 1
theorem md_S0 {K : Nat → Int32} {j : Nat} (h : K j ≤ 0) : md_S K j = 0 := by unfold md_S; rw [if_pos h]
theorem md_S1 {K : Nat → Int32} {j : Nat} (h : ¬ K j ≤ 0) : ¬ md_S K j = 0 := by unfold md_S; rw [if_neg h]; decide
theorem md_Sn {K : Nat → Int32} {j : Nat} (h : ¬ md_S K j = 0) : ¬ K j ≤ 0 := fun q => h (md_S0 q)
theorem md_blt {E K : Nat → Int32} {a b : Nat} (h : E a < E b) : ab_bef E K a b = true := by
  unfold ab_bef
  rw [if_neg (fun e => by rw [e] at h; exact Int32.lt_irrefl h)]
  exact decide_eq_true h
theorem md_bne {E K : Nat → Int32} {a b : Nat} (h : ¬ E a < E b) (h2 : ¬ E a = E b) : ¬ ab_bef E K a b = true := by
  unfold ab_bef
  rw [if_neg h2]
  exact fun q => h (of_decide_eq_true q)
theorem md_bge {E K : Nat → Int32} {a b : Nat} (h2 : E a = E b) (h : K b ≤ K a) : ¬ ab_bef E K a b = true := by
  unfold ab_bef
  rw [if_pos h2]
  exact fun q => Int32.not_lt.mpr h (of_decide_eq_true q)
theorem md_beq {E K : Nat → Int32} {a b : Nat} (h2 : E a = E b) (h : ¬ K b ≤ K a) : ab_bef E K a b = true := by
  unfold ab_bef
  rw [if_pos h2]
  exact decide_eq_true (Int32.not_le.mp h)
theorem oI_neg {o : Option Nat} (h : oI o < 0) (hb : ∀ k, o = some k → k < 2 ^ 31) : o = none := by
  cases o with
  | none => rfl
  | some k => exact absurd h (nI_pos (hb k rfl))
theorem oI_pos {o : Option Nat} (h : ¬ oI o < 0) : ∃ k, o = some k := by
  cases o with
  | none => exact absurd (by decide) h
  | some k => exact ⟨k, rfl⟩
/-- stopAll of the reference, when the places below k are through -/
def md_sa (K L : Nat → Int32) (t : Int32) (k : Nat) : Nat → Int32 := fun j => if j < k ∧ ¬ K j ≤ 0 ∧ L j = t then 0 else K j
theorem md_sa_0 (K L : Nat → Int32) (t : Int32) : md_sa K L t 0 = K := by
  funext j
  unfold md_sa
  rw [if_neg (fun h => absurd h.1 (Nat.not_lt_zero j))]
theorem md_sa_at (K L : Nat → Int32) (t : Int32) (k : Nat) : md_sa K L t k k = K k := by
  unfold md_sa
  rw [if_neg (fun h => absurd h.1 (Nat.lt_irrefl k))]
theorem md_sa_t {K L : Nat → Int32} {t : Int32} {k : Nat} (h : ¬ K k ≤ 0) (h2 : L k = t) : upd (md_sa K L t k) k 0 = md_sa K L t (k + 1) := by
  funext j
  unfold upd md_sa
  by_cases e : j = k
  · subst e
    rw [if_pos rfl, if_pos ⟨Nat.lt_succ_self _, h, h2⟩]
  · rw [if_neg e]
    by_cases q : j < k ∧ ¬ K j ≤ 0 ∧ L j = t
    · rw [if_pos q, if_pos ⟨Nat.lt_succ_of_lt q.1, q.2⟩]
    · rw [if_neg q, if_neg (fun z => q ⟨by have := z.1; omega, z.2⟩)]
theorem md_sa_f {K L : Nat → Int32} {t : Int32} {k : Nat} (h : ¬ (¬ K k ≤ 0 ∧ L k = t)) : md_sa K L t k = md_sa K L t (k + 1) := by
  funext j
  unfold md_sa
  by_cases e : j = k
  · subst e
    rw [if_neg (fun z => h z.2), if_neg (fun z => h z.2)]
  · by_cases q : j < k ∧ ¬ K j ≤ 0 ∧ L j = t
    · rw [if_pos q, if_pos ⟨Nat.lt_succ_of_lt q.1, q.2⟩]
    · rw [if_neg q, if_neg (fun z => q ⟨by have := z.1; omega, z.2⟩)]
end MDST
