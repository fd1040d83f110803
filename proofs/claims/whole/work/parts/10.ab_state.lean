/-! AlarmBench: its cells, and its state in numbers. -/
section ABST
abbrev abW (h0 a1 a2 a3 a4 : Nat) (cZ cI : ClassId) (S Du T Rk : Nat → Int32) (now lr rt rd : Int32) : va_W := [(h0, .inr (0, [.ref a1, .ref a2, .ref a3, .ref a4, .int now, .int lr, .int rt, .int rd])), (a1, .inl (cZ, 512, .inl S)), (a2, .inl (cI, 512, .inl Du)), (a3, .inl (cI, 512, .inl T)), (a4, .inl (cI, 512, .inl Rk))]
abbrev abT (cZ cI : ClassId) : List (ClassId × FieldType) := [(cZ, .boolean), (cI, .int)]
abbrev ABs : Type := (Nat → Int32) × (Nat → Int32) × (Nat → Int32) × (Nat → Int32) × Int32 × Int32 × Int32 × Int32
abbrev abU (h0 a1 a2 a3 a4 : Nat) (cZ cI : ClassId) (u : ABs) : va_W := abW h0 a1 a2 a3 a4 cZ cI u.1 u.2.1 u.2.2.1 u.2.2.2.1 u.2.2.2.2.1 u.2.2.2.2.2.1 u.2.2.2.2.2.2.1 u.2.2.2.2.2.2.2
def ab_ok (x : Int32) : Prop := ¬ x < 0 ∧ ¬ 1000000000 < x
def ab_ex (S : Nat → Int32) (x : Int32) : Prop := ∃ k : Nat, k < 512 ∧ x = nI k ∧ ¬ S k = 0
end ABST
