/-! Class and reference side by side: the relation between their states, and that each call keeps it. -/
section SIM
def smA (S Du T Rk K E L : Nat → Int32) : Prop := ∀ j, j < 512 → (S j = 0 ↔ K j ≤ 0) ∧ (¬ S j = 0 → Rk j = K j ∧ Du j = E j ∧ T j = L j)
def sim (n : Nat) (u : ABs) (v : MDs) : Prop := smA u.1 u.2.1 u.2.2.1 u.2.2.2.1 v.2.2.2.1 v.2.2.2.2.1 v.2.2.2.2.2.1 ∧ u.2.2.2.2.1 = v.2.1 ∧ u.2.2.2.2.2.1 = v.2.2.1 ∧ u.2.2.2.2.2.2.1 = v.2.2.2.2.2.2.1 ∧ u.2.2.2.2.2.2.2 = v.2.2.2.2.2.2.2 ∧ ∃ q : Nat, q ≤ n ∧ u.2.2.2.2.2.1 = nI q
theorem smA_put {S Du T Rk K E L : Nat → Int32} {k : Nat} {d t q : Int32} (h : smA S Du T Rk K E L) (hq : ¬ q ≤ 0) : smA (upd S k 1) (upd Du k d) (upd T k t) (upd Rk k q) (upd K k q) (upd E k d) (upd L k t) := by
  intro j hj
  unfold upd
  by_cases e : j = k
  · simp only [e, if_true]
    exact ⟨⟨fun z => absurd z (by decide), fun z => absurd z hq⟩, fun _ => ⟨trivial, trivial, trivial⟩⟩
  · simp only [if_neg e]
    exact h j hj
theorem smA_shift {S Du T Rk K E L : Nat → Int32} {k : Nat} {d q : Int32} (h : smA S Du T Rk K E L) (hk : k < 512) (hS : ¬ S k = 0) (hq : ¬ q ≤ 0) : smA S (upd Du k d) T (upd Rk k q) (upd K k q) (upd E k d) (upd L k (L k)) := by
  intro j hj
  unfold upd
  by_cases e : j = k
  · simp only [e, if_true]
    exact ⟨⟨fun z => absurd z hS, fun z => absurd z hq⟩, fun _ => ⟨trivial, trivial, ((h k hk).2 hS).2.2⟩⟩
  · simp only [if_neg e]
    exact h j hj
theorem smA_stop {S Du T Rk K E L : Nat → Int32} {k : Nat} (h : smA S Du T Rk K E L) : smA (upd S k 0) Du T Rk (upd K k 0) E L := by
  intro j hj
  unfold upd
  by_cases e : j = k
  · simp only [e, if_true]
    exact ⟨⟨fun _ => by decide, fun _ => trivial⟩, fun z => absurd trivial z⟩
  · simp only [if_neg e]
    exact h j hj
theorem smA_sa {S Du T Rk K E L : Nat → Int32} {x : Int32} (h : smA S Du T Rk K E L) : smA (ab_sa S T x 512) Du T Rk (md_sa K L x 512) E L := by
  intro j hj
  obtain ⟨h1, h2⟩ := h j hj
  unfold ab_sa md_sa
  by_cases e : S j = 0
  · rw [if_neg (fun z => z.2.1 e), if_neg (fun z => z.2.1 (h1.mp e))]
    exact ⟨h1, h2⟩
  · have ek : ¬ K j ≤ 0 := fun z => e (h1.mpr z)
    by_cases t : T j = x
    · rw [if_pos ⟨hj, e, t⟩, if_pos ⟨hj, ek, by rw [← (h2 e).2.2]; exact t⟩]
      exact ⟨⟨fun _ => by decide, fun _ => rfl⟩, fun z => absurd rfl z⟩
    · rw [if_neg (fun z => t z.2.2), if_neg (fun z => t (by rw [(h2 e).2.2]; exact z.2.2))]
      exact ⟨h1, h2⟩
theorem sim_fst {S Du T Rk K E L : Nat → Int32} (h : smA S Du T Rk K E L) : ∀ n, n ≤ 512 → ab_fst S Du Rk n = ab_fst (md_S K) E K n := by
  intro n
  induction n with
  | zero => intro _; rfl
  | succ n ih =>
    intro hn
    have e := ih (by omega)
    obtain ⟨h1, h2⟩ := h n (by omega)
    by_cases hS : S n = 0
    · rw [ab_fst_0 hS, ab_fst_0 (md_S0 (h1.mp hS)), e]
    · have hK : ¬ md_S K n = 0 := md_S1 (fun z => hS (h1.mpr z))
      cases hf : ab_fst S Du Rk n with
      | none => rw [ab_fst_n hS hf, ab_fst_n hK (by rw [← e]; exact hf)]
      | some k =>
        obtain ⟨hk, hSk⟩ := ab_fst_lt hf
        obtain ⟨g1, g2, -⟩ := (h k (by omega)).2 hSk
        obtain ⟨g3, g4, -⟩ := h2 hS
        have hb : ab_bef Du Rk n k = ab_bef E K n k := by unfold ab_bef; rw [g1, g2, g3, g4]
        by_cases hbt : ab_bef Du Rk n k = true
        · rw [ab_fst_t hS hf hbt, ab_fst_t hK (by rw [← e]; exact hf) (by rw [← hb]; exact hbt)]
        · rw [ab_fst_f hS hf hbt, ab_fst_f hK (by rw [← e]; exact hf) (by rw [← hb]; exact hbt)]
theorem sim_cnt {P Q : Nat → Bool} : ∀ n, (∀ j, j < n → P j = Q j) → ab_cnt P n = ab_cnt Q n := by
  intro n
  induction n with
  | zero => intro _; rfl
  | succ n ih =>
    intro h
    show ab_cnt P n + (if P n then 1 else 0) = ab_cnt Q n + (if Q n then 1 else 0)
    rw [ih (fun j hj => h j (by omega)), h n (by omega)]
theorem sim_up {n m : Nat} {u : ABs} {v : MDs} (h : sim n u v) (hm : n ≤ m) : sim m u v := by
  obtain ⟨h1, h2, h3, h4, h5, q, hq, h6⟩ := h
  exact ⟨h1, h2, h3, h4, h5, q, Nat.le_trans hq hm, h6⟩
theorem sim_ex {S Du T Rk K E L : Nat → Int32} (h : smA S Du T Rk K E L) (x : Int32) : ab_ex S x ↔ md_al K x := by
  constructor
  · intro ⟨k, hk, e, z⟩
    exact ⟨k, hk, e, fun q => z ((h k hk).1.mpr q)⟩
  · intro ⟨k, hk, e, z⟩
    exact ⟨k, hk, e, fun q => z ((h k hk).1.mp q)⟩
theorem sim_rk {q : Nat} (hq : q < 512) : nI q + 1 = nI (q + 1) ∧ ¬ nI q + 1 ≤ 0 := ⟨nI_1 q, by rw [nI_1]; exact nI_nle (by omega) (by omega)⟩
theorem sim_one {a b : Nat} (ha : a < 512) (hb : b < 512) (h : nI a = nI b) : a = b := (nI_eq (by omega) (by omega)).mp h

set_option maxHeartbeats 1000000 in
theorem sim_set {n : Nat} {S Du T Rk : Nat → Int32} {now lr rt rd : Int32} {cd nw rk : Int32} {K E L : Nat → Int32} {td wd : Int32} {x t r r2 : Int32} {v : HLs} {m9 : MDs} (hn : n < 512) (h : sim n (S, Du, T, Rk, now, lr, rt, rd) (cd, nw, rk, K, E, L, td, wd)) (hu : (r = 0 ∧ ∃ r1 : Int32, (∃ k : Nat, k < 512 ∧ r1 = nI k ∧ S k = 0 ∧ (∀ j, j < k → ¬ S j = 0) ∧ ab_ok x ∧ ¬ 1000000000 - now < x ∧ v.1 = (upd S k 1, upd Du k (now + x), upd T k t, upd Rk k (lr + 1), now, lr + 1, rt, rd)) ∧ v.2 0 = r1.toInt64) ∨ (r = 1 ∧ v.1 = (S, Du, T, Rk, now, lr, rt, rd) ∧ ¬ ab_ok x) ∨ (r = 2 ∧ v.1 = (S, Du, T, Rk, now, lr, rt, rd) ∧ ab_ok x ∧ ((∀ j, j < 512 → ¬ S j = 0) ∨ 1000000000 - now < x))) (hm : ∃ k : Nat, k ≤ 512 ∧ (∀ j, j < k → ¬ K j ≤ 0) ∧ (k < 512 → K k ≤ 0) ∧ ((¬ ab_ok x ∧ m9 = (1, nw, rk, K, E, L, td, wd)) ∨ (ab_ok x ∧ (k = 512 ∨ 1000000000 - nw < x) ∧ m9 = (2, nw, rk, K, E, L, td, wd)) ∨ (ab_ok x ∧ k < 512 ∧ ¬ 1000000000 - nw < x ∧ r2 = nI k ∧ m9 = (0, nw, rk + 1, upd K k (rk + 1), upd E k (nw + x), upd L k t, td, wd)))) : m9.1 = r ∧ (r = 0 → v.2 0 = r2.toInt64) ∧ sim (n + 1) v.1 m9 := by
  obtain ⟨v1, F'⟩ := v
  unfold sim at h
  dsimp only at h hu ⊢
  obtain ⟨hA, rfl, rfl, rfl, rfl, q, hq, rfl⟩ := h
  obtain ⟨hr1, hr0⟩ := sim_rk (q := q) (by omega)
  obtain ⟨k', hk', hlo', hat', hm⟩ := hm
  rcases hu with ⟨rfl, r1, ⟨k, hk, rfl, hS0, hlo, hok, hbe, rfl⟩, hF⟩ | ⟨rfl, rfl, hok⟩ | ⟨rfl, rfl, hok, hfull⟩
  · have hkk : k = k' := by
      rcases Nat.lt_trichotomy k k' with z | z | z
      · exact absurd ((hA k hk).1.mp hS0) (hlo' k z)
      · exact z
      · exact absurd ((hA k' (by omega)).1.mpr (hat' (by omega))) (hlo k' z)
    subst hkk
    rcases hm with ⟨z, -⟩ | ⟨-, z, -⟩ | ⟨-, -, -, rfl, rfl⟩
    · exact absurd hok z
    · exact absurd z (fun z => z.elim (fun z => by omega) hbe)
    · exact ⟨rfl, fun _ => hF, smA_put hA hr0, rfl, rfl, rfl, rfl, q + 1, by omega, hr1⟩
  · rcases hm with ⟨-, rfl⟩ | ⟨z, -⟩ | ⟨z, -⟩
    · exact ⟨rfl, fun z => absurd z (by decide), ⟨hA, rfl, rfl, rfl, rfl, q, by omega, rfl⟩⟩
    · exact absurd z hok
    · exact absurd z hok
  · rcases hm with ⟨z, -⟩ | ⟨-, -, rfl⟩ | ⟨-, z1, z2, -⟩
    · exact absurd hok z
    · exact ⟨rfl, fun z => absurd z (by decide), ⟨hA, rfl, rfl, rfl, rfl, q, by omega, rfl⟩⟩
    · rcases hfull with z | z
      · exact absurd ((hA k' z1).1.mpr (hat' z1)) (z k' z1)
      · exact absurd z z2
set_option maxHeartbeats 1000000 in
theorem sim_shift {n : Nat} {S Du T Rk : Nat → Int32} {now lr rt rd : Int32} {cd nw rk : Int32} {K E L : Nat → Int32} {td wd : Int32} {x t r r2 : Int32} {v : HLs} {m9 : MDs} (hn : n < 512) (h : sim n (S, Du, T, Rk, now, lr, rt, rd) (cd, nw, rk, K, E, L, td, wd)) (hu : (r = 0 ∧ ∃ r1 : Int32, (∃ k : Nat, k < 512 ∧ x = nI k ∧ ¬ S k = 0 ∧ ab_ok t ∧ ¬ 1000000000 - now < t ∧ r1 = Du k - now ∧ v.1 = (S, upd Du k (now + t), T, upd Rk k (lr + 1), now, lr + 1, rt, rd)) ∧ v.2 0 = r1.toInt64) ∨ (r = 1 ∧ v.1 = (S, Du, T, Rk, now, lr, rt, rd) ∧ (¬ ab_ex S x ∨ ¬ ab_ok t)) ∨ (r = 2 ∧ v.1 = (S, Du, T, Rk, now, lr, rt, rd) ∧ ab_ex S x ∧ ab_ok t ∧ 1000000000 - now < t)) (hm : (¬ (md_al K x ∧ ab_ok t) ∧ m9 = (1, nw, rk, K, E, L, td, wd)) ∨ (md_al K x ∧ ab_ok t ∧ 1000000000 - nw < t ∧ m9 = (2, nw, rk, K, E, L, td, wd)) ∨ (∃ k : Nat, k < 512 ∧ x = nI k ∧ ¬ K k ≤ 0 ∧ ab_ok t ∧ ¬ 1000000000 - nw < t ∧ r2 = E k - nw ∧ m9 = (0, nw, rk + 1, upd K k (rk + 1), upd E k (nw + t), upd L k (L k), td, wd))) : m9.1 = r ∧ (r = 0 → v.2 0 = r2.toInt64) ∧ sim (n + 1) v.1 m9 := by
  obtain ⟨v1, F'⟩ := v
  unfold sim at h
  dsimp only at h hu ⊢
  obtain ⟨hA, rfl, rfl, rfl, rfl, q, hq, rfl⟩ := h
  obtain ⟨hr1, hr0⟩ := sim_rk (q := q) (by omega)
  have hex := sim_ex hA x
  rcases hu with ⟨rfl, r1, ⟨k, hk, rfl, hS0, hok, hbe, rfl, rfl⟩, hF⟩ | ⟨rfl, rfl, hno⟩ | ⟨rfl, rfl, hx, hok, hbe⟩
  · rcases hm with ⟨z, -⟩ | ⟨-, -, z, -⟩ | ⟨k', hk', e, -, -, -, rfl, rfl⟩
    · exact absurd ⟨hex.mp ⟨k, hk, rfl, hS0⟩, hok⟩ z
    · exact absurd z hbe
    · have e := sim_one hk hk' e
      subst e
      exact ⟨rfl, fun _ => by rw [hF, ((hA k hk).2 hS0).2.1], smA_shift hA hk hS0 hr0, rfl, rfl, rfl, rfl, q + 1, by omega, hr1⟩
  · rcases hm with ⟨-, rfl⟩ | ⟨z1, z2, -⟩ | ⟨k', hk', e, z1, z2, -⟩
    · exact ⟨rfl, fun z => absurd z (by decide), ⟨hA, rfl, rfl, rfl, rfl, q, by omega, rfl⟩⟩
    · exact (hno.elim (fun z => z (hex.mpr z1)) (fun z => z z2)).elim
    · exact (hno.elim (fun z => z (hex.mpr ⟨k', hk', e, z1⟩)) (fun z => z z2)).elim
  · rcases hm with ⟨z, -⟩ | ⟨-, -, -, rfl⟩ | ⟨k', hk', e, -, -, z, -⟩
    · exact absurd ⟨hex.mp hx, hok⟩ z
    · exact ⟨rfl, fun z => absurd z (by decide), ⟨hA, rfl, rfl, rfl, rfl, q, by omega, rfl⟩⟩
    · exact absurd hbe z
set_option maxHeartbeats 1000000 in
theorem sim_stop {n : Nat} {S Du T Rk : Nat → Int32} {now lr rt rd : Int32} {cd nw rk : Int32} {K E L : Nat → Int32} {td wd : Int32} {x r r2 : Int32} {v : HLs} {m9 : MDs} (hn : n < 512) (h : sim n (S, Du, T, Rk, now, lr, rt, rd) (cd, nw, rk, K, E, L, td, wd)) (hu : (r = 0 ∧ ∃ r1 : Int32, (∃ k : Nat, k < 512 ∧ x = nI k ∧ ¬ S k = 0 ∧ r1 = T k ∧ v.1 = (upd S k 0, Du, T, Rk, now, lr, rt, rd)) ∧ v.2 0 = r1.toInt64) ∨ (r = 1 ∧ v.1 = (S, Du, T, Rk, now, lr, rt, rd) ∧ ¬ ab_ex S x)) (hm : (¬ md_al K x ∧ m9 = (1, nw, rk, K, E, L, td, wd)) ∨ (∃ k : Nat, k < 512 ∧ x = nI k ∧ ¬ K k ≤ 0 ∧ r2 = L k ∧ m9 = (0, nw, rk, upd K k 0, E, L, td, wd))) : m9.1 = r ∧ (r = 0 → v.2 0 = r2.toInt64) ∧ sim (n + 1) v.1 m9 := by
  obtain ⟨v1, F'⟩ := v
  unfold sim at h
  dsimp only at h hu ⊢
  obtain ⟨hA, rfl, rfl, rfl, rfl, q, hq, rfl⟩ := h
  have hex := sim_ex hA x
  rcases hu with ⟨rfl, r1, ⟨k, hk, rfl, hS0, rfl, rfl⟩, hF⟩ | ⟨rfl, rfl, hno⟩
  · rcases hm with ⟨z, -⟩ | ⟨k', hk', e, -, rfl, rfl⟩
    · exact absurd (hex.mp ⟨k, hk, rfl, hS0⟩) z
    · have e := sim_one hk hk' e
      subst e
      exact ⟨rfl, fun _ => by rw [hF, ((hA k hk).2 hS0).2.2], smA_stop hA, rfl, rfl, rfl, rfl, q, by omega, rfl⟩
  · rcases hm with ⟨-, rfl⟩ | ⟨k', hk', e, z, -⟩
    · exact ⟨rfl, fun z => absurd z (by decide), ⟨hA, rfl, rfl, rfl, rfl, q, by omega, rfl⟩⟩
    · exact absurd (hex.mpr ⟨k', hk', e, z⟩) hno
set_option maxHeartbeats 1000000 in
theorem sim_pass {n : Nat} {S Du T Rk : Nat → Int32} {now lr rt rd : Int32} {cd nw rk : Int32} {K E L : Nat → Int32} {td wd : Int32} {x r r2 : Int32} {v : HLs} {m9 : MDs} (hn : n < 512) (h : sim n (S, Du, T, Rk, now, lr, rt, rd) (cd, nw, rk, K, E, L, td, wd)) (hu : (r = 0 ∧ ∃ r1 : Int32, (¬ x < 0 ∧ ¬ 200000 < x ∧ ¬ 1000000000 - now < x ∧ r1 = now + x ∧ v.1 = (S, Du, T, Rk, now + x, lr, rt, rd)) ∧ v.2 0 = r1.toInt64) ∨ (r = 1 ∧ v.1 = (S, Du, T, Rk, now, lr, rt, rd) ∧ (x < 0 ∨ 200000 < x)) ∨ (r = 2 ∧ v.1 = (S, Du, T, Rk, now, lr, rt, rd) ∧ ¬ x < 0 ∧ ¬ 200000 < x ∧ 1000000000 - now < x)) (hm : ((x < 0 ∨ 200000 < x) ∧ m9 = (1, nw, rk, K, E, L, td, wd)) ∨ (¬ x < 0 ∧ ¬ 200000 < x ∧ 1000000000 - nw < x ∧ m9 = (2, nw, rk, K, E, L, td, wd)) ∨ (¬ x < 0 ∧ ¬ 200000 < x ∧ ¬ 1000000000 - nw < x ∧ r2 = nw + x ∧ m9 = (0, nw + x, rk, K, E, L, td, wd))) : m9.1 = r ∧ (r = 0 → v.2 0 = r2.toInt64) ∧ sim (n + 1) v.1 m9 := by
  obtain ⟨v1, F'⟩ := v
  unfold sim at h
  dsimp only at h hu ⊢
  obtain ⟨hA, rfl, rfl, rfl, rfl, q, hq, rfl⟩ := h
  rcases hu with ⟨rfl, r1, ⟨h1, h2, h3, rfl, rfl⟩, hF⟩ | ⟨rfl, rfl, hno⟩ | ⟨rfl, rfl, h1, h2, h3⟩
  · rcases hm with ⟨z, -⟩ | ⟨-, -, z, -⟩ | ⟨-, -, -, rfl, rfl⟩
    · exact (z.elim h1 h2).elim
    · exact absurd z h3
    · exact ⟨rfl, fun _ => hF, hA, rfl, rfl, rfl, rfl, q, by omega, rfl⟩
  · rcases hm with ⟨-, rfl⟩ | ⟨z1, z2, -⟩ | ⟨z1, z2, -⟩
    · exact ⟨rfl, fun z => absurd z (by decide), ⟨hA, rfl, rfl, rfl, rfl, q, by omega, rfl⟩⟩
    · exact (hno.elim z1 z2).elim
    · exact (hno.elim z1 z2).elim
  · rcases hm with ⟨z, -⟩ | ⟨-, -, -, rfl⟩ | ⟨-, -, z, -⟩
    · exact (z.elim h1 h2).elim
    · exact ⟨rfl, fun z => absurd z (by decide), ⟨hA, rfl, rfl, rfl, rfl, q, by omega, rfl⟩⟩
    · exact absurd h3 z
theorem sim_01 {w : Int32} (h1 : ¬ w < 0) (h2 : ¬ 1 < w) : w = 0 ∨ w = 1 := by
  obtain ⟨j, hj, rfl⟩ := nI_of2 (n := 1) (by decide) h1 (Int32.not_lt.mp h2)
  rcases (show j = 0 ∨ j = 1 by omega) with rfl | rfl
  · exact Or.inl rfl
  · exact Or.inr rfl
set_option maxHeartbeats 1000000 in
theorem sim_about {n : Nat} {S Du T Rk : Nat → Int32} {now lr rt rd : Int32} {cd nw rk : Int32} {K E L : Nat → Int32} {td wd : Int32} {x w r r2 : Int32} {v : HLs} {m9 : MDs} (hn : n < 512) (h : sim n (S, Du, T, Rk, now, lr, rt, rd) (cd, nw, rk, K, E, L, td, wd)) (hu : (r = 0 ∧ ∃ r1 : Int32, (∃ k : Nat, k < 512 ∧ x = nI k ∧ ¬ S k = 0 ∧ ((w = 0 ∧ r1 = Du k) ∨ (w = 1 ∧ r1 = T k)) ∧ v.1 = (S, Du, T, Rk, now, lr, rt, rd)) ∧ v.2 0 = r1.toInt64) ∨ (r = 1 ∧ v.1 = (S, Du, T, Rk, now, lr, rt, rd) ∧ (¬ ab_ex S x ∨ (¬ w = 0 ∧ ¬ w = 1)))) (hm : (¬ (md_al K x ∧ ¬ w < 0 ∧ ¬ 1 < w) ∧ m9 = (1, nw, rk, K, E, L, td, wd)) ∨ (∃ k : Nat, k < 512 ∧ x = nI k ∧ ¬ K k ≤ 0 ∧ ¬ w < 0 ∧ ¬ 1 < w ∧ ((w = 0 ∧ r2 = E k) ∨ (¬ w = 0 ∧ r2 = L k)) ∧ m9 = (0, nw, rk, K, E, L, td, wd))) : m9.1 = r ∧ (r = 0 → v.2 0 = r2.toInt64) ∧ sim (n + 1) v.1 m9 := by
  obtain ⟨v1, F'⟩ := v
  unfold sim at h
  dsimp only at h hu ⊢
  obtain ⟨hA, rfl, rfl, rfl, rfl, q, hq, rfl⟩ := h
  have hex := sim_ex hA x
  rcases hu with ⟨rfl, r1, ⟨k, hk, rfl, hS0, hw, rfl⟩, hF⟩ | ⟨rfl, rfl, hno⟩
  · rcases hm with ⟨z, -⟩ | ⟨k', hk', e, -, -, -, hw', rfl⟩
    · refine absurd ⟨hex.mp ⟨k, hk, rfl, hS0⟩, ?_⟩ z
      rcases hw with ⟨rfl, -⟩ | ⟨rfl, -⟩
      · exact ⟨by decide, by decide⟩
      · exact ⟨by decide, by decide⟩
    · have e := sim_one hk hk' e
      subst e
      obtain ⟨-, g2, g3⟩ := (hA k hk).2 hS0
      refine ⟨rfl, fun _ => ?_, hA, rfl, rfl, rfl, rfl, q, by omega, rfl⟩
      rcases hw with ⟨rfl, rfl⟩ | ⟨rfl, rfl⟩
      · rcases hw' with ⟨-, rfl⟩ | ⟨z, -⟩
        · rw [hF, g2]
        · exact absurd rfl z
      · rcases hw' with ⟨z, -⟩ | ⟨-, rfl⟩
        · exact absurd z (by decide)
        · rw [hF, g3]
  · rcases hm with ⟨-, rfl⟩ | ⟨k', hk', e, z, z1, z2, -⟩
    · exact ⟨rfl, fun z => absurd z (by decide), ⟨hA, rfl, rfl, rfl, rfl, q, by omega, rfl⟩⟩
    · exact (hno.elim (fun y => y (hex.mpr ⟨k', hk', e, z⟩)) (fun y => (sim_01 z1 z2).elim y.1 y.2)).elim
set_option maxHeartbeats 1000000 in
theorem sim_told {n : Nat} {S Du T Rk : Nat → Int32} {now lr rt rd : Int32} {cd nw rk : Int32} {K E L : Nat → Int32} {td wd : Int32}  {r r2 : Int32} {m9 : MDs} (h : sim n (S, Du, T, Rk, now, lr, rt, rd) (cd, nw, rk, K, E, L, td, wd)) (hu : r = rt) (hm : r2 = td ∧ m9 = (0, nw, rk, K, E, L, td, wd)) : r = r2 ∧ sim (n + 1) (S, Du, T, Rk, now, lr, rt, rd) m9 := by
  unfold sim at h
  dsimp only at h ⊢
  obtain ⟨hA, rfl, rfl, rfl, rfl, q, hq, rfl⟩ := h
  obtain ⟨rfl, rfl⟩ := hm
  exact ⟨hu, ⟨hA, rfl, rfl, rfl, rfl, q, by omega, rfl⟩⟩
set_option maxHeartbeats 1000000 in
theorem sim_wasDue {n : Nat} {S Du T Rk : Nat → Int32} {now lr rt rd : Int32} {cd nw rk : Int32} {K E L : Nat → Int32} {td wd : Int32}  {r r2 : Int32} {m9 : MDs} (h : sim n (S, Du, T, Rk, now, lr, rt, rd) (cd, nw, rk, K, E, L, td, wd)) (hu : r = rd) (hm : r2 = wd ∧ m9 = (0, nw, rk, K, E, L, td, wd)) : r = r2 ∧ sim (n + 1) (S, Du, T, Rk, now, lr, rt, rd) m9 := by
  unfold sim at h
  dsimp only at h ⊢
  obtain ⟨hA, rfl, rfl, rfl, rfl, q, hq, rfl⟩ := h
  obtain ⟨rfl, rfl⟩ := hm
  exact ⟨hu, ⟨hA, rfl, rfl, rfl, rfl, q, by omega, rfl⟩⟩
set_option maxHeartbeats 1000000 in
theorem sim_time {n : Nat} {S Du T Rk : Nat → Int32} {now lr rt rd : Int32} {cd nw rk : Int32} {K E L : Nat → Int32} {td wd : Int32}  {r r2 : Int32} {m9 : MDs} (h : sim n (S, Du, T, Rk, now, lr, rt, rd) (cd, nw, rk, K, E, L, td, wd)) (hu : r = now) (hm : r2 = nw ∧ m9 = (0, nw, rk, K, E, L, td, wd)) : r = r2 ∧ sim (n + 1) (S, Du, T, Rk, now, lr, rt, rd) m9 := by
  unfold sim at h
  dsimp only at h ⊢
  obtain ⟨hA, rfl, rfl, rfl, rfl, q, hq, rfl⟩ := h
  obtain ⟨rfl, rfl⟩ := hm
  exact ⟨hu, ⟨hA, rfl, rfl, rfl, rfl, q, by omega, rfl⟩⟩
set_option maxHeartbeats 1000000 in
theorem sim_next {n : Nat} {S Du T Rk : Nat → Int32} {now lr rt rd : Int32} {cd nw rk : Int32} {K E L : Nat → Int32} {td wd : Int32}  {r r2 : Int32} {m9 : MDs} (h : sim n (S, Du, T, Rk, now, lr, rt, rd) (cd, nw, rk, K, E, L, td, wd)) (hu : r = (match ab_fst S Du Rk 512 with | none => -1 | some k => Du k)) (hm : r2 = (match ab_fst (md_S K) E K 512 with | none => -1 | some k => E k) ∧ m9 = (0, nw, rk, K, E, L, td, wd)) : r = r2 ∧ sim (n + 1) (S, Du, T, Rk, now, lr, rt, rd) m9 := by
  unfold sim at h
  dsimp only at h ⊢
  obtain ⟨hA, rfl, rfl, rfl, rfl, q, hq, rfl⟩ := h
  obtain ⟨rfl, rfl⟩ := hm
  refine ⟨?_, ⟨hA, rfl, rfl, rfl, rfl, q, by omega, rfl⟩⟩
  rw [hu, ← sim_fst hA 512 (Nat.le_refl _)]
  cases hf : ab_fst S Du Rk 512 with
  | none => rfl
  | some k => exact ((hA k (ab_fst_lt hf).1).2 (ab_fst_lt hf).2).2.1
set_option maxHeartbeats 1000000 in
theorem sim_ring {n : Nat} {S Du T Rk : Nat → Int32} {now lr rt rd : Int32} {cd nw rk : Int32} {K E L : Nat → Int32} {td wd : Int32}  {r r2 : Int32} {u9 : ABs} {m9 : MDs} (h : sim n (S, Du, T, Rk, now, lr, rt, rd) (cd, nw, rk, K, E, L, td, wd)) (hu : (match ab_fst S Du Rk 512 with | none => r = -1 ∧ u9 = (S, Du, T, Rk, now, lr, rt, rd) | some k => (Du k ≤ now → r = nI k ∧ u9 = (upd S k 0, Du, T, Rk, now, lr, T k, Du k)) ∧ (¬ Du k ≤ now → r = -1 ∧ u9 = (S, Du, T, Rk, now, lr, rt, rd)))) (hm : (match ab_fst (md_S K) E K 512 with | none => r2 = -1 ∧ m9 = (0, nw, rk, K, E, L, td, wd) | some k => (E k ≤ nw → r2 = nI k ∧ m9 = (0, nw, rk, upd K k 0, E, L, L k, E k)) ∧ (¬ E k ≤ nw → r2 = -1 ∧ m9 = (0, nw, rk, K, E, L, td, wd)))) : r = r2 ∧ sim (n + 1) u9 m9 := by
  unfold sim at h
  dsimp only at h ⊢
  obtain ⟨hA, rfl, rfl, rfl, rfl, q, hq, rfl⟩ := h
  rw [← sim_fst hA 512 (Nat.le_refl _)] at hm
  cases hf : ab_fst S Du Rk 512 with
  | none =>
    rw [hf] at hu hm
    obtain ⟨rfl, rfl⟩ := hu
    obtain ⟨rfl, rfl⟩ := hm
    exact ⟨rfl, ⟨hA, rfl, rfl, rfl, rfl, q, by omega, rfl⟩⟩
  | some k =>
    rw [hf] at hu hm
    dsimp only at hu hm
    obtain ⟨hk, hS0⟩ := ab_fst_lt hf
    obtain ⟨-, g2, g3⟩ := (hA k hk).2 hS0
    rw [← g2, ← g3] at hm
    by_cases hd : Du k ≤ now
    · obtain ⟨rfl, rfl⟩ := hu.1 hd
      obtain ⟨rfl, rfl⟩ := hm.1 hd
      exact ⟨rfl, smA_stop hA, rfl, rfl, rfl, rfl, q, by omega, rfl⟩
    · obtain ⟨rfl, rfl⟩ := hu.2 hd
      obtain ⟨rfl, rfl⟩ := hm.2 hd
      exact ⟨rfl, ⟨hA, rfl, rfl, rfl, rfl, q, by omega, rfl⟩⟩
set_option maxHeartbeats 1000000 in
theorem sim_stopAll {n : Nat} {S Du T Rk : Nat → Int32} {now lr rt rd : Int32} {cd nw rk : Int32} {K E L : Nat → Int32} {td wd : Int32} {x : Int32} {r r2 : Int32} {u9 : ABs} {m9 : MDs} (h : sim n (S, Du, T, Rk, now, lr, rt, rd) (cd, nw, rk, K, E, L, td, wd)) (hu : r = nI (ab_cnt (fun j => !decide (S j = 0) && decide (T j = x)) 512) ∧ u9 = (ab_sa S T x 512, Du, T, Rk, now, lr, rt, rd)) (hm : r2 = nI (ab_cnt (fun j => !decide (K j ≤ 0) && decide (L j = x)) 512) ∧ m9 = (0, nw, rk, md_sa K L x 512, E, L, td, wd)) : r = r2 ∧ sim (n + 1) u9 m9 := by
  unfold sim at h
  dsimp only at h ⊢
  obtain ⟨hA, rfl, rfl, rfl, rfl, q, hq, rfl⟩ := h
  obtain ⟨rfl, rfl⟩ := hu
  obtain ⟨rfl, rfl⟩ := hm
  refine ⟨?_, smA_sa hA, rfl, rfl, rfl, rfl, q, by omega, rfl⟩
  rw [sim_cnt 512 (fun j hj => ?_)]
  obtain ⟨h1, h2⟩ := hA j hj
  by_cases e : S j = 0
  · simp [e, h1.mp e]
  · have ek : ¬ K j ≤ 0 := fun z => e (h1.mpr z)
    simp [e, ek, (h2 e).2.2]
set_option maxHeartbeats 1000000 in
theorem sim_count {n : Nat} {S Du T Rk : Nat → Int32} {now lr rt rd : Int32} {cd nw rk : Int32} {K E L : Nat → Int32} {td wd : Int32} {b : Int32} {r r2 : Int32} {m9 : MDs} (h : sim n (S, Du, T, Rk, now, lr, rt, rd) (cd, nw, rk, K, E, L, td, wd)) (hu : r = nI (ab_cnt (fun j => !decide (S j = 0) && (decide (b = 0) || decide (Du j ≤ now))) 512)) (hm : r2 = nI (ab_cnt (fun j => !decide (K j ≤ 0) && (decide (b = 0) || decide (E j ≤ nw))) 512) ∧ m9 = (0, nw, rk, K, E, L, td, wd)) : r = r2 ∧ sim (n + 1) (S, Du, T, Rk, now, lr, rt, rd) m9 := by
  unfold sim at h
  dsimp only at h ⊢
  obtain ⟨hA, rfl, rfl, rfl, rfl, q, hq, rfl⟩ := h
  obtain ⟨rfl, rfl⟩ := hm
  refine ⟨?_, ⟨hA, rfl, rfl, rfl, rfl, q, by omega, rfl⟩⟩
  rw [hu, sim_cnt 512 (fun j hj => ?_)]
  obtain ⟨h1, h2⟩ := hA j hj
  by_cases e : S j = 0
  · simp [e, h1.mp e]
  · have ek : ¬ K j ≤ 0 := fun z => e (h1.mpr z)
    simp [e, ek, (h2 e).2.1]
theorem sim_0 : sim 0 ((fun _ => 0), (fun _ => 0), (fun _ => 0), (fun _ => 0), 0, 0, 0, -1) (0, 0, 0, (fun _ => 0), (fun _ => 0), (fun _ => 0), 0, -1) := by
  refine ⟨fun j _ => ⟨⟨fun _ => Int32.le_refl 0, fun _ => rfl⟩, fun z => absurd rfl z⟩, rfl, rfl, rfl, rfl, 0, Nat.le_refl _, rfl⟩
end SIM
