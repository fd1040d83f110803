set_option maxHeartbeats 4000000 in
set_option maxRecDepth 100000 in
/-- reference: told -/
theorem m_told (l : Launch) (D : va_G) (h1 b1 b2 b3 : Nat) (cJ : ClassId) (cd nw rk : Int32) (K E L : Nat → Int32) (td wd : Int32) (sz : Nat)  : Met l yX1_told wsX1_told ({ frames := 0, cells := 0, slots := 0, locals := 0 } : Room) (kz_Pc D vwCl (mdT cJ) (mdW h1 b1 b2 b3 cJ cd nw rk K E L td wd) sz [.ref h1]) (va_Qi (fun (r : Int32) (u : MDs) => r = td ∧ u = (0, nw, rk, K, E, L, td, wd)) (kz_B D vwCl (mdT cJ) (mdU h1 b1 b2 b3 cJ) (va_A (mdW h1 b1 b2 b3 cJ cd nw rk K E L td wd) sz)) (va_A (mdW h1 b1 b2 b3 cJ cd nw rk K E L td wd) sz)) 0 0 (va_A (mdW h1 b1 b2 b3 cJ cd nw rk K E L td wd) sz) := by
  refine Met.ofW (cc := cX1_told) (maxL := 1) (ret := some .int) (by decide) rfl ?_
  intro p e s m args below meth c s₁ B hml hv
  obtain ⟨rfl, hsz, hP, hK, hD0⟩ := hv
  have hx := B.exec
  have hb := B.bytes
  have hr := B.returns
  have hts := atoms_spec (ws := wsX1_told) B.pre
  have hown : s.vm.findClass RX1 = some m.cls := findClass_of_methodNamed B.named
  have hlocks := B.notSynchronized
  have hinX1 : ∀ w ∈ wsX10, w ∈ wsX1_told := by decide +kernel
  subst hsz
  have hD := hD0.self (sz := s.heap.size)
  generalize hAe : va_A (mdW h1 b1 b2 b3 cJ cd nw rk K E L td wd) s.heap.size = A at hD ⊢
  have hA : ∀ q : Nat, s.heap.size ≤ q → A q := fun q h => by rw [← hAe]; exact Or.inr h
  have hS : va_S A s.heap s.heap [] := va_S.rf
  refine kz_enter [.ref h1] (Nat.le_of_ble_eq_true rfl) (fun ls hl => ?_)
  have hl : lv_has ls 1 [(0, .ref h1)] := hl
  refine lv_aload_n hx hb dX1_told_0 rfl (lv_at hl 0 rfl) ?_
  refine lv_iconst (v := 0) hx hb dX1_told_1 (by decide) ?_
  refine va_put (ci := 1) (v := .int 0) (ty := .int) (C := RX1) (T := TX1) (N := 8) hx hb hts hinX1 tyX1 tyX1_ok nmX1 hown hK hP hD hS 0 rfl rfl 0 (by decide) (hts (.fieldLink RX1 23 "AlarmBenchModel" "code" "I") (by decide +kernel)) (fun _ h9 => h9) rfl (by decide +kernel) rfl rfl (Nat.le_of_ble_eq_true rfl) dX1_told_2 (fun H locs hP hD hS => ?_)
  have hP : va_P D vwCl (mdW h1 b1 b2 b3 cJ 0 nw rk K E L td wd) H := hP
  have hD : va_D A (mdW h1 b1 b2 b3 cJ 0 nw rk K E L td wd) := hD
  refine lv_aload_n hx hb dX1_told_5 rfl (lv_at hl 0 rfl) ?_
  refine va_get (ci := 1) (v := .int td) (C := RX1) (T := TX1) (N := 8) hx hb hts hinX1 hown hK hP 0 rfl rfl 6 (by decide) (hts (.fieldLink RX1 46 "AlarmBenchModel" "told" "I") (by decide +kernel)) (fun _ h9 => h9) rfl dX1_told_6 ?_
  exact W.iret (v := td) hx hb hr (fun t9 ht9 hW9 => ⟨⟨_, (0, nw, rk, K, E, L, td, wd), rfl, ⟨rfl, rfl⟩, by rw [ht9]; exact hP, va_K.moved hW9.alike hK, hD⟩, hS.F ht9⟩) hS.2.2 dX1_told_9
set_option maxHeartbeats 4000000 in
set_option maxRecDepth 100000 in
/-- reference: wasDue -/
theorem m_wasDue (l : Launch) (D : va_G) (h1 b1 b2 b3 : Nat) (cJ : ClassId) (cd nw rk : Int32) (K E L : Nat → Int32) (td wd : Int32) (sz : Nat)  : Met l yX1_wasDue wsX1_wasDue ({ frames := 0, cells := 0, slots := 0, locals := 0 } : Room) (kz_Pc D vwCl (mdT cJ) (mdW h1 b1 b2 b3 cJ cd nw rk K E L td wd) sz [.ref h1]) (va_Qi (fun (r : Int32) (u : MDs) => r = wd ∧ u = (0, nw, rk, K, E, L, td, wd)) (kz_B D vwCl (mdT cJ) (mdU h1 b1 b2 b3 cJ) (va_A (mdW h1 b1 b2 b3 cJ cd nw rk K E L td wd) sz)) (va_A (mdW h1 b1 b2 b3 cJ cd nw rk K E L td wd) sz)) 0 0 (va_A (mdW h1 b1 b2 b3 cJ cd nw rk K E L td wd) sz) := by
  refine Met.ofW (cc := cX1_wasDue) (maxL := 1) (ret := some .int) (by decide) rfl ?_
  intro p e s m args below meth c s₁ B hml hv
  obtain ⟨rfl, hsz, hP, hK, hD0⟩ := hv
  have hx := B.exec
  have hb := B.bytes
  have hr := B.returns
  have hts := atoms_spec (ws := wsX1_wasDue) B.pre
  have hown : s.vm.findClass RX1 = some m.cls := findClass_of_methodNamed B.named
  have hlocks := B.notSynchronized
  have hinX1 : ∀ w ∈ wsX10, w ∈ wsX1_wasDue := by decide +kernel
  subst hsz
  have hD := hD0.self (sz := s.heap.size)
  generalize hAe : va_A (mdW h1 b1 b2 b3 cJ cd nw rk K E L td wd) s.heap.size = A at hD ⊢
  have hA : ∀ q : Nat, s.heap.size ≤ q → A q := fun q h => by rw [← hAe]; exact Or.inr h
  have hS : va_S A s.heap s.heap [] := va_S.rf
  refine kz_enter [.ref h1] (Nat.le_of_ble_eq_true rfl) (fun ls hl => ?_)
  have hl : lv_has ls 1 [(0, .ref h1)] := hl
  refine lv_aload_n hx hb dX1_wasDue_0 rfl (lv_at hl 0 rfl) ?_
  refine lv_iconst (v := 0) hx hb dX1_wasDue_1 (by decide) ?_
  refine va_put (ci := 1) (v := .int 0) (ty := .int) (C := RX1) (T := TX1) (N := 8) hx hb hts hinX1 tyX1 tyX1_ok nmX1 hown hK hP hD hS 0 rfl rfl 0 (by decide) (hts (.fieldLink RX1 23 "AlarmBenchModel" "code" "I") (by decide +kernel)) (fun _ h9 => h9) rfl (by decide +kernel) rfl rfl (Nat.le_of_ble_eq_true rfl) dX1_wasDue_2 (fun H locs hP hD hS => ?_)
  have hP : va_P D vwCl (mdW h1 b1 b2 b3 cJ 0 nw rk K E L td wd) H := hP
  have hD : va_D A (mdW h1 b1 b2 b3 cJ 0 nw rk K E L td wd) := hD
  refine lv_aload_n hx hb dX1_wasDue_5 rfl (lv_at hl 0 rfl) ?_
  refine va_get (ci := 1) (v := .int wd) (C := RX1) (T := TX1) (N := 8) hx hb hts hinX1 hown hK hP 0 rfl rfl 7 (by decide) (hts (.fieldLink RX1 19 "AlarmBenchModel" "wasDue" "I") (by decide +kernel)) (fun _ h9 => h9) rfl dX1_wasDue_6 ?_
  exact W.iret (v := wd) hx hb hr (fun t9 ht9 hW9 => ⟨⟨_, (0, nw, rk, K, E, L, td, wd), rfl, ⟨rfl, rfl⟩, by rw [ht9]; exact hP, va_K.moved hW9.alike hK, hD⟩, hS.F ht9⟩) hS.2.2 dX1_wasDue_9
set_option maxHeartbeats 4000000 in
set_option maxRecDepth 100000 in
/-- reference: time -/
theorem m_time (l : Launch) (D : va_G) (h1 b1 b2 b3 : Nat) (cJ : ClassId) (cd nw rk : Int32) (K E L : Nat → Int32) (td wd : Int32) (sz : Nat)  : Met l yX1_time wsX1_time ({ frames := 0, cells := 0, slots := 0, locals := 0 } : Room) (kz_Pc D vwCl (mdT cJ) (mdW h1 b1 b2 b3 cJ cd nw rk K E L td wd) sz [.ref h1]) (va_Qi (fun (r : Int32) (u : MDs) => r = nw ∧ u = (0, nw, rk, K, E, L, td, wd)) (kz_B D vwCl (mdT cJ) (mdU h1 b1 b2 b3 cJ) (va_A (mdW h1 b1 b2 b3 cJ cd nw rk K E L td wd) sz)) (va_A (mdW h1 b1 b2 b3 cJ cd nw rk K E L td wd) sz)) 0 0 (va_A (mdW h1 b1 b2 b3 cJ cd nw rk K E L td wd) sz) := by
  refine Met.ofW (cc := cX1_time) (maxL := 1) (ret := some .int) (by decide) rfl ?_
  intro p e s m args below meth c s₁ B hml hv
  obtain ⟨rfl, hsz, hP, hK, hD0⟩ := hv
  have hx := B.exec
  have hb := B.bytes
  have hr := B.returns
  have hts := atoms_spec (ws := wsX1_time) B.pre
  have hown : s.vm.findClass RX1 = some m.cls := findClass_of_methodNamed B.named
  have hlocks := B.notSynchronized
  have hinX1 : ∀ w ∈ wsX10, w ∈ wsX1_time := by decide +kernel
  subst hsz
  have hD := hD0.self (sz := s.heap.size)
  generalize hAe : va_A (mdW h1 b1 b2 b3 cJ cd nw rk K E L td wd) s.heap.size = A at hD ⊢
  have hA : ∀ q : Nat, s.heap.size ≤ q → A q := fun q h => by rw [← hAe]; exact Or.inr h
  have hS : va_S A s.heap s.heap [] := va_S.rf
  refine kz_enter [.ref h1] (Nat.le_of_ble_eq_true rfl) (fun ls hl => ?_)
  have hl : lv_has ls 1 [(0, .ref h1)] := hl
  refine lv_aload_n hx hb dX1_time_0 rfl (lv_at hl 0 rfl) ?_
  refine lv_iconst (v := 0) hx hb dX1_time_1 (by decide) ?_
  refine va_put (ci := 1) (v := .int 0) (ty := .int) (C := RX1) (T := TX1) (N := 8) hx hb hts hinX1 tyX1 tyX1_ok nmX1 hown hK hP hD hS 0 rfl rfl 0 (by decide) (hts (.fieldLink RX1 23 "AlarmBenchModel" "code" "I") (by decide +kernel)) (fun _ h9 => h9) rfl (by decide +kernel) rfl rfl (Nat.le_of_ble_eq_true rfl) dX1_time_2 (fun H locs hP hD hS => ?_)
  have hP : va_P D vwCl (mdW h1 b1 b2 b3 cJ 0 nw rk K E L td wd) H := hP
  have hD : va_D A (mdW h1 b1 b2 b3 cJ 0 nw rk K E L td wd) := hD
  refine lv_aload_n hx hb dX1_time_5 rfl (lv_at hl 0 rfl) ?_
  refine va_get (ci := 1) (v := .int nw) (C := RX1) (T := TX1) (N := 8) hx hb hts hinX1 hown hK hP 0 rfl rfl 1 (by decide) (hts (.fieldLink RX1 29 "AlarmBenchModel" "now" "I") (by decide +kernel)) (fun _ h9 => h9) rfl dX1_time_6 ?_
  exact W.iret (v := nw) hx hb hr (fun t9 ht9 hW9 => ⟨⟨_, (0, nw, rk, K, E, L, td, wd), rfl, ⟨rfl, rfl⟩, by rw [ht9]; exact hP, va_K.moved hW9.alike hK, hD⟩, hS.F ht9⟩) hS.2.2 dX1_time_9
set_option maxHeartbeats 4000000 in
set_option maxRecDepth 100000 in
/-- reference: next -/
theorem m_next (l : Launch) (D : va_G) (h1 b1 b2 b3 : Nat) (cJ : ClassId) (cd nw rk : Int32) (K E L : Nat → Int32) (td wd : Int32) (sz : Nat)  : Met l yX1_next wsX1_next ({ frames := 1, cells := 0, slots := 0, locals := 23 } : Room) (kz_Pc D vwCl (mdT cJ) (mdW h1 b1 b2 b3 cJ cd nw rk K E L td wd) sz [.ref h1]) (va_Qi (fun (r : Int32) (u : MDs) => r = (match ab_fst (md_S K) E K 512 with | none => -1 | some k => E k) ∧ u = (0, nw, rk, K, E, L, td, wd)) (kz_B D vwCl (mdT cJ) (mdU h1 b1 b2 b3 cJ) (va_A (mdW h1 b1 b2 b3 cJ cd nw rk K E L td wd) sz)) (va_A (mdW h1 b1 b2 b3 cJ cd nw rk K E L td wd) sz)) 0 0 (va_A (mdW h1 b1 b2 b3 cJ cd nw rk K E L td wd) sz) := by
  refine Met.ofW (cc := cX1_next) (maxL := 2) (ret := some .int) (by decide) rfl ?_
  intro p e s m args below meth c s₁ B hml hv
  obtain ⟨rfl, hsz, hP, hK, hD0⟩ := hv
  have hx := B.exec
  have hb := B.bytes
  have hr := B.returns
  have hts := atoms_spec (ws := wsX1_next) B.pre
  have hown : s.vm.findClass RX1 = some m.cls := findClass_of_methodNamed B.named
  have hlocks := B.notSynchronized
  have hinX1 : ∀ w ∈ wsX10, w ∈ wsX1_next := by decide +kernel
  subst hsz
  have hD := hD0.self (sz := s.heap.size)
  generalize hAe : va_A (mdW h1 b1 b2 b3 cJ cd nw rk K E L td wd) s.heap.size = A at hD ⊢
  have hA : ∀ q : Nat, s.heap.size ≤ q → A q := fun q h => by rw [← hAe]; exact Or.inr h
  have hS : va_S A s.heap s.heap [] := va_S.rf
  refine kz_enter [.ref h1] (Nat.le_of_ble_eq_true rfl) (fun ls hl => ?_)
  have hl : lv_has ls 2 [(0, .ref h1)] := hl
  refine lv_aload_n hx hb dX1_next_0 rfl (lv_at hl 0 rfl) ?_
  refine lv_iconst (v := 0) hx hb dX1_next_1 (by decide) ?_
  refine va_put (ci := 1) (v := .int 0) (ty := .int) (C := RX1) (T := TX1) (N := 8) hx hb hts hinX1 tyX1 tyX1_ok nmX1 hown hK hP hD hS 0 rfl rfl 0 (by decide) (hts (.fieldLink RX1 23 "AlarmBenchModel" "code" "I") (by decide +kernel)) (fun _ h9 => h9) rfl (by decide +kernel) rfl rfl (Nat.le_of_ble_eq_true rfl) dX1_next_2 (fun H locs hP hD hS => ?_)
  have hP : va_P D vwCl (mdW h1 b1 b2 b3 cJ 0 nw rk K E L td wd) H := hP
  have hD : va_D A (mdW h1 b1 b2 b3 cJ 0 nw rk K E L td wd) := hD
  refine lv_aload_n hx hb dX1_next_5 rfl (lv_at hl 0 rfl) ?_
  refine kz_callR (As := []) (rest := []) ⟨hx, hb, hml, hown, hts⟩ (m_first l D h1 b1 b2 b3 cJ 0 nw rk K E L td wd) (cwV 0 hts gX1_next_X1_first rfl rfl rfl (by decide +kernel) ⟨Nat.le_of_ble_eq_true rfl, Nat.le_of_ble_eq_true rfl⟩) hP hK (va_recv hK hP (ci := 1) (q0 := 0) rfl rfl) rfl hl.1 rfl (Nat.le_of_ble_eq_true rfl) dX1_next_6 ⟨Nat.zero_le _, Nat.zero_le _⟩ (fun r_1 hr_2 => ?_)
  subst hr_2
  refine lv_istore_n (lv' := [(1, .int (oI (ab_fst (md_S K) E K 512))), (0, .ref h1)]) hx hb dX1_next_9 rfl hl (by decide) rfl (fun ls hl => ?_)
  refine lv_iload_n hx hb dX1_next_10 rfl (lv_at hl 0 rfl) ?_
  refine lv_if_ge (tgt := 18) hx hb dX1_next_11 (by decide) (fun c_11 => ?_) (fun c_11 => ?_)
  · obtain ⟨j0, hj0⟩ := oI_pos (Int32.not_lt.mpr c_11)
    have hk : j0 < 512 := (ab_fst_lt hj0).1
    rw [hj0] at hl
    have hl : lv_has ls 2 [(1, .int (nI j0)), (0, .ref h1)] := hl
    refine lv_aload_n hx hb dX1_next_18 rfl (lv_at hl 1 rfl) ?_
    refine va_get (ci := 1) (v := .ref b2) (C := RX1) (T := TX1) (N := 8) hx hb hts hinX1 hown hK hP 0 rfl rfl 4 (by decide) (hts (.fieldLink RX1 13 "AlarmBenchModel" "due" "[I") (by decide +kernel)) (fun _ h9 => h9) rfl dX1_next_19 ?_
    refine lv_iload_n hx hb dX1_next_22 rfl (lv_at hl 0 rfl) ?_
    refine kz_iald hx hb hK hP 2 0 rfl rfl hk (by decide) dX1_next_23 ?_
    exact W.iret (v := E j0) hx hb hr (fun t9 ht9 hW9 => ⟨⟨_, (0, nw, rk, K, E, L, td, wd), rfl, ⟨by rw [hj0], rfl⟩, by rw [ht9]; exact hP, va_K.moved hW9.alike hK, hD⟩, hS.F ht9⟩) hS.2.2 dX1_next_24
  · have hn0 := oI_neg (Int32.not_le.mp c_11) (fun j hj => Nat.lt_trans (ab_fst_lt hj).1 (by decide))
    refine lv_iconst (v := -1) hx hb dX1_next_14 (by decide) ?_
    refine lv_goto (tgt := 24) hx hb dX1_next_15 (by decide) ?_
    exact W.iret (v := (-1)) hx hb hr (fun t9 ht9 hW9 => ⟨⟨_, (0, nw, rk, K, E, L, td, wd), rfl, ⟨by rw [hn0], rfl⟩, by rw [ht9]; exact hP, va_K.moved hW9.alike hK, hD⟩, hS.F ht9⟩) hS.2.2 dX1_next_24
set_option maxHeartbeats 4000000 in
set_option maxRecDepth 100000 in
/-- reference: ring -/
theorem m_ring (l : Launch) (D : va_G) (h1 b1 b2 b3 : Nat) (cJ : ClassId) (cd nw rk : Int32) (K E L : Nat → Int32) (td wd : Int32) (sz : Nat)  : Met l yX1_ring wsX1_ring ({ frames := 1, cells := 0, slots := 0, locals := 23 } : Room) (kz_Pc D vwCl (mdT cJ) (mdW h1 b1 b2 b3 cJ cd nw rk K E L td wd) sz [.ref h1]) (va_Qi (fun (r : Int32) (u : MDs) => (match ab_fst (md_S K) E K 512 with | none => r = -1 ∧ u = (0, nw, rk, K, E, L, td, wd) | some k => (E k ≤ nw → r = nI k ∧ u = (0, nw, rk, upd K k 0, E, L, L k, E k)) ∧ (¬ E k ≤ nw → r = -1 ∧ u = (0, nw, rk, K, E, L, td, wd)))) (kz_B D vwCl (mdT cJ) (mdU h1 b1 b2 b3 cJ) (va_A (mdW h1 b1 b2 b3 cJ cd nw rk K E L td wd) sz)) (va_A (mdW h1 b1 b2 b3 cJ cd nw rk K E L td wd) sz)) 0 0 (va_A (mdW h1 b1 b2 b3 cJ cd nw rk K E L td wd) sz) := by
  refine Met.ofW (cc := cX1_ring) (maxL := 2) (ret := some .int) (by decide) rfl ?_
  intro p e s m args below meth c s₁ B hml hv
  obtain ⟨rfl, hsz, hP, hK, hD0⟩ := hv
  have hx := B.exec
  have hb := B.bytes
  have hr := B.returns
  have hts := atoms_spec (ws := wsX1_ring) B.pre
  have hown : s.vm.findClass RX1 = some m.cls := findClass_of_methodNamed B.named
  have hlocks := B.notSynchronized
  have hinX1 : ∀ w ∈ wsX10, w ∈ wsX1_ring := by decide +kernel
  subst hsz
  have hD := hD0.self (sz := s.heap.size)
  generalize hAe : va_A (mdW h1 b1 b2 b3 cJ cd nw rk K E L td wd) s.heap.size = A at hD ⊢
  have hA : ∀ q : Nat, s.heap.size ≤ q → A q := fun q h => by rw [← hAe]; exact Or.inr h
  have hS : va_S A s.heap s.heap [] := va_S.rf
  refine kz_enter [.ref h1] (Nat.le_of_ble_eq_true rfl) (fun ls hl => ?_)
  have hl : lv_has ls 2 [(0, .ref h1)] := hl
  refine lv_aload_n hx hb dX1_ring_0 rfl (lv_at hl 0 rfl) ?_
  refine lv_iconst (v := 0) hx hb dX1_ring_1 (by decide) ?_
  refine va_put (ci := 1) (v := .int 0) (ty := .int) (C := RX1) (T := TX1) (N := 8) hx hb hts hinX1 tyX1 tyX1_ok nmX1 hown hK hP hD hS 0 rfl rfl 0 (by decide) (hts (.fieldLink RX1 23 "AlarmBenchModel" "code" "I") (by decide +kernel)) (fun _ h9 => h9) rfl (by decide +kernel) rfl rfl (Nat.le_of_ble_eq_true rfl) dX1_ring_2 (fun H locs hP hD hS => ?_)
  have hP : va_P D vwCl (mdW h1 b1 b2 b3 cJ 0 nw rk K E L td wd) H := hP
  have hD : va_D A (mdW h1 b1 b2 b3 cJ 0 nw rk K E L td wd) := hD
  refine lv_aload_n hx hb dX1_ring_5 rfl (lv_at hl 0 rfl) ?_
  refine kz_callR (As := []) (rest := []) ⟨hx, hb, hml, hown, hts⟩ (m_first l D h1 b1 b2 b3 cJ 0 nw rk K E L td wd) (cwV 0 hts gX1_ring_X1_first rfl rfl rfl (by decide +kernel) ⟨Nat.le_of_ble_eq_true rfl, Nat.le_of_ble_eq_true rfl⟩) hP hK (va_recv hK hP (ci := 1) (q0 := 0) rfl rfl) rfl hl.1 rfl (Nat.le_of_ble_eq_true rfl) dX1_ring_6 ⟨Nat.zero_le _, Nat.zero_le _⟩ (fun r_1 hr_2 => ?_)
  subst hr_2
  refine lv_istore_n (lv' := [(1, .int (oI (ab_fst (md_S K) E K 512))), (0, .ref h1)]) hx hb dX1_ring_9 rfl hl (by decide) rfl (fun ls hl => ?_)
  refine lv_iload_n hx hb dX1_ring_10 rfl (lv_at hl 0 rfl) ?_
  refine lv_if_lt (tgt := 27) hx hb dX1_ring_11 (by decide) (fun c_11 => ?_) (fun c_11 => ?_)
  · have hn0 := oI_neg c_11 (fun j hj => Nat.lt_trans (ab_fst_lt hj).1 (by decide))
    refine lv_iconst (v := -1) hx hb dX1_ring_27 (by decide) ?_
    exact W.iret (v := (-1)) hx hb hr (fun t9 ht9 hW9 => ⟨⟨_, (0, nw, rk, K, E, L, td, wd), rfl, by rw [hn0]; exact ⟨rfl, rfl⟩, by rw [ht9]; exact hP, va_K.moved hW9.alike hK, hD⟩, hS.F ht9⟩) hS.2.2 dX1_ring_28
  · obtain ⟨j0, hj0⟩ := oI_pos c_11
    have hk : j0 < 512 := (ab_fst_lt hj0).1
    rw [hj0] at hl
    have hl : lv_has ls 2 [(1, .int (nI j0)), (0, .ref h1)] := hl
    refine lv_aload_n hx hb dX1_ring_14 rfl (lv_at hl 1 rfl) ?_
    refine va_get (ci := 1) (v := .ref b2) (C := RX1) (T := TX1) (N := 8) hx hb hts hinX1 hown hK hP 0 rfl rfl 4 (by decide) (hts (.fieldLink RX1 13 "AlarmBenchModel" "due" "[I") (by decide +kernel)) (fun _ h9 => h9) rfl dX1_ring_15 ?_
    refine lv_iload_n hx hb dX1_ring_18 rfl (lv_at hl 0 rfl) ?_
    refine kz_iald hx hb hK hP 2 0 rfl rfl hk (by decide) dX1_ring_19 ?_
    refine lv_aload_n hx hb dX1_ring_20 rfl (lv_at hl 1 rfl) ?_
    refine va_get (ci := 1) (v := .int nw) (C := RX1) (T := TX1) (N := 8) hx hb hts hinX1 hown hK hP 0 rfl rfl 1 (by decide) (hts (.fieldLink RX1 29 "AlarmBenchModel" "now" "I") (by decide +kernel)) (fun _ h9 => h9) rfl dX1_ring_21 ?_
    refine lv_icmp_le (tgt := 29) hx hb dX1_ring_24 (by decide) (fun c_24 => ?_) (fun c_24 => ?_)
    · refine lv_aload_n hx hb dX1_ring_29 rfl (lv_at hl 1 rfl) ?_
      refine lv_aload_n hx hb dX1_ring_30 rfl (lv_at hl 1 rfl) ?_
      refine va_get (ci := 1) (v := .ref b3) (C := RX1) (T := TX1) (N := 8) hx hb hts hinX1 hown hK hP 0 rfl rfl 5 (by decide) (hts (.fieldLink RX1 16 "AlarmBenchModel" "tells" "[I") (by decide +kernel)) (fun _ h9 => h9) rfl dX1_ring_31 ?_
      refine lv_iload_n hx hb dX1_ring_34 rfl (lv_at hl 0 rfl) ?_
      refine kz_iald hx hb hK hP 3 0 rfl rfl hk (by decide) dX1_ring_35 ?_
      refine va_put (ci := 1) (v := .int (L j0)) (ty := .int) (C := RX1) (T := TX1) (N := 8) hx hb hts hinX1 tyX1 tyX1_ok nmX1 hown hK hP hD hS 0 rfl rfl 6 (by decide) (hts (.fieldLink RX1 46 "AlarmBenchModel" "told" "I") (by decide +kernel)) (fun _ h9 => h9) rfl (by decide +kernel) rfl rfl (Nat.le_of_ble_eq_true rfl) dX1_ring_36 (fun H locs hP hD hS => ?_)
      have hP : va_P D vwCl (mdW h1 b1 b2 b3 cJ 0 nw rk K E L (L j0) wd) H := hP
      have hD : va_D A (mdW h1 b1 b2 b3 cJ 0 nw rk K E L (L j0) wd) := hD
      refine lv_aload_n hx hb dX1_ring_39 rfl (lv_at hl 1 rfl) ?_
      refine lv_aload_n hx hb dX1_ring_40 rfl (lv_at hl 1 rfl) ?_
      refine va_get (ci := 1) (v := .ref b2) (C := RX1) (T := TX1) (N := 8) hx hb hts hinX1 hown hK hP 0 rfl rfl 4 (by decide) (hts (.fieldLink RX1 13 "AlarmBenchModel" "due" "[I") (by decide +kernel)) (fun _ h9 => h9) rfl dX1_ring_41 ?_
      refine lv_iload_n hx hb dX1_ring_44 rfl (lv_at hl 0 rfl) ?_
      refine kz_iald hx hb hK hP 2 0 rfl rfl hk (by decide) dX1_ring_45 ?_
      refine va_put (ci := 1) (v := .int (E j0)) (ty := .int) (C := RX1) (T := TX1) (N := 8) hx hb hts hinX1 tyX1 tyX1_ok nmX1 hown hK hP hD hS 0 rfl rfl 7 (by decide) (hts (.fieldLink RX1 19 "AlarmBenchModel" "wasDue" "I") (by decide +kernel)) (fun _ h9 => h9) rfl (by decide +kernel) rfl rfl (Nat.le_of_ble_eq_true rfl) dX1_ring_46 (fun H locs hP hD hS => ?_)
      have hP : va_P D vwCl (mdW h1 b1 b2 b3 cJ 0 nw rk K E L (L j0) (E j0)) H := hP
      have hD : va_D A (mdW h1 b1 b2 b3 cJ 0 nw rk K E L (L j0) (E j0)) := hD
      refine lv_aload_n hx hb dX1_ring_49 rfl (lv_at hl 1 rfl) ?_
      refine va_get (ci := 1) (v := .ref b1) (C := RX1) (T := TX1) (N := 8) hx hb hts hinX1 hown hK hP 0 rfl rfl 3 (by decide) (hts (.fieldLink RX1 7 "AlarmBenchModel" "rank" "[I") (by decide +kernel)) (fun _ h9 => h9) rfl dX1_ring_50 ?_
      refine lv_iload_n hx hb dX1_ring_53 rfl (lv_at hl 0 rfl) ?_
      refine lv_iconst (v := 0) hx hb dX1_ring_54 (by decide) ?_
      refine kz_iast hx hb hK hP hD hS 1 0 rfl rfl hk (by decide) dX1_ring_55 (fun H locs hP hD hS => ?_)
      have hP : va_P D vwCl (mdW h1 b1 b2 b3 cJ 0 nw rk (upd K j0 0) E L (L j0) (E j0)) H := hP
      have hD : va_D A (mdW h1 b1 b2 b3 cJ 0 nw rk (upd K j0 0) E L (L j0) (E j0)) := hD
      refine lv_iload_n hx hb dX1_ring_56 rfl (lv_at hl 0 rfl) ?_
      exact W.iret (v := nI j0) hx hb hr (fun t9 ht9 hW9 => ⟨⟨_, (0, nw, rk, upd K j0 0, E, L, L j0, E j0), rfl, by rw [hj0]; exact ⟨fun _ => ⟨rfl, rfl⟩, fun h9 => absurd c_24 h9⟩, by rw [ht9]; exact hP, va_K.moved hW9.alike hK, hD⟩, hS.F ht9⟩) hS.2.2 dX1_ring_57
    · refine lv_iconst (v := -1) hx hb dX1_ring_27 (by decide) ?_
      exact W.iret (v := (-1)) hx hb hr (fun t9 ht9 hW9 => ⟨⟨_, (0, nw, rk, K, E, L, td, wd), rfl, by rw [hj0]; exact ⟨fun h9 => absurd h9 c_24, fun _ => ⟨rfl, rfl⟩⟩, by rw [ht9]; exact hP, va_K.moved hW9.alike hK, hD⟩, hS.F ht9⟩) hS.2.2 dX1_ring_28
