set_option maxHeartbeats 4000000 in
set_option maxRecDepth 100000 in
/-- reference: thrown -/
theorem m_thrown (l : Launch) (D : va_G) (h1 b1 b2 b3 : Nat) (cJ : ClassId) (cd nw rk : Int32) (K E L : Nat → Int32) (td wd : Int32)  : Met l yX1_thrown wsX1_thrown ({ frames := 0, cells := 0, slots := 0, locals := 0 } : Room) (va_Pc [.ref h1] (fun U => va_P D vwCl (mdW h1 b1 b2 b3 cJ cd nw rk K E L td wd) U.heap ∧ va_K D vwCl (mdT cJ) U)) (vp_Si (fun r => r = cd)) 0 0 (fun _ => False) := by
  refine Met.ofW (cc := cX1_thrown) (maxL := 1) (ret := some .int) (by decide) rfl ?_
  intro p e s m args below meth c s₁ B hml hv
  obtain ⟨rfl, hP, hK⟩ := hv
  have hx := B.exec
  have hb := B.bytes
  have hr := B.returns
  have hts := atoms_spec (ws := wsX1_thrown) B.pre
  have hown : s.vm.findClass RX1 = some m.cls := findClass_of_methodNamed B.named
  have hlocks := B.notSynchronized
  have hinX1 : ∀ w ∈ wsX10, w ∈ wsX1_thrown := by decide +kernel
  refine kz_enter [.ref h1] (Nat.le_of_ble_eq_true rfl) (fun ls hl => ?_)
  have hl : lv_has ls 1 [(0, .ref h1)] := hl
  refine lv_aload_n hx hb dX1_thrown_0 rfl (lv_at hl 0 rfl) ?_
  refine va_get (ci := 1) (v := .int cd) (C := RX1) (T := TX1) (N := 8) hx hb hts hinX1 hown hK hP 0 rfl rfl 0 (by decide) (hts (.fieldLink RX1 23 "AlarmBenchModel" "code" "I") (by decide +kernel)) (fun _ h9 => h9) rfl dX1_thrown_1 ?_
  exact W.iret (v := cd) hx hb hr (fun t9 ht9 hW9 => ⟨_, rfl, rfl, ht9⟩) (fun q h => by cases h) dX1_thrown_4
set_option maxHeartbeats 4000000 in
set_option maxRecDepth 100000 in
/-- reference: isAlarm -/
theorem m_isAlarm (l : Launch) (D : va_G) (h1 b1 b2 b3 : Nat) (cJ : ClassId) (cd nw rk : Int32) (K E L : Nat → Int32) (td wd : Int32) (x : Int32) : Met l yX1_isAlarm wsX1_isAlarm ({ frames := 0, cells := 0, slots := 0, locals := 0 } : Room) (va_Pc [.ref h1, .int x] (fun U => va_P D vwCl (mdW h1 b1 b2 b3 cJ cd nw rk K E L td wd) U.heap ∧ va_K D vwCl (mdT cJ) U)) (vp_Si (fun r => kz_b (md_al K x) r)) 0 0 (fun _ => False) := by
  refine Met.ofW (cc := cX1_isAlarm) (maxL := 2) (ret := some .boolean) (by decide) rfl ?_
  intro p e s m args below meth c s₁ B hml hv
  obtain ⟨rfl, hP, hK⟩ := hv
  have hx := B.exec
  have hb := B.bytes
  have hr := B.returns
  have hts := atoms_spec (ws := wsX1_isAlarm) B.pre
  have hown : s.vm.findClass RX1 = some m.cls := findClass_of_methodNamed B.named
  have hlocks := B.notSynchronized
  have hinX1 : ∀ w ∈ wsX10, w ∈ wsX1_isAlarm := by decide +kernel
  refine kz_enter [.ref h1, .int x] (Nat.le_of_ble_eq_true rfl) (fun ls hl => ?_)
  have hl : lv_has ls 2 [(0, .ref h1), (1, .int x)] := hl
  refine lv_iload_n hx hb dX1_isAlarm_0 rfl (lv_at hl 1 rfl) ?_
  refine lv_if_lt (tgt := 24) hx hb dX1_isAlarm_1 (by decide) (fun c_1 => ?_) (fun c_1 => ?_)
  · refine lv_iconst (v := 0) hx hb dX1_isAlarm_24 (by decide) ?_
    exact W.zret (ty := .boolean) (v := 0) hx hb hr rfl (fun t9 ht9 hW9 => ⟨_, rfl, Or.inr ⟨rfl, fun ⟨j, hj, e9, _⟩ => nI_pos (n := j) (by omega) (e9 ▸ c_1)⟩, ht9⟩) (fun q h => by cases h) dX1_isAlarm_25
  · refine lv_iload_n hx hb dX1_isAlarm_4 rfl (lv_at hl 1 rfl) ?_
    refine lv_sipush (v := 512) hx hb dX1_isAlarm_5 (by decide) ?_
    refine lv_icmp_ge (tgt := 24) hx hb dX1_isAlarm_8 (by decide) (fun c_8 => ?_) (fun c_8 => ?_)
    · refine lv_iconst (v := 0) hx hb dX1_isAlarm_24 (by decide) ?_
      exact W.zret (ty := .boolean) (v := 0) hx hb hr rfl (fun t9 ht9 hW9 => ⟨_, rfl, Or.inr ⟨rfl, fun ⟨j, hj, e9, _⟩ => nI_ge (a := j) (b := 512) hj (by decide) (e9 ▸ c_8)⟩, ht9⟩) (fun q h => by cases h) dX1_isAlarm_25
    · obtain ⟨k, hk, rfl⟩ : ∃ k : Nat, k < 512 ∧ x = nI k := by
        rcases pk_ix x (n := 512) (by decide) with h9 | h9 | h9
        · exact absurd h9 c_1
        · exact absurd h9 c_8
        · exact h9
      refine lv_aload_n hx hb dX1_isAlarm_11 rfl (lv_at hl 0 rfl) ?_
      refine va_get (ci := 1) (v := .ref b1) (C := RX1) (T := TX1) (N := 8) hx hb hts hinX1 hown hK hP 0 rfl rfl 3 (by decide) (hts (.fieldLink RX1 7 "AlarmBenchModel" "rank" "[I") (by decide +kernel)) (fun _ h9 => h9) rfl dX1_isAlarm_12 ?_
      refine lv_iload_n hx hb dX1_isAlarm_15 rfl (lv_at hl 1 rfl) ?_
      refine kz_iald hx hb hK hP 1 0 rfl rfl hk (by decide) dX1_isAlarm_16 ?_
      refine lv_if_le (tgt := 24) hx hb dX1_isAlarm_17 (by decide) (fun c_17 => ?_) (fun c_17 => ?_)
      · refine lv_iconst (v := 0) hx hb dX1_isAlarm_24 (by decide) ?_
        exact W.zret (ty := .boolean) (v := 0) hx hb hr rfl (fun t9 ht9 hW9 => ⟨_, rfl, Or.inr ⟨rfl, fun ⟨j, hj, e9, h9⟩ => h9 (by rw [← (nI_eq (a := k) (b := j) (by omega) (by omega)).mp e9]; exact c_17)⟩, ht9⟩) (fun q h => by cases h) dX1_isAlarm_25
      · refine lv_iconst (v := 1) hx hb dX1_isAlarm_20 (by decide) ?_
        refine lv_goto (tgt := 25) hx hb dX1_isAlarm_21 (by decide) ?_
        exact W.zret (ty := .boolean) (v := 1) hx hb hr rfl (fun t9 ht9 hW9 => ⟨_, rfl, Or.inl ⟨rfl, k, hk, rfl, c_17⟩, ht9⟩) (fun q h => by cases h) dX1_isAlarm_25
set_option maxHeartbeats 4000000 in
set_option maxRecDepth 100000 in
/-- reference: start -/
theorem m_start (l : Launch) (D : va_G) (h1 b1 b2 b3 : Nat) (cJ : ClassId) (cd nw rk : Int32) (K E L : Nat → Int32) (td wd : Int32) (sz : Nat) (k : Nat) (hk : k < 512) (t w : Int32) : Met l yX1_start wsX1_start ({ frames := 0, cells := 0, slots := 0, locals := 0 } : Room) (kz_Pc D vwCl (mdT cJ) (mdW h1 b1 b2 b3 cJ cd nw rk K E L td wd) sz [.ref h1, .int (nI k), .int t, .int w]) (va_Qv (fun u : MDs => u = (cd, nw, rk + 1, upd K k (rk + 1), upd E k (nw + t), upd L k w, td, wd)) (kz_B D vwCl (mdT cJ) (mdU h1 b1 b2 b3 cJ) (va_A (mdW h1 b1 b2 b3 cJ cd nw rk K E L td wd) sz)) (va_A (mdW h1 b1 b2 b3 cJ cd nw rk K E L td wd) sz)) 0 0 (va_A (mdW h1 b1 b2 b3 cJ cd nw rk K E L td wd) sz) := by
  refine Met.ofW (cc := cX1_start) (maxL := 4) (ret := none) (by decide) rfl ?_
  intro p e s m args below meth c s₁ B hml hv
  obtain ⟨rfl, hsz, hP, hK, hD0⟩ := hv
  have hx := B.exec
  have hb := B.bytes
  have hr := B.returns
  have hts := atoms_spec (ws := wsX1_start) B.pre
  have hown : s.vm.findClass RX1 = some m.cls := findClass_of_methodNamed B.named
  have hlocks := B.notSynchronized
  have hinX1 : ∀ w ∈ wsX10, w ∈ wsX1_start := by decide +kernel
  subst hsz
  have hD := hD0.self (sz := s.heap.size)
  generalize hAe : va_A (mdW h1 b1 b2 b3 cJ cd nw rk K E L td wd) s.heap.size = A at hD ⊢
  have hA : ∀ q : Nat, s.heap.size ≤ q → A q := fun q h => by rw [← hAe]; exact Or.inr h
  have hS : va_S A s.heap s.heap [] := va_S.rf
  refine kz_enter [.ref h1, .int (nI k), .int t, .int w] (Nat.le_of_ble_eq_true rfl) (fun ls hl => ?_)
  have hl : lv_has ls 4 [(0, .ref h1), (1, .int (nI k)), (2, .int t), (3, .int w)] := hl
  refine lv_aload_n hx hb dX1_start_0 rfl (lv_at hl 0 rfl) ?_
  refine lv_dup hx hb dX1_start_1 rfl ?_
  refine va_get (ci := 1) (v := .int rk) (C := RX1) (T := TX1) (N := 8) hx hb hts hinX1 hown hK hP 0 rfl rfl 2 (by decide) (hts (.fieldLink RX1 26 "AlarmBenchModel" "ranks" "I") (by decide +kernel)) (fun _ h9 => h9) rfl dX1_start_2 ?_
  refine lv_iconst (v := 1) hx hb dX1_start_5 (by decide) ?_
  refine lv_iadd hx hb dX1_start_6 ?_
  refine va_put (ci := 1) (v := .int (rk + 1)) (ty := .int) (C := RX1) (T := TX1) (N := 8) hx hb hts hinX1 tyX1 tyX1_ok nmX1 hown hK hP hD hS 0 rfl rfl 2 (by decide) (hts (.fieldLink RX1 26 "AlarmBenchModel" "ranks" "I") (by decide +kernel)) (fun _ h9 => h9) rfl (by decide +kernel) rfl rfl (Nat.le_of_ble_eq_true rfl) dX1_start_7 (fun H locs hP hD hS => ?_)
  have hP : va_P D vwCl (mdW h1 b1 b2 b3 cJ cd nw (rk + 1) K E L td wd) H := hP
  have hD : va_D A (mdW h1 b1 b2 b3 cJ cd nw (rk + 1) K E L td wd) := hD
  refine lv_aload_n hx hb dX1_start_10 rfl (lv_at hl 0 rfl) ?_
  refine va_get (ci := 1) (v := .ref b1) (C := RX1) (T := TX1) (N := 8) hx hb hts hinX1 hown hK hP 0 rfl rfl 3 (by decide) (hts (.fieldLink RX1 7 "AlarmBenchModel" "rank" "[I") (by decide +kernel)) (fun _ h9 => h9) rfl dX1_start_11 ?_
  refine lv_iload_n hx hb dX1_start_14 rfl (lv_at hl 1 rfl) ?_
  refine lv_aload_n hx hb dX1_start_15 rfl (lv_at hl 0 rfl) ?_
  refine va_get (ci := 1) (v := .int (rk + 1)) (C := RX1) (T := TX1) (N := 8) hx hb hts hinX1 hown hK hP 0 rfl rfl 2 (by decide) (hts (.fieldLink RX1 26 "AlarmBenchModel" "ranks" "I") (by decide +kernel)) (fun _ h9 => h9) rfl dX1_start_16 ?_
  refine kz_iast hx hb hK hP hD hS 1 0 rfl rfl hk (by decide) dX1_start_19 (fun H locs hP hD hS => ?_)
  have hP : va_P D vwCl (mdW h1 b1 b2 b3 cJ cd nw (rk + 1) (upd K k (rk + 1)) E L td wd) H := hP
  have hD : va_D A (mdW h1 b1 b2 b3 cJ cd nw (rk + 1) (upd K k (rk + 1)) E L td wd) := hD
  refine lv_aload_n hx hb dX1_start_20 rfl (lv_at hl 0 rfl) ?_
  refine va_get (ci := 1) (v := .ref b2) (C := RX1) (T := TX1) (N := 8) hx hb hts hinX1 hown hK hP 0 rfl rfl 4 (by decide) (hts (.fieldLink RX1 13 "AlarmBenchModel" "due" "[I") (by decide +kernel)) (fun _ h9 => h9) rfl dX1_start_21 ?_
  refine lv_iload_n hx hb dX1_start_24 rfl (lv_at hl 1 rfl) ?_
  refine lv_aload_n hx hb dX1_start_25 rfl (lv_at hl 0 rfl) ?_
  refine va_get (ci := 1) (v := .int nw) (C := RX1) (T := TX1) (N := 8) hx hb hts hinX1 hown hK hP 0 rfl rfl 1 (by decide) (hts (.fieldLink RX1 29 "AlarmBenchModel" "now" "I") (by decide +kernel)) (fun _ h9 => h9) rfl dX1_start_26 ?_
  refine lv_iload_n hx hb dX1_start_29 rfl (lv_at hl 2 rfl) ?_
  refine lv_iadd hx hb dX1_start_30 ?_
  refine kz_iast hx hb hK hP hD hS 2 0 rfl rfl hk (by decide) dX1_start_31 (fun H locs hP hD hS => ?_)
  have hP : va_P D vwCl (mdW h1 b1 b2 b3 cJ cd nw (rk + 1) (upd K k (rk + 1)) (upd E k (nw + t)) L td wd) H := hP
  have hD : va_D A (mdW h1 b1 b2 b3 cJ cd nw (rk + 1) (upd K k (rk + 1)) (upd E k (nw + t)) L td wd) := hD
  refine lv_aload_n hx hb dX1_start_32 rfl (lv_at hl 0 rfl) ?_
  refine va_get (ci := 1) (v := .ref b3) (C := RX1) (T := TX1) (N := 8) hx hb hts hinX1 hown hK hP 0 rfl rfl 5 (by decide) (hts (.fieldLink RX1 16 "AlarmBenchModel" "tells" "[I") (by decide +kernel)) (fun _ h9 => h9) rfl dX1_start_33 ?_
  refine lv_iload_n hx hb dX1_start_36 rfl (lv_at hl 1 rfl) ?_
  refine lv_iload_n hx hb dX1_start_37 rfl (lv_at hl 3 rfl) ?_
  refine kz_iast hx hb hK hP hD hS 3 0 rfl rfl hk (by decide) dX1_start_38 (fun H locs hP hD hS => ?_)
  have hP : va_P D vwCl (mdW h1 b1 b2 b3 cJ cd nw (rk + 1) (upd K k (rk + 1)) (upd E k (nw + t)) (upd L k w) td wd) H := hP
  have hD : va_D A (mdW h1 b1 b2 b3 cJ cd nw (rk + 1) (upd K k (rk + 1)) (upd E k (nw + t)) (upd L k w) td wd) := hD
  exact W.vret hx hb hr (fun t9 ht9 hW9 => ⟨⟨(cd, nw, rk + 1, upd K k (rk + 1), upd E k (nw + t), upd L k w, td, wd), rfl, rfl, by rw [ht9]; exact hP, va_K.moved hW9.alike hK, hD⟩, hS.F ht9⟩) hS.2.2 dX1_start_39
