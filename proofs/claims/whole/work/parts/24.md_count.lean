set_option maxHeartbeats 4000000 in
set_option maxRecDepth 100000 in
/-- reference: count -/
theorem m_count (l : Launch) (D : va_G) (h1 b1 b2 b3 : Nat) (cJ : ClassId) (cd nw rk : Int32) (K E L : Nat → Int32) (td wd : Int32) (sz : Nat) (b : Int32) : Met l yX1_count wsX1_count ({ frames := 0, cells := 0, slots := 0, locals := 0 } : Room) (kz_Pc D vwCl (mdT cJ) (mdW h1 b1 b2 b3 cJ cd nw rk K E L td wd) sz [.ref h1, .int b]) (va_Qi (fun (r : Int32) (u : MDs) => r = nI (ab_cnt (fun j => !decide (K j ≤ 0) && (decide (b = 0) || decide (E j ≤ nw))) 512) ∧ u = (0, nw, rk, K, E, L, td, wd)) (kz_B D vwCl (mdT cJ) (mdU h1 b1 b2 b3 cJ) (va_A (mdW h1 b1 b2 b3 cJ cd nw rk K E L td wd) sz)) (va_A (mdW h1 b1 b2 b3 cJ cd nw rk K E L td wd) sz)) 0 0 (va_A (mdW h1 b1 b2 b3 cJ cd nw rk K E L td wd) sz) := by
  refine Met.ofW (cc := cX1_count) (maxL := 4) (ret := some .int) (by decide) rfl ?_
  intro p e s m args below meth c s₁ B hml hv
  obtain ⟨rfl, hsz, hP, hK, hD0⟩ := hv
  have hx := B.exec
  have hb := B.bytes
  have hr := B.returns
  have hts := atoms_spec (ws := wsX1_count) B.pre
  have hown : s.vm.findClass RX1 = some m.cls := findClass_of_methodNamed B.named
  have hlocks := B.notSynchronized
  have hinX1 : ∀ w ∈ wsX10, w ∈ wsX1_count := by decide +kernel
  subst hsz
  have hD := hD0.self (sz := s.heap.size)
  generalize hAe : va_A (mdW h1 b1 b2 b3 cJ cd nw rk K E L td wd) s.heap.size = A at hD ⊢
  have hA : ∀ q : Nat, s.heap.size ≤ q → A q := fun q h => by rw [← hAe]; exact Or.inr h
  have hS : va_S A s.heap s.heap [] := va_S.rf
  refine kz_enter [.ref h1, .int b] (Nat.le_of_ble_eq_true rfl) (fun ls hl => ?_)
  have hl : lv_has ls 4 [(0, .ref h1), (1, .int b)] := hl
  refine lv_aload_n hx hb dX1_count_0 rfl (lv_at hl 0 rfl) ?_
  refine lv_iconst (v := 0) hx hb dX1_count_1 (by decide) ?_
  refine va_put (ci := 1) (v := .int 0) (ty := .int) (C := RX1) (T := TX1) (N := 8) hx hb hts hinX1 tyX1 tyX1_ok nmX1 hown hK hP hD hS 0 rfl rfl 0 (by decide) (hts (.fieldLink RX1 23 "AlarmBenchModel" "code" "I") (by decide +kernel)) (fun _ h9 => h9) rfl (by decide +kernel) rfl rfl (Nat.le_of_ble_eq_true rfl) dX1_count_2 (fun H locs hP hD hS => ?_)
  have hP : va_P D vwCl (mdW h1 b1 b2 b3 cJ 0 nw rk K E L td wd) H := hP
  have hD : va_D A (mdW h1 b1 b2 b3 cJ 0 nw rk K E L td wd) := hD
  refine lv_iconst (v := 0) hx hb dX1_count_5 (by decide) ?_
  refine lv_istore_n (lv' := [(2, .int 0), (0, .ref h1), (1, .int b)]) hx hb dX1_count_6 rfl hl (by decide) rfl (fun ls hl => ?_)
  refine lv_iconst (v := 0) hx hb dX1_count_7 (by decide) ?_
  refine lv_istore_n (lv' := [(3, .int 0), (2, .int 0), (0, .ref h1), (1, .int b)]) hx hb dX1_count_8 rfl hl (by decide) rfl (fun ls hl => ?_)
  refine kz_loop (G := fun ls : Array Slot => W p l e _ s m _ below meth c H locs 0 0 _ (F0 m 9 ls [])) (I := fun k ls => lv_has ls 4 [(3, .int (nI k)), (2, .int (nI (ab_cnt (fun j => !decide (K j ≤ 0) && (decide (b = 0) || decide (E j ≤ nw))) k))), (0, .ref h1), (1, .int b)]) 512 ?_ ?_ 0 (Nat.zero_le _) ls (lv_sub hl [0, 1, 2, 3] rfl)
  · intro k ls hk hl ih
    refine lv_iload_n hx hb dX1_count_9 rfl (lv_at hl 0 rfl) ?_
    refine lv_sipush (v := 512) hx hb dX1_count_10 (by decide) ?_
    refine lv_icmp_ge (tgt := 56) hx hb dX1_count_13 (by decide) (fun c_13 => ?_) (fun c_13 => ?_)
    · exact absurd c_13 (nI_ge (a := k) (b := 512) hk (by decide))
    · refine lv_iload_n hx hb dX1_count_16 rfl (lv_at hl 1 rfl) ?_
      refine lv_aload_n hx hb dX1_count_17 rfl (lv_at hl 2 rfl) ?_
      refine va_get (ci := 1) (v := .ref b1) (C := RX1) (T := TX1) (N := 8) hx hb hts hinX1 hown hK hP 0 rfl rfl 3 (by decide) (hts (.fieldLink RX1 7 "AlarmBenchModel" "rank" "[I") (by decide +kernel)) (fun _ h9 => h9) rfl dX1_count_18 ?_
      refine lv_iload_n hx hb dX1_count_21 rfl (lv_at hl 0 rfl) ?_
      refine kz_iald hx hb hK hP 1 0 rfl rfl hk (by decide) dX1_count_22 ?_
      refine lv_if_le (tgt := 47) hx hb dX1_count_23 (by decide) (fun c_23 => ?_) (fun c_23 => ?_)
      · refine lv_iconst (v := 0) hx hb dX1_count_47 (by decide) ?_
        refine lv_iadd hx hb dX1_count_48 ?_
        rw [Int32.add_zero]
        refine lv_istore_n (lv' := [(2, .int (nI (ab_cnt (fun j => !decide (K j ≤ 0) && (decide (b = 0) || decide (E j ≤ nw))) k))), (3, .int (nI k)), (0, .ref h1), (1, .int b)]) hx hb dX1_count_49 rfl hl (by decide) rfl (fun ls hl => ?_)
        refine lv_iinc (v := nI (k + 1)) (lv' := [(3, .int (nI (k + 1))), (2, .int (nI (ab_cnt (fun j => !decide (K j ≤ 0) && (decide (b = 0) || decide (E j ≤ nw))) k))), (0, .ref h1), (1, .int b)]) hx hb dX1_count_50 hl (k := 1) rfl (kz_inc k) (by decide) rfl (fun ls hl => ?_)
        refine lv_goto (tgt := 9) hx hb dX1_count_53 (by decide) ?_
        exact ih ls (by rw [show ab_cnt (fun j => !decide (K j ≤ 0) && (decide (b = 0) || decide (E j ≤ nw))) (k + 1) = _ from ab_cnt_f (by simp [c_23])]; exact lv_sub hl [0, 1, 2, 3] rfl)
      · refine lv_iload_n hx hb dX1_count_26 rfl (lv_at hl 3 rfl) ?_
        refine lv_if_eq (tgt := 43) hx hb dX1_count_27 (by decide) (fun c_27 => ?_) (fun c_27 => ?_)
        · refine lv_iconst (v := 1) hx hb dX1_count_43 (by decide) ?_
          refine lv_goto (tgt := 48) hx hb dX1_count_44 (by decide) ?_
          refine lv_iadd hx hb dX1_count_48 ?_
          rw [nI_1]
          refine lv_istore_n (lv' := [(2, .int (nI (ab_cnt (fun j => !decide (K j ≤ 0) && (decide (b = 0) || decide (E j ≤ nw))) k + 1))), (3, .int (nI k)), (0, .ref h1), (1, .int b)]) hx hb dX1_count_49 rfl hl (by decide) rfl (fun ls hl => ?_)
          refine lv_iinc (v := nI (k + 1)) (lv' := [(3, .int (nI (k + 1))), (2, .int (nI (ab_cnt (fun j => !decide (K j ≤ 0) && (decide (b = 0) || decide (E j ≤ nw))) k + 1))), (0, .ref h1), (1, .int b)]) hx hb dX1_count_50 hl (k := 1) rfl (kz_inc k) (by decide) rfl (fun ls hl => ?_)
          refine lv_goto (tgt := 9) hx hb dX1_count_53 (by decide) ?_
          exact ih ls (by rw [show ab_cnt (fun j => !decide (K j ≤ 0) && (decide (b = 0) || decide (E j ≤ nw))) (k + 1) = _ from ab_cnt_t (by simp [c_23, c_27])]; exact lv_sub hl [0, 1, 2, 3] rfl)
        · refine lv_aload_n hx hb dX1_count_30 rfl (lv_at hl 2 rfl) ?_
          refine va_get (ci := 1) (v := .ref b2) (C := RX1) (T := TX1) (N := 8) hx hb hts hinX1 hown hK hP 0 rfl rfl 4 (by decide) (hts (.fieldLink RX1 13 "AlarmBenchModel" "due" "[I") (by decide +kernel)) (fun _ h9 => h9) rfl dX1_count_31 ?_
          refine lv_iload_n hx hb dX1_count_34 rfl (lv_at hl 0 rfl) ?_
          refine kz_iald hx hb hK hP 2 0 rfl rfl hk (by decide) dX1_count_35 ?_
          refine lv_aload_n hx hb dX1_count_36 rfl (lv_at hl 2 rfl) ?_
          refine va_get (ci := 1) (v := .int nw) (C := RX1) (T := TX1) (N := 8) hx hb hts hinX1 hown hK hP 0 rfl rfl 1 (by decide) (hts (.fieldLink RX1 29 "AlarmBenchModel" "now" "I") (by decide +kernel)) (fun _ h9 => h9) rfl dX1_count_37 ?_
          refine lv_icmp_gt (tgt := 47) hx hb dX1_count_40 (by decide) (fun c_40 => ?_) (fun c_40 => ?_)
          · refine lv_iconst (v := 0) hx hb dX1_count_47 (by decide) ?_
            refine lv_iadd hx hb dX1_count_48 ?_
            rw [Int32.add_zero]
            refine lv_istore_n (lv' := [(2, .int (nI (ab_cnt (fun j => !decide (K j ≤ 0) && (decide (b = 0) || decide (E j ≤ nw))) k))), (3, .int (nI k)), (0, .ref h1), (1, .int b)]) hx hb dX1_count_49 rfl hl (by decide) rfl (fun ls hl => ?_)
            refine lv_iinc (v := nI (k + 1)) (lv' := [(3, .int (nI (k + 1))), (2, .int (nI (ab_cnt (fun j => !decide (K j ≤ 0) && (decide (b = 0) || decide (E j ≤ nw))) k))), (0, .ref h1), (1, .int b)]) hx hb dX1_count_50 hl (k := 1) rfl (kz_inc k) (by decide) rfl (fun ls hl => ?_)
            refine lv_goto (tgt := 9) hx hb dX1_count_53 (by decide) ?_
            exact ih ls (by rw [show ab_cnt (fun j => !decide (K j ≤ 0) && (decide (b = 0) || decide (E j ≤ nw))) (k + 1) = _ from ab_cnt_f (by simp [c_27, Int32.not_le.mpr c_40])]; exact lv_sub hl [0, 1, 2, 3] rfl)
          · refine lv_iconst (v := 1) hx hb dX1_count_43 (by decide) ?_
            refine lv_goto (tgt := 48) hx hb dX1_count_44 (by decide) ?_
            refine lv_iadd hx hb dX1_count_48 ?_
            rw [nI_1]
            refine lv_istore_n (lv' := [(2, .int (nI (ab_cnt (fun j => !decide (K j ≤ 0) && (decide (b = 0) || decide (E j ≤ nw))) k + 1))), (3, .int (nI k)), (0, .ref h1), (1, .int b)]) hx hb dX1_count_49 rfl hl (by decide) rfl (fun ls hl => ?_)
            refine lv_iinc (v := nI (k + 1)) (lv' := [(3, .int (nI (k + 1))), (2, .int (nI (ab_cnt (fun j => !decide (K j ≤ 0) && (decide (b = 0) || decide (E j ≤ nw))) k + 1))), (0, .ref h1), (1, .int b)]) hx hb dX1_count_50 hl (k := 1) rfl (kz_inc k) (by decide) rfl (fun ls hl => ?_)
            refine lv_goto (tgt := 9) hx hb dX1_count_53 (by decide) ?_
            exact ih ls (by rw [show ab_cnt (fun j => !decide (K j ≤ 0) && (decide (b = 0) || decide (E j ≤ nw))) (k + 1) = _ from ab_cnt_t (by simp [c_23, Int32.not_lt.mp c_40])]; exact lv_sub hl [0, 1, 2, 3] rfl)
  · intro ls hl
    refine lv_iload_n hx hb dX1_count_9 rfl (lv_at hl 0 rfl) ?_
    refine lv_sipush (v := 512) hx hb dX1_count_10 (by decide) ?_
    refine lv_icmp_ge (tgt := 56) hx hb dX1_count_13 (by decide) (fun c_13 => ?_) (fun c_13 => ?_)
    · refine lv_iload_n hx hb dX1_count_56 rfl (lv_at hl 1 rfl) ?_
      exact W.iret (v := nI (ab_cnt (fun j => !decide (K j ≤ 0) && (decide (b = 0) || decide (E j ≤ nw))) 512)) hx hb hr (fun t9 ht9 hW9 => ⟨⟨_, (0, nw, rk, K, E, L, td, wd), rfl, ⟨rfl, rfl⟩, by rw [ht9]; exact hP, va_K.moved hW9.alike hK, hD⟩, hS.F ht9⟩) hS.2.2 dX1_count_57
    · exact absurd (Int32.le_refl _) c_13
set_option maxHeartbeats 4000000 in
set_option maxRecDepth 100000 in
/-- reference: stopAll -/
theorem m_stopAll (l : Launch) (D : va_G) (h1 b1 b2 b3 : Nat) (cJ : ClassId) (cd nw rk : Int32) (K E L : Nat → Int32) (td wd : Int32) (sz : Nat) (x : Int32) : Met l yX1_stopAll wsX1_stopAll ({ frames := 0, cells := 0, slots := 0, locals := 0 } : Room) (kz_Pc D vwCl (mdT cJ) (mdW h1 b1 b2 b3 cJ cd nw rk K E L td wd) sz [.ref h1, .int x]) (va_Qi (fun (r : Int32) (u : MDs) => r = nI (ab_cnt (fun j => !decide (K j ≤ 0) && decide (L j = x)) 512) ∧ u = (0, nw, rk, md_sa K L x 512, E, L, td, wd)) (kz_B D vwCl (mdT cJ) (mdU h1 b1 b2 b3 cJ) (va_A (mdW h1 b1 b2 b3 cJ cd nw rk K E L td wd) sz)) (va_A (mdW h1 b1 b2 b3 cJ cd nw rk K E L td wd) sz)) 0 0 (va_A (mdW h1 b1 b2 b3 cJ cd nw rk K E L td wd) sz) := by
  refine Met.ofW (cc := cX1_stopAll) (maxL := 4) (ret := some .int) (by decide) rfl ?_
  intro p e s m args below meth c s₁ B hml hv
  obtain ⟨rfl, hsz, hP, hK, hD0⟩ := hv
  have hx := B.exec
  have hb := B.bytes
  have hr := B.returns
  have hts := atoms_spec (ws := wsX1_stopAll) B.pre
  have hown : s.vm.findClass RX1 = some m.cls := findClass_of_methodNamed B.named
  have hlocks := B.notSynchronized
  have hinX1 : ∀ w ∈ wsX10, w ∈ wsX1_stopAll := by decide +kernel
  subst hsz
  have hD := hD0.self (sz := s.heap.size)
  generalize hAe : va_A (mdW h1 b1 b2 b3 cJ cd nw rk K E L td wd) s.heap.size = A at hD ⊢
  have hA : ∀ q : Nat, s.heap.size ≤ q → A q := fun q h => by rw [← hAe]; exact Or.inr h
  have hS : va_S A s.heap s.heap [] := va_S.rf
  refine kz_enter [.ref h1, .int x] (Nat.le_of_ble_eq_true rfl) (fun ls hl => ?_)
  have hl : lv_has ls 4 [(0, .ref h1), (1, .int x)] := hl
  refine lv_aload_n hx hb dX1_stopAll_0 rfl (lv_at hl 0 rfl) ?_
  refine lv_iconst (v := 0) hx hb dX1_stopAll_1 (by decide) ?_
  refine va_put (ci := 1) (v := .int 0) (ty := .int) (C := RX1) (T := TX1) (N := 8) hx hb hts hinX1 tyX1 tyX1_ok nmX1 hown hK hP hD hS 0 rfl rfl 0 (by decide) (hts (.fieldLink RX1 23 "AlarmBenchModel" "code" "I") (by decide +kernel)) (fun _ h9 => h9) rfl (by decide +kernel) rfl rfl (Nat.le_of_ble_eq_true rfl) dX1_stopAll_2 (fun H locs hP hD hS => ?_)
  have hP : va_P D vwCl (mdW h1 b1 b2 b3 cJ 0 nw rk K E L td wd) H := hP
  have hD : va_D A (mdW h1 b1 b2 b3 cJ 0 nw rk K E L td wd) := hD
  refine lv_iconst (v := 0) hx hb dX1_stopAll_5 (by decide) ?_
  refine lv_istore_n (lv' := [(2, .int 0), (0, .ref h1), (1, .int x)]) hx hb dX1_stopAll_6 rfl hl (by decide) rfl (fun ls hl => ?_)
  refine lv_iconst (v := 0) hx hb dX1_stopAll_7 (by decide) ?_
  refine lv_istore_n (lv' := [(3, .int 0), (2, .int 0), (0, .ref h1), (1, .int x)]) hx hb dX1_stopAll_8 rfl hl (by decide) rfl (fun ls hl => ?_)
  refine kz_loop (G := fun y : Heap × List Loc × Array Slot => W p l e _ s m _ below meth c y.1 y.2.1 0 0 _ (F0 m 9 y.2.2 [])) (I := fun k y => va_P D vwCl (mdW h1 b1 b2 b3 cJ 0 nw rk (md_sa K L x k) E L td wd) y.1 ∧ va_D A (mdW h1 b1 b2 b3 cJ 0 nw rk (md_sa K L x k) E L td wd) ∧ va_S A s.heap y.1 y.2.1 ∧ lv_has y.2.2 4 [(3, .int (nI k)), (2, .int (nI (ab_cnt (fun j => !decide (K j ≤ 0) && decide (L j = x)) k))), (0, .ref h1), (1, .int x)]) 512 ?_ ?_ 0 (Nat.zero_le _) (H, locs, ls) (by rw [md_sa_0]; exact ⟨hP, hD, hS, lv_sub hl [0, 1, 2, 3] rfl⟩)
  · intro k y hk hI ih
    obtain ⟨H, locs, ls⟩ := y
    obtain ⟨hP, hD, hS, hl⟩ := hI
    have hP : va_P D vwCl (mdW h1 b1 b2 b3 cJ 0 nw rk (md_sa K L x k) E L td wd) H := hP
    have hS : va_S A s.heap H locs := hS
    have hl : lv_has ls 4 [(3, .int (nI k)), (2, .int (nI (ab_cnt (fun j => !decide (K j ≤ 0) && decide (L j = x)) k))), (0, .ref h1), (1, .int x)] := hl
    show W p l e _ s m _ below meth c H locs 0 0 _ (F0 m 9 ls [])
    refine lv_iload_n hx hb dX1_stopAll_9 rfl (lv_at hl 0 rfl) ?_
    refine lv_sipush (v := 512) hx hb dX1_stopAll_10 (by decide) ?_
    refine lv_icmp_ge (tgt := 51) hx hb dX1_stopAll_13 (by decide) (fun c_13 => ?_) (fun c_13 => ?_)
    · exact absurd c_13 (nI_ge (a := k) (b := 512) hk (by decide))
    · refine lv_aload_n hx hb dX1_stopAll_16 rfl (lv_at hl 2 rfl) ?_
      refine va_get (ci := 1) (v := .ref b1) (C := RX1) (T := TX1) (N := 8) hx hb hts hinX1 hown hK hP 0 rfl rfl 3 (by decide) (hts (.fieldLink RX1 7 "AlarmBenchModel" "rank" "[I") (by decide +kernel)) (fun _ h9 => h9) rfl dX1_stopAll_17 ?_
      refine lv_iload_n hx hb dX1_stopAll_20 rfl (lv_at hl 0 rfl) ?_
      refine kz_iald hx hb hK hP 1 0 rfl rfl hk (by decide) dX1_stopAll_21 ?_
      rw [md_sa_at]
      refine lv_if_le (tgt := 45) hx hb dX1_stopAll_22 (by decide) (fun c_22 => ?_) (fun c_22 => ?_)
      · refine lv_iinc (v := nI (k + 1)) (lv' := [(3, .int (nI (k + 1))), (2, .int (nI (ab_cnt (fun j => !decide (K j ≤ 0) && decide (L j = x)) k))), (0, .ref h1), (1, .int x)]) hx hb dX1_stopAll_45 hl (k := 0) rfl (kz_inc k) (by decide) rfl (fun ls hl => ?_)
        refine lv_goto (tgt := 9) hx hb dX1_stopAll_48 (by decide) ?_
        exact ih (H, locs, ls) (by rw [md_sa_f (K := K) (L := L) (t := x) (k := k) (fun h9 => h9.1 c_22)] at hP hD; exact ⟨hP, hD, hS, by rw [show ab_cnt (fun j => !decide (K j ≤ 0) && decide (L j = x)) (k + 1) = _ from ab_cnt_f (by simp [c_22])]; exact lv_sub hl [0, 1, 2, 3] rfl⟩)
      · refine lv_aload_n hx hb dX1_stopAll_25 rfl (lv_at hl 2 rfl) ?_
        refine va_get (ci := 1) (v := .ref b3) (C := RX1) (T := TX1) (N := 8) hx hb hts hinX1 hown hK hP 0 rfl rfl 5 (by decide) (hts (.fieldLink RX1 16 "AlarmBenchModel" "tells" "[I") (by decide +kernel)) (fun _ h9 => h9) rfl dX1_stopAll_26 ?_
        refine lv_iload_n hx hb dX1_stopAll_29 rfl (lv_at hl 0 rfl) ?_
        refine kz_iald hx hb hK hP 3 0 rfl rfl hk (by decide) dX1_stopAll_30 ?_
        refine lv_iload_n hx hb dX1_stopAll_31 rfl (lv_at hl 3 rfl) ?_
        refine lv_icmp_ne (tgt := 45) hx hb dX1_stopAll_32 (by decide) (fun c_32 => ?_) (fun c_32 => ?_)
        · refine lv_iinc (v := nI (k + 1)) (lv' := [(3, .int (nI (k + 1))), (2, .int (nI (ab_cnt (fun j => !decide (K j ≤ 0) && decide (L j = x)) k))), (0, .ref h1), (1, .int x)]) hx hb dX1_stopAll_45 hl (k := 0) rfl (kz_inc k) (by decide) rfl (fun ls hl => ?_)
          refine lv_goto (tgt := 9) hx hb dX1_stopAll_48 (by decide) ?_
          exact ih (H, locs, ls) (by rw [md_sa_f (K := K) (L := L) (t := x) (k := k) (fun h9 => c_32 h9.2)] at hP hD; exact ⟨hP, hD, hS, by rw [show ab_cnt (fun j => !decide (K j ≤ 0) && decide (L j = x)) (k + 1) = _ from ab_cnt_f (by simp [c_32])]; exact lv_sub hl [0, 1, 2, 3] rfl⟩)
        · refine lv_aload_n hx hb dX1_stopAll_35 rfl (lv_at hl 2 rfl) ?_
          refine va_get (ci := 1) (v := .ref b1) (C := RX1) (T := TX1) (N := 8) hx hb hts hinX1 hown hK hP 0 rfl rfl 3 (by decide) (hts (.fieldLink RX1 7 "AlarmBenchModel" "rank" "[I") (by decide +kernel)) (fun _ h9 => h9) rfl dX1_stopAll_36 ?_
          refine lv_iload_n hx hb dX1_stopAll_39 rfl (lv_at hl 0 rfl) ?_
          refine lv_iconst (v := 0) hx hb dX1_stopAll_40 (by decide) ?_
          refine kz_iast hx hb hK hP hD hS 1 0 rfl rfl hk (by decide) dX1_stopAll_41 (fun H locs hP hD hS => ?_)
          rw [md_sa_t c_22 c_32] at hP hD
          have hP : va_P D vwCl (mdW h1 b1 b2 b3 cJ 0 nw rk (md_sa K L x (k + 1)) E L td wd) H := hP
          have hD : va_D A (mdW h1 b1 b2 b3 cJ 0 nw rk (md_sa K L x (k + 1)) E L td wd) := hD
          refine lv_iinc (v := nI (ab_cnt (fun j => !decide (K j ≤ 0) && decide (L j = x)) k + 1)) (lv' := [(2, .int (nI (ab_cnt (fun j => !decide (K j ≤ 0) && decide (L j = x)) k + 1))), (3, .int (nI k)), (0, .ref h1), (1, .int x)]) hx hb dX1_stopAll_42 hl (k := 1) rfl (kz_inc (ab_cnt (fun j => !decide (K j ≤ 0) && decide (L j = x)) k)) (by decide) rfl (fun ls hl => ?_)
          refine lv_iinc (v := nI (k + 1)) (lv' := [(3, .int (nI (k + 1))), (2, .int (nI (ab_cnt (fun j => !decide (K j ≤ 0) && decide (L j = x)) k + 1))), (0, .ref h1), (1, .int x)]) hx hb dX1_stopAll_45 hl (k := 1) rfl (kz_inc k) (by decide) rfl (fun ls hl => ?_)
          refine lv_goto (tgt := 9) hx hb dX1_stopAll_48 (by decide) ?_
          exact ih (H, locs, ls) (by exact ⟨hP, hD, hS, by rw [show ab_cnt (fun j => !decide (K j ≤ 0) && decide (L j = x)) (k + 1) = _ from ab_cnt_t (by simp [c_22, c_32])]; exact lv_sub hl [0, 1, 2, 3] rfl⟩)
  · intro y hI
    obtain ⟨H, locs, ls⟩ := y
    obtain ⟨hP, hD, hS, hl⟩ := hI
    have hP : va_P D vwCl (mdW h1 b1 b2 b3 cJ 0 nw rk (md_sa K L x 512) E L td wd) H := hP
    have hS : va_S A s.heap H locs := hS
    have hl : lv_has ls 4 [(3, .int (nI 512)), (2, .int (nI (ab_cnt (fun j => !decide (K j ≤ 0) && decide (L j = x)) 512))), (0, .ref h1), (1, .int x)] := hl
    show W p l e _ s m _ below meth c H locs 0 0 _ (F0 m 9 ls [])
    refine lv_iload_n hx hb dX1_stopAll_9 rfl (lv_at hl 0 rfl) ?_
    refine lv_sipush (v := 512) hx hb dX1_stopAll_10 (by decide) ?_
    refine lv_icmp_ge (tgt := 51) hx hb dX1_stopAll_13 (by decide) (fun c_13 => ?_) (fun c_13 => ?_)
    · refine lv_iload_n hx hb dX1_stopAll_51 rfl (lv_at hl 1 rfl) ?_
      exact W.iret (v := nI (ab_cnt (fun j => !decide (K j ≤ 0) && decide (L j = x)) 512)) hx hb hr (fun t9 ht9 hW9 => ⟨⟨_, (0, nw, rk, md_sa K L x 512, E, L, td, wd), rfl, ⟨rfl, rfl⟩, by rw [ht9]; exact hP, va_K.moved hW9.alike hK, hD⟩, hS.F ht9⟩) hS.2.2 dX1_stopAll_52
    · exact absurd (Int32.le_refl _) c_13
