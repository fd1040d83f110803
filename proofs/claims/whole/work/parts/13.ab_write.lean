set_option maxHeartbeats 4000000 in
set_option maxRecDepth 100000 in
/-- ring() -/
theorem c_ring (l : Launch) (D : va_G) (h0 a1 a2 a3 a4 : Nat) (cZ cI : ClassId) (S Du T Rk : Nat → Int32) (now lr rt rd : Int32) (sz : Nat)  : Met l yX0_ring wsX0_ring ({ frames := 2, cells := 0, slots := 0, locals := 44 } : Room) (kz_Pc D vwCl (abT cZ cI) (abW h0 a1 a2 a3 a4 cZ cI S Du T Rk now lr rt rd) sz [.ref h0]) (va_Qi (fun (r : Int32) (u : ABs) => (match ab_fst S Du Rk 512 with | none => r = -1 ∧ u = (S, Du, T, Rk, now, lr, rt, rd) | some k => (Du k ≤ now → r = nI k ∧ u = (upd S k 0, Du, T, Rk, now, lr, T k, Du k)) ∧ (¬ Du k ≤ now → r = -1 ∧ u = (S, Du, T, Rk, now, lr, rt, rd)))) (kz_B D vwCl (abT cZ cI) (abU h0 a1 a2 a3 a4 cZ cI) (va_A (abW h0 a1 a2 a3 a4 cZ cI S Du T Rk now lr rt rd) sz)) (va_A (abW h0 a1 a2 a3 a4 cZ cI S Du T Rk now lr rt rd) sz)) 0 0 (va_A (abW h0 a1 a2 a3 a4 cZ cI S Du T Rk now lr rt rd) sz) := by
  refine Met.ofW (cc := cX0_ring) (maxL := 2) (ret := some .int) (by decide) rfl ?_
  intro p e s m args below meth c s₁ B hml hv
  obtain ⟨rfl, hsz, hP, hK, hD0⟩ := hv
  have hx := B.exec
  have hb := B.bytes
  have hr := B.returns
  have hts := atoms_spec (ws := wsX0_ring) B.pre
  have hown : s.vm.findClass RX0 = some m.cls := findClass_of_methodNamed B.named
  have hlocks := B.notSynchronized
  have hinX0 : ∀ w ∈ wsX00, w ∈ wsX0_ring := by decide +kernel
  subst hsz
  have hD := hD0.self (sz := s.heap.size)
  generalize hAe : va_A (abW h0 a1 a2 a3 a4 cZ cI S Du T Rk now lr rt rd) s.heap.size = A at hD ⊢
  have hA : ∀ q : Nat, s.heap.size ≤ q → A q := fun q h => by rw [← hAe]; exact Or.inr h
  have hS : va_S A s.heap s.heap [] := va_S.rf
  refine kz_enter [.ref h0] (Nat.le_of_ble_eq_true rfl) (fun ls hl => ?_)
  have hl : lv_has ls 2 [(0, .ref h0)] := hl
  refine lv_aload_n hx hb dX0_ring_0 rfl (lv_at hl 0 rfl) ?_
  refine kz_callR (As := []) (rest := []) ⟨hx, hb, hml, hown, hts⟩ (c_first l D h0 a1 a2 a3 a4 cZ cI S Du T Rk now lr rt rd) (cwV 0 hts gX0_ring_X0_first rfl rfl rfl (by decide +kernel) ⟨Nat.le_of_ble_eq_true rfl, Nat.le_of_ble_eq_true rfl⟩) hP hK (va_recv hK hP (ci := 0) (q0 := 0) rfl rfl) rfl hl.1 rfl (Nat.le_of_ble_eq_true rfl) dX0_ring_1 ⟨Nat.zero_le _, Nat.zero_le _⟩ (fun r_1 hr_2 => ?_)
  subst hr_2
  refine lv_istore_n (lv' := [(1, .int (oI (ab_fst S Du Rk 512))), (0, .ref h0)]) hx hb dX0_ring_4 rfl hl (by decide) rfl (fun ls hl => ?_)
  refine lv_iload_n hx hb dX0_ring_5 rfl (lv_at hl 0 rfl) ?_
  refine lv_iconst (v := -1) hx hb dX0_ring_6 (by decide) ?_
  refine lv_icmp_eq (tgt := 18) hx hb dX0_ring_7 (by decide) (fun c_7 => ?_) (fun c_7 => ?_)
  · have hn0 := oI_n c_7 (fun j hj => Nat.lt_trans (ab_fst_lt hj).1 (by decide))
    refine lv_iconst (v := -1) hx hb dX0_ring_18 (by decide) ?_
    exact W.iret (v := (-1)) hx hb hr (fun t9 ht9 hW9 => ⟨⟨_, (S, Du, T, Rk, now, lr, rt, rd), rfl, by rw [hn0]; exact ⟨rfl, rfl⟩, by rw [ht9]; exact hP, va_K.moved hW9.alike hK, hD⟩, hS.F ht9⟩) hS.2.2 dX0_ring_19
  · obtain ⟨j0, hj0⟩ : ∃ j, ab_fst S Du Rk 512 = some j := by
      cases hq : ab_fst S Du Rk 512 with
      | none => rw [hq] at c_7; exact absurd rfl c_7
      | some j => exact ⟨j, rfl⟩
    have hk : j0 < 512 := (ab_fst_lt hj0).1
    rw [hj0] at hl
    have hl : lv_has ls 2 [(1, .int (nI j0)), (0, .ref h0)] := hl
    refine lv_aload_n hx hb dX0_ring_10 rfl (lv_at hl 1 rfl) ?_
    refine lv_iload_n hx hb dX0_ring_11 rfl (lv_at hl 0 rfl) ?_
    refine kz_callR (As := [.int (nI j0)]) (rest := []) ⟨hx, hb, hml, hown, hts⟩ (c_isReady l D h0 a1 a2 a3 a4 cZ cI S Du T Rk now lr rt rd j0 hk) (cwV 1 hts gX0_ring_X0_isReady rfl rfl rfl (by decide +kernel) ⟨Nat.le_of_ble_eq_true rfl, Nat.le_of_ble_eq_true rfl⟩) hP hK (va_recv hK hP (ci := 0) (q0 := 0) rfl rfl) rfl hl.1 rfl (Nat.le_of_ble_eq_true rfl) dX0_ring_12 ⟨Nat.zero_le _, Nat.zero_le _⟩ (fun r_3 hr_4 => ?_)
    refine lv_if_ne (tgt := 20) hx hb dX0_ring_15 (by decide) (fun c_15 => ?_) (fun c_15 => ?_)
    · have hd9 := hr_4.t c_15
      refine lv_aload_n hx hb dX0_ring_20 rfl (lv_at hl 1 rfl) ?_
      refine va_get (ci := 0) (v := .ref a1) (C := RX0) (T := TX0) (N := 8) hx hb hts hinX0 hown hK hP 0 rfl rfl 0 (by decide) (hts (.fieldLink RX0 9 "AlarmBench" "isSet" "[Z") (by decide +kernel)) (fun _ h9 => h9) rfl dX0_ring_21 ?_
      refine lv_iload_n hx hb dX0_ring_24 rfl (lv_at hl 0 rfl) ?_
      refine lv_iconst (v := 0) hx hb dX0_ring_25 (by decide) ?_
      refine kz_zast hx hb hK hP hD hS 1 0 rfl rfl hk (by decide) rfl dX0_ring_26 (fun H locs hP hD hS => ?_)
      have hP : va_P D vwCl (abW h0 a1 a2 a3 a4 cZ cI (upd S j0 0) Du T Rk now lr rt rd) H := hP
      have hD : va_D A (abW h0 a1 a2 a3 a4 cZ cI (upd S j0 0) Du T Rk now lr rt rd) := hD
      refine lv_aload_n hx hb dX0_ring_27 rfl (lv_at hl 1 rfl) ?_
      refine lv_aload_n hx hb dX0_ring_28 rfl (lv_at hl 1 rfl) ?_
      refine va_get (ci := 0) (v := .ref a3) (C := RX0) (T := TX0) (N := 8) hx hb hts hinX0 hown hK hP 0 rfl rfl 2 (by decide) (hts (.fieldLink RX0 17 "AlarmBench" "telling" "[I") (by decide +kernel)) (fun _ h9 => h9) rfl dX0_ring_29 ?_
      refine lv_iload_n hx hb dX0_ring_32 rfl (lv_at hl 0 rfl) ?_
      refine kz_iald hx hb hK hP 3 1 rfl rfl hk (by decide) dX0_ring_33 ?_
      refine va_put (ci := 0) (v := .int (T j0)) (ty := .int) (C := RX0) (T := TX0) (N := 8) hx hb hts hinX0 tyX0 tyX0_ok nmX0 hown hK hP hD hS 0 rfl rfl 6 (by decide) (hts (.fieldLink RX0 30 "AlarmBench" "rungTold" "I") (by decide +kernel)) (fun _ h9 => h9) rfl (by decide +kernel) rfl rfl (Nat.le_of_ble_eq_true rfl) dX0_ring_34 (fun H locs hP hD hS => ?_)
      have hP : va_P D vwCl (abW h0 a1 a2 a3 a4 cZ cI (upd S j0 0) Du T Rk now lr (T j0) rd) H := hP
      have hD : va_D A (abW h0 a1 a2 a3 a4 cZ cI (upd S j0 0) Du T Rk now lr (T j0) rd) := hD
      refine lv_aload_n hx hb dX0_ring_37 rfl (lv_at hl 1 rfl) ?_
      refine lv_aload_n hx hb dX0_ring_38 rfl (lv_at hl 1 rfl) ?_
      refine va_get (ci := 0) (v := .ref a2) (C := RX0) (T := TX0) (N := 8) hx hb hts hinX0 hown hK hP 0 rfl rfl 1 (by decide) (hts (.fieldLink RX0 13 "AlarmBench" "dueAt" "[I") (by decide +kernel)) (fun _ h9 => h9) rfl dX0_ring_39 ?_
      refine lv_iload_n hx hb dX0_ring_42 rfl (lv_at hl 0 rfl) ?_
      refine kz_iald hx hb hK hP 2 1 rfl rfl hk (by decide) dX0_ring_43 ?_
      refine va_put (ci := 0) (v := .int (Du j0)) (ty := .int) (C := RX0) (T := TX0) (N := 8) hx hb hts hinX0 tyX0 tyX0_ok nmX0 hown hK hP hD hS 0 rfl rfl 7 (by decide) (hts (.fieldLink RX0 33 "AlarmBench" "rungDue" "I") (by decide +kernel)) (fun _ h9 => h9) rfl (by decide +kernel) rfl rfl (Nat.le_of_ble_eq_true rfl) dX0_ring_44 (fun H locs hP hD hS => ?_)
      have hP : va_P D vwCl (abW h0 a1 a2 a3 a4 cZ cI (upd S j0 0) Du T Rk now lr (T j0) (Du j0)) H := hP
      have hD : va_D A (abW h0 a1 a2 a3 a4 cZ cI (upd S j0 0) Du T Rk now lr (T j0) (Du j0)) := hD
      refine lv_iload_n hx hb dX0_ring_47 rfl (lv_at hl 0 rfl) ?_
      exact W.iret (v := nI j0) hx hb hr (fun t9 ht9 hW9 => ⟨⟨_, (upd S j0 0, Du, T, Rk, now, lr, T j0, Du j0), rfl, by rw [hj0]; exact ⟨fun _ => ⟨rfl, rfl⟩, fun h9 => absurd hd9 h9⟩, by rw [ht9]; exact hP, va_K.moved hW9.alike hK, hD⟩, hS.F ht9⟩) hS.2.2 dX0_ring_48
    · have hd9 := hr_4.f c_15
      refine lv_iconst (v := -1) hx hb dX0_ring_18 (by decide) ?_
      exact W.iret (v := (-1)) hx hb hr (fun t9 ht9 hW9 => ⟨⟨_, (S, Du, T, Rk, now, lr, rt, rd), rfl, by rw [hj0]; exact ⟨fun h9 => absurd h9 hd9, fun _ => ⟨rfl, rfl⟩⟩, by rw [ht9]; exact hP, va_K.moved hW9.alike hK, hD⟩, hS.F ht9⟩) hS.2.2 dX0_ring_19
set_option maxHeartbeats 4000000 in
set_option maxRecDepth 100000 in
/-- stopAll(x) -/
theorem c_stopAll (l : Launch) (D : va_G) (h0 a1 a2 a3 a4 : Nat) (cZ cI : ClassId) (S Du T Rk : Nat → Int32) (now lr rt rd : Int32) (sz : Nat) (x : Int32) : Met l yX0_stopAll wsX0_stopAll ({ frames := 0, cells := 0, slots := 0, locals := 0 } : Room) (kz_Pc D vwCl (abT cZ cI) (abW h0 a1 a2 a3 a4 cZ cI S Du T Rk now lr rt rd) sz [.ref h0, .int x]) (va_Qi (fun (r : Int32) (u : ABs) => r = nI (ab_cnt (fun j => !decide (S j = 0) && decide (T j = x)) 512) ∧ u = (ab_sa S T x 512, Du, T, Rk, now, lr, rt, rd)) (kz_B D vwCl (abT cZ cI) (abU h0 a1 a2 a3 a4 cZ cI) (va_A (abW h0 a1 a2 a3 a4 cZ cI S Du T Rk now lr rt rd) sz)) (va_A (abW h0 a1 a2 a3 a4 cZ cI S Du T Rk now lr rt rd) sz)) 0 0 (va_A (abW h0 a1 a2 a3 a4 cZ cI S Du T Rk now lr rt rd) sz) := by
  refine Met.ofW (cc := cX0_stopAll) (maxL := 4) (ret := some .int) (by decide) rfl ?_
  intro p e s m args below meth c s₁ B hml hv
  obtain ⟨rfl, hsz, hP, hK, hD0⟩ := hv
  have hx := B.exec
  have hb := B.bytes
  have hr := B.returns
  have hts := atoms_spec (ws := wsX0_stopAll) B.pre
  have hown : s.vm.findClass RX0 = some m.cls := findClass_of_methodNamed B.named
  have hlocks := B.notSynchronized
  have hinX0 : ∀ w ∈ wsX00, w ∈ wsX0_stopAll := by decide +kernel
  subst hsz
  have hD := hD0.self (sz := s.heap.size)
  generalize hAe : va_A (abW h0 a1 a2 a3 a4 cZ cI S Du T Rk now lr rt rd) s.heap.size = A at hD ⊢
  have hA : ∀ q : Nat, s.heap.size ≤ q → A q := fun q h => by rw [← hAe]; exact Or.inr h
  have hS : va_S A s.heap s.heap [] := va_S.rf
  refine kz_enter [.ref h0, .int x] (Nat.le_of_ble_eq_true rfl) (fun ls hl => ?_)
  have hl : lv_has ls 4 [(0, .ref h0), (1, .int x)] := hl
  refine lv_iconst (v := 0) hx hb dX0_stopAll_0 (by decide) ?_
  refine lv_istore_n (lv' := [(2, .int 0), (0, .ref h0), (1, .int x)]) hx hb dX0_stopAll_1 rfl hl (by decide) rfl (fun ls hl => ?_)
  refine lv_iconst (v := 0) hx hb dX0_stopAll_2 (by decide) ?_
  refine lv_istore_n (lv' := [(3, .int 0), (2, .int 0), (0, .ref h0), (1, .int x)]) hx hb dX0_stopAll_3 rfl hl (by decide) rfl (fun ls hl => ?_)
  refine kz_loop (G := fun y : Heap × List Loc × Array Slot => W p l e _ s m _ below meth c y.1 y.2.1 0 0 _ (F0 m 4 y.2.2 [])) (I := fun k y => va_P D vwCl (abW h0 a1 a2 a3 a4 cZ cI (ab_sa S T x k) Du T Rk now lr rt rd) y.1 ∧ va_D A (abW h0 a1 a2 a3 a4 cZ cI (ab_sa S T x k) Du T Rk now lr rt rd) ∧ va_S A s.heap y.1 y.2.1 ∧ lv_has y.2.2 4 [(3, .int (nI k)), (2, .int (nI (ab_cnt (fun j => !decide (S j = 0) && decide (T j = x)) k))), (0, .ref h0), (1, .int x)]) 512 ?_ ?_ 0 (Nat.zero_le _) (s.heap, [], ls) (by rw [ab_sa_0]; exact ⟨hP, hD, hS, lv_sub hl [0, 1, 2, 3] rfl⟩)
  · intro k y hk hI ih
    obtain ⟨H, locs, ls⟩ := y
    obtain ⟨hP, hD, hS, hl⟩ := hI
    have hP : va_P D vwCl (abW h0 a1 a2 a3 a4 cZ cI (ab_sa S T x k) Du T Rk now lr rt rd) H := hP
    have hS : va_S A s.heap H locs := hS
    have hl : lv_has ls 4 [(3, .int (nI k)), (2, .int (nI (ab_cnt (fun j => !decide (S j = 0) && decide (T j = x)) k))), (0, .ref h0), (1, .int x)] := hl
    show W p l e _ s m _ below meth c H locs 0 0 _ (F0 m 4 ls [])
    refine lv_iload_n hx hb dX0_stopAll_4 rfl (lv_at hl 0 rfl) ?_
    refine lv_sipush (v := 512) hx hb dX0_stopAll_5 (by decide) ?_
    refine lv_icmp_ge (tgt := 46) hx hb dX0_stopAll_8 (by decide) (fun c_8 => ?_) (fun c_8 => ?_)
    · exact absurd c_8 (nI_ge (a := k) (b := 512) hk (by decide))
    · refine lv_aload_n hx hb dX0_stopAll_11 rfl (lv_at hl 2 rfl) ?_
      refine va_get (ci := 0) (v := .ref a1) (C := RX0) (T := TX0) (N := 8) hx hb hts hinX0 hown hK hP 0 rfl rfl 0 (by decide) (hts (.fieldLink RX0 9 "AlarmBench" "isSet" "[Z") (by decide +kernel)) (fun _ h9 => h9) rfl dX0_stopAll_12 ?_
      refine lv_iload_n hx hb dX0_stopAll_15 rfl (lv_at hl 0 rfl) ?_
      refine kz_zald hx hb hK hP 1 0 rfl rfl hk (by decide) dX0_stopAll_16 ?_
      rw [ab_sa_at]
      refine lv_if_eq (tgt := 40) hx hb dX0_stopAll_17 (by decide) (fun c_17 => ?_) (fun c_17 => ?_)
      · refine lv_iinc (v := nI (k + 1)) (lv' := [(3, .int (nI (k + 1))), (2, .int (nI (ab_cnt (fun j => !decide (S j = 0) && decide (T j = x)) k))), (0, .ref h0), (1, .int x)]) hx hb dX0_stopAll_40 hl (k := 0) rfl (kz_inc k) (by decide) rfl (fun ls hl => ?_)
        refine lv_goto (tgt := 4) hx hb dX0_stopAll_43 (by decide) ?_
        exact ih (H, locs, ls) (by rw [ab_sa_f (S := S) (T := T) (t := x) (k := k) (fun h9 => h9.1 c_17)] at hP hD; exact ⟨hP, hD, hS, by rw [show ab_cnt (fun j => !decide (S j = 0) && decide (T j = x)) (k + 1) = _ from ab_cnt_f (by simp [c_17])]; exact lv_sub hl [0, 1, 2, 3] rfl⟩)
      · refine lv_aload_n hx hb dX0_stopAll_20 rfl (lv_at hl 2 rfl) ?_
        refine va_get (ci := 0) (v := .ref a3) (C := RX0) (T := TX0) (N := 8) hx hb hts hinX0 hown hK hP 0 rfl rfl 2 (by decide) (hts (.fieldLink RX0 17 "AlarmBench" "telling" "[I") (by decide +kernel)) (fun _ h9 => h9) rfl dX0_stopAll_21 ?_
        refine lv_iload_n hx hb dX0_stopAll_24 rfl (lv_at hl 0 rfl) ?_
        refine kz_iald hx hb hK hP 3 1 rfl rfl hk (by decide) dX0_stopAll_25 ?_
        refine lv_iload_n hx hb dX0_stopAll_26 rfl (lv_at hl 3 rfl) ?_
        refine lv_icmp_ne (tgt := 40) hx hb dX0_stopAll_27 (by decide) (fun c_27 => ?_) (fun c_27 => ?_)
        · refine lv_iinc (v := nI (k + 1)) (lv' := [(3, .int (nI (k + 1))), (2, .int (nI (ab_cnt (fun j => !decide (S j = 0) && decide (T j = x)) k))), (0, .ref h0), (1, .int x)]) hx hb dX0_stopAll_40 hl (k := 0) rfl (kz_inc k) (by decide) rfl (fun ls hl => ?_)
          refine lv_goto (tgt := 4) hx hb dX0_stopAll_43 (by decide) ?_
          exact ih (H, locs, ls) (by rw [ab_sa_f (S := S) (T := T) (t := x) (k := k) (fun h9 => c_27 h9.2)] at hP hD; exact ⟨hP, hD, hS, by rw [show ab_cnt (fun j => !decide (S j = 0) && decide (T j = x)) (k + 1) = _ from ab_cnt_f (by simp [c_27])]; exact lv_sub hl [0, 1, 2, 3] rfl⟩)
        · refine lv_aload_n hx hb dX0_stopAll_30 rfl (lv_at hl 2 rfl) ?_
          refine va_get (ci := 0) (v := .ref a1) (C := RX0) (T := TX0) (N := 8) hx hb hts hinX0 hown hK hP 0 rfl rfl 0 (by decide) (hts (.fieldLink RX0 9 "AlarmBench" "isSet" "[Z") (by decide +kernel)) (fun _ h9 => h9) rfl dX0_stopAll_31 ?_
          refine lv_iload_n hx hb dX0_stopAll_34 rfl (lv_at hl 0 rfl) ?_
          refine lv_iconst (v := 0) hx hb dX0_stopAll_35 (by decide) ?_
          refine kz_zast hx hb hK hP hD hS 1 0 rfl rfl hk (by decide) rfl dX0_stopAll_36 (fun H locs hP hD hS => ?_)
          rw [ab_sa_t c_17 c_27] at hP hD
          have hP : va_P D vwCl (abW h0 a1 a2 a3 a4 cZ cI (ab_sa S T x (k + 1)) Du T Rk now lr rt rd) H := hP
          have hD : va_D A (abW h0 a1 a2 a3 a4 cZ cI (ab_sa S T x (k + 1)) Du T Rk now lr rt rd) := hD
          refine lv_iinc (v := nI (ab_cnt (fun j => !decide (S j = 0) && decide (T j = x)) k + 1)) (lv' := [(2, .int (nI (ab_cnt (fun j => !decide (S j = 0) && decide (T j = x)) k + 1))), (3, .int (nI k)), (0, .ref h0), (1, .int x)]) hx hb dX0_stopAll_37 hl (k := 1) rfl (kz_inc (ab_cnt (fun j => !decide (S j = 0) && decide (T j = x)) k)) (by decide) rfl (fun ls hl => ?_)
          refine lv_iinc (v := nI (k + 1)) (lv' := [(3, .int (nI (k + 1))), (2, .int (nI (ab_cnt (fun j => !decide (S j = 0) && decide (T j = x)) k + 1))), (0, .ref h0), (1, .int x)]) hx hb dX0_stopAll_40 hl (k := 1) rfl (kz_inc k) (by decide) rfl (fun ls hl => ?_)
          refine lv_goto (tgt := 4) hx hb dX0_stopAll_43 (by decide) ?_
          exact ih (H, locs, ls) (by exact ⟨hP, hD, hS, by rw [show ab_cnt (fun j => !decide (S j = 0) && decide (T j = x)) (k + 1) = _ from ab_cnt_t (by simp [c_17, c_27])]; exact lv_sub hl [0, 1, 2, 3] rfl⟩)
  · intro y hI
    obtain ⟨H, locs, ls⟩ := y
    obtain ⟨hP, hD, hS, hl⟩ := hI
    have hP : va_P D vwCl (abW h0 a1 a2 a3 a4 cZ cI (ab_sa S T x 512) Du T Rk now lr rt rd) H := hP
    have hS : va_S A s.heap H locs := hS
    have hl : lv_has ls 4 [(3, .int (nI 512)), (2, .int (nI (ab_cnt (fun j => !decide (S j = 0) && decide (T j = x)) 512))), (0, .ref h0), (1, .int x)] := hl
    show W p l e _ s m _ below meth c H locs 0 0 _ (F0 m 4 ls [])
    refine lv_iload_n hx hb dX0_stopAll_4 rfl (lv_at hl 0 rfl) ?_
    refine lv_sipush (v := 512) hx hb dX0_stopAll_5 (by decide) ?_
    refine lv_icmp_ge (tgt := 46) hx hb dX0_stopAll_8 (by decide) (fun c_8 => ?_) (fun c_8 => ?_)
    · refine lv_iload_n hx hb dX0_stopAll_46 rfl (lv_at hl 1 rfl) ?_
      exact W.iret (v := nI (ab_cnt (fun j => !decide (S j = 0) && decide (T j = x)) 512)) hx hb hr (fun t9 ht9 hW9 => ⟨⟨_, (ab_sa S T x 512, Du, T, Rk, now, lr, rt, rd), rfl, ⟨rfl, rfl⟩, by rw [ht9]; exact hP, va_K.moved hW9.alike hK, hD⟩, hS.F ht9⟩) hS.2.2 dX0_stopAll_47
    · exact absurd (Int32.le_refl _) c_8
