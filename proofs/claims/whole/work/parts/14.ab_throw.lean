set_option maxHeartbeats 4000000 in
set_option maxRecDepth 100000 in
/-- set(x, t) -/
theorem c_set (l : Launch) (hl9 : l.stackTraces = false) (D : va_G) (h0 a1 a2 a3 a4 : Nat) (cZ cI : ClassId) (S Du T Rk : Nat → Int32) (now lr rt rd : Int32) (sz : Nat) (x t : Int32) : vx_Met l yX0_set wsX0_set ({ frames := 6, cells := 1, slots := 6, locals := 90 } : Room) (xz_Pc D vwCl (abT cZ cI) (abW h0 a1 a2 a3 a4 cZ cI S Du T Rk now lr rt rd) sz [.ref h0, .int x, .int t]) (va_Qi (fun (r : Int32) (u : ABs) => ∃ k : Nat, k < 512 ∧ r = nI k ∧ S k = 0 ∧ (∀ j, j < k → ¬ S j = 0) ∧ ab_ok x ∧ ¬ 1000000000 - now < x ∧ u = (upd S k 1, upd Du k (now + x), upd T k t, upd Rk k (lr + 1), now, lr + 1, rt, rd)) (kz_B D vwCl (abT cZ cI) (abU h0 a1 a2 a3 a4 cZ cI) (va_A (abW h0 a1 a2 a3 a4 cZ cI S Du T Rk now lr rt rd) sz)) (va_A (abW h0 a1 a2 a3 a4 cZ cI S Du T Rk now lr rt rd) sz)) (xz_X D vwCl (abT cZ cI) (abW h0 a1 a2 a3 a4 cZ cI S Du T Rk now lr rt rd) (va_A (abW h0 a1 a2 a3 a4 cZ cI S Du T Rk now lr rt rd) sz) (fun E => (E = xzA ∧ ¬ ab_ok x) ∨ (E = xzI ∧ ab_ok x ∧ ((∀ j, j < 512 → ¬ S j = 0) ∨ 1000000000 - now < x)))) 1 6 (va_A (abW h0 a1 a2 a3 a4 cZ cI S Du T Rk now lr rt rd) sz) := by
  refine vx_ofW (cc := cX0_set) (maxL := 4) (ret := some .int) (by decide) rfl ?_
  intro p e s m args below meth c s₁ B hml hEx hv
  obtain ⟨rfl, hsz, hP, hK, hD0, hE⟩ := hv
  have hx := B.exec
  have hb := B.bytes
  have hr := B.returns
  have hts := atoms_spec (ws := wsX0_set) B.pre
  have hown : s.vm.findClass RX0 = some m.cls := findClass_of_methodNamed B.named
  have hlocks := B.notSynchronized
  have hinX0 : ∀ w ∈ wsX00, w ∈ wsX0_set := by decide +kernel
  subst hsz
  have hD := hD0.self (sz := s.heap.size)
  generalize hAe : va_A (abW h0 a1 a2 a3 a4 cZ cI S Du T Rk now lr rt rd) s.heap.size = A at hD hE ⊢
  have hA : ∀ q : Nat, s.heap.size ≤ q → A q := fun q h => by rw [← hAe]; exact Or.inr h
  have hS : va_S A s.heap s.heap [] := va_S.rf
  refine kz_enter [.ref h0, .int x, .int t] (Nat.le_of_ble_eq_true rfl) (fun ls hl => ?_)
  have hl : lv_has ls 4 [(0, .ref h0), (1, .int x), (2, .int t)] := hl
  refine lv_iload_n hx hb dX0_set_0 rfl (lv_at hl 1 rfl) ?_
  refine kz_callS (As := [.int x]) (rest := []) ⟨hx, hb, hml, hown, hts⟩ (c_canBeAhead l x) (va_cwS 1 hts gX0_set_X0_canBeAhead rfl rfl rfl (by decide +kernel) ⟨Nat.le_of_ble_eq_true rfl, Nat.le_of_ble_eq_true rfl⟩) rfl hl.1 rfl (Nat.le_of_ble_eq_true rfl) dX0_set_1 ⟨Nat.zero_le _, Nat.zero_le _⟩ (fun r_1 hr_2 => ?_)
  refine lv_if_ne (tgt := 17) hx hb dX0_set_4 (by decide) (fun c_4 => ?_) (fun c_4 => ?_)
  · have hok := hr_2.t c_4
    refine lv_aload_n hx hb dX0_set_17 rfl (lv_at hl 0 rfl) ?_
    refine kz_callR (As := []) (rest := []) ⟨hx, hb, hml, hown, hts⟩ (c_leastFree l D h0 a1 a2 a3 a4 cZ cI S Du T Rk now lr rt rd) (cwV 0 hts gX0_set_X0_leastFree rfl rfl rfl (by decide +kernel) ⟨Nat.le_of_ble_eq_true rfl, Nat.le_of_ble_eq_true rfl⟩) hP hK (va_recv hK hP (ci := 0) (q0 := 0) rfl rfl) rfl hl.1 rfl (Nat.le_of_ble_eq_true rfl) dX0_set_18 ⟨Nat.zero_le _, Nat.zero_le _⟩ (fun r_3 hr_4 => ?_)
    refine lv_istore_n (lv' := [(3, .int r_3), (0, .ref h0), (1, .int x), (2, .int t)]) hx hb dX0_set_21 rfl hl (by decide) rfl (fun ls hl => ?_)
    refine lv_iload_n hx hb dX0_set_22 rfl (lv_at hl 0 rfl) ?_
    refine lv_iconst (v := -1) hx hb dX0_set_23 (by decide) ?_
    refine lv_icmp_ne (tgt := 37) hx hb dX0_set_24 (by decide) (fun c_24 => ?_) (fun c_24 => ?_)
    · obtain ⟨k, hk, rfl, hS0, hlo⟩ := hr_4.resolve_right (fun h9 => c_24 h9.1)
      refine lv_aload_n hx hb dX0_set_37 rfl (lv_at hl 1 rfl) ?_
      refine lv_iload_n hx hb dX0_set_38 rfl (lv_at hl 2 rfl) ?_
      refine kz_callR (As := [.int x]) (rest := []) ⟨hx, hb, hml, hown, hts⟩ (c_isBehindLastTime l D h0 a1 a2 a3 a4 cZ cI S Du T Rk now lr rt rd x) (cwV 1 hts gX0_set_X0_isBehindLastTime rfl rfl rfl (by decide +kernel) ⟨Nat.le_of_ble_eq_true rfl, Nat.le_of_ble_eq_true rfl⟩) hP hK (va_recv hK hP (ci := 0) (q0 := 0) rfl rfl) rfl hl.1 rfl (Nat.le_of_ble_eq_true rfl) dX0_set_39 ⟨Nat.zero_le _, Nat.zero_le _⟩ (fun r_5 hr_6 => ?_)
      refine lv_if_eq (tgt := 55) hx hb dX0_set_42 (by decide) (fun c_42 => ?_) (fun c_42 => ?_)
      · have hbe := hr_6.f c_42
        refine lv_aload_n hx hb dX0_set_55 rfl (lv_at hl 1 rfl) ?_
        refine va_get (ci := 0) (v := .ref a1) (C := RX0) (T := TX0) (N := 8) hx hb hts hinX0 hown hK hP 0 rfl rfl 0 (by decide) (hts (.fieldLink RX0 9 "AlarmBench" "isSet" "[Z") (by decide +kernel)) (fun _ h9 => h9) rfl dX0_set_56 ?_
        refine lv_iload_n hx hb dX0_set_59 rfl (lv_at hl 0 rfl) ?_
        refine lv_iconst (v := 1) hx hb dX0_set_60 (by decide) ?_
        refine kz_zast hx hb hK hP hD hS 1 0 rfl rfl hk (by decide) rfl dX0_set_61 (fun H locs hP hD hS => ?_)
        have hP : va_P D vwCl (abW h0 a1 a2 a3 a4 cZ cI (upd S k 1) Du T Rk now lr rt rd) H := hP
        have hD : va_D A (abW h0 a1 a2 a3 a4 cZ cI (upd S k 1) Du T Rk now lr rt rd) := hD
        refine lv_aload_n hx hb dX0_set_62 rfl (lv_at hl 1 rfl) ?_
        refine va_get (ci := 0) (v := .ref a3) (C := RX0) (T := TX0) (N := 8) hx hb hts hinX0 hown hK hP 0 rfl rfl 2 (by decide) (hts (.fieldLink RX0 17 "AlarmBench" "telling" "[I") (by decide +kernel)) (fun _ h9 => h9) rfl dX0_set_63 ?_
        refine lv_iload_n hx hb dX0_set_66 rfl (lv_at hl 0 rfl) ?_
        refine lv_iload_n hx hb dX0_set_67 rfl (lv_at hl 3 rfl) ?_
        refine kz_iast hx hb hK hP hD hS 3 1 rfl rfl hk (by decide) dX0_set_68 (fun H locs hP hD hS => ?_)
        have hP : va_P D vwCl (abW h0 a1 a2 a3 a4 cZ cI (upd S k 1) Du (upd T k t) Rk now lr rt rd) H := hP
        have hD : va_D A (abW h0 a1 a2 a3 a4 cZ cI (upd S k 1) Du (upd T k t) Rk now lr rt rd) := hD
        refine lv_aload_n hx hb dX0_set_69 rfl (lv_at hl 1 rfl) ?_
        refine lv_iload_n hx hb dX0_set_70 rfl (lv_at hl 0 rfl) ?_
        refine lv_iload_n hx hb dX0_set_71 rfl (lv_at hl 2 rfl) ?_
        refine kz_callv (wc := (abW h0 a1 a2 a3 a4 cZ cI (upd S k 1) Du (upd T k t) Rk now lr rt rd)) (wr := []) (As := [.int (nI k), .int x]) (rest := []) ⟨hx, hb, hml, hown, hts⟩ (c_putAhead l D h0 a1 a2 a3 a4 cZ cI (upd S k 1) Du (upd T k t) Rk now lr rt rd _ k hk x) (cwV 2 hts gX0_set_X0_putAhead rfl rfl rfl (by decide +kernel) ⟨Nat.le_of_ble_eq_true rfl, Nat.le_of_ble_eq_true rfl⟩) hP hD hS hA hK [0, 1, 2, 3, 4] [] rfl rfl rfl rfl rfl (by decide) (va_recv hK hP (ci := 0) (q0 := 0) rfl rfl) rfl hl.1 rfl (Nat.le_of_ble_eq_true rfl) dX0_set_72 ⟨Nat.zero_le _, Nat.zero_le _⟩ (fun u H locs hu hP hD hS => ?_)
        subst hu
        have hP : va_P D vwCl (abW h0 a1 a2 a3 a4 cZ cI (upd S k 1) (upd Du k (now + x)) (upd T k t) (upd Rk k (lr + 1)) now (lr + 1) rt rd) H := hP
        have hD : va_D A (abW h0 a1 a2 a3 a4 cZ cI (upd S k 1) (upd Du k (now + x)) (upd T k t) (upd Rk k (lr + 1)) now (lr + 1) rt rd) := hD
        refine lv_iload_n hx hb dX0_set_75 rfl (lv_at hl 0 rfl) ?_
        refine vx_ret ?_
        refine W.widen (k := 1) (n := 6) (by decide) (by decide) ?_
        exact W.iret (v := nI k) hx hb hr (fun t9 ht9 hW9 => ⟨⟨_, (upd S k 1, upd Du k (now + x), upd T k t, upd Rk k (lr + 1), now, lr + 1, rt, rd), rfl, ⟨k, hk, rfl, hS0, hlo, hok, hbe, rfl⟩, by rw [ht9]; exact hP, va_K.moved hW9.alike hK, hD⟩, hS.F ht9⟩) hS.2.2 dX0_set_76
      · have hbe := hr_6.t c_42
        obtain ⟨sa, hsa⟩ := hE.2.2.2 (59, "it would be due behind 1000000000") (by decide +kernel)
        obtain ⟨⟨w1, w2, w3, w4, w5⟩, -⟩ := hE.2.2
        exact vx_throwS (own := RX0) (cls := xzI) (names := xzN) hx hb hl9 hown (by decide +kernel) (by decide +kernel) (hts (.classLink RX0 51 xzI) (by decide +kernel)) (hts (.initialized xzI) (by decide +kernel)) hsa (vx_hat (L := vx_atS RX0 55 xzI xzN) (B := [.castable xzI xzI, xzD "java/lang/RuntimeException", xzD "java/lang/Exception", xzD "java/lang/Throwable"]) (fun w hw => hts w ((by decide +kernel : ∀ w ∈ (vx_atS RX0 55 xzI xzN).filter goodWord, w ∈ wsX0_set) w hw)) (by decide +kernel) (vx_c (va_Nw.use rfl w2) (vx_c (va_Nw.use rfl w3) (vx_c (va_Nw.use rfl w4) (vx_c (va_Nw.use rfl w5) vx_n))))) (by decide +kernel) hE.1 hE.2.1 hS (hl.1.trans hml.symm) dX0_set_45 dX0_set_48 dX0_set_49 dX0_set_51 dX0_set_54 (fun x hx => (hEx x hx).elim) (Nat.le_of_ble_eq_true rfl) (Nat.le_of_ble_eq_true rfl) (Nat.le_of_ble_eq_true rfl) (Nat.le_of_ble_eq_true rfl) hlocks (fun t9 ha9 hz9 hk9 => ⟨(), trivial, ⟨Or.inr ⟨rfl, hok, Or.inr hbe⟩, hP.kept (fun k9 q9 hq9 => hk9 q9.1 (hP k9 q9 hq9).lt), va_K.moved ha9 hK, hD⟩, Nat.le_trans hS.1 hz9, fun q9 h1 h2 => (hk9 q9 (Nat.lt_of_lt_of_le h1 hS.1)).trans (hS.2.1 q9 h1 h2)⟩) hS.2.2 (Nat.le_of_ble_eq_true rfl) (Nat.le_of_ble_eq_true rfl)
    · have hfull := (hr_4.resolve_left (fun ⟨j, hj, e9, _⟩ => nI_pos (n := j) (by omega) (by rw [← e9, c_24]; decide))).2
      obtain ⟨sa, hsa⟩ := hE.2.2.2 (53, "there are 512 alarms") (by decide +kernel)
      obtain ⟨⟨w1, w2, w3, w4, w5⟩, -⟩ := hE.2.2
      exact vx_throwS (own := RX0) (cls := xzI) (names := xzN) hx hb hl9 hown (by decide +kernel) (by decide +kernel) (hts (.classLink RX0 51 xzI) (by decide +kernel)) (hts (.initialized xzI) (by decide +kernel)) hsa (vx_hat (L := vx_atS RX0 55 xzI xzN) (B := [.castable xzI xzI, xzD "java/lang/RuntimeException", xzD "java/lang/Exception", xzD "java/lang/Throwable"]) (fun w hw => hts w ((by decide +kernel : ∀ w ∈ (vx_atS RX0 55 xzI xzN).filter goodWord, w ∈ wsX0_set) w hw)) (by decide +kernel) (vx_c (va_Nw.use rfl w2) (vx_c (va_Nw.use rfl w3) (vx_c (va_Nw.use rfl w4) (vx_c (va_Nw.use rfl w5) vx_n))))) (by decide +kernel) hE.1 hE.2.1 hS (hl.1.trans hml.symm) dX0_set_27 dX0_set_30 dX0_set_31 dX0_set_33 dX0_set_36 (fun x hx => (hEx x hx).elim) (Nat.le_of_ble_eq_true rfl) (Nat.le_of_ble_eq_true rfl) (Nat.le_of_ble_eq_true rfl) (Nat.le_of_ble_eq_true rfl) hlocks (fun t9 ha9 hz9 hk9 => ⟨(), trivial, ⟨Or.inr ⟨rfl, hok, Or.inl hfull⟩, hP.kept (fun k9 q9 hq9 => hk9 q9.1 (hP k9 q9 hq9).lt), va_K.moved ha9 hK, hD⟩, Nat.le_trans hS.1 hz9, fun q9 h1 h2 => (hk9 q9 (Nat.lt_of_lt_of_le h1 hS.1)).trans (hS.2.1 q9 h1 h2)⟩) hS.2.2 (Nat.le_of_ble_eq_true rfl) (Nat.le_of_ble_eq_true rfl)
  · have hok := hr_2.f c_4
    obtain ⟨sa, hsa⟩ := hE.2.2.2 (42, "ticks is not 0 .. 1000000000") (by decide +kernel)
    obtain ⟨⟨w1, w2, w3, w4, w5⟩, -⟩ := hE.2.2
    exact vx_throwS (own := RX0) (cls := xzA) (names := xzN) hx hb hl9 hown (by decide +kernel) (by decide +kernel) (hts (.classLink RX0 40 xzA) (by decide +kernel)) (hts (.initialized xzA) (by decide +kernel)) hsa (vx_hat (L := vx_atS RX0 44 xzA xzN) (B := [.castable xzA xzA, xzD "java/lang/RuntimeException", xzD "java/lang/Exception", xzD "java/lang/Throwable"]) (fun w hw => hts w ((by decide +kernel : ∀ w ∈ (vx_atS RX0 44 xzA xzN).filter goodWord, w ∈ wsX0_set) w hw)) (by decide +kernel) (vx_c (va_Nw.use rfl w1) (vx_c (va_Nw.use rfl w3) (vx_c (va_Nw.use rfl w4) (vx_c (va_Nw.use rfl w5) vx_n))))) (by decide +kernel) hE.1 hE.2.1 hS (hl.1.trans hml.symm) dX0_set_7 dX0_set_10 dX0_set_11 dX0_set_13 dX0_set_16 (fun x hx => (hEx x hx).elim) (Nat.le_of_ble_eq_true rfl) (Nat.le_of_ble_eq_true rfl) (Nat.le_of_ble_eq_true rfl) (Nat.le_of_ble_eq_true rfl) hlocks (fun t9 ha9 hz9 hk9 => ⟨(), trivial, ⟨Or.inl ⟨rfl, hok⟩, hP.kept (fun k9 q9 hq9 => hk9 q9.1 (hP k9 q9 hq9).lt), va_K.moved ha9 hK, hD⟩, Nat.le_trans hS.1 hz9, fun q9 h1 h2 => (hk9 q9 (Nat.lt_of_lt_of_le h1 hS.1)).trans (hS.2.1 q9 h1 h2)⟩) hS.2.2 (Nat.le_of_ble_eq_true rfl) (Nat.le_of_ble_eq_true rfl)
set_option maxHeartbeats 4000000 in
set_option maxRecDepth 100000 in
/-- shift(x, t) -/
theorem c_shift (l : Launch) (hl9 : l.stackTraces = false) (D : va_G) (h0 a1 a2 a3 a4 : Nat) (cZ cI : ClassId) (S Du T Rk : Nat → Int32) (now lr rt rd : Int32) (sz : Nat) (x t : Int32) : vx_Met l yX0_shift wsX0_shift ({ frames := 6, cells := 1, slots := 6, locals := 90 } : Room) (xz_Pc D vwCl (abT cZ cI) (abW h0 a1 a2 a3 a4 cZ cI S Du T Rk now lr rt rd) sz [.ref h0, .int x, .int t]) (va_Qi (fun (r : Int32) (u : ABs) => ∃ k : Nat, k < 512 ∧ x = nI k ∧ ¬ S k = 0 ∧ ab_ok t ∧ ¬ 1000000000 - now < t ∧ r = Du k - now ∧ u = (S, upd Du k (now + t), T, upd Rk k (lr + 1), now, lr + 1, rt, rd)) (kz_B D vwCl (abT cZ cI) (abU h0 a1 a2 a3 a4 cZ cI) (va_A (abW h0 a1 a2 a3 a4 cZ cI S Du T Rk now lr rt rd) sz)) (va_A (abW h0 a1 a2 a3 a4 cZ cI S Du T Rk now lr rt rd) sz)) (xz_X D vwCl (abT cZ cI) (abW h0 a1 a2 a3 a4 cZ cI S Du T Rk now lr rt rd) (va_A (abW h0 a1 a2 a3 a4 cZ cI S Du T Rk now lr rt rd) sz) (fun E => (E = xzA ∧ (¬ ab_ex S x ∨ ¬ ab_ok t)) ∨ (E = xzI ∧ ab_ex S x ∧ ab_ok t ∧ 1000000000 - now < t))) 1 6 (va_A (abW h0 a1 a2 a3 a4 cZ cI S Du T Rk now lr rt rd) sz) := by
  refine vx_ofW (cc := cX0_shift) (maxL := 4) (ret := some .int) (by decide) rfl ?_
  intro p e s m args below meth c s₁ B hml hEx hv
  obtain ⟨rfl, hsz, hP, hK, hD0, hE⟩ := hv
  have hx := B.exec
  have hb := B.bytes
  have hr := B.returns
  have hts := atoms_spec (ws := wsX0_shift) B.pre
  have hown : s.vm.findClass RX0 = some m.cls := findClass_of_methodNamed B.named
  have hlocks := B.notSynchronized
  have hinX0 : ∀ w ∈ wsX00, w ∈ wsX0_shift := by decide +kernel
  subst hsz
  have hD := hD0.self (sz := s.heap.size)
  generalize hAe : va_A (abW h0 a1 a2 a3 a4 cZ cI S Du T Rk now lr rt rd) s.heap.size = A at hD hE ⊢
  have hA : ∀ q : Nat, s.heap.size ≤ q → A q := fun q h => by rw [← hAe]; exact Or.inr h
  have hS : va_S A s.heap s.heap [] := va_S.rf
  refine kz_enter [.ref h0, .int x, .int t] (Nat.le_of_ble_eq_true rfl) (fun ls hl => ?_)
  have hl : lv_has ls 4 [(0, .ref h0), (1, .int x), (2, .int t)] := hl
  refine lv_aload_n hx hb dX0_shift_0 rfl (lv_at hl 0 rfl) ?_
  refine lv_iload_n hx hb dX0_shift_1 rfl (lv_at hl 1 rfl) ?_
  refine kz_callR (As := [.int x]) (rest := []) ⟨hx, hb, hml, hown, hts⟩ (c_exists l D h0 a1 a2 a3 a4 cZ cI S Du T Rk now lr rt rd x) (cwV 1 hts gX0_shift_X0_exists rfl rfl rfl (by decide +kernel) ⟨Nat.le_of_ble_eq_true rfl, Nat.le_of_ble_eq_true rfl⟩) hP hK (va_recv hK hP (ci := 0) (q0 := 0) rfl rfl) rfl hl.1 rfl (Nat.le_of_ble_eq_true rfl) dX0_shift_2 ⟨Nat.zero_le _, Nat.zero_le _⟩ (fun r_1 hr_2 => ?_)
  refine lv_if_ne (tgt := 18) hx hb dX0_shift_5 (by decide) (fun c_5 => ?_) (fun c_5 => ?_)
  · obtain ⟨k, hk, rfl, hS0⟩ := hr_2.t c_5
    refine lv_iload_n hx hb dX0_shift_18 rfl (lv_at hl 2 rfl) ?_
    refine kz_callS (As := [.int t]) (rest := []) ⟨hx, hb, hml, hown, hts⟩ (c_canBeAhead l t) (va_cwS 1 hts gX0_shift_X0_canBeAhead rfl rfl rfl (by decide +kernel) ⟨Nat.le_of_ble_eq_true rfl, Nat.le_of_ble_eq_true rfl⟩) rfl hl.1 rfl (Nat.le_of_ble_eq_true rfl) dX0_shift_19 ⟨Nat.zero_le _, Nat.zero_le _⟩ (fun r_3 hr_4 => ?_)
    refine lv_if_ne (tgt := 35) hx hb dX0_shift_22 (by decide) (fun c_22 => ?_) (fun c_22 => ?_)
    · have hok := hr_4.t c_22
      refine lv_aload_n hx hb dX0_shift_35 rfl (lv_at hl 0 rfl) ?_
      refine lv_iload_n hx hb dX0_shift_36 rfl (lv_at hl 2 rfl) ?_
      refine kz_callR (As := [.int t]) (rest := []) ⟨hx, hb, hml, hown, hts⟩ (c_isBehindLastTime l D h0 a1 a2 a3 a4 cZ cI S Du T Rk now lr rt rd t) (cwV 1 hts gX0_shift_X0_isBehindLastTime rfl rfl rfl (by decide +kernel) ⟨Nat.le_of_ble_eq_true rfl, Nat.le_of_ble_eq_true rfl⟩) hP hK (va_recv hK hP (ci := 0) (q0 := 0) rfl rfl) rfl hl.1 rfl (Nat.le_of_ble_eq_true rfl) dX0_shift_37 ⟨Nat.zero_le _, Nat.zero_le _⟩ (fun r_5 hr_6 => ?_)
      refine lv_if_eq (tgt := 53) hx hb dX0_shift_40 (by decide) (fun c_40 => ?_) (fun c_40 => ?_)
      · have hbe := hr_6.f c_40
        refine lv_aload_n hx hb dX0_shift_53 rfl (lv_at hl 0 rfl) ?_
        refine va_get (ci := 0) (v := .ref a2) (C := RX0) (T := TX0) (N := 8) hx hb hts hinX0 hown hK hP 0 rfl rfl 1 (by decide) (hts (.fieldLink RX0 13 "AlarmBench" "dueAt" "[I") (by decide +kernel)) (fun _ h9 => h9) rfl dX0_shift_54 ?_
        refine lv_iload_n hx hb dX0_shift_57 rfl (lv_at hl 1 rfl) ?_
        refine kz_iald hx hb hK hP 2 1 rfl rfl hk (by decide) dX0_shift_58 ?_
        refine lv_aload_n hx hb dX0_shift_59 rfl (lv_at hl 0 rfl) ?_
        refine va_get (ci := 0) (v := .int now) (C := RX0) (T := TX0) (N := 8) hx hb hts hinX0 hown hK hP 0 rfl rfl 4 (by decide) (hts (.fieldLink RX0 23 "AlarmBench" "now" "I") (by decide +kernel)) (fun _ h9 => h9) rfl dX0_shift_60 ?_
        refine lv_isub hx hb dX0_shift_63 ?_
        refine lv_istore_n (lv' := [(3, .int ((Du k) - now)), (0, .ref h0), (1, .int (nI k)), (2, .int t)]) hx hb dX0_shift_64 rfl hl (by decide) rfl (fun ls hl => ?_)
        refine lv_aload_n hx hb dX0_shift_65 rfl (lv_at hl 1 rfl) ?_
        refine lv_iload_n hx hb dX0_shift_66 rfl (lv_at hl 2 rfl) ?_
        refine lv_iload_n hx hb dX0_shift_67 rfl (lv_at hl 3 rfl) ?_
        refine kz_callv (wc := (abW h0 a1 a2 a3 a4 cZ cI S Du T Rk now lr rt rd)) (wr := []) (As := [.int (nI k), .int t]) (rest := []) ⟨hx, hb, hml, hown, hts⟩ (c_putAhead l D h0 a1 a2 a3 a4 cZ cI S Du T Rk now lr rt rd _ k hk t) (cwV 2 hts gX0_shift_X0_putAhead rfl rfl rfl (by decide +kernel) ⟨Nat.le_of_ble_eq_true rfl, Nat.le_of_ble_eq_true rfl⟩) hP hD hS hA hK [0, 1, 2, 3, 4] [] rfl rfl rfl rfl rfl (by decide) (va_recv hK hP (ci := 0) (q0 := 0) rfl rfl) rfl hl.1 rfl (Nat.le_of_ble_eq_true rfl) dX0_shift_68 ⟨Nat.zero_le _, Nat.zero_le _⟩ (fun u H locs hu hP hD hS => ?_)
        subst hu
        have hP : va_P D vwCl (abW h0 a1 a2 a3 a4 cZ cI S (upd Du k (now + t)) T (upd Rk k (lr + 1)) now (lr + 1) rt rd) H := hP
        have hD : va_D A (abW h0 a1 a2 a3 a4 cZ cI S (upd Du k (now + t)) T (upd Rk k (lr + 1)) now (lr + 1) rt rd) := hD
        refine lv_iload_n hx hb dX0_shift_71 rfl (lv_at hl 0 rfl) ?_
        refine vx_ret ?_
        refine W.widen (k := 1) (n := 6) (by decide) (by decide) ?_
        exact W.iret (v := (Du k) - now) hx hb hr (fun t9 ht9 hW9 => ⟨⟨_, (S, upd Du k (now + t), T, upd Rk k (lr + 1), now, lr + 1, rt, rd), rfl, ⟨k, hk, rfl, hS0, hok, hbe, rfl, rfl⟩, by rw [ht9]; exact hP, va_K.moved hW9.alike hK, hD⟩, hS.F ht9⟩) hS.2.2 dX0_shift_72
      · have hbe := hr_6.t c_40
        obtain ⟨sa, hsa⟩ := hE.2.2.2 (59, "it would be due behind 1000000000") (by decide +kernel)
        obtain ⟨⟨w1, w2, w3, w4, w5⟩, -⟩ := hE.2.2
        exact vx_throwS (own := RX0) (cls := xzI) (names := xzN) hx hb hl9 hown (by decide +kernel) (by decide +kernel) (hts (.classLink RX0 51 xzI) (by decide +kernel)) (hts (.initialized xzI) (by decide +kernel)) hsa (vx_hat (L := vx_atS RX0 55 xzI xzN) (B := [.castable xzI xzI, xzD "java/lang/RuntimeException", xzD "java/lang/Exception", xzD "java/lang/Throwable"]) (fun w hw => hts w ((by decide +kernel : ∀ w ∈ (vx_atS RX0 55 xzI xzN).filter goodWord, w ∈ wsX0_shift) w hw)) (by decide +kernel) (vx_c (va_Nw.use rfl w2) (vx_c (va_Nw.use rfl w3) (vx_c (va_Nw.use rfl w4) (vx_c (va_Nw.use rfl w5) vx_n))))) (by decide +kernel) hE.1 hE.2.1 hS (hl.1.trans hml.symm) dX0_shift_43 dX0_shift_46 dX0_shift_47 dX0_shift_49 dX0_shift_52 (fun x hx => (hEx x hx).elim) (Nat.le_of_ble_eq_true rfl) (Nat.le_of_ble_eq_true rfl) (Nat.le_of_ble_eq_true rfl) (Nat.le_of_ble_eq_true rfl) hlocks (fun t9 ha9 hz9 hk9 => ⟨(), trivial, ⟨Or.inr ⟨rfl, ⟨k, hk, rfl, hS0⟩, hok, hbe⟩, hP.kept (fun k9 q9 hq9 => hk9 q9.1 (hP k9 q9 hq9).lt), va_K.moved ha9 hK, hD⟩, Nat.le_trans hS.1 hz9, fun q9 h1 h2 => (hk9 q9 (Nat.lt_of_lt_of_le h1 hS.1)).trans (hS.2.1 q9 h1 h2)⟩) hS.2.2 (Nat.le_of_ble_eq_true rfl) (Nat.le_of_ble_eq_true rfl)
    · have hok := hr_4.f c_22
      obtain ⟨sa, hsa⟩ := hE.2.2.2 (42, "ticks is not 0 .. 1000000000") (by decide +kernel)
      obtain ⟨⟨w1, w2, w3, w4, w5⟩, -⟩ := hE.2.2
      exact vx_throwS (own := RX0) (cls := xzA) (names := xzN) hx hb hl9 hown (by decide +kernel) (by decide +kernel) (hts (.classLink RX0 40 xzA) (by decide +kernel)) (hts (.initialized xzA) (by decide +kernel)) hsa (vx_hat (L := vx_atS RX0 44 xzA xzN) (B := [.castable xzA xzA, xzD "java/lang/RuntimeException", xzD "java/lang/Exception", xzD "java/lang/Throwable"]) (fun w hw => hts w ((by decide +kernel : ∀ w ∈ (vx_atS RX0 44 xzA xzN).filter goodWord, w ∈ wsX0_shift) w hw)) (by decide +kernel) (vx_c (va_Nw.use rfl w1) (vx_c (va_Nw.use rfl w3) (vx_c (va_Nw.use rfl w4) (vx_c (va_Nw.use rfl w5) vx_n))))) (by decide +kernel) hE.1 hE.2.1 hS (hl.1.trans hml.symm) dX0_shift_25 dX0_shift_28 dX0_shift_29 dX0_shift_31 dX0_shift_34 (fun x hx => (hEx x hx).elim) (Nat.le_of_ble_eq_true rfl) (Nat.le_of_ble_eq_true rfl) (Nat.le_of_ble_eq_true rfl) (Nat.le_of_ble_eq_true rfl) hlocks (fun t9 ha9 hz9 hk9 => ⟨(), trivial, ⟨Or.inl ⟨rfl, Or.inr hok⟩, hP.kept (fun k9 q9 hq9 => hk9 q9.1 (hP k9 q9 hq9).lt), va_K.moved ha9 hK, hD⟩, Nat.le_trans hS.1 hz9, fun q9 h1 h2 => (hk9 q9 (Nat.lt_of_lt_of_le h1 hS.1)).trans (hS.2.1 q9 h1 h2)⟩) hS.2.2 (Nat.le_of_ble_eq_true rfl) (Nat.le_of_ble_eq_true rfl)
  · have hS0 := hr_2.f c_5
    obtain ⟨sa, hsa⟩ := hE.2.2.2 (68, "there is no such alarm") (by decide +kernel)
    obtain ⟨⟨w1, w2, w3, w4, w5⟩, -⟩ := hE.2.2
    exact vx_throwS (own := RX0) (cls := xzA) (names := xzN) hx hb hl9 hown (by decide +kernel) (by decide +kernel) (hts (.classLink RX0 40 xzA) (by decide +kernel)) (hts (.initialized xzA) (by decide +kernel)) hsa (vx_hat (L := vx_atS RX0 44 xzA xzN) (B := [.castable xzA xzA, xzD "java/lang/RuntimeException", xzD "java/lang/Exception", xzD "java/lang/Throwable"]) (fun w hw => hts w ((by decide +kernel : ∀ w ∈ (vx_atS RX0 44 xzA xzN).filter goodWord, w ∈ wsX0_shift) w hw)) (by decide +kernel) (vx_c (va_Nw.use rfl w1) (vx_c (va_Nw.use rfl w3) (vx_c (va_Nw.use rfl w4) (vx_c (va_Nw.use rfl w5) vx_n))))) (by decide +kernel) hE.1 hE.2.1 hS (hl.1.trans hml.symm) dX0_shift_8 dX0_shift_11 dX0_shift_12 dX0_shift_14 dX0_shift_17 (fun x hx => (hEx x hx).elim) (Nat.le_of_ble_eq_true rfl) (Nat.le_of_ble_eq_true rfl) (Nat.le_of_ble_eq_true rfl) (Nat.le_of_ble_eq_true rfl) hlocks (fun t9 ha9 hz9 hk9 => ⟨(), trivial, ⟨Or.inl ⟨rfl, Or.inl hS0⟩, hP.kept (fun k9 q9 hq9 => hk9 q9.1 (hP k9 q9 hq9).lt), va_K.moved ha9 hK, hD⟩, Nat.le_trans hS.1 hz9, fun q9 h1 h2 => (hk9 q9 (Nat.lt_of_lt_of_le h1 hS.1)).trans (hS.2.1 q9 h1 h2)⟩) hS.2.2 (Nat.le_of_ble_eq_true rfl) (Nat.le_of_ble_eq_true rfl)
set_option maxHeartbeats 4000000 in
set_option maxRecDepth 100000 in
/-- stop(x) -/
theorem c_stop (l : Launch) (hl9 : l.stackTraces = false) (D : va_G) (h0 a1 a2 a3 a4 : Nat) (cZ cI : ClassId) (S Du T Rk : Nat → Int32) (now lr rt rd : Int32) (sz : Nat) (x : Int32) : vx_Met l yX0_stop wsX0_stop ({ frames := 6, cells := 1, slots := 6, locals := 90 } : Room) (xz_Pc D vwCl (abT cZ cI) (abW h0 a1 a2 a3 a4 cZ cI S Du T Rk now lr rt rd) sz [.ref h0, .int x]) (va_Qi (fun (r : Int32) (u : ABs) => ∃ k : Nat, k < 512 ∧ x = nI k ∧ ¬ S k = 0 ∧ r = T k ∧ u = (upd S k 0, Du, T, Rk, now, lr, rt, rd)) (kz_B D vwCl (abT cZ cI) (abU h0 a1 a2 a3 a4 cZ cI) (va_A (abW h0 a1 a2 a3 a4 cZ cI S Du T Rk now lr rt rd) sz)) (va_A (abW h0 a1 a2 a3 a4 cZ cI S Du T Rk now lr rt rd) sz)) (xz_X D vwCl (abT cZ cI) (abW h0 a1 a2 a3 a4 cZ cI S Du T Rk now lr rt rd) (va_A (abW h0 a1 a2 a3 a4 cZ cI S Du T Rk now lr rt rd) sz) (fun E => E = xzA ∧ ¬ ab_ex S x)) 1 6 (va_A (abW h0 a1 a2 a3 a4 cZ cI S Du T Rk now lr rt rd) sz) := by
  refine vx_ofW (cc := cX0_stop) (maxL := 2) (ret := some .int) (by decide) rfl ?_
  intro p e s m args below meth c s₁ B hml hEx hv
  obtain ⟨rfl, hsz, hP, hK, hD0, hE⟩ := hv
  have hx := B.exec
  have hb := B.bytes
  have hr := B.returns
  have hts := atoms_spec (ws := wsX0_stop) B.pre
  have hown : s.vm.findClass RX0 = some m.cls := findClass_of_methodNamed B.named
  have hlocks := B.notSynchronized
  have hinX0 : ∀ w ∈ wsX00, w ∈ wsX0_stop := by decide +kernel
  subst hsz
  have hD := hD0.self (sz := s.heap.size)
  generalize hAe : va_A (abW h0 a1 a2 a3 a4 cZ cI S Du T Rk now lr rt rd) s.heap.size = A at hD hE ⊢
  have hA : ∀ q : Nat, s.heap.size ≤ q → A q := fun q h => by rw [← hAe]; exact Or.inr h
  have hS : va_S A s.heap s.heap [] := va_S.rf
  refine kz_enter [.ref h0, .int x] (Nat.le_of_ble_eq_true rfl) (fun ls hl => ?_)
  have hl : lv_has ls 2 [(0, .ref h0), (1, .int x)] := hl
  refine lv_aload_n hx hb dX0_stop_0 rfl (lv_at hl 0 rfl) ?_
  refine lv_iload_n hx hb dX0_stop_1 rfl (lv_at hl 1 rfl) ?_
  refine kz_callR (As := [.int x]) (rest := []) ⟨hx, hb, hml, hown, hts⟩ (c_exists l D h0 a1 a2 a3 a4 cZ cI S Du T Rk now lr rt rd x) (cwV 1 hts gX0_stop_X0_exists rfl rfl rfl (by decide +kernel) ⟨Nat.le_of_ble_eq_true rfl, Nat.le_of_ble_eq_true rfl⟩) hP hK (va_recv hK hP (ci := 0) (q0 := 0) rfl rfl) rfl hl.1 rfl (Nat.le_of_ble_eq_true rfl) dX0_stop_2 ⟨Nat.zero_le _, Nat.zero_le _⟩ (fun r_1 hr_2 => ?_)
  refine lv_if_ne (tgt := 18) hx hb dX0_stop_5 (by decide) (fun c_5 => ?_) (fun c_5 => ?_)
  · obtain ⟨k, hk, rfl, hS0⟩ := hr_2.t c_5
    refine lv_aload_n hx hb dX0_stop_18 rfl (lv_at hl 0 rfl) ?_
    refine va_get (ci := 0) (v := .ref a1) (C := RX0) (T := TX0) (N := 8) hx hb hts hinX0 hown hK hP 0 rfl rfl 0 (by decide) (hts (.fieldLink RX0 9 "AlarmBench" "isSet" "[Z") (by decide +kernel)) (fun _ h9 => h9) rfl dX0_stop_19 ?_
    refine lv_iload_n hx hb dX0_stop_22 rfl (lv_at hl 1 rfl) ?_
    refine lv_iconst (v := 0) hx hb dX0_stop_23 (by decide) ?_
    refine kz_zast hx hb hK hP hD hS 1 0 rfl rfl hk (by decide) rfl dX0_stop_24 (fun H locs hP hD hS => ?_)
    have hP : va_P D vwCl (abW h0 a1 a2 a3 a4 cZ cI (upd S k 0) Du T Rk now lr rt rd) H := hP
    have hD : va_D A (abW h0 a1 a2 a3 a4 cZ cI (upd S k 0) Du T Rk now lr rt rd) := hD
    refine lv_aload_n hx hb dX0_stop_25 rfl (lv_at hl 0 rfl) ?_
    refine va_get (ci := 0) (v := .ref a3) (C := RX0) (T := TX0) (N := 8) hx hb hts hinX0 hown hK hP 0 rfl rfl 2 (by decide) (hts (.fieldLink RX0 17 "AlarmBench" "telling" "[I") (by decide +kernel)) (fun _ h9 => h9) rfl dX0_stop_26 ?_
    refine lv_iload_n hx hb dX0_stop_29 rfl (lv_at hl 1 rfl) ?_
    refine kz_iald hx hb hK hP 3 1 rfl rfl hk (by decide) dX0_stop_30 ?_
    refine vx_ret ?_
    refine W.widen (k := 1) (n := 6) (by decide) (by decide) ?_
    exact W.iret (v := T k) hx hb hr (fun t9 ht9 hW9 => ⟨⟨_, (upd S k 0, Du, T, Rk, now, lr, rt, rd), rfl, ⟨k, hk, rfl, hS0, rfl, rfl⟩, by rw [ht9]; exact hP, va_K.moved hW9.alike hK, hD⟩, hS.F ht9⟩) hS.2.2 dX0_stop_31
  · have hS0 := hr_2.f c_5
    obtain ⟨sa, hsa⟩ := hE.2.2.2 (68, "there is no such alarm") (by decide +kernel)
    obtain ⟨⟨w1, w2, w3, w4, w5⟩, -⟩ := hE.2.2
    exact vx_throwS (own := RX0) (cls := xzA) (names := xzN) hx hb hl9 hown (by decide +kernel) (by decide +kernel) (hts (.classLink RX0 40 xzA) (by decide +kernel)) (hts (.initialized xzA) (by decide +kernel)) hsa (vx_hat (L := vx_atS RX0 44 xzA xzN) (B := [.castable xzA xzA, xzD "java/lang/RuntimeException", xzD "java/lang/Exception", xzD "java/lang/Throwable"]) (fun w hw => hts w ((by decide +kernel : ∀ w ∈ (vx_atS RX0 44 xzA xzN).filter goodWord, w ∈ wsX0_stop) w hw)) (by decide +kernel) (vx_c (va_Nw.use rfl w1) (vx_c (va_Nw.use rfl w3) (vx_c (va_Nw.use rfl w4) (vx_c (va_Nw.use rfl w5) vx_n))))) (by decide +kernel) hE.1 hE.2.1 hS (hl.1.trans hml.symm) dX0_stop_8 dX0_stop_11 dX0_stop_12 dX0_stop_14 dX0_stop_17 (fun x hx => (hEx x hx).elim) (Nat.le_of_ble_eq_true rfl) (Nat.le_of_ble_eq_true rfl) (Nat.le_of_ble_eq_true rfl) (Nat.le_of_ble_eq_true rfl) hlocks (fun t9 ha9 hz9 hk9 => ⟨(), trivial, ⟨⟨rfl, hS0⟩, hP.kept (fun k9 q9 hq9 => hk9 q9.1 (hP k9 q9 hq9).lt), va_K.moved ha9 hK, hD⟩, Nat.le_trans hS.1 hz9, fun q9 h1 h2 => (hk9 q9 (Nat.lt_of_lt_of_le h1 hS.1)).trans (hS.2.1 q9 h1 h2)⟩) hS.2.2 (Nat.le_of_ble_eq_true rfl) (Nat.le_of_ble_eq_true rfl)
set_option maxHeartbeats 4000000 in
set_option maxRecDepth 100000 in
/-- pass(x) -/
theorem c_pass (l : Launch) (hl9 : l.stackTraces = false) (D : va_G) (h0 a1 a2 a3 a4 : Nat) (cZ cI : ClassId) (S Du T Rk : Nat → Int32) (now lr rt rd : Int32) (sz : Nat) (x : Int32) : vx_Met l yX0_pass wsX0_pass ({ frames := 6, cells := 1, slots := 6, locals := 90 } : Room) (xz_Pc D vwCl (abT cZ cI) (abW h0 a1 a2 a3 a4 cZ cI S Du T Rk now lr rt rd) sz [.ref h0, .int x]) (va_Qi (fun (r : Int32) (u : ABs) => ¬ x < 0 ∧ ¬ 200000 < x ∧ ¬ 1000000000 - now < x ∧ r = now + x ∧ u = (S, Du, T, Rk, now + x, lr, rt, rd)) (kz_B D vwCl (abT cZ cI) (abU h0 a1 a2 a3 a4 cZ cI) (va_A (abW h0 a1 a2 a3 a4 cZ cI S Du T Rk now lr rt rd) sz)) (va_A (abW h0 a1 a2 a3 a4 cZ cI S Du T Rk now lr rt rd) sz)) (xz_X D vwCl (abT cZ cI) (abW h0 a1 a2 a3 a4 cZ cI S Du T Rk now lr rt rd) (va_A (abW h0 a1 a2 a3 a4 cZ cI S Du T Rk now lr rt rd) sz) (fun E => (E = xzA ∧ (x < 0 ∨ 200000 < x)) ∨ (E = xzI ∧ ¬ x < 0 ∧ ¬ 200000 < x ∧ 1000000000 - now < x))) 1 6 (va_A (abW h0 a1 a2 a3 a4 cZ cI S Du T Rk now lr rt rd) sz) := by
  refine vx_ofW (cc := cX0_pass) (maxL := 2) (ret := some .int) (by decide) rfl ?_
  intro p e s m args below meth c s₁ B hml hEx hv
  obtain ⟨rfl, hsz, hP, hK, hD0, hE⟩ := hv
  have hx := B.exec
  have hb := B.bytes
  have hr := B.returns
  have hts := atoms_spec (ws := wsX0_pass) B.pre
  have hown : s.vm.findClass RX0 = some m.cls := findClass_of_methodNamed B.named
  have hlocks := B.notSynchronized
  have hinX0 : ∀ w ∈ wsX00, w ∈ wsX0_pass := by decide +kernel
  subst hsz
  have hD := hD0.self (sz := s.heap.size)
  generalize hAe : va_A (abW h0 a1 a2 a3 a4 cZ cI S Du T Rk now lr rt rd) s.heap.size = A at hD hE ⊢
  have hA : ∀ q : Nat, s.heap.size ≤ q → A q := fun q h => by rw [← hAe]; exact Or.inr h
  have hS : va_S A s.heap s.heap [] := va_S.rf
  refine kz_enter [.ref h0, .int x] (Nat.le_of_ble_eq_true rfl) (fun ls hl => ?_)
  have hl : lv_has ls 2 [(0, .ref h0), (1, .int x)] := hl
  refine lv_iload_n hx hb dX0_pass_0 rfl (lv_at hl 1 rfl) ?_
  refine lv_if_lt (tgt := 10) hx hb dX0_pass_1 (by decide) (fun c_1 => ?_) (fun c_1 => ?_)
  · obtain ⟨sa, hsa⟩ := hE.2.2.2 (71, "ticks is not 0 .. 200000") (by decide +kernel)
    obtain ⟨⟨w1, w2, w3, w4, w5⟩, -⟩ := hE.2.2
    exact vx_throwS (own := RX0) (cls := xzA) (names := xzN) hx hb hl9 hown (by decide +kernel) (by decide +kernel) (hts (.classLink RX0 40 xzA) (by decide +kernel)) (hts (.initialized xzA) (by decide +kernel)) hsa (vx_hat (L := vx_atS RX0 44 xzA xzN) (B := [.castable xzA xzA, xzD "java/lang/RuntimeException", xzD "java/lang/Exception", xzD "java/lang/Throwable"]) (fun w hw => hts w ((by decide +kernel : ∀ w ∈ (vx_atS RX0 44 xzA xzN).filter goodWord, w ∈ wsX0_pass) w hw)) (by decide +kernel) (vx_c (va_Nw.use rfl w1) (vx_c (va_Nw.use rfl w3) (vx_c (va_Nw.use rfl w4) (vx_c (va_Nw.use rfl w5) vx_n))))) (by decide +kernel) hE.1 hE.2.1 hS (hl.1.trans hml.symm) dX0_pass_10 dX0_pass_13 dX0_pass_14 dX0_pass_16 dX0_pass_19 (fun x hx => (hEx x hx).elim) (Nat.le_of_ble_eq_true rfl) (Nat.le_of_ble_eq_true rfl) (Nat.le_of_ble_eq_true rfl) (Nat.le_of_ble_eq_true rfl) hlocks (fun t9 ha9 hz9 hk9 => ⟨(), trivial, ⟨Or.inl ⟨rfl, Or.inl c_1⟩, hP.kept (fun k9 q9 hq9 => hk9 q9.1 (hP k9 q9 hq9).lt), va_K.moved ha9 hK, hD⟩, Nat.le_trans hS.1 hz9, fun q9 h1 h2 => (hk9 q9 (Nat.lt_of_lt_of_le h1 hS.1)).trans (hS.2.1 q9 h1 h2)⟩) hS.2.2 (Nat.le_of_ble_eq_true rfl) (Nat.le_of_ble_eq_true rfl)
  · refine lv_iload_n hx hb dX0_pass_4 rfl (lv_at hl 1 rfl) ?_
    refine lv_ldc (v := 200000) hx hb hown (hts (.constant RX0 70 200000) (by decide +kernel)) dX0_pass_5 ?_
    refine lv_icmp_le (tgt := 20) hx hb dX0_pass_7 (by decide) (fun c_7 => ?_) (fun c_7 => ?_)
    · refine lv_aload_n hx hb dX0_pass_20 rfl (lv_at hl 0 rfl) ?_
      refine lv_iload_n hx hb dX0_pass_21 rfl (lv_at hl 1 rfl) ?_
      refine kz_callR (As := [.int x]) (rest := []) ⟨hx, hb, hml, hown, hts⟩ (c_isBehindLastTime l D h0 a1 a2 a3 a4 cZ cI S Du T Rk now lr rt rd x) (cwV 1 hts gX0_pass_X0_isBehindLastTime rfl rfl rfl (by decide +kernel) ⟨Nat.le_of_ble_eq_true rfl, Nat.le_of_ble_eq_true rfl⟩) hP hK (va_recv hK hP (ci := 0) (q0 := 0) rfl rfl) rfl hl.1 rfl (Nat.le_of_ble_eq_true rfl) dX0_pass_22 ⟨Nat.zero_le _, Nat.zero_le _⟩ (fun r_1 hr_2 => ?_)
      refine lv_if_eq (tgt := 38) hx hb dX0_pass_25 (by decide) (fun c_25 => ?_) (fun c_25 => ?_)
      · have hbe := hr_2.f c_25
        refine lv_aload_n hx hb dX0_pass_38 rfl (lv_at hl 0 rfl) ?_
        refine lv_dup hx hb dX0_pass_39 rfl ?_
        refine va_get (ci := 0) (v := .int now) (C := RX0) (T := TX0) (N := 8) hx hb hts hinX0 hown hK hP 0 rfl rfl 4 (by decide) (hts (.fieldLink RX0 23 "AlarmBench" "now" "I") (by decide +kernel)) (fun _ h9 => h9) rfl dX0_pass_40 ?_
        refine lv_iload_n hx hb dX0_pass_43 rfl (lv_at hl 1 rfl) ?_
        refine lv_iadd hx hb dX0_pass_44 ?_
        refine va_put (ci := 0) (v := .int (now + x)) (ty := .int) (C := RX0) (T := TX0) (N := 8) hx hb hts hinX0 tyX0 tyX0_ok nmX0 hown hK hP hD hS 0 rfl rfl 4 (by decide) (hts (.fieldLink RX0 23 "AlarmBench" "now" "I") (by decide +kernel)) (fun _ h9 => h9) rfl (by decide +kernel) rfl rfl (Nat.le_of_ble_eq_true rfl) dX0_pass_45 (fun H locs hP hD hS => ?_)
        have hP : va_P D vwCl (abW h0 a1 a2 a3 a4 cZ cI S Du T Rk (now + x) lr rt rd) H := hP
        have hD : va_D A (abW h0 a1 a2 a3 a4 cZ cI S Du T Rk (now + x) lr rt rd) := hD
        refine lv_aload_n hx hb dX0_pass_48 rfl (lv_at hl 0 rfl) ?_
        refine va_get (ci := 0) (v := .int (now + x)) (C := RX0) (T := TX0) (N := 8) hx hb hts hinX0 hown hK hP 0 rfl rfl 4 (by decide) (hts (.fieldLink RX0 23 "AlarmBench" "now" "I") (by decide +kernel)) (fun _ h9 => h9) rfl dX0_pass_49 ?_
        refine vx_ret ?_
        refine W.widen (k := 1) (n := 6) (by decide) (by decide) ?_
        exact W.iret (v := now + x) hx hb hr (fun t9 ht9 hW9 => ⟨⟨_, (S, Du, T, Rk, now + x, lr, rt, rd), rfl, ⟨c_1, Int32.not_lt.mpr c_7, hbe, rfl, rfl⟩, by rw [ht9]; exact hP, va_K.moved hW9.alike hK, hD⟩, hS.F ht9⟩) hS.2.2 dX0_pass_52
      · have hbe := hr_2.t c_25
        obtain ⟨sa, hsa⟩ := hE.2.2.2 (73, "the time would be behind 1000000000") (by decide +kernel)
        obtain ⟨⟨w1, w2, w3, w4, w5⟩, -⟩ := hE.2.2
        exact vx_throwS (own := RX0) (cls := xzI) (names := xzN) hx hb hl9 hown (by decide +kernel) (by decide +kernel) (hts (.classLink RX0 51 xzI) (by decide +kernel)) (hts (.initialized xzI) (by decide +kernel)) hsa (vx_hat (L := vx_atS RX0 55 xzI xzN) (B := [.castable xzI xzI, xzD "java/lang/RuntimeException", xzD "java/lang/Exception", xzD "java/lang/Throwable"]) (fun w hw => hts w ((by decide +kernel : ∀ w ∈ (vx_atS RX0 55 xzI xzN).filter goodWord, w ∈ wsX0_pass) w hw)) (by decide +kernel) (vx_c (va_Nw.use rfl w2) (vx_c (va_Nw.use rfl w3) (vx_c (va_Nw.use rfl w4) (vx_c (va_Nw.use rfl w5) vx_n))))) (by decide +kernel) hE.1 hE.2.1 hS (hl.1.trans hml.symm) dX0_pass_28 dX0_pass_31 dX0_pass_32 dX0_pass_34 dX0_pass_37 (fun x hx => (hEx x hx).elim) (Nat.le_of_ble_eq_true rfl) (Nat.le_of_ble_eq_true rfl) (Nat.le_of_ble_eq_true rfl) (Nat.le_of_ble_eq_true rfl) hlocks (fun t9 ha9 hz9 hk9 => ⟨(), trivial, ⟨Or.inr ⟨rfl, c_1, Int32.not_lt.mpr c_7, hbe⟩, hP.kept (fun k9 q9 hq9 => hk9 q9.1 (hP k9 q9 hq9).lt), va_K.moved ha9 hK, hD⟩, Nat.le_trans hS.1 hz9, fun q9 h1 h2 => (hk9 q9 (Nat.lt_of_lt_of_le h1 hS.1)).trans (hS.2.1 q9 h1 h2)⟩) hS.2.2 (Nat.le_of_ble_eq_true rfl) (Nat.le_of_ble_eq_true rfl)
    · obtain ⟨sa, hsa⟩ := hE.2.2.2 (71, "ticks is not 0 .. 200000") (by decide +kernel)
      obtain ⟨⟨w1, w2, w3, w4, w5⟩, -⟩ := hE.2.2
      exact vx_throwS (own := RX0) (cls := xzA) (names := xzN) hx hb hl9 hown (by decide +kernel) (by decide +kernel) (hts (.classLink RX0 40 xzA) (by decide +kernel)) (hts (.initialized xzA) (by decide +kernel)) hsa (vx_hat (L := vx_atS RX0 44 xzA xzN) (B := [.castable xzA xzA, xzD "java/lang/RuntimeException", xzD "java/lang/Exception", xzD "java/lang/Throwable"]) (fun w hw => hts w ((by decide +kernel : ∀ w ∈ (vx_atS RX0 44 xzA xzN).filter goodWord, w ∈ wsX0_pass) w hw)) (by decide +kernel) (vx_c (va_Nw.use rfl w1) (vx_c (va_Nw.use rfl w3) (vx_c (va_Nw.use rfl w4) (vx_c (va_Nw.use rfl w5) vx_n))))) (by decide +kernel) hE.1 hE.2.1 hS (hl.1.trans hml.symm) dX0_pass_10 dX0_pass_13 dX0_pass_14 dX0_pass_16 dX0_pass_19 (fun x hx => (hEx x hx).elim) (Nat.le_of_ble_eq_true rfl) (Nat.le_of_ble_eq_true rfl) (Nat.le_of_ble_eq_true rfl) (Nat.le_of_ble_eq_true rfl) hlocks (fun t9 ha9 hz9 hk9 => ⟨(), trivial, ⟨Or.inl ⟨rfl, Or.inr (Int32.not_le.mp c_7)⟩, hP.kept (fun k9 q9 hq9 => hk9 q9.1 (hP k9 q9 hq9).lt), va_K.moved ha9 hK, hD⟩, Nat.le_trans hS.1 hz9, fun q9 h1 h2 => (hk9 q9 (Nat.lt_of_lt_of_le h1 hS.1)).trans (hS.2.1 q9 h1 h2)⟩) hS.2.2 (Nat.le_of_ble_eq_true rfl) (Nat.le_of_ble_eq_true rfl)
set_option maxHeartbeats 4000000 in
set_option maxRecDepth 100000 in
/-- about(x, w) -/
theorem c_about (l : Launch) (hl9 : l.stackTraces = false) (D : va_G) (h0 a1 a2 a3 a4 : Nat) (cZ cI : ClassId) (S Du T Rk : Nat → Int32) (now lr rt rd : Int32) (sz : Nat) (x w : Int32) : vx_Met l yX0_about wsX0_about ({ frames := 6, cells := 1, slots := 6, locals := 90 } : Room) (xz_Pc D vwCl (abT cZ cI) (abW h0 a1 a2 a3 a4 cZ cI S Du T Rk now lr rt rd) sz [.ref h0, .int x, .int w]) (va_Qi (fun (r : Int32) (u : ABs) => ∃ k : Nat, k < 512 ∧ x = nI k ∧ ¬ S k = 0 ∧ ((w = 0 ∧ r = Du k) ∨ (w = 1 ∧ r = T k)) ∧ u = (S, Du, T, Rk, now, lr, rt, rd)) (kz_B D vwCl (abT cZ cI) (abU h0 a1 a2 a3 a4 cZ cI) (va_A (abW h0 a1 a2 a3 a4 cZ cI S Du T Rk now lr rt rd) sz)) (va_A (abW h0 a1 a2 a3 a4 cZ cI S Du T Rk now lr rt rd) sz)) (xz_X D vwCl (abT cZ cI) (abW h0 a1 a2 a3 a4 cZ cI S Du T Rk now lr rt rd) (va_A (abW h0 a1 a2 a3 a4 cZ cI S Du T Rk now lr rt rd) sz) (fun E => E = xzA ∧ (¬ ab_ex S x ∨ (¬ w = 0 ∧ ¬ w = 1)))) 1 6 (va_A (abW h0 a1 a2 a3 a4 cZ cI S Du T Rk now lr rt rd) sz) := by
  refine vx_ofW (cc := cX0_about) (maxL := 3) (ret := some .int) (by decide) rfl ?_
  intro p e s m args below meth c s₁ B hml hEx hv
  obtain ⟨rfl, hsz, hP, hK, hD0, hE⟩ := hv
  have hx := B.exec
  have hb := B.bytes
  have hr := B.returns
  have hts := atoms_spec (ws := wsX0_about) B.pre
  have hown : s.vm.findClass RX0 = some m.cls := findClass_of_methodNamed B.named
  have hlocks := B.notSynchronized
  have hinX0 : ∀ w ∈ wsX00, w ∈ wsX0_about := by decide +kernel
  subst hsz
  have hD := hD0.self (sz := s.heap.size)
  generalize hAe : va_A (abW h0 a1 a2 a3 a4 cZ cI S Du T Rk now lr rt rd) s.heap.size = A at hD hE ⊢
  have hA : ∀ q : Nat, s.heap.size ≤ q → A q := fun q h => by rw [← hAe]; exact Or.inr h
  have hS : va_S A s.heap s.heap [] := va_S.rf
  refine kz_enter [.ref h0, .int x, .int w] (Nat.le_of_ble_eq_true rfl) (fun ls hl => ?_)
  have hl : lv_has ls 3 [(0, .ref h0), (1, .int x), (2, .int w)] := hl
  refine lv_aload_n hx hb dX0_about_0 rfl (lv_at hl 0 rfl) ?_
  refine lv_iload_n hx hb dX0_about_1 rfl (lv_at hl 1 rfl) ?_
  refine kz_callR (As := [.int x]) (rest := []) ⟨hx, hb, hml, hown, hts⟩ (c_exists l D h0 a1 a2 a3 a4 cZ cI S Du T Rk now lr rt rd x) (cwV 1 hts gX0_about_X0_exists rfl rfl rfl (by decide +kernel) ⟨Nat.le_of_ble_eq_true rfl, Nat.le_of_ble_eq_true rfl⟩) hP hK (va_recv hK hP (ci := 0) (q0 := 0) rfl rfl) rfl hl.1 rfl (Nat.le_of_ble_eq_true rfl) dX0_about_2 ⟨Nat.zero_le _, Nat.zero_le _⟩ (fun r_1 hr_2 => ?_)
  refine lv_if_ne (tgt := 18) hx hb dX0_about_5 (by decide) (fun c_5 => ?_) (fun c_5 => ?_)
  · obtain ⟨k, hk, rfl, hS0⟩ := hr_2.t c_5
    refine lv_iload_n hx hb dX0_about_18 rfl (lv_at hl 2 rfl) ?_
    refine lv_if_eq (tgt := 37) hx hb dX0_about_19 (by decide) (fun c_19 => ?_) (fun c_19 => ?_)
    · refine lv_iload_n hx hb dX0_about_37 rfl (lv_at hl 2 rfl) ?_
      refine lv_if_ne (tgt := 50) hx hb dX0_about_38 (by decide) (fun c_38 => ?_) (fun c_38 => ?_)
      · refine lv_aload_n hx hb dX0_about_50 rfl (lv_at hl 0 rfl) ?_
        refine va_get (ci := 0) (v := .ref a3) (C := RX0) (T := TX0) (N := 8) hx hb hts hinX0 hown hK hP 0 rfl rfl 2 (by decide) (hts (.fieldLink RX0 17 "AlarmBench" "telling" "[I") (by decide +kernel)) (fun _ h9 => h9) rfl dX0_about_51 ?_
        refine lv_iload_n hx hb dX0_about_54 rfl (lv_at hl 1 rfl) ?_
        refine kz_iald hx hb hK hP 3 1 rfl rfl hk (by decide) dX0_about_55 ?_
        refine vx_ret ?_
        refine W.widen (k := 1) (n := 6) (by decide) (by decide) ?_
        exact W.iret (v := T k) hx hb hr (fun t9 ht9 hW9 => ⟨⟨_, (S, Du, T, Rk, now, lr, rt, rd), rfl, absurd c_19 c_38, by rw [ht9]; exact hP, va_K.moved hW9.alike hK, hD⟩, hS.F ht9⟩) hS.2.2 dX0_about_56
      · refine lv_aload_n hx hb dX0_about_41 rfl (lv_at hl 0 rfl) ?_
        refine va_get (ci := 0) (v := .ref a2) (C := RX0) (T := TX0) (N := 8) hx hb hts hinX0 hown hK hP 0 rfl rfl 1 (by decide) (hts (.fieldLink RX0 13 "AlarmBench" "dueAt" "[I") (by decide +kernel)) (fun _ h9 => h9) rfl dX0_about_42 ?_
        refine lv_iload_n hx hb dX0_about_45 rfl (lv_at hl 1 rfl) ?_
        refine kz_iald hx hb hK hP 2 1 rfl rfl hk (by decide) dX0_about_46 ?_
        refine lv_goto (tgt := 56) hx hb dX0_about_47 (by decide) ?_
        refine vx_ret ?_
        refine W.widen (k := 1) (n := 6) (by decide) (by decide) ?_
        exact W.iret (v := Du k) hx hb hr (fun t9 ht9 hW9 => ⟨⟨_, (S, Du, T, Rk, now, lr, rt, rd), rfl, ⟨k, hk, rfl, hS0, Or.inl ⟨c_38, rfl⟩, rfl⟩, by rw [ht9]; exact hP, va_K.moved hW9.alike hK, hD⟩, hS.F ht9⟩) hS.2.2 dX0_about_56
    · refine lv_iload_n hx hb dX0_about_22 rfl (lv_at hl 2 rfl) ?_
      refine lv_iconst (v := 1) hx hb dX0_about_23 (by decide) ?_
      refine lv_icmp_eq (tgt := 37) hx hb dX0_about_24 (by decide) (fun c_24 => ?_) (fun c_24 => ?_)
      · refine lv_iload_n hx hb dX0_about_37 rfl (lv_at hl 2 rfl) ?_
        refine lv_if_ne (tgt := 50) hx hb dX0_about_38 (by decide) (fun c_38 => ?_) (fun c_38 => ?_)
        · refine lv_aload_n hx hb dX0_about_50 rfl (lv_at hl 0 rfl) ?_
          refine va_get (ci := 0) (v := .ref a3) (C := RX0) (T := TX0) (N := 8) hx hb hts hinX0 hown hK hP 0 rfl rfl 2 (by decide) (hts (.fieldLink RX0 17 "AlarmBench" "telling" "[I") (by decide +kernel)) (fun _ h9 => h9) rfl dX0_about_51 ?_
          refine lv_iload_n hx hb dX0_about_54 rfl (lv_at hl 1 rfl) ?_
          refine kz_iald hx hb hK hP 3 1 rfl rfl hk (by decide) dX0_about_55 ?_
          refine vx_ret ?_
          refine W.widen (k := 1) (n := 6) (by decide) (by decide) ?_
          exact W.iret (v := T k) hx hb hr (fun t9 ht9 hW9 => ⟨⟨_, (S, Du, T, Rk, now, lr, rt, rd), rfl, ⟨k, hk, rfl, hS0, Or.inr ⟨c_24, rfl⟩, rfl⟩, by rw [ht9]; exact hP, va_K.moved hW9.alike hK, hD⟩, hS.F ht9⟩) hS.2.2 dX0_about_56
        · refine lv_aload_n hx hb dX0_about_41 rfl (lv_at hl 0 rfl) ?_
          refine va_get (ci := 0) (v := .ref a2) (C := RX0) (T := TX0) (N := 8) hx hb hts hinX0 hown hK hP 0 rfl rfl 1 (by decide) (hts (.fieldLink RX0 13 "AlarmBench" "dueAt" "[I") (by decide +kernel)) (fun _ h9 => h9) rfl dX0_about_42 ?_
          refine lv_iload_n hx hb dX0_about_45 rfl (lv_at hl 1 rfl) ?_
          refine kz_iald hx hb hK hP 2 1 rfl rfl hk (by decide) dX0_about_46 ?_
          refine lv_goto (tgt := 56) hx hb dX0_about_47 (by decide) ?_
          refine vx_ret ?_
          refine W.widen (k := 1) (n := 6) (by decide) (by decide) ?_
          exact W.iret (v := Du k) hx hb hr (fun t9 ht9 hW9 => ⟨⟨_, (S, Du, T, Rk, now, lr, rt, rd), rfl, ⟨k, hk, rfl, hS0, Or.inl ⟨c_38, rfl⟩, rfl⟩, by rw [ht9]; exact hP, va_K.moved hW9.alike hK, hD⟩, hS.F ht9⟩) hS.2.2 dX0_about_56
      · obtain ⟨sa, hsa⟩ := hE.2.2.2 (81, "what is not 0 or 1") (by decide +kernel)
        obtain ⟨⟨w1, w2, w3, w4, w5⟩, -⟩ := hE.2.2
        exact vx_throwS (own := RX0) (cls := xzA) (names := xzN) hx hb hl9 hown (by decide +kernel) (by decide +kernel) (hts (.classLink RX0 40 xzA) (by decide +kernel)) (hts (.initialized xzA) (by decide +kernel)) hsa (vx_hat (L := vx_atS RX0 44 xzA xzN) (B := [.castable xzA xzA, xzD "java/lang/RuntimeException", xzD "java/lang/Exception", xzD "java/lang/Throwable"]) (fun w hw => hts w ((by decide +kernel : ∀ w ∈ (vx_atS RX0 44 xzA xzN).filter goodWord, w ∈ wsX0_about) w hw)) (by decide +kernel) (vx_c (va_Nw.use rfl w1) (vx_c (va_Nw.use rfl w3) (vx_c (va_Nw.use rfl w4) (vx_c (va_Nw.use rfl w5) vx_n))))) (by decide +kernel) hE.1 hE.2.1 hS (hl.1.trans hml.symm) dX0_about_27 dX0_about_30 dX0_about_31 dX0_about_33 dX0_about_36 (fun x hx => (hEx x hx).elim) (Nat.le_of_ble_eq_true rfl) (Nat.le_of_ble_eq_true rfl) (Nat.le_of_ble_eq_true rfl) (Nat.le_of_ble_eq_true rfl) hlocks (fun t9 ha9 hz9 hk9 => ⟨(), trivial, ⟨⟨rfl, Or.inr ⟨c_19, c_24⟩⟩, hP.kept (fun k9 q9 hq9 => hk9 q9.1 (hP k9 q9 hq9).lt), va_K.moved ha9 hK, hD⟩, Nat.le_trans hS.1 hz9, fun q9 h1 h2 => (hk9 q9 (Nat.lt_of_lt_of_le h1 hS.1)).trans (hS.2.1 q9 h1 h2)⟩) hS.2.2 (Nat.le_of_ble_eq_true rfl) (Nat.le_of_ble_eq_true rfl)
  · have hS0 := hr_2.f c_5
    obtain ⟨sa, hsa⟩ := hE.2.2.2 (68, "there is no such alarm") (by decide +kernel)
    obtain ⟨⟨w1, w2, w3, w4, w5⟩, -⟩ := hE.2.2
    exact vx_throwS (own := RX0) (cls := xzA) (names := xzN) hx hb hl9 hown (by decide +kernel) (by decide +kernel) (hts (.classLink RX0 40 xzA) (by decide +kernel)) (hts (.initialized xzA) (by decide +kernel)) hsa (vx_hat (L := vx_atS RX0 44 xzA xzN) (B := [.castable xzA xzA, xzD "java/lang/RuntimeException", xzD "java/lang/Exception", xzD "java/lang/Throwable"]) (fun w hw => hts w ((by decide +kernel : ∀ w ∈ (vx_atS RX0 44 xzA xzN).filter goodWord, w ∈ wsX0_about) w hw)) (by decide +kernel) (vx_c (va_Nw.use rfl w1) (vx_c (va_Nw.use rfl w3) (vx_c (va_Nw.use rfl w4) (vx_c (va_Nw.use rfl w5) vx_n))))) (by decide +kernel) hE.1 hE.2.1 hS (hl.1.trans hml.symm) dX0_about_8 dX0_about_11 dX0_about_12 dX0_about_14 dX0_about_17 (fun x hx => (hEx x hx).elim) (Nat.le_of_ble_eq_true rfl) (Nat.le_of_ble_eq_true rfl) (Nat.le_of_ble_eq_true rfl) (Nat.le_of_ble_eq_true rfl) hlocks (fun t9 ha9 hz9 hk9 => ⟨(), trivial, ⟨⟨rfl, Or.inl hS0⟩, hP.kept (fun k9 q9 hq9 => hk9 q9.1 (hP k9 q9 hq9).lt), va_K.moved ha9 hK, hD⟩, Nat.le_trans hS.1 hz9, fun q9 h1 h2 => (hk9 q9 (Nat.lt_of_lt_of_le h1 hS.1)).trans (hS.2.1 q9 h1 h2)⟩) hS.2.2 (Nat.le_of_ble_eq_true rfl) (Nat.le_of_ble_eq_true rfl)
