set_option maxHeartbeats 4000000 in
set_option maxRecDepth 100000 in
/-- the law's set -/
theorem h_set (l : Launch) (hl9 : l.stackTraces = false) (D : va_G) (h0 a1 a2 a3 a4 : Nat) (cZ cI : ClassId) (o1 : Nat) (cL : ClassId) (S Du T Rk : Nat → Int32) (now lr rt rd : Int32) (F : Nat → Int64) (sz : Nat) (x t : Int32) : Met l yL_set wsL_set ({ frames := 7, cells := 1, slots := 6, locals := 113 } : Room) (hl_Pc D vwCl (hlT cZ cI cL) (hlW o1 cL F (abW h0 a1 a2 a3 a4 cZ cI S Du T Rk now lr rt rd)) sz [.ref h0, .int x, .int t, .ref o1]) (va_Qi (fun (r : Int32) (v : HLs) => (r = 0 ∧ ∃ r1 : Int32, (∃ k : Nat, k < 512 ∧ r1 = nI k ∧ S k = 0 ∧ (∀ j, j < k → ¬ S j = 0) ∧ ab_ok x ∧ ¬ 1000000000 - now < x ∧ v.1 = (upd S k 1, upd Du k (now + x), upd T k t, upd Rk k (lr + 1), now, lr + 1, rt, rd)) ∧ v.2 0 = r1.toInt64) ∨ (r = 1 ∧ v.1 = (S, Du, T, Rk, now, lr, rt, rd) ∧ ¬ ab_ok x) ∨ (r = 2 ∧ v.1 = (S, Du, T, Rk, now, lr, rt, rd) ∧ ab_ok x ∧ ((∀ j, j < 512 → ¬ S j = 0) ∨ 1000000000 - now < x))) (kz_B D vwCl (hlT cZ cI cL) (hlU h0 a1 a2 a3 a4 cZ cI o1 cL) (va_A (hlW o1 cL F (abW h0 a1 a2 a3 a4 cZ cI S Du T Rk now lr rt rd)) sz)) (va_A (hlW o1 cL F (abW h0 a1 a2 a3 a4 cZ cI S Du T Rk now lr rt rd)) sz)) 1 6 (va_A (hlW o1 cL F (abW h0 a1 a2 a3 a4 cZ cI S Du T Rk now lr rt rd)) sz) := by
  refine va_MetW (cc := cL_set) (maxL := 5) (ret := some .int) (hh := [(0, 10, 13, 13), (0, 10, 17, 15)]) (by decide) rfl ?_
  intro p e s m args below meth c s₁ B hml hv
  obtain ⟨rfl, hsz, hP, hK, hD0, hE, hN⟩ := hv
  have hx := B.exec
  have hb := B.bytes
  have hr := B.returns
  have hts := atoms_spec (ws := wsL_set) B.pre
  have hown : s.vm.findClass RL = some m.cls := findClass_of_methodNamed B.named
  have hlocks := B.notSynchronized
  have hTab := vx_table (x := yL_set) B (hts (.codeWith yL_set cL_set 5 (some .int) [(0, 10, 13, 13), (0, 10, 17, 15)]) List.mem_cons_self)
  subst hsz
  have hD := hD0.self (sz := s.heap.size)
  generalize hAe : va_A (hlW o1 cL F (abW h0 a1 a2 a3 a4 cZ cI S Du T Rk now lr rt rd)) s.heap.size = A at hD hE ⊢
  have hA : ∀ q : Nat, s.heap.size ≤ q → A q := fun q h => by rw [← hAe]; exact Or.inr h
  have hS : va_S A s.heap s.heap [] := va_S.rf
  refine kz_enter [.ref h0, .int x, .int t, .ref o1] (Nat.le_of_ble_eq_true rfl) (fun ls hl => ?_)
  have hl : lv_has ls 5 [(0, .ref h0), (1, .int x), (2, .int t), (3, .ref o1)] := hl
  refine lv_aload_n hx hb dL_set_0 rfl (lv_at hl 3 rfl) ?_
  refine lv_iconst (v := 0) hx hb dL_set_1 (by decide) ?_
  refine lv_aload_n hx hb dL_set_2 rfl (lv_at hl 0 rfl) ?_
  refine lv_iload_n hx hb dL_set_3 rfl (lv_at hl 1 rfl) ?_
  refine lv_iload_n hx hb dL_set_4 rfl (lv_at hl 2 rfl) ?_
  refine xz_call (wc := (abW h0 a1 a2 a3 a4 cZ cI S Du T Rk now lr rt rd)) (wr := [(o1, .inl (cL, 1, .inr (.inl F)))]) (As := [.int x, .int t]) (rest := [.int 0, .ref o1]) ⟨hx, hb, hml, hown, hts⟩ (c_set l hl9 D h0 a1 a2 a3 a4 cZ cI S Du T Rk now lr rt rd _ x t) (cwV 2 hts gL_set_X0_set rfl rfl rfl (by decide +kernel) ⟨Nat.le_of_ble_eq_true rfl, Nat.le_of_ble_eq_true rfl⟩) hP hD hS hA (hK.sub (tys' := abT cZ cI) [0, 1] rfl) hE [1, 2, 3, 4, 5] [0] rfl rfl rfl rfl rfl (by decide) (va_recv hK hP (ci := 0) (q0 := 1) rfl rfl) rfl hl.1 rfl (Nat.le_of_ble_eq_true rfl) dL_set_5 ⟨Nat.le_of_ble_eq_true rfl, Nat.le_of_ble_eq_true rfl⟩ (fun E ce q9 H locs hE9 hP hD hS hce hcv hcl => ?_) (fun r u H locs hu hP hD hS => ?_)
  · rcases hE9 with ⟨rfl, hq⟩ | ⟨rfl, hq⟩
    · skip
      refine vx_catch (own := RL) (name := xzA) (E := xzA) hown [] ⟨0, 10, 13, 13⟩ [⟨0, 10, 17, 15⟩] (by rw [hTab]; rfl) (fun z hz => nomatch hz) rfl (by decide) (hts (.classLink RL 13 xzA) (by decide +kernel)) (va_Nw.use rfl hE.2.2.1.1) hce hcv hcl ?_
      refine lv_astore (lv' := [(4, .ref q9), (0, .ref h0), (1, .int x), (2, .int t), (3, .ref o1)]) hx hb dL_set_13 hl (by decide) rfl (fun ls hl => ?_)
      refine lv_iconst (v := 1) hx hb dL_set_15 (by decide) ?_
      exact W.iret (v := 1) hx hb hr (fun t9 ht9 hW9 => ⟨⟨_, ((S, Du, T, Rk, now, lr, rt, rd), F), rfl, Or.inr (Or.inl ⟨rfl, rfl, hq⟩), by rw [ht9]; exact hP, va_K.moved hW9.alike hK, hD⟩, hS.F ht9⟩) hS.2.2 dL_set_16
    · skip
      refine vx_catch (own := RL) (name := xzI) (E := xzI) hown [⟨0, 10, 13, 13⟩] ⟨0, 10, 17, 15⟩ [] (by rw [hTab]; rfl) (fun z hz => by
          rcases List.mem_cons.mp hz with rfl | hz
          · exact Or.inr ⟨by decide, xzA, hts (.classLink RL 13 xzA) (by decide +kernel), hN⟩
          · cases hz) rfl (by decide) (hts (.classLink RL 15 xzI) (by decide +kernel)) (va_Nw.use rfl hE.2.2.1.2.1) hce hcv hcl ?_
      refine lv_astore (lv' := [(4, .ref q9), (0, .ref h0), (1, .int x), (2, .int t), (3, .ref o1)]) hx hb dL_set_17 hl (by decide) rfl (fun ls hl => ?_)
      refine lv_iconst (v := 2) hx hb dL_set_19 (by decide) ?_
      exact W.iret (v := 2) hx hb hr (fun t9 ht9 hW9 => ⟨⟨_, ((S, Du, T, Rk, now, lr, rt, rd), F), rfl, Or.inr (Or.inr ⟨rfl, rfl, hq⟩), by rw [ht9]; exact hP, va_K.moved hW9.alike hK, hD⟩, hS.F ht9⟩) hS.2.2 dL_set_20
  · refine lv_i2l hx hb dL_set_8 rfl ?_
    refine kz_last0 hx hb hK hP hD hS 0 2 rfl rfl (vp_in_nI (n := 0) (N := 1) (by decide) (by decide)) dL_set_9 (fun H locs hP hD hS => ?_)
    refine lv_goto (tgt := 21) hx hb dL_set_10 (by decide) ?_
    refine lv_iconst (v := 0) hx hb dL_set_21 (by decide) ?_
    exact W.iret (v := 0) hx hb hr (fun t9 ht9 hW9 => ⟨⟨_, (u, vp_updL F 0 r.toInt64), rfl, Or.inl ⟨rfl, r, hu, pk_uLs (f := F) (k := 0) (x := r.toInt64)⟩, by rw [ht9]; exact hP, va_K.moved hW9.alike hK, hD⟩, hS.F ht9⟩) hS.2.2 dL_set_22
set_option maxHeartbeats 4000000 in
set_option maxRecDepth 100000 in
/-- the law's shift -/
theorem h_shift (l : Launch) (hl9 : l.stackTraces = false) (D : va_G) (h0 a1 a2 a3 a4 : Nat) (cZ cI : ClassId) (o1 : Nat) (cL : ClassId) (S Du T Rk : Nat → Int32) (now lr rt rd : Int32) (F : Nat → Int64) (sz : Nat) (x t : Int32) : Met l yL_shift wsL_shift ({ frames := 7, cells := 1, slots := 6, locals := 113 } : Room) (hl_Pc D vwCl (hlT cZ cI cL) (hlW o1 cL F (abW h0 a1 a2 a3 a4 cZ cI S Du T Rk now lr rt rd)) sz [.ref h0, .int x, .int t, .ref o1]) (va_Qi (fun (r : Int32) (v : HLs) => (r = 0 ∧ ∃ r1 : Int32, (∃ k : Nat, k < 512 ∧ x = nI k ∧ ¬ S k = 0 ∧ ab_ok t ∧ ¬ 1000000000 - now < t ∧ r1 = Du k - now ∧ v.1 = (S, upd Du k (now + t), T, upd Rk k (lr + 1), now, lr + 1, rt, rd)) ∧ v.2 0 = r1.toInt64) ∨ (r = 1 ∧ v.1 = (S, Du, T, Rk, now, lr, rt, rd) ∧ (¬ ab_ex S x ∨ ¬ ab_ok t)) ∨ (r = 2 ∧ v.1 = (S, Du, T, Rk, now, lr, rt, rd) ∧ ab_ex S x ∧ ab_ok t ∧ 1000000000 - now < t)) (kz_B D vwCl (hlT cZ cI cL) (hlU h0 a1 a2 a3 a4 cZ cI o1 cL) (va_A (hlW o1 cL F (abW h0 a1 a2 a3 a4 cZ cI S Du T Rk now lr rt rd)) sz)) (va_A (hlW o1 cL F (abW h0 a1 a2 a3 a4 cZ cI S Du T Rk now lr rt rd)) sz)) 1 6 (va_A (hlW o1 cL F (abW h0 a1 a2 a3 a4 cZ cI S Du T Rk now lr rt rd)) sz) := by
  refine va_MetW (cc := cL_shift) (maxL := 5) (ret := some .int) (hh := [(0, 10, 13, 13), (0, 10, 17, 15)]) (by decide) rfl ?_
  intro p e s m args below meth c s₁ B hml hv
  obtain ⟨rfl, hsz, hP, hK, hD0, hE, hN⟩ := hv
  have hx := B.exec
  have hb := B.bytes
  have hr := B.returns
  have hts := atoms_spec (ws := wsL_shift) B.pre
  have hown : s.vm.findClass RL = some m.cls := findClass_of_methodNamed B.named
  have hlocks := B.notSynchronized
  have hTab := vx_table (x := yL_shift) B (hts (.codeWith yL_shift cL_shift 5 (some .int) [(0, 10, 13, 13), (0, 10, 17, 15)]) List.mem_cons_self)
  subst hsz
  have hD := hD0.self (sz := s.heap.size)
  generalize hAe : va_A (hlW o1 cL F (abW h0 a1 a2 a3 a4 cZ cI S Du T Rk now lr rt rd)) s.heap.size = A at hD hE ⊢
  have hA : ∀ q : Nat, s.heap.size ≤ q → A q := fun q h => by rw [← hAe]; exact Or.inr h
  have hS : va_S A s.heap s.heap [] := va_S.rf
  refine kz_enter [.ref h0, .int x, .int t, .ref o1] (Nat.le_of_ble_eq_true rfl) (fun ls hl => ?_)
  have hl : lv_has ls 5 [(0, .ref h0), (1, .int x), (2, .int t), (3, .ref o1)] := hl
  refine lv_aload_n hx hb dL_shift_0 rfl (lv_at hl 3 rfl) ?_
  refine lv_iconst (v := 0) hx hb dL_shift_1 (by decide) ?_
  refine lv_aload_n hx hb dL_shift_2 rfl (lv_at hl 0 rfl) ?_
  refine lv_iload_n hx hb dL_shift_3 rfl (lv_at hl 1 rfl) ?_
  refine lv_iload_n hx hb dL_shift_4 rfl (lv_at hl 2 rfl) ?_
  refine xz_call (wc := (abW h0 a1 a2 a3 a4 cZ cI S Du T Rk now lr rt rd)) (wr := [(o1, .inl (cL, 1, .inr (.inl F)))]) (As := [.int x, .int t]) (rest := [.int 0, .ref o1]) ⟨hx, hb, hml, hown, hts⟩ (c_shift l hl9 D h0 a1 a2 a3 a4 cZ cI S Du T Rk now lr rt rd _ x t) (cwV 2 hts gL_shift_X0_shift rfl rfl rfl (by decide +kernel) ⟨Nat.le_of_ble_eq_true rfl, Nat.le_of_ble_eq_true rfl⟩) hP hD hS hA (hK.sub (tys' := abT cZ cI) [0, 1] rfl) hE [1, 2, 3, 4, 5] [0] rfl rfl rfl rfl rfl (by decide) (va_recv hK hP (ci := 0) (q0 := 1) rfl rfl) rfl hl.1 rfl (Nat.le_of_ble_eq_true rfl) dL_shift_5 ⟨Nat.le_of_ble_eq_true rfl, Nat.le_of_ble_eq_true rfl⟩ (fun E ce q9 H locs hE9 hP hD hS hce hcv hcl => ?_) (fun r u H locs hu hP hD hS => ?_)
  · rcases hE9 with ⟨rfl, hq⟩ | ⟨rfl, hq⟩
    · skip
      refine vx_catch (own := RL) (name := xzA) (E := xzA) hown [] ⟨0, 10, 13, 13⟩ [⟨0, 10, 17, 15⟩] (by rw [hTab]; rfl) (fun z hz => nomatch hz) rfl (by decide) (hts (.classLink RL 13 xzA) (by decide +kernel)) (va_Nw.use rfl hE.2.2.1.1) hce hcv hcl ?_
      refine lv_astore (lv' := [(4, .ref q9), (0, .ref h0), (1, .int x), (2, .int t), (3, .ref o1)]) hx hb dL_shift_13 hl (by decide) rfl (fun ls hl => ?_)
      refine lv_iconst (v := 1) hx hb dL_shift_15 (by decide) ?_
      exact W.iret (v := 1) hx hb hr (fun t9 ht9 hW9 => ⟨⟨_, ((S, Du, T, Rk, now, lr, rt, rd), F), rfl, Or.inr (Or.inl ⟨rfl, rfl, hq⟩), by rw [ht9]; exact hP, va_K.moved hW9.alike hK, hD⟩, hS.F ht9⟩) hS.2.2 dL_shift_16
    · skip
      refine vx_catch (own := RL) (name := xzI) (E := xzI) hown [⟨0, 10, 13, 13⟩] ⟨0, 10, 17, 15⟩ [] (by rw [hTab]; rfl) (fun z hz => by
          rcases List.mem_cons.mp hz with rfl | hz
          · exact Or.inr ⟨by decide, xzA, hts (.classLink RL 13 xzA) (by decide +kernel), hN⟩
          · cases hz) rfl (by decide) (hts (.classLink RL 15 xzI) (by decide +kernel)) (va_Nw.use rfl hE.2.2.1.2.1) hce hcv hcl ?_
      refine lv_astore (lv' := [(4, .ref q9), (0, .ref h0), (1, .int x), (2, .int t), (3, .ref o1)]) hx hb dL_shift_17 hl (by decide) rfl (fun ls hl => ?_)
      refine lv_iconst (v := 2) hx hb dL_shift_19 (by decide) ?_
      exact W.iret (v := 2) hx hb hr (fun t9 ht9 hW9 => ⟨⟨_, ((S, Du, T, Rk, now, lr, rt, rd), F), rfl, Or.inr (Or.inr ⟨rfl, rfl, hq⟩), by rw [ht9]; exact hP, va_K.moved hW9.alike hK, hD⟩, hS.F ht9⟩) hS.2.2 dL_shift_20
  · refine lv_i2l hx hb dL_shift_8 rfl ?_
    refine kz_last0 hx hb hK hP hD hS 0 2 rfl rfl (vp_in_nI (n := 0) (N := 1) (by decide) (by decide)) dL_shift_9 (fun H locs hP hD hS => ?_)
    refine lv_goto (tgt := 21) hx hb dL_shift_10 (by decide) ?_
    refine lv_iconst (v := 0) hx hb dL_shift_21 (by decide) ?_
    exact W.iret (v := 0) hx hb hr (fun t9 ht9 hW9 => ⟨⟨_, (u, vp_updL F 0 r.toInt64), rfl, Or.inl ⟨rfl, r, hu, pk_uLs (f := F) (k := 0) (x := r.toInt64)⟩, by rw [ht9]; exact hP, va_K.moved hW9.alike hK, hD⟩, hS.F ht9⟩) hS.2.2 dL_shift_22
set_option maxHeartbeats 4000000 in
set_option maxRecDepth 100000 in
/-- the law's stop -/
theorem h_stop (l : Launch) (hl9 : l.stackTraces = false) (D : va_G) (h0 a1 a2 a3 a4 : Nat) (cZ cI : ClassId) (o1 : Nat) (cL : ClassId) (S Du T Rk : Nat → Int32) (now lr rt rd : Int32) (F : Nat → Int64) (sz : Nat) (x : Int32) : Met l yL_stop wsL_stop ({ frames := 7, cells := 1, slots := 6, locals := 111 } : Room) (hl_Pc D vwCl (hlT cZ cI cL) (hlW o1 cL F (abW h0 a1 a2 a3 a4 cZ cI S Du T Rk now lr rt rd)) sz [.ref h0, .int x, .ref o1]) (va_Qi (fun (r : Int32) (v : HLs) => (r = 0 ∧ ∃ r1 : Int32, (∃ k : Nat, k < 512 ∧ x = nI k ∧ ¬ S k = 0 ∧ r1 = T k ∧ v.1 = (upd S k 0, Du, T, Rk, now, lr, rt, rd)) ∧ v.2 0 = r1.toInt64) ∨ (r = 1 ∧ v.1 = (S, Du, T, Rk, now, lr, rt, rd) ∧ ¬ ab_ex S x)) (kz_B D vwCl (hlT cZ cI cL) (hlU h0 a1 a2 a3 a4 cZ cI o1 cL) (va_A (hlW o1 cL F (abW h0 a1 a2 a3 a4 cZ cI S Du T Rk now lr rt rd)) sz)) (va_A (hlW o1 cL F (abW h0 a1 a2 a3 a4 cZ cI S Du T Rk now lr rt rd)) sz)) 1 6 (va_A (hlW o1 cL F (abW h0 a1 a2 a3 a4 cZ cI S Du T Rk now lr rt rd)) sz) := by
  refine va_MetW (cc := cL_stop) (maxL := 4) (ret := some .int) (hh := [(0, 9, 12, 13)]) (by decide) rfl ?_
  intro p e s m args below meth c s₁ B hml hv
  obtain ⟨rfl, hsz, hP, hK, hD0, hE, hN⟩ := hv
  have hx := B.exec
  have hb := B.bytes
  have hr := B.returns
  have hts := atoms_spec (ws := wsL_stop) B.pre
  have hown : s.vm.findClass RL = some m.cls := findClass_of_methodNamed B.named
  have hlocks := B.notSynchronized
  have hTab := vx_table (x := yL_stop) B (hts (.codeWith yL_stop cL_stop 4 (some .int) [(0, 9, 12, 13)]) List.mem_cons_self)
  subst hsz
  have hD := hD0.self (sz := s.heap.size)
  generalize hAe : va_A (hlW o1 cL F (abW h0 a1 a2 a3 a4 cZ cI S Du T Rk now lr rt rd)) s.heap.size = A at hD hE ⊢
  have hA : ∀ q : Nat, s.heap.size ≤ q → A q := fun q h => by rw [← hAe]; exact Or.inr h
  have hS : va_S A s.heap s.heap [] := va_S.rf
  refine kz_enter [.ref h0, .int x, .ref o1] (Nat.le_of_ble_eq_true rfl) (fun ls hl => ?_)
  have hl : lv_has ls 4 [(0, .ref h0), (1, .int x), (2, .ref o1)] := hl
  refine lv_aload_n hx hb dL_stop_0 rfl (lv_at hl 2 rfl) ?_
  refine lv_iconst (v := 0) hx hb dL_stop_1 (by decide) ?_
  refine lv_aload_n hx hb dL_stop_2 rfl (lv_at hl 0 rfl) ?_
  refine lv_iload_n hx hb dL_stop_3 rfl (lv_at hl 1 rfl) ?_
  refine xz_call (wc := (abW h0 a1 a2 a3 a4 cZ cI S Du T Rk now lr rt rd)) (wr := [(o1, .inl (cL, 1, .inr (.inl F)))]) (As := [.int x]) (rest := [.int 0, .ref o1]) ⟨hx, hb, hml, hown, hts⟩ (c_stop l hl9 D h0 a1 a2 a3 a4 cZ cI S Du T Rk now lr rt rd _ x) (cwV 1 hts gL_stop_X0_stop rfl rfl rfl (by decide +kernel) ⟨Nat.le_of_ble_eq_true rfl, Nat.le_of_ble_eq_true rfl⟩) hP hD hS hA (hK.sub (tys' := abT cZ cI) [0, 1] rfl) hE [1, 2, 3, 4, 5] [0] rfl rfl rfl rfl rfl (by decide) (va_recv hK hP (ci := 0) (q0 := 1) rfl rfl) rfl hl.1 rfl (Nat.le_of_ble_eq_true rfl) dL_stop_4 ⟨Nat.le_of_ble_eq_true rfl, Nat.le_of_ble_eq_true rfl⟩ (fun E ce q9 H locs hE9 hP hD hS hce hcv hcl => ?_) (fun r u H locs hu hP hD hS => ?_)
  · obtain ⟨rfl, hq⟩ := hE9
    refine vx_catch (own := RL) (name := xzA) (E := xzA) hown [] ⟨0, 9, 12, 13⟩ [] (by rw [hTab]; rfl) (fun z hz => nomatch hz) rfl (by decide) (hts (.classLink RL 13 xzA) (by decide +kernel)) (va_Nw.use rfl hE.2.2.1.1) hce hcv hcl ?_
    refine lv_astore_n (lv' := [(3, .ref q9), (0, .ref h0), (1, .int x), (2, .ref o1)]) hx hb dL_stop_12 rfl hl (by decide) rfl (fun ls hl => ?_)
    refine lv_iconst (v := 1) hx hb dL_stop_13 (by decide) ?_
    exact W.iret (v := 1) hx hb hr (fun t9 ht9 hW9 => ⟨⟨_, ((S, Du, T, Rk, now, lr, rt, rd), F), rfl, Or.inr ⟨rfl, rfl, hq⟩, by rw [ht9]; exact hP, va_K.moved hW9.alike hK, hD⟩, hS.F ht9⟩) hS.2.2 dL_stop_14
  · refine lv_i2l hx hb dL_stop_7 rfl ?_
    refine kz_last0 hx hb hK hP hD hS 0 2 rfl rfl (vp_in_nI (n := 0) (N := 1) (by decide) (by decide)) dL_stop_8 (fun H locs hP hD hS => ?_)
    refine lv_goto (tgt := 15) hx hb dL_stop_9 (by decide) ?_
    refine lv_iconst (v := 0) hx hb dL_stop_15 (by decide) ?_
    exact W.iret (v := 0) hx hb hr (fun t9 ht9 hW9 => ⟨⟨_, (u, vp_updL F 0 r.toInt64), rfl, Or.inl ⟨rfl, r, hu, pk_uLs (f := F) (k := 0) (x := r.toInt64)⟩, by rw [ht9]; exact hP, va_K.moved hW9.alike hK, hD⟩, hS.F ht9⟩) hS.2.2 dL_stop_16
set_option maxHeartbeats 4000000 in
set_option maxRecDepth 100000 in
/-- the law's pass -/
theorem h_pass (l : Launch) (hl9 : l.stackTraces = false) (D : va_G) (h0 a1 a2 a3 a4 : Nat) (cZ cI : ClassId) (o1 : Nat) (cL : ClassId) (S Du T Rk : Nat → Int32) (now lr rt rd : Int32) (F : Nat → Int64) (sz : Nat) (x : Int32) : Met l yL_pass wsL_pass ({ frames := 7, cells := 1, slots := 6, locals := 111 } : Room) (hl_Pc D vwCl (hlT cZ cI cL) (hlW o1 cL F (abW h0 a1 a2 a3 a4 cZ cI S Du T Rk now lr rt rd)) sz [.ref h0, .int x, .ref o1]) (va_Qi (fun (r : Int32) (v : HLs) => (r = 0 ∧ ∃ r1 : Int32, (¬ x < 0 ∧ ¬ 200000 < x ∧ ¬ 1000000000 - now < x ∧ r1 = now + x ∧ v.1 = (S, Du, T, Rk, now + x, lr, rt, rd)) ∧ v.2 0 = r1.toInt64) ∨ (r = 1 ∧ v.1 = (S, Du, T, Rk, now, lr, rt, rd) ∧ (x < 0 ∨ 200000 < x)) ∨ (r = 2 ∧ v.1 = (S, Du, T, Rk, now, lr, rt, rd) ∧ ¬ x < 0 ∧ ¬ 200000 < x ∧ 1000000000 - now < x)) (kz_B D vwCl (hlT cZ cI cL) (hlU h0 a1 a2 a3 a4 cZ cI o1 cL) (va_A (hlW o1 cL F (abW h0 a1 a2 a3 a4 cZ cI S Du T Rk now lr rt rd)) sz)) (va_A (hlW o1 cL F (abW h0 a1 a2 a3 a4 cZ cI S Du T Rk now lr rt rd)) sz)) 1 6 (va_A (hlW o1 cL F (abW h0 a1 a2 a3 a4 cZ cI S Du T Rk now lr rt rd)) sz) := by
  refine va_MetW (cc := cL_pass) (maxL := 4) (ret := some .int) (hh := [(0, 9, 12, 13), (0, 9, 15, 15)]) (by decide) rfl ?_
  intro p e s m args below meth c s₁ B hml hv
  obtain ⟨rfl, hsz, hP, hK, hD0, hE, hN⟩ := hv
  have hx := B.exec
  have hb := B.bytes
  have hr := B.returns
  have hts := atoms_spec (ws := wsL_pass) B.pre
  have hown : s.vm.findClass RL = some m.cls := findClass_of_methodNamed B.named
  have hlocks := B.notSynchronized
  have hTab := vx_table (x := yL_pass) B (hts (.codeWith yL_pass cL_pass 4 (some .int) [(0, 9, 12, 13), (0, 9, 15, 15)]) List.mem_cons_self)
  subst hsz
  have hD := hD0.self (sz := s.heap.size)
  generalize hAe : va_A (hlW o1 cL F (abW h0 a1 a2 a3 a4 cZ cI S Du T Rk now lr rt rd)) s.heap.size = A at hD hE ⊢
  have hA : ∀ q : Nat, s.heap.size ≤ q → A q := fun q h => by rw [← hAe]; exact Or.inr h
  have hS : va_S A s.heap s.heap [] := va_S.rf
  refine kz_enter [.ref h0, .int x, .ref o1] (Nat.le_of_ble_eq_true rfl) (fun ls hl => ?_)
  have hl : lv_has ls 4 [(0, .ref h0), (1, .int x), (2, .ref o1)] := hl
  refine lv_aload_n hx hb dL_pass_0 rfl (lv_at hl 2 rfl) ?_
  refine lv_iconst (v := 0) hx hb dL_pass_1 (by decide) ?_
  refine lv_aload_n hx hb dL_pass_2 rfl (lv_at hl 0 rfl) ?_
  refine lv_iload_n hx hb dL_pass_3 rfl (lv_at hl 1 rfl) ?_
  refine xz_call (wc := (abW h0 a1 a2 a3 a4 cZ cI S Du T Rk now lr rt rd)) (wr := [(o1, .inl (cL, 1, .inr (.inl F)))]) (As := [.int x]) (rest := [.int 0, .ref o1]) ⟨hx, hb, hml, hown, hts⟩ (c_pass l hl9 D h0 a1 a2 a3 a4 cZ cI S Du T Rk now lr rt rd _ x) (cwV 1 hts gL_pass_X0_pass rfl rfl rfl (by decide +kernel) ⟨Nat.le_of_ble_eq_true rfl, Nat.le_of_ble_eq_true rfl⟩) hP hD hS hA (hK.sub (tys' := abT cZ cI) [0, 1] rfl) hE [1, 2, 3, 4, 5] [0] rfl rfl rfl rfl rfl (by decide) (va_recv hK hP (ci := 0) (q0 := 1) rfl rfl) rfl hl.1 rfl (Nat.le_of_ble_eq_true rfl) dL_pass_4 ⟨Nat.le_of_ble_eq_true rfl, Nat.le_of_ble_eq_true rfl⟩ (fun E ce q9 H locs hE9 hP hD hS hce hcv hcl => ?_) (fun r u H locs hu hP hD hS => ?_)
  · rcases hE9 with ⟨rfl, hq⟩ | ⟨rfl, hq⟩
    · skip
      refine vx_catch (own := RL) (name := xzA) (E := xzA) hown [] ⟨0, 9, 12, 13⟩ [⟨0, 9, 15, 15⟩] (by rw [hTab]; rfl) (fun z hz => nomatch hz) rfl (by decide) (hts (.classLink RL 13 xzA) (by decide +kernel)) (va_Nw.use rfl hE.2.2.1.1) hce hcv hcl ?_
      refine lv_astore_n (lv' := [(3, .ref q9), (0, .ref h0), (1, .int x), (2, .ref o1)]) hx hb dL_pass_12 rfl hl (by decide) rfl (fun ls hl => ?_)
      refine lv_iconst (v := 1) hx hb dL_pass_13 (by decide) ?_
      exact W.iret (v := 1) hx hb hr (fun t9 ht9 hW9 => ⟨⟨_, ((S, Du, T, Rk, now, lr, rt, rd), F), rfl, Or.inr (Or.inl ⟨rfl, rfl, hq⟩), by rw [ht9]; exact hP, va_K.moved hW9.alike hK, hD⟩, hS.F ht9⟩) hS.2.2 dL_pass_14
    · skip
      refine vx_catch (own := RL) (name := xzI) (E := xzI) hown [⟨0, 9, 12, 13⟩] ⟨0, 9, 15, 15⟩ [] (by rw [hTab]; rfl) (fun z hz => by
          rcases List.mem_cons.mp hz with rfl | hz
          · exact Or.inr ⟨by decide, xzA, hts (.classLink RL 13 xzA) (by decide +kernel), hN⟩
          · cases hz) rfl (by decide) (hts (.classLink RL 15 xzI) (by decide +kernel)) (va_Nw.use rfl hE.2.2.1.2.1) hce hcv hcl ?_
      refine lv_astore_n (lv' := [(3, .ref q9), (0, .ref h0), (1, .int x), (2, .ref o1)]) hx hb dL_pass_15 rfl hl (by decide) rfl (fun ls hl => ?_)
      refine lv_iconst (v := 2) hx hb dL_pass_16 (by decide) ?_
      exact W.iret (v := 2) hx hb hr (fun t9 ht9 hW9 => ⟨⟨_, ((S, Du, T, Rk, now, lr, rt, rd), F), rfl, Or.inr (Or.inr ⟨rfl, rfl, hq⟩), by rw [ht9]; exact hP, va_K.moved hW9.alike hK, hD⟩, hS.F ht9⟩) hS.2.2 dL_pass_17
  · refine lv_i2l hx hb dL_pass_7 rfl ?_
    refine kz_last0 hx hb hK hP hD hS 0 2 rfl rfl (vp_in_nI (n := 0) (N := 1) (by decide) (by decide)) dL_pass_8 (fun H locs hP hD hS => ?_)
    refine lv_goto (tgt := 18) hx hb dL_pass_9 (by decide) ?_
    refine lv_iconst (v := 0) hx hb dL_pass_18 (by decide) ?_
    exact W.iret (v := 0) hx hb hr (fun t9 ht9 hW9 => ⟨⟨_, (u, vp_updL F 0 r.toInt64), rfl, Or.inl ⟨rfl, r, hu, pk_uLs (f := F) (k := 0) (x := r.toInt64)⟩, by rw [ht9]; exact hP, va_K.moved hW9.alike hK, hD⟩, hS.F ht9⟩) hS.2.2 dL_pass_19
set_option maxHeartbeats 4000000 in
set_option maxRecDepth 100000 in
/-- the law's about -/
theorem h_about (l : Launch) (hl9 : l.stackTraces = false) (D : va_G) (h0 a1 a2 a3 a4 : Nat) (cZ cI : ClassId) (o1 : Nat) (cL : ClassId) (S Du T Rk : Nat → Int32) (now lr rt rd : Int32) (F : Nat → Int64) (sz : Nat) (x w : Int32) : Met l yL_about wsL_about ({ frames := 7, cells := 1, slots := 6, locals := 112 } : Room) (hl_Pc D vwCl (hlT cZ cI cL) (hlW o1 cL F (abW h0 a1 a2 a3 a4 cZ cI S Du T Rk now lr rt rd)) sz [.ref h0, .int x, .int w, .ref o1]) (va_Qi (fun (r : Int32) (v : HLs) => (r = 0 ∧ ∃ r1 : Int32, (∃ k : Nat, k < 512 ∧ x = nI k ∧ ¬ S k = 0 ∧ ((w = 0 ∧ r1 = Du k) ∨ (w = 1 ∧ r1 = T k)) ∧ v.1 = (S, Du, T, Rk, now, lr, rt, rd)) ∧ v.2 0 = r1.toInt64) ∨ (r = 1 ∧ v.1 = (S, Du, T, Rk, now, lr, rt, rd) ∧ (¬ ab_ex S x ∨ (¬ w = 0 ∧ ¬ w = 1)))) (kz_B D vwCl (hlT cZ cI cL) (hlU h0 a1 a2 a3 a4 cZ cI o1 cL) (va_A (hlW o1 cL F (abW h0 a1 a2 a3 a4 cZ cI S Du T Rk now lr rt rd)) sz)) (va_A (hlW o1 cL F (abW h0 a1 a2 a3 a4 cZ cI S Du T Rk now lr rt rd)) sz)) 1 6 (va_A (hlW o1 cL F (abW h0 a1 a2 a3 a4 cZ cI S Du T Rk now lr rt rd)) sz) := by
  refine va_MetW (cc := cL_about) (maxL := 5) (ret := some .int) (hh := [(0, 10, 13, 13)]) (by decide) rfl ?_
  intro p e s m args below meth c s₁ B hml hv
  obtain ⟨rfl, hsz, hP, hK, hD0, hE, hN⟩ := hv
  have hx := B.exec
  have hb := B.bytes
  have hr := B.returns
  have hts := atoms_spec (ws := wsL_about) B.pre
  have hown : s.vm.findClass RL = some m.cls := findClass_of_methodNamed B.named
  have hlocks := B.notSynchronized
  have hTab := vx_table (x := yL_about) B (hts (.codeWith yL_about cL_about 5 (some .int) [(0, 10, 13, 13)]) List.mem_cons_self)
  subst hsz
  have hD := hD0.self (sz := s.heap.size)
  generalize hAe : va_A (hlW o1 cL F (abW h0 a1 a2 a3 a4 cZ cI S Du T Rk now lr rt rd)) s.heap.size = A at hD hE ⊢
  have hA : ∀ q : Nat, s.heap.size ≤ q → A q := fun q h => by rw [← hAe]; exact Or.inr h
  have hS : va_S A s.heap s.heap [] := va_S.rf
  refine kz_enter [.ref h0, .int x, .int w, .ref o1] (Nat.le_of_ble_eq_true rfl) (fun ls hl => ?_)
  have hl : lv_has ls 5 [(0, .ref h0), (1, .int x), (2, .int w), (3, .ref o1)] := hl
  refine lv_aload_n hx hb dL_about_0 rfl (lv_at hl 3 rfl) ?_
  refine lv_iconst (v := 0) hx hb dL_about_1 (by decide) ?_
  refine lv_aload_n hx hb dL_about_2 rfl (lv_at hl 0 rfl) ?_
  refine lv_iload_n hx hb dL_about_3 rfl (lv_at hl 1 rfl) ?_
  refine lv_iload_n hx hb dL_about_4 rfl (lv_at hl 2 rfl) ?_
  refine xz_call (wc := (abW h0 a1 a2 a3 a4 cZ cI S Du T Rk now lr rt rd)) (wr := [(o1, .inl (cL, 1, .inr (.inl F)))]) (As := [.int x, .int w]) (rest := [.int 0, .ref o1]) ⟨hx, hb, hml, hown, hts⟩ (c_about l hl9 D h0 a1 a2 a3 a4 cZ cI S Du T Rk now lr rt rd _ x w) (cwV 2 hts gL_about_X0_about rfl rfl rfl (by decide +kernel) ⟨Nat.le_of_ble_eq_true rfl, Nat.le_of_ble_eq_true rfl⟩) hP hD hS hA (hK.sub (tys' := abT cZ cI) [0, 1] rfl) hE [1, 2, 3, 4, 5] [0] rfl rfl rfl rfl rfl (by decide) (va_recv hK hP (ci := 0) (q0 := 1) rfl rfl) rfl hl.1 rfl (Nat.le_of_ble_eq_true rfl) dL_about_5 ⟨Nat.le_of_ble_eq_true rfl, Nat.le_of_ble_eq_true rfl⟩ (fun E ce q9 H locs hE9 hP hD hS hce hcv hcl => ?_) (fun r u H locs hu hP hD hS => ?_)
  · obtain ⟨rfl, hq⟩ := hE9
    refine vx_catch (own := RL) (name := xzA) (E := xzA) hown [] ⟨0, 10, 13, 13⟩ [] (by rw [hTab]; rfl) (fun z hz => nomatch hz) rfl (by decide) (hts (.classLink RL 13 xzA) (by decide +kernel)) (va_Nw.use rfl hE.2.2.1.1) hce hcv hcl ?_
    refine lv_astore (lv' := [(4, .ref q9), (0, .ref h0), (1, .int x), (2, .int w), (3, .ref o1)]) hx hb dL_about_13 hl (by decide) rfl (fun ls hl => ?_)
    refine lv_iconst (v := 1) hx hb dL_about_15 (by decide) ?_
    exact W.iret (v := 1) hx hb hr (fun t9 ht9 hW9 => ⟨⟨_, ((S, Du, T, Rk, now, lr, rt, rd), F), rfl, Or.inr ⟨rfl, rfl, hq⟩, by rw [ht9]; exact hP, va_K.moved hW9.alike hK, hD⟩, hS.F ht9⟩) hS.2.2 dL_about_16
  · refine lv_i2l hx hb dL_about_8 rfl ?_
    refine kz_last0 hx hb hK hP hD hS 0 2 rfl rfl (vp_in_nI (n := 0) (N := 1) (by decide) (by decide)) dL_about_9 (fun H locs hP hD hS => ?_)
    refine lv_goto (tgt := 17) hx hb dL_about_10 (by decide) ?_
    refine lv_iconst (v := 0) hx hb dL_about_17 (by decide) ?_
    exact W.iret (v := 0) hx hb hr (fun t9 ht9 hW9 => ⟨⟨_, (u, vp_updL F 0 r.toInt64), rfl, Or.inl ⟨rfl, r, hu, pk_uLs (f := F) (k := 0) (x := r.toInt64)⟩, by rw [ht9]; exact hP, va_K.moved hW9.alike hK, hD⟩, hS.F ht9⟩) hS.2.2 dL_about_18
