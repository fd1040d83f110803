set_option maxHeartbeats 4000000 in
set_option maxRecDepth 100000 in
/-- leastFree() -/
theorem c_leastFree (l : Launch) (D : va_G) (h0 a1 a2 a3 a4 : Nat) (cZ cI : ClassId) (S Du T Rk : Nat → Int32) (now lr rt rd : Int32)  : Met l yX0_leastFree wsX0_leastFree ({ frames := 0, cells := 0, slots := 0, locals := 0 } : Room) (va_Pc [.ref h0] (fun U => va_P D vwCl (abW h0 a1 a2 a3 a4 cZ cI S Du T Rk now lr rt rd) U.heap ∧ va_K D vwCl (abT cZ cI) U)) (vp_Si (fun r => (∃ k : Nat, k < 512 ∧ r = nI k ∧ S k = 0 ∧ ∀ j, j < k → ¬ S j = 0) ∨ (r = -1 ∧ ∀ j, j < 512 → ¬ S j = 0))) 0 0 (fun _ => False) := by
  refine Met.ofW (cc := cX0_leastFree) (maxL := 2) (ret := some .int) (by decide) rfl ?_
  intro p e s m args below meth c s₁ B hml hv
  obtain ⟨rfl, hP, hK⟩ := hv
  have hx := B.exec
  have hb := B.bytes
  have hr := B.returns
  have hts := atoms_spec (ws := wsX0_leastFree) B.pre
  have hown : s.vm.findClass RX0 = some m.cls := findClass_of_methodNamed B.named
  have hlocks := B.notSynchronized
  have hinX0 : ∀ w ∈ wsX00, w ∈ wsX0_leastFree := by decide +kernel
  refine kz_enter [.ref h0] (Nat.le_of_ble_eq_true rfl) (fun ls hl => ?_)
  have hl : lv_has ls 2 [(0, .ref h0)] := hl
  refine lv_iconst (v := 0) hx hb dX0_leastFree_0 (by decide) ?_
  refine lv_istore_n (lv' := [(1, .int 0), (0, .ref h0)]) hx hb dX0_leastFree_1 rfl hl (by decide) rfl (fun ls hl => ?_)
  refine kz_loop (G := fun ls : Array Slot => W p l e _ s m _ below meth c s.heap [] 0 0 _ (F0 m 2 ls [])) (I := fun k ls => (∀ j, j < k → ¬ S j = 0) ∧ lv_has ls 2 [(1, .int (nI k)), (0, .ref h0)]) 512 ?_ ?_ 0 (Nat.zero_le _) ls ⟨fun j hj => absurd hj (Nat.not_lt_zero j), hl⟩
  · intro k ls hk ⟨hlo, hl⟩ ih
    refine lv_iload_n hx hb dX0_leastFree_2 rfl (lv_at hl 0 rfl) ?_
    refine lv_sipush (v := 512) hx hb dX0_leastFree_3 (by decide) ?_
    refine lv_icmp_ge (tgt := 26) hx hb dX0_leastFree_6 (by decide) (fun c_6 => ?_) (fun c_6 => ?_)
    · exact absurd c_6 (nI_ge (a := k) (b := 512) hk (by decide))
    · refine lv_aload_n hx hb dX0_leastFree_9 rfl (lv_at hl 1 rfl) ?_
      refine va_get (ci := 0) (v := .ref a1) (C := RX0) (T := TX0) (N := 8) hx hb hts hinX0 hown hK hP 0 rfl rfl 0 (by decide) (hts (.fieldLink RX0 9 "AlarmBench" "isSet" "[Z") (by decide +kernel)) (fun _ h9 => h9) rfl dX0_leastFree_10 ?_
      refine lv_iload_n hx hb dX0_leastFree_13 rfl (lv_at hl 0 rfl) ?_
      refine kz_zald hx hb hK hP 1 0 rfl rfl hk (by decide) dX0_leastFree_14 ?_
      refine lv_if_ne (tgt := 20) hx hb dX0_leastFree_15 (by decide) (fun c_15 => ?_) (fun c_15 => ?_)
      · refine lv_iinc (v := nI (k + 1)) (lv' := [(1, .int (nI (k + 1))), (0, .ref h0)]) hx hb dX0_leastFree_20 hl (k := 0) rfl (kz_inc k) (by decide) rfl (fun ls hl => ?_)
        refine lv_goto (tgt := 2) hx hb dX0_leastFree_23 (by decide) ?_
        exact ih ls ⟨fun j hj => (Nat.lt_succ_iff_lt_or_eq.mp hj).elim (hlo j) (fun e9 => e9 ▸ c_15), lv_sub hl [0, 1] rfl⟩
      · refine lv_iload_n hx hb dX0_leastFree_18 rfl (lv_at hl 0 rfl) ?_
        exact W.iret (v := nI k) hx hb hr (fun t9 ht9 hW9 => ⟨_, rfl, Or.inl ⟨k, hk, rfl, c_15, hlo⟩, ht9⟩) (fun q h => by cases h) dX0_leastFree_19
  · intro ls ⟨hlo, hl⟩
    refine lv_iload_n hx hb dX0_leastFree_2 rfl (lv_at hl 0 rfl) ?_
    refine lv_sipush (v := 512) hx hb dX0_leastFree_3 (by decide) ?_
    refine lv_icmp_ge (tgt := 26) hx hb dX0_leastFree_6 (by decide) (fun c_6 => ?_) (fun c_6 => ?_)
    · refine lv_iconst (v := -1) hx hb dX0_leastFree_26 (by decide) ?_
      exact W.iret (v := (-1)) hx hb hr (fun t9 ht9 hW9 => ⟨_, rfl, Or.inr ⟨rfl, hlo⟩, ht9⟩) (fun q h => by cases h) dX0_leastFree_27
    · exact absurd (Int32.le_refl _) c_6
set_option maxHeartbeats 4000000 in
set_option maxRecDepth 100000 in
/-- first() -/
theorem c_first (l : Launch) (D : va_G) (h0 a1 a2 a3 a4 : Nat) (cZ cI : ClassId) (S Du T Rk : Nat → Int32) (now lr rt rd : Int32)  : Met l yX0_first wsX0_first ({ frames := 1, cells := 0, slots := 0, locals := 22 } : Room) (va_Pc [.ref h0] (fun U => va_P D vwCl (abW h0 a1 a2 a3 a4 cZ cI S Du T Rk now lr rt rd) U.heap ∧ va_K D vwCl (abT cZ cI) U)) (vp_Si (fun r => r = oI (ab_fst S Du Rk 512))) 0 0 (fun _ => False) := by
  refine Met.ofW (cc := cX0_first) (maxL := 3) (ret := some .int) (by decide) rfl ?_
  intro p e s m args below meth c s₁ B hml hv
  obtain ⟨rfl, hP, hK⟩ := hv
  have hx := B.exec
  have hb := B.bytes
  have hr := B.returns
  have hts := atoms_spec (ws := wsX0_first) B.pre
  have hown : s.vm.findClass RX0 = some m.cls := findClass_of_methodNamed B.named
  have hlocks := B.notSynchronized
  have hinX0 : ∀ w ∈ wsX00, w ∈ wsX0_first := by decide +kernel
  refine kz_enter [.ref h0] (Nat.le_of_ble_eq_true rfl) (fun ls hl => ?_)
  have hl : lv_has ls 3 [(0, .ref h0)] := hl
  refine lv_iconst (v := -1) hx hb dX0_first_0 (by decide) ?_
  refine lv_istore_n (lv' := [(1, .int ((-1))), (0, .ref h0)]) hx hb dX0_first_1 rfl hl (by decide) rfl (fun ls hl => ?_)
  refine lv_iconst (v := 0) hx hb dX0_first_2 (by decide) ?_
  refine lv_istore_n (lv' := [(2, .int 0), (1, .int ((-1))), (0, .ref h0)]) hx hb dX0_first_3 rfl hl (by decide) rfl (fun ls hl => ?_)
  refine kz_loop (G := fun ls : Array Slot => W p l e _ s m _ below meth c s.heap [] 0 0 _ (F0 m 4 ls [])) (I := fun k ls => lv_has ls 3 [(2, .int (nI k)), (1, .int (oI (ab_fst S Du Rk k))), (0, .ref h0)]) 512 ?_ ?_ 0 (Nat.zero_le _) ls (lv_sub hl [0, 1, 2] rfl)
  · intro k ls hk hl ih
    refine lv_iload_n hx hb dX0_first_4 rfl (lv_at hl 0 rfl) ?_
    refine lv_sipush (v := 512) hx hb dX0_first_5 (by decide) ?_
    refine lv_icmp_ge (tgt := 42) hx hb dX0_first_8 (by decide) (fun c_8 => ?_) (fun c_8 => ?_)
    · exact absurd c_8 (nI_ge (a := k) (b := 512) hk (by decide))
    · refine lv_aload_n hx hb dX0_first_11 rfl (lv_at hl 2 rfl) ?_
      refine va_get (ci := 0) (v := .ref a1) (C := RX0) (T := TX0) (N := 8) hx hb hts hinX0 hown hK hP 0 rfl rfl 0 (by decide) (hts (.fieldLink RX0 9 "AlarmBench" "isSet" "[Z") (by decide +kernel)) (fun _ h9 => h9) rfl dX0_first_12 ?_
      refine lv_iload_n hx hb dX0_first_15 rfl (lv_at hl 0 rfl) ?_
      refine kz_zald hx hb hK hP 1 0 rfl rfl hk (by decide) dX0_first_16 ?_
      refine lv_if_eq (tgt := 36) hx hb dX0_first_17 (by decide) (fun c_17 => ?_) (fun c_17 => ?_)
      · refine lv_iinc (v := nI (k + 1)) (lv' := [(2, .int (nI (k + 1))), (1, .int (oI (ab_fst S Du Rk k))), (0, .ref h0)]) hx hb dX0_first_36 hl (k := 0) rfl (kz_inc k) (by decide) rfl (fun ls hl => ?_)
        refine lv_goto (tgt := 4) hx hb dX0_first_39 (by decide) ?_
        exact ih ls (by rw [ab_fst_0 c_17]; exact lv_sub hl [0, 1, 2] rfl)
      · refine lv_iload_n hx hb dX0_first_20 rfl (lv_at hl 1 rfl) ?_
        refine lv_iconst (v := -1) hx hb dX0_first_21 (by decide) ?_
        refine lv_icmp_eq (tgt := 34) hx hb dX0_first_22 (by decide) (fun c_22 => ?_) (fun c_22 => ?_)
        · have hn0 := oI_n c_22 (fun j hj => Nat.lt_trans (ab_fst_lt hj).1 (Nat.lt_trans hk (by decide)))
          refine lv_iload_n hx hb dX0_first_34 rfl (lv_at hl 0 rfl) ?_
          refine lv_istore_n (lv' := [(1, .int (nI k)), (2, .int (nI k)), (0, .ref h0)]) hx hb dX0_first_35 rfl hl (by decide) rfl (fun ls hl => ?_)
          refine lv_iinc (v := nI (k + 1)) (lv' := [(2, .int (nI (k + 1))), (1, .int (nI k)), (0, .ref h0)]) hx hb dX0_first_36 hl (k := 1) rfl (kz_inc k) (by decide) rfl (fun ls hl => ?_)
          refine lv_goto (tgt := 4) hx hb dX0_first_39 (by decide) ?_
          exact ih ls (by rw [ab_fst_n c_17 hn0]; exact lv_sub hl [0, 1, 2] rfl)
        · obtain ⟨j0, hj0⟩ : ∃ j, ab_fst S Du Rk k = some j := by
            cases hq : ab_fst S Du Rk k with
            | none => rw [hq] at c_22; exact absurd rfl c_22
            | some j => exact ⟨j, rfl⟩
          have hjk : j0 < 512 := Nat.lt_trans (ab_fst_lt hj0).1 hk
          rw [hj0] at hl
          have hl : lv_has ls 3 [(2, .int (nI k)), (1, .int (nI j0)), (0, .ref h0)] := hl
          refine lv_aload_n hx hb dX0_first_25 rfl (lv_at hl 2 rfl) ?_
          refine lv_iload_n hx hb dX0_first_26 rfl (lv_at hl 0 rfl) ?_
          refine lv_iload_n hx hb dX0_first_27 rfl (lv_at hl 1 rfl) ?_
          refine kz_callR (As := [.int (nI k), .int (nI j0)]) (rest := []) ⟨hx, hb, hml, hown, hts⟩ (c_isBefore l D h0 a1 a2 a3 a4 cZ cI S Du T Rk now lr rt rd k j0 hk hjk) (cwV 2 hts gX0_first_X0_isBefore rfl rfl rfl (by decide +kernel) ⟨Nat.le_of_ble_eq_true rfl, Nat.le_of_ble_eq_true rfl⟩) hP hK (va_recv hK hP (ci := 0) (q0 := 0) rfl rfl) rfl hl.1 rfl (Nat.le_of_ble_eq_true rfl) dX0_first_28 ⟨Nat.zero_le _, Nat.zero_le _⟩ (fun r_1 hr_2 => ?_)
          refine lv_if_eq (tgt := 36) hx hb dX0_first_31 (by decide) (fun c_31 => ?_) (fun c_31 => ?_)
          · have hb9 := hr_2.f c_31
            refine lv_iinc (v := nI (k + 1)) (lv' := [(2, .int (nI (k + 1))), (1, .int (nI j0)), (0, .ref h0)]) hx hb dX0_first_36 hl (k := 0) rfl (kz_inc k) (by decide) rfl (fun ls hl => ?_)
            refine lv_goto (tgt := 4) hx hb dX0_first_39 (by decide) ?_
            exact ih ls (by rw [ab_fst_f c_17 hj0 hb9]; exact lv_sub hl [0, 1, 2] rfl)
          · have hb9 := hr_2.t c_31
            refine lv_iload_n hx hb dX0_first_34 rfl (lv_at hl 0 rfl) ?_
            refine lv_istore_n (lv' := [(1, .int (nI k)), (2, .int (nI k)), (0, .ref h0)]) hx hb dX0_first_35 rfl hl (by decide) rfl (fun ls hl => ?_)
            refine lv_iinc (v := nI (k + 1)) (lv' := [(2, .int (nI (k + 1))), (1, .int (nI k)), (0, .ref h0)]) hx hb dX0_first_36 hl (k := 1) rfl (kz_inc k) (by decide) rfl (fun ls hl => ?_)
            refine lv_goto (tgt := 4) hx hb dX0_first_39 (by decide) ?_
            exact ih ls (by rw [ab_fst_t c_17 hj0 hb9]; exact lv_sub hl [0, 1, 2] rfl)
  · intro ls hl
    refine lv_iload_n hx hb dX0_first_4 rfl (lv_at hl 0 rfl) ?_
    refine lv_sipush (v := 512) hx hb dX0_first_5 (by decide) ?_
    refine lv_icmp_ge (tgt := 42) hx hb dX0_first_8 (by decide) (fun c_8 => ?_) (fun c_8 => ?_)
    · refine lv_iload_n hx hb dX0_first_42 rfl (lv_at hl 1 rfl) ?_
      exact W.iret (v := oI (ab_fst S Du Rk 512)) hx hb hr (fun t9 ht9 hW9 => ⟨_, rfl, rfl, ht9⟩) (fun q h => by cases h) dX0_first_43
    · exact absurd (Int32.le_refl _) c_8
set_option maxHeartbeats 4000000 in
set_option maxRecDepth 100000 in
/-- count(b) -/
theorem c_count (l : Launch) (D : va_G) (h0 a1 a2 a3 a4 : Nat) (cZ cI : ClassId) (S Du T Rk : Nat → Int32) (now lr rt rd : Int32) (b : Int32) : Met l yX0_count wsX0_count ({ frames := 1, cells := 0, slots := 0, locals := 21 } : Room) (va_Pc [.ref h0, .int b] (fun U => va_P D vwCl (abW h0 a1 a2 a3 a4 cZ cI S Du T Rk now lr rt rd) U.heap ∧ va_K D vwCl (abT cZ cI) U)) (vp_Si (fun r => r = nI (ab_cnt (fun j => !decide (S j = 0) && (decide (b = 0) || decide (Du j ≤ now))) 512))) 0 0 (fun _ => False) := by
  refine Met.ofW (cc := cX0_count) (maxL := 4) (ret := some .int) (by decide) rfl ?_
  intro p e s m args below meth c s₁ B hml hv
  obtain ⟨rfl, hP, hK⟩ := hv
  have hx := B.exec
  have hb := B.bytes
  have hr := B.returns
  have hts := atoms_spec (ws := wsX0_count) B.pre
  have hown : s.vm.findClass RX0 = some m.cls := findClass_of_methodNamed B.named
  have hlocks := B.notSynchronized
  have hinX0 : ∀ w ∈ wsX00, w ∈ wsX0_count := by decide +kernel
  refine kz_enter [.ref h0, .int b] (Nat.le_of_ble_eq_true rfl) (fun ls hl => ?_)
  have hl : lv_has ls 4 [(0, .ref h0), (1, .int b)] := hl
  refine lv_iconst (v := 0) hx hb dX0_count_0 (by decide) ?_
  refine lv_istore_n (lv' := [(2, .int 0), (0, .ref h0), (1, .int b)]) hx hb dX0_count_1 rfl hl (by decide) rfl (fun ls hl => ?_)
  refine lv_iconst (v := 0) hx hb dX0_count_2 (by decide) ?_
  refine lv_istore_n (lv' := [(3, .int 0), (2, .int 0), (0, .ref h0), (1, .int b)]) hx hb dX0_count_3 rfl hl (by decide) rfl (fun ls hl => ?_)
  refine kz_loop (G := fun ls : Array Slot => W p l e _ s m _ below meth c s.heap [] 0 0 _ (F0 m 4 ls [])) (I := fun k ls => lv_has ls 4 [(3, .int (nI k)), (2, .int (nI (ab_cnt (fun j => !decide (S j = 0) && (decide (b = 0) || decide (Du j ≤ now))) k))), (0, .ref h0), (1, .int b)]) 512 ?_ ?_ 0 (Nat.zero_le _) ls (lv_sub hl [0, 1, 2, 3] rfl)
  · intro k ls hk hl ih
    refine lv_iload_n hx hb dX0_count_4 rfl (lv_at hl 0 rfl) ?_
    refine lv_sipush (v := 512) hx hb dX0_count_5 (by decide) ?_
    refine lv_icmp_ge (tgt := 41) hx hb dX0_count_8 (by decide) (fun c_8 => ?_) (fun c_8 => ?_)
    · exact absurd c_8 (nI_ge (a := k) (b := 512) hk (by decide))
    · refine lv_aload_n hx hb dX0_count_11 rfl (lv_at hl 2 rfl) ?_
      refine va_get (ci := 0) (v := .ref a1) (C := RX0) (T := TX0) (N := 8) hx hb hts hinX0 hown hK hP 0 rfl rfl 0 (by decide) (hts (.fieldLink RX0 9 "AlarmBench" "isSet" "[Z") (by decide +kernel)) (fun _ h9 => h9) rfl dX0_count_12 ?_
      refine lv_iload_n hx hb dX0_count_15 rfl (lv_at hl 0 rfl) ?_
      refine kz_zald hx hb hK hP 1 0 rfl rfl hk (by decide) dX0_count_16 ?_
      refine lv_if_eq (tgt := 35) hx hb dX0_count_17 (by decide) (fun c_17 => ?_) (fun c_17 => ?_)
      · refine lv_iinc (v := nI (k + 1)) (lv' := [(3, .int (nI (k + 1))), (2, .int (nI (ab_cnt (fun j => !decide (S j = 0) && (decide (b = 0) || decide (Du j ≤ now))) k))), (0, .ref h0), (1, .int b)]) hx hb dX0_count_35 hl (k := 0) rfl (kz_inc k) (by decide) rfl (fun ls hl => ?_)
        refine lv_goto (tgt := 4) hx hb dX0_count_38 (by decide) ?_
        exact ih ls (by rw [show ab_cnt (fun j => !decide (S j = 0) && (decide (b = 0) || decide (Du j ≤ now))) (k + 1) = _ from ab_cnt_f (by simp [c_17])]; exact lv_sub hl [0, 1, 2, 3] rfl)
      · refine lv_iload_n hx hb dX0_count_20 rfl (lv_at hl 3 rfl) ?_
        refine lv_if_eq (tgt := 32) hx hb dX0_count_21 (by decide) (fun c_21 => ?_) (fun c_21 => ?_)
        · refine lv_iinc (v := nI (ab_cnt (fun j => !decide (S j = 0) && (decide (b = 0) || decide (Du j ≤ now))) k + 1)) (lv' := [(2, .int (nI (ab_cnt (fun j => !decide (S j = 0) && (decide (b = 0) || decide (Du j ≤ now))) k + 1))), (3, .int (nI k)), (0, .ref h0), (1, .int b)]) hx hb dX0_count_32 hl (k := 1) rfl (kz_inc (ab_cnt (fun j => !decide (S j = 0) && (decide (b = 0) || decide (Du j ≤ now))) k)) (by decide) rfl (fun ls hl => ?_)
          refine lv_iinc (v := nI (k + 1)) (lv' := [(3, .int (nI (k + 1))), (2, .int (nI (ab_cnt (fun j => !decide (S j = 0) && (decide (b = 0) || decide (Du j ≤ now))) k + 1))), (0, .ref h0), (1, .int b)]) hx hb dX0_count_35 hl (k := 1) rfl (kz_inc k) (by decide) rfl (fun ls hl => ?_)
          refine lv_goto (tgt := 4) hx hb dX0_count_38 (by decide) ?_
          exact ih ls (by rw [show ab_cnt (fun j => !decide (S j = 0) && (decide (b = 0) || decide (Du j ≤ now))) (k + 1) = _ from ab_cnt_t (by simp [c_17, c_21])]; exact lv_sub hl [0, 1, 2, 3] rfl)
        · refine lv_aload_n hx hb dX0_count_24 rfl (lv_at hl 2 rfl) ?_
          refine lv_iload_n hx hb dX0_count_25 rfl (lv_at hl 0 rfl) ?_
          refine kz_callR (As := [.int (nI k)]) (rest := []) ⟨hx, hb, hml, hown, hts⟩ (c_isReady l D h0 a1 a2 a3 a4 cZ cI S Du T Rk now lr rt rd k hk) (cwV 1 hts gX0_count_X0_isReady rfl rfl rfl (by decide +kernel) ⟨Nat.le_of_ble_eq_true rfl, Nat.le_of_ble_eq_true rfl⟩) hP hK (va_recv hK hP (ci := 0) (q0 := 0) rfl rfl) rfl hl.1 rfl (Nat.le_of_ble_eq_true rfl) dX0_count_26 ⟨Nat.zero_le _, Nat.zero_le _⟩ (fun r_1 hr_2 => ?_)
          refine lv_if_eq (tgt := 35) hx hb dX0_count_29 (by decide) (fun c_29 => ?_) (fun c_29 => ?_)
          · have hd9 := hr_2.f c_29
            refine lv_iinc (v := nI (k + 1)) (lv' := [(3, .int (nI (k + 1))), (2, .int (nI (ab_cnt (fun j => !decide (S j = 0) && (decide (b = 0) || decide (Du j ≤ now))) k))), (0, .ref h0), (1, .int b)]) hx hb dX0_count_35 hl (k := 0) rfl (kz_inc k) (by decide) rfl (fun ls hl => ?_)
            refine lv_goto (tgt := 4) hx hb dX0_count_38 (by decide) ?_
            exact ih ls (by rw [show ab_cnt (fun j => !decide (S j = 0) && (decide (b = 0) || decide (Du j ≤ now))) (k + 1) = _ from ab_cnt_f (by simp [c_17, c_21, hd9])]; exact lv_sub hl [0, 1, 2, 3] rfl)
          · have hd9 := hr_2.t c_29
            refine lv_iinc (v := nI (ab_cnt (fun j => !decide (S j = 0) && (decide (b = 0) || decide (Du j ≤ now))) k + 1)) (lv' := [(2, .int (nI (ab_cnt (fun j => !decide (S j = 0) && (decide (b = 0) || decide (Du j ≤ now))) k + 1))), (3, .int (nI k)), (0, .ref h0), (1, .int b)]) hx hb dX0_count_32 hl (k := 1) rfl (kz_inc (ab_cnt (fun j => !decide (S j = 0) && (decide (b = 0) || decide (Du j ≤ now))) k)) (by decide) rfl (fun ls hl => ?_)
            refine lv_iinc (v := nI (k + 1)) (lv' := [(3, .int (nI (k + 1))), (2, .int (nI (ab_cnt (fun j => !decide (S j = 0) && (decide (b = 0) || decide (Du j ≤ now))) k + 1))), (0, .ref h0), (1, .int b)]) hx hb dX0_count_35 hl (k := 1) rfl (kz_inc k) (by decide) rfl (fun ls hl => ?_)
            refine lv_goto (tgt := 4) hx hb dX0_count_38 (by decide) ?_
            exact ih ls (by rw [show ab_cnt (fun j => !decide (S j = 0) && (decide (b = 0) || decide (Du j ≤ now))) (k + 1) = _ from ab_cnt_t (by simp [c_17, hd9])]; exact lv_sub hl [0, 1, 2, 3] rfl)
  · intro ls hl
    refine lv_iload_n hx hb dX0_count_4 rfl (lv_at hl 0 rfl) ?_
    refine lv_sipush (v := 512) hx hb dX0_count_5 (by decide) ?_
    refine lv_icmp_ge (tgt := 41) hx hb dX0_count_8 (by decide) (fun c_8 => ?_) (fun c_8 => ?_)
    · refine lv_iload_n hx hb dX0_count_41 rfl (lv_at hl 1 rfl) ?_
      exact W.iret (v := nI (ab_cnt (fun j => !decide (S j = 0) && (decide (b = 0) || decide (Du j ≤ now))) 512)) hx hb hr (fun t9 ht9 hW9 => ⟨_, rfl, rfl, ht9⟩) (fun q h => by cases h) dX0_count_42
    · exact absurd (Int32.le_refl _) c_8
set_option maxHeartbeats 4000000 in
set_option maxRecDepth 100000 in
/-- next() -/
theorem c_next (l : Launch) (D : va_G) (h0 a1 a2 a3 a4 : Nat) (cZ cI : ClassId) (S Du T Rk : Nat → Int32) (now lr rt rd : Int32)  : Met l yX0_next wsX0_next ({ frames := 2, cells := 0, slots := 0, locals := 44 } : Room) (va_Pc [.ref h0] (fun U => va_P D vwCl (abW h0 a1 a2 a3 a4 cZ cI S Du T Rk now lr rt rd) U.heap ∧ va_K D vwCl (abT cZ cI) U)) (vp_Si (fun r => r = (match ab_fst S Du Rk 512 with | none => -1 | some k => Du k))) 0 0 (fun _ => False) := by
  refine Met.ofW (cc := cX0_next) (maxL := 2) (ret := some .int) (by decide) rfl ?_
  intro p e s m args below meth c s₁ B hml hv
  obtain ⟨rfl, hP, hK⟩ := hv
  have hx := B.exec
  have hb := B.bytes
  have hr := B.returns
  have hts := atoms_spec (ws := wsX0_next) B.pre
  have hown : s.vm.findClass RX0 = some m.cls := findClass_of_methodNamed B.named
  have hlocks := B.notSynchronized
  have hinX0 : ∀ w ∈ wsX00, w ∈ wsX0_next := by decide +kernel
  refine kz_enter [.ref h0] (Nat.le_of_ble_eq_true rfl) (fun ls hl => ?_)
  have hl : lv_has ls 2 [(0, .ref h0)] := hl
  refine lv_aload_n hx hb dX0_next_0 rfl (lv_at hl 0 rfl) ?_
  refine kz_callR (As := []) (rest := []) ⟨hx, hb, hml, hown, hts⟩ (c_first l D h0 a1 a2 a3 a4 cZ cI S Du T Rk now lr rt rd) (cwV 0 hts gX0_next_X0_first rfl rfl rfl (by decide +kernel) ⟨Nat.le_of_ble_eq_true rfl, Nat.le_of_ble_eq_true rfl⟩) hP hK (va_recv hK hP (ci := 0) (q0 := 0) rfl rfl) rfl hl.1 rfl (Nat.le_of_ble_eq_true rfl) dX0_next_1 ⟨Nat.zero_le _, Nat.zero_le _⟩ (fun r_1 hr_2 => ?_)
  subst hr_2
  refine lv_istore_n (lv' := [(1, .int (oI (ab_fst S Du Rk 512))), (0, .ref h0)]) hx hb dX0_next_4 rfl hl (by decide) rfl (fun ls hl => ?_)
  refine lv_iload_n hx hb dX0_next_5 rfl (lv_at hl 0 rfl) ?_
  refine lv_iconst (v := -1) hx hb dX0_next_6 (by decide) ?_
  refine lv_icmp_ne (tgt := 14) hx hb dX0_next_7 (by decide) (fun c_7 => ?_) (fun c_7 => ?_)
  · obtain ⟨j0, hj0⟩ : ∃ j, ab_fst S Du Rk 512 = some j := by
      cases hq : ab_fst S Du Rk 512 with
      | none => rw [hq] at c_7; exact absurd rfl c_7
      | some j => exact ⟨j, rfl⟩
    have hk : j0 < 512 := (ab_fst_lt hj0).1
    rw [hj0] at hl
    have hl : lv_has ls 2 [(1, .int (nI j0)), (0, .ref h0)] := hl
    refine lv_aload_n hx hb dX0_next_14 rfl (lv_at hl 1 rfl) ?_
    refine va_get (ci := 0) (v := .ref a2) (C := RX0) (T := TX0) (N := 8) hx hb hts hinX0 hown hK hP 0 rfl rfl 1 (by decide) (hts (.fieldLink RX0 13 "AlarmBench" "dueAt" "[I") (by decide +kernel)) (fun _ h9 => h9) rfl dX0_next_15 ?_
    refine lv_iload_n hx hb dX0_next_18 rfl (lv_at hl 0 rfl) ?_
    refine kz_iald hx hb hK hP 2 1 rfl rfl hk (by decide) dX0_next_19 ?_
    exact W.iret (v := Du j0) hx hb hr (fun t9 ht9 hW9 => ⟨_, rfl, by rw [hj0], ht9⟩) (fun q h => by cases h) dX0_next_20
  · have hn0 := oI_n c_7 (fun j hj => Nat.lt_trans (ab_fst_lt hj).1 (by decide))
    refine lv_iconst (v := -1) hx hb dX0_next_10 (by decide) ?_
    refine lv_goto (tgt := 20) hx hb dX0_next_11 (by decide) ?_
    exact W.iret (v := (-1)) hx hb hr (fun t9 ht9 hW9 => ⟨_, rfl, by rw [hn0], ht9⟩) (fun q h => by cases h) dX0_next_20
