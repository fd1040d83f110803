set_option maxHeartbeats 4000000 in
set_option maxRecDepth 100000 in
/-- canBeAhead(x) -/
theorem c_canBeAhead (l : Launch) (x : Int32) : Met l yX0_canBeAhead wsX0_canBeAhead ({ frames := 0, cells := 0, slots := 0, locals := 0 } : Room) (va_Pc [.int x] (fun _ => True)) (vp_Si (fun r => kz_b (ab_ok x) r)) 0 0 (fun _ => False) := by
  refine Met.ofW (cc := cX0_canBeAhead) (maxL := 1) (ret := some .boolean) (by decide) rfl ?_
  intro p e s m args below meth c s₁ B hml hv
  obtain ⟨rfl, -⟩ := hv
  have hx := B.exec
  have hb := B.bytes
  have hr := B.returns
  have hts := atoms_spec (ws := wsX0_canBeAhead) B.pre
  have hown : s.vm.findClass RX0 = some m.cls := findClass_of_methodNamed B.named
  have hlocks := B.notSynchronized
  refine kz_enter [.int x] (Nat.le_of_ble_eq_true rfl) (fun ls hl => ?_)
  have hl : lv_has ls 1 [(0, .int x)] := hl
  refine lv_iload_n hx hb dX0_canBeAhead_0 rfl (lv_at hl 0 rfl) ?_
  refine lv_if_lt (tgt := 14) hx hb dX0_canBeAhead_1 (by decide) (fun c_1 => ?_) (fun c_1 => ?_)
  · refine lv_iconst (v := 0) hx hb dX0_canBeAhead_14 (by decide) ?_
    exact W.zret (ty := .boolean) (v := 0) hx hb hr rfl (fun t9 ht9 hW9 => ⟨_, rfl, Or.inr ⟨rfl, fun h9 => h9.1 c_1⟩, ht9⟩) (fun q h => by cases h) dX0_canBeAhead_15
  · refine lv_iload_n hx hb dX0_canBeAhead_4 rfl (lv_at hl 0 rfl) ?_
    refine lv_ldc (v := 1000000000) hx hb hown (hts (.constant RX0 83 1000000000) (by decide +kernel)) dX0_canBeAhead_5 ?_
    refine lv_icmp_gt (tgt := 14) hx hb dX0_canBeAhead_7 (by decide) (fun c_7 => ?_) (fun c_7 => ?_)
    · refine lv_iconst (v := 0) hx hb dX0_canBeAhead_14 (by decide) ?_
      exact W.zret (ty := .boolean) (v := 0) hx hb hr rfl (fun t9 ht9 hW9 => ⟨_, rfl, Or.inr ⟨rfl, fun h9 => h9.2 c_7⟩, ht9⟩) (fun q h => by cases h) dX0_canBeAhead_15
    · refine lv_iconst (v := 1) hx hb dX0_canBeAhead_10 (by decide) ?_
      refine lv_goto (tgt := 15) hx hb dX0_canBeAhead_11 (by decide) ?_
      exact W.zret (ty := .boolean) (v := 1) hx hb hr rfl (fun t9 ht9 hW9 => ⟨_, rfl, Or.inl ⟨rfl, c_1, c_7⟩, ht9⟩) (fun q h => by cases h) dX0_canBeAhead_15
set_option maxHeartbeats 4000000 in
set_option maxRecDepth 100000 in
/-- exists(x) -/
theorem c_exists (l : Launch) (D : va_G) (h0 a1 a2 a3 a4 : Nat) (cZ cI : ClassId) (S Du T Rk : Nat → Int32) (now lr rt rd : Int32) (x : Int32) : Met l yX0_exists wsX0_exists ({ frames := 0, cells := 0, slots := 0, locals := 0 } : Room) (va_Pc [.ref h0, .int x] (fun U => va_P D vwCl (abW h0 a1 a2 a3 a4 cZ cI S Du T Rk now lr rt rd) U.heap ∧ va_K D vwCl (abT cZ cI) U)) (vp_Si (fun r => kz_b (ab_ex S x) r)) 0 0 (fun _ => False) := by
  refine Met.ofW (cc := cX0_exists) (maxL := 2) (ret := some .boolean) (by decide) rfl ?_
  intro p e s m args below meth c s₁ B hml hv
  obtain ⟨rfl, hP, hK⟩ := hv
  have hx := B.exec
  have hb := B.bytes
  have hr := B.returns
  have hts := atoms_spec (ws := wsX0_exists) B.pre
  have hown : s.vm.findClass RX0 = some m.cls := findClass_of_methodNamed B.named
  have hlocks := B.notSynchronized
  have hinX0 : ∀ w ∈ wsX00, w ∈ wsX0_exists := by decide +kernel
  refine kz_enter [.ref h0, .int x] (Nat.le_of_ble_eq_true rfl) (fun ls hl => ?_)
  have hl : lv_has ls 2 [(0, .ref h0), (1, .int x)] := hl
  refine lv_iload_n hx hb dX0_exists_0 rfl (lv_at hl 1 rfl) ?_
  refine lv_if_lt (tgt := 24) hx hb dX0_exists_1 (by decide) (fun c_1 => ?_) (fun c_1 => ?_)
  · refine lv_iconst (v := 0) hx hb dX0_exists_24 (by decide) ?_
    exact W.zret (ty := .boolean) (v := 0) hx hb hr rfl (fun t9 ht9 hW9 => ⟨_, rfl, Or.inr ⟨rfl, fun ⟨j, hj, e9, _⟩ => nI_pos (n := j) (by omega) (e9 ▸ c_1)⟩, ht9⟩) (fun q h => by cases h) dX0_exists_25
  · refine lv_iload_n hx hb dX0_exists_4 rfl (lv_at hl 1 rfl) ?_
    refine lv_sipush (v := 512) hx hb dX0_exists_5 (by decide) ?_
    refine lv_icmp_ge (tgt := 24) hx hb dX0_exists_8 (by decide) (fun c_8 => ?_) (fun c_8 => ?_)
    · refine lv_iconst (v := 0) hx hb dX0_exists_24 (by decide) ?_
      exact W.zret (ty := .boolean) (v := 0) hx hb hr rfl (fun t9 ht9 hW9 => ⟨_, rfl, Or.inr ⟨rfl, fun ⟨j, hj, e9, _⟩ => nI_ge (a := j) (b := 512) hj (by decide) (e9 ▸ c_8)⟩, ht9⟩) (fun q h => by cases h) dX0_exists_25
    · obtain ⟨k, hk, rfl⟩ : ∃ k : Nat, k < 512 ∧ x = nI k := by
        rcases pk_ix x (n := 512) (by decide) with h9 | h9 | h9
        · exact absurd h9 c_1
        · exact absurd h9 c_8
        · exact h9
      refine lv_aload_n hx hb dX0_exists_11 rfl (lv_at hl 0 rfl) ?_
      refine va_get (ci := 0) (v := .ref a1) (C := RX0) (T := TX0) (N := 8) hx hb hts hinX0 hown hK hP 0 rfl rfl 0 (by decide) (hts (.fieldLink RX0 9 "AlarmBench" "isSet" "[Z") (by decide +kernel)) (fun _ h9 => h9) rfl dX0_exists_12 ?_
      refine lv_iload_n hx hb dX0_exists_15 rfl (lv_at hl 1 rfl) ?_
      refine kz_zald hx hb hK hP 1 0 rfl rfl hk (by decide) dX0_exists_16 ?_
      refine lv_if_eq (tgt := 24) hx hb dX0_exists_17 (by decide) (fun c_17 => ?_) (fun c_17 => ?_)
      · refine lv_iconst (v := 0) hx hb dX0_exists_24 (by decide) ?_
        exact W.zret (ty := .boolean) (v := 0) hx hb hr rfl (fun t9 ht9 hW9 => ⟨_, rfl, Or.inr ⟨rfl, fun ⟨j, hj, e9, h9⟩ => h9 (by rw [← (nI_eq (a := k) (b := j) (by omega) (by omega)).mp e9]; exact c_17)⟩, ht9⟩) (fun q h => by cases h) dX0_exists_25
      · refine lv_iconst (v := 1) hx hb dX0_exists_20 (by decide) ?_
        refine lv_goto (tgt := 25) hx hb dX0_exists_21 (by decide) ?_
        exact W.zret (ty := .boolean) (v := 1) hx hb hr rfl (fun t9 ht9 hW9 => ⟨_, rfl, Or.inl ⟨rfl, k, hk, rfl, c_17⟩, ht9⟩) (fun q h => by cases h) dX0_exists_25
set_option maxHeartbeats 4000000 in
set_option maxRecDepth 100000 in
/-- isReady(k) -/
theorem c_isReady (l : Launch) (D : va_G) (h0 a1 a2 a3 a4 : Nat) (cZ cI : ClassId) (S Du T Rk : Nat → Int32) (now lr rt rd : Int32) (k : Nat) (hk : k < 512) : Met l yX0_isReady wsX0_isReady ({ frames := 0, cells := 0, slots := 0, locals := 0 } : Room) (va_Pc [.ref h0, .int (nI k)] (fun U => va_P D vwCl (abW h0 a1 a2 a3 a4 cZ cI S Du T Rk now lr rt rd) U.heap ∧ va_K D vwCl (abT cZ cI) U)) (vp_Si (fun r => kz_b (Du k ≤ now) r)) 0 0 (fun _ => False) := by
  refine Met.ofW (cc := cX0_isReady) (maxL := 2) (ret := some .boolean) (by decide) rfl ?_
  intro p e s m args below meth c s₁ B hml hv
  obtain ⟨rfl, hP, hK⟩ := hv
  have hx := B.exec
  have hb := B.bytes
  have hr := B.returns
  have hts := atoms_spec (ws := wsX0_isReady) B.pre
  have hown : s.vm.findClass RX0 = some m.cls := findClass_of_methodNamed B.named
  have hlocks := B.notSynchronized
  have hinX0 : ∀ w ∈ wsX00, w ∈ wsX0_isReady := by decide +kernel
  refine kz_enter [.ref h0, .int (nI k)] (Nat.le_of_ble_eq_true rfl) (fun ls hl => ?_)
  have hl : lv_has ls 2 [(0, .ref h0), (1, .int (nI k))] := hl
  refine lv_aload_n hx hb dX0_isReady_0 rfl (lv_at hl 0 rfl) ?_
  refine va_get (ci := 0) (v := .ref a2) (C := RX0) (T := TX0) (N := 8) hx hb hts hinX0 hown hK hP 0 rfl rfl 1 (by decide) (hts (.fieldLink RX0 13 "AlarmBench" "dueAt" "[I") (by decide +kernel)) (fun _ h9 => h9) rfl dX0_isReady_1 ?_
  refine lv_iload_n hx hb dX0_isReady_4 rfl (lv_at hl 1 rfl) ?_
  refine kz_iald hx hb hK hP 2 1 rfl rfl hk (by decide) dX0_isReady_5 ?_
  refine lv_aload_n hx hb dX0_isReady_6 rfl (lv_at hl 0 rfl) ?_
  refine va_get (ci := 0) (v := .int now) (C := RX0) (T := TX0) (N := 8) hx hb hts hinX0 hown hK hP 0 rfl rfl 4 (by decide) (hts (.fieldLink RX0 23 "AlarmBench" "now" "I") (by decide +kernel)) (fun _ h9 => h9) rfl dX0_isReady_7 ?_
  refine lv_icmp_gt (tgt := 17) hx hb dX0_isReady_10 (by decide) (fun c_10 => ?_) (fun c_10 => ?_)
  · refine lv_iconst (v := 0) hx hb dX0_isReady_17 (by decide) ?_
    exact W.zret (ty := .boolean) (v := 0) hx hb hr rfl (fun t9 ht9 hW9 => ⟨_, rfl, Or.inr ⟨rfl, Int32.not_le.mpr c_10⟩, ht9⟩) (fun q h => by cases h) dX0_isReady_18
  · refine lv_iconst (v := 1) hx hb dX0_isReady_13 (by decide) ?_
    refine lv_goto (tgt := 18) hx hb dX0_isReady_14 (by decide) ?_
    exact W.zret (ty := .boolean) (v := 1) hx hb hr rfl (fun t9 ht9 hW9 => ⟨_, rfl, Or.inl ⟨rfl, Int32.not_lt.mp c_10⟩, ht9⟩) (fun q h => by cases h) dX0_isReady_18
set_option maxHeartbeats 4000000 in
set_option maxRecDepth 100000 in
/-- isBehindLastTime(x) -/
theorem c_isBehindLastTime (l : Launch) (D : va_G) (h0 a1 a2 a3 a4 : Nat) (cZ cI : ClassId) (S Du T Rk : Nat → Int32) (now lr rt rd : Int32) (x : Int32) : Met l yX0_isBehindLastTime wsX0_isBehindLastTime ({ frames := 0, cells := 0, slots := 0, locals := 0 } : Room) (va_Pc [.ref h0, .int x] (fun U => va_P D vwCl (abW h0 a1 a2 a3 a4 cZ cI S Du T Rk now lr rt rd) U.heap ∧ va_K D vwCl (abT cZ cI) U)) (vp_Si (fun r => kz_b (1000000000 - now < x) r)) 0 0 (fun _ => False) := by
  refine Met.ofW (cc := cX0_isBehindLastTime) (maxL := 2) (ret := some .boolean) (by decide) rfl ?_
  intro p e s m args below meth c s₁ B hml hv
  obtain ⟨rfl, hP, hK⟩ := hv
  have hx := B.exec
  have hb := B.bytes
  have hr := B.returns
  have hts := atoms_spec (ws := wsX0_isBehindLastTime) B.pre
  have hown : s.vm.findClass RX0 = some m.cls := findClass_of_methodNamed B.named
  have hlocks := B.notSynchronized
  have hinX0 : ∀ w ∈ wsX00, w ∈ wsX0_isBehindLastTime := by decide +kernel
  refine kz_enter [.ref h0, .int x] (Nat.le_of_ble_eq_true rfl) (fun ls hl => ?_)
  have hl : lv_has ls 2 [(0, .ref h0), (1, .int x)] := hl
  refine lv_iload_n hx hb dX0_isBehindLastTime_0 rfl (lv_at hl 1 rfl) ?_
  refine lv_ldc (v := 1000000000) hx hb hown (hts (.constant RX0 83 1000000000) (by decide +kernel)) dX0_isBehindLastTime_1 ?_
  refine lv_aload_n hx hb dX0_isBehindLastTime_3 rfl (lv_at hl 0 rfl) ?_
  refine va_get (ci := 0) (v := .int now) (C := RX0) (T := TX0) (N := 8) hx hb hts hinX0 hown hK hP 0 rfl rfl 4 (by decide) (hts (.fieldLink RX0 23 "AlarmBench" "now" "I") (by decide +kernel)) (fun _ h9 => h9) rfl dX0_isBehindLastTime_4 ?_
  refine lv_isub hx hb dX0_isBehindLastTime_7 ?_
  refine lv_icmp_le (tgt := 15) hx hb dX0_isBehindLastTime_8 (by decide) (fun c_8 => ?_) (fun c_8 => ?_)
  · refine lv_iconst (v := 0) hx hb dX0_isBehindLastTime_15 (by decide) ?_
    exact W.zret (ty := .boolean) (v := 0) hx hb hr rfl (fun t9 ht9 hW9 => ⟨_, rfl, Or.inr ⟨rfl, Int32.not_lt.mpr c_8⟩, ht9⟩) (fun q h => by cases h) dX0_isBehindLastTime_16
  · refine lv_iconst (v := 1) hx hb dX0_isBehindLastTime_11 (by decide) ?_
    refine lv_goto (tgt := 16) hx hb dX0_isBehindLastTime_12 (by decide) ?_
    exact W.zret (ty := .boolean) (v := 1) hx hb hr rfl (fun t9 ht9 hW9 => ⟨_, rfl, Or.inl ⟨rfl, Int32.not_le.mp c_8⟩, ht9⟩) (fun q h => by cases h) dX0_isBehindLastTime_16
set_option maxHeartbeats 4000000 in
set_option maxRecDepth 100000 in
/-- isBefore(i, j) -/
theorem c_isBefore (l : Launch) (D : va_G) (h0 a1 a2 a3 a4 : Nat) (cZ cI : ClassId) (S Du T Rk : Nat → Int32) (now lr rt rd : Int32) (i j : Nat) (hi : i < 512) (hj : j < 512) : Met l yX0_isBefore wsX0_isBefore ({ frames := 0, cells := 0, slots := 0, locals := 0 } : Room) (va_Pc [.ref h0, .int (nI i), .int (nI j)] (fun U => va_P D vwCl (abW h0 a1 a2 a3 a4 cZ cI S Du T Rk now lr rt rd) U.heap ∧ va_K D vwCl (abT cZ cI) U)) (vp_Si (fun r => kz_b (ab_bef Du Rk i j = true) r)) 0 0 (fun _ => False) := by
  refine Met.ofW (cc := cX0_isBefore) (maxL := 3) (ret := some .boolean) (by decide) rfl ?_
  intro p e s m args below meth c s₁ B hml hv
  obtain ⟨rfl, hP, hK⟩ := hv
  have hx := B.exec
  have hb := B.bytes
  have hr := B.returns
  have hts := atoms_spec (ws := wsX0_isBefore) B.pre
  have hown : s.vm.findClass RX0 = some m.cls := findClass_of_methodNamed B.named
  have hlocks := B.notSynchronized
  have hinX0 : ∀ w ∈ wsX00, w ∈ wsX0_isBefore := by decide +kernel
  refine kz_enter [.ref h0, .int (nI i), .int (nI j)] (Nat.le_of_ble_eq_true rfl) (fun ls hl => ?_)
  have hl : lv_has ls 3 [(0, .ref h0), (1, .int (nI i)), (2, .int (nI j))] := hl
  refine lv_aload_n hx hb dX0_isBefore_0 rfl (lv_at hl 0 rfl) ?_
  refine va_get (ci := 0) (v := .ref a2) (C := RX0) (T := TX0) (N := 8) hx hb hts hinX0 hown hK hP 0 rfl rfl 1 (by decide) (hts (.fieldLink RX0 13 "AlarmBench" "dueAt" "[I") (by decide +kernel)) (fun _ h9 => h9) rfl dX0_isBefore_1 ?_
  refine lv_iload_n hx hb dX0_isBefore_4 rfl (lv_at hl 1 rfl) ?_
  refine kz_iald hx hb hK hP 2 1 rfl rfl hi (by decide) dX0_isBefore_5 ?_
  refine lv_aload_n hx hb dX0_isBefore_6 rfl (lv_at hl 0 rfl) ?_
  refine va_get (ci := 0) (v := .ref a2) (C := RX0) (T := TX0) (N := 8) hx hb hts hinX0 hown hK hP 0 rfl rfl 1 (by decide) (hts (.fieldLink RX0 13 "AlarmBench" "dueAt" "[I") (by decide +kernel)) (fun _ h9 => h9) rfl dX0_isBefore_7 ?_
  refine lv_iload_n hx hb dX0_isBefore_10 rfl (lv_at hl 2 rfl) ?_
  refine kz_iald hx hb hK hP 2 1 rfl rfl hj (by decide) dX0_isBefore_11 ?_
  refine lv_icmp_eq (tgt := 36) hx hb dX0_isBefore_12 (by decide) (fun c_12 => ?_) (fun c_12 => ?_)
  · refine lv_aload_n hx hb dX0_isBefore_36 rfl (lv_at hl 0 rfl) ?_
    refine va_get (ci := 0) (v := .ref a4) (C := RX0) (T := TX0) (N := 8) hx hb hts hinX0 hown hK hP 0 rfl rfl 3 (by decide) (hts (.fieldLink RX0 20 "AlarmBench" "rank" "[I") (by decide +kernel)) (fun _ h9 => h9) rfl dX0_isBefore_37 ?_
    refine lv_iload_n hx hb dX0_isBefore_40 rfl (lv_at hl 1 rfl) ?_
    refine kz_iald hx hb hK hP 4 1 rfl rfl hi (by decide) dX0_isBefore_41 ?_
    refine lv_aload_n hx hb dX0_isBefore_42 rfl (lv_at hl 0 rfl) ?_
    refine va_get (ci := 0) (v := .ref a4) (C := RX0) (T := TX0) (N := 8) hx hb hts hinX0 hown hK hP 0 rfl rfl 3 (by decide) (hts (.fieldLink RX0 20 "AlarmBench" "rank" "[I") (by decide +kernel)) (fun _ h9 => h9) rfl dX0_isBefore_43 ?_
    refine lv_iload_n hx hb dX0_isBefore_46 rfl (lv_at hl 2 rfl) ?_
    refine kz_iald hx hb hK hP 4 1 rfl rfl hj (by decide) dX0_isBefore_47 ?_
    refine lv_icmp_ge (tgt := 55) hx hb dX0_isBefore_48 (by decide) (fun c_48 => ?_) (fun c_48 => ?_)
    · refine lv_iconst (v := 0) hx hb dX0_isBefore_55 (by decide) ?_
      exact W.zret (ty := .boolean) (v := 0) hx hb hr rfl (fun t9 ht9 hW9 => ⟨_, rfl, Or.inr ⟨rfl, fun h9 => by unfold ab_bef at h9; rw [if_pos c_12] at h9; exact Int32.not_lt.mpr c_48 (of_decide_eq_true h9)⟩, ht9⟩) (fun q h => by cases h) dX0_isBefore_56
    · refine lv_iconst (v := 1) hx hb dX0_isBefore_51 (by decide) ?_
      refine lv_goto (tgt := 56) hx hb dX0_isBefore_52 (by decide) ?_
      exact W.zret (ty := .boolean) (v := 1) hx hb hr rfl (fun t9 ht9 hW9 => ⟨_, rfl, Or.inl ⟨rfl, by unfold ab_bef; rw [if_pos c_12]; exact decide_eq_true (Int32.not_le.mp c_48)⟩, ht9⟩) (fun q h => by cases h) dX0_isBefore_56
  · refine lv_aload_n hx hb dX0_isBefore_15 rfl (lv_at hl 0 rfl) ?_
    refine va_get (ci := 0) (v := .ref a2) (C := RX0) (T := TX0) (N := 8) hx hb hts hinX0 hown hK hP 0 rfl rfl 1 (by decide) (hts (.fieldLink RX0 13 "AlarmBench" "dueAt" "[I") (by decide +kernel)) (fun _ h9 => h9) rfl dX0_isBefore_16 ?_
    refine lv_iload_n hx hb dX0_isBefore_19 rfl (lv_at hl 1 rfl) ?_
    refine kz_iald hx hb hK hP 2 1 rfl rfl hi (by decide) dX0_isBefore_20 ?_
    refine lv_aload_n hx hb dX0_isBefore_21 rfl (lv_at hl 0 rfl) ?_
    refine va_get (ci := 0) (v := .ref a2) (C := RX0) (T := TX0) (N := 8) hx hb hts hinX0 hown hK hP 0 rfl rfl 1 (by decide) (hts (.fieldLink RX0 13 "AlarmBench" "dueAt" "[I") (by decide +kernel)) (fun _ h9 => h9) rfl dX0_isBefore_22 ?_
    refine lv_iload_n hx hb dX0_isBefore_25 rfl (lv_at hl 2 rfl) ?_
    refine kz_iald hx hb hK hP 2 1 rfl rfl hj (by decide) dX0_isBefore_26 ?_
    refine lv_icmp_ge (tgt := 34) hx hb dX0_isBefore_27 (by decide) (fun c_27 => ?_) (fun c_27 => ?_)
    · refine lv_iconst (v := 0) hx hb dX0_isBefore_34 (by decide) ?_
      exact W.zret (ty := .boolean) (v := 0) hx hb hr rfl (fun t9 ht9 hW9 => ⟨_, rfl, Or.inr ⟨rfl, fun h9 => by unfold ab_bef at h9; rw [if_neg c_12] at h9; exact Int32.not_lt.mpr c_27 (of_decide_eq_true h9)⟩, ht9⟩) (fun q h => by cases h) dX0_isBefore_35
    · refine lv_iconst (v := 1) hx hb dX0_isBefore_30 (by decide) ?_
      refine lv_goto (tgt := 35) hx hb dX0_isBefore_31 (by decide) ?_
      exact W.zret (ty := .boolean) (v := 1) hx hb hr rfl (fun t9 ht9 hW9 => ⟨_, rfl, Or.inl ⟨rfl, by unfold ab_bef; rw [if_neg c_12]; exact decide_eq_true (Int32.not_le.mp c_27)⟩, ht9⟩) (fun q h => by cases h) dX0_isBefore_35
set_option maxHeartbeats 4000000 in
set_option maxRecDepth 100000 in
/-- told() -/
theorem c_told (l : Launch) (D : va_G) (h0 a1 a2 a3 a4 : Nat) (cZ cI : ClassId) (S Du T Rk : Nat → Int32) (now lr rt rd : Int32)  : Met l yX0_told wsX0_told ({ frames := 0, cells := 0, slots := 0, locals := 0 } : Room) (va_Pc [.ref h0] (fun U => va_P D vwCl (abW h0 a1 a2 a3 a4 cZ cI S Du T Rk now lr rt rd) U.heap ∧ va_K D vwCl (abT cZ cI) U)) (vp_Si (fun r => r = rt)) 0 0 (fun _ => False) := by
  refine Met.ofW (cc := cX0_told) (maxL := 1) (ret := some .int) (by decide) rfl ?_
  intro p e s m args below meth c s₁ B hml hv
  obtain ⟨rfl, hP, hK⟩ := hv
  have hx := B.exec
  have hb := B.bytes
  have hr := B.returns
  have hts := atoms_spec (ws := wsX0_told) B.pre
  have hown : s.vm.findClass RX0 = some m.cls := findClass_of_methodNamed B.named
  have hlocks := B.notSynchronized
  have hinX0 : ∀ w ∈ wsX00, w ∈ wsX0_told := by decide +kernel
  refine kz_enter [.ref h0] (Nat.le_of_ble_eq_true rfl) (fun ls hl => ?_)
  have hl : lv_has ls 1 [(0, .ref h0)] := hl
  refine lv_aload_n hx hb dX0_told_0 rfl (lv_at hl 0 rfl) ?_
  refine va_get (ci := 0) (v := .int rt) (C := RX0) (T := TX0) (N := 8) hx hb hts hinX0 hown hK hP 0 rfl rfl 6 (by decide) (hts (.fieldLink RX0 30 "AlarmBench" "rungTold" "I") (by decide +kernel)) (fun _ h9 => h9) rfl dX0_told_1 ?_
  exact W.iret (v := rt) hx hb hr (fun t9 ht9 hW9 => ⟨_, rfl, rfl, ht9⟩) (fun q h => by cases h) dX0_told_4
set_option maxHeartbeats 4000000 in
set_option maxRecDepth 100000 in
/-- wasDue() -/
theorem c_wasDue (l : Launch) (D : va_G) (h0 a1 a2 a3 a4 : Nat) (cZ cI : ClassId) (S Du T Rk : Nat → Int32) (now lr rt rd : Int32)  : Met l yX0_wasDue wsX0_wasDue ({ frames := 0, cells := 0, slots := 0, locals := 0 } : Room) (va_Pc [.ref h0] (fun U => va_P D vwCl (abW h0 a1 a2 a3 a4 cZ cI S Du T Rk now lr rt rd) U.heap ∧ va_K D vwCl (abT cZ cI) U)) (vp_Si (fun r => r = rd)) 0 0 (fun _ => False) := by
  refine Met.ofW (cc := cX0_wasDue) (maxL := 1) (ret := some .int) (by decide) rfl ?_
  intro p e s m args below meth c s₁ B hml hv
  obtain ⟨rfl, hP, hK⟩ := hv
  have hx := B.exec
  have hb := B.bytes
  have hr := B.returns
  have hts := atoms_spec (ws := wsX0_wasDue) B.pre
  have hown : s.vm.findClass RX0 = some m.cls := findClass_of_methodNamed B.named
  have hlocks := B.notSynchronized
  have hinX0 : ∀ w ∈ wsX00, w ∈ wsX0_wasDue := by decide +kernel
  refine kz_enter [.ref h0] (Nat.le_of_ble_eq_true rfl) (fun ls hl => ?_)
  have hl : lv_has ls 1 [(0, .ref h0)] := hl
  refine lv_aload_n hx hb dX0_wasDue_0 rfl (lv_at hl 0 rfl) ?_
  refine va_get (ci := 0) (v := .int rd) (C := RX0) (T := TX0) (N := 8) hx hb hts hinX0 hown hK hP 0 rfl rfl 7 (by decide) (hts (.fieldLink RX0 33 "AlarmBench" "rungDue" "I") (by decide +kernel)) (fun _ h9 => h9) rfl dX0_wasDue_1 ?_
  exact W.iret (v := rd) hx hb hr (fun t9 ht9 hW9 => ⟨_, rfl, rfl, ht9⟩) (fun q h => by cases h) dX0_wasDue_4
set_option maxHeartbeats 4000000 in
set_option maxRecDepth 100000 in
/-- time() -/
theorem c_time (l : Launch) (D : va_G) (h0 a1 a2 a3 a4 : Nat) (cZ cI : ClassId) (S Du T Rk : Nat → Int32) (now lr rt rd : Int32)  : Met l yX0_time wsX0_time ({ frames := 0, cells := 0, slots := 0, locals := 0 } : Room) (va_Pc [.ref h0] (fun U => va_P D vwCl (abW h0 a1 a2 a3 a4 cZ cI S Du T Rk now lr rt rd) U.heap ∧ va_K D vwCl (abT cZ cI) U)) (vp_Si (fun r => r = now)) 0 0 (fun _ => False) := by
  refine Met.ofW (cc := cX0_time) (maxL := 1) (ret := some .int) (by decide) rfl ?_
  intro p e s m args below meth c s₁ B hml hv
  obtain ⟨rfl, hP, hK⟩ := hv
  have hx := B.exec
  have hb := B.bytes
  have hr := B.returns
  have hts := atoms_spec (ws := wsX0_time) B.pre
  have hown : s.vm.findClass RX0 = some m.cls := findClass_of_methodNamed B.named
  have hlocks := B.notSynchronized
  have hinX0 : ∀ w ∈ wsX00, w ∈ wsX0_time := by decide +kernel
  refine kz_enter [.ref h0] (Nat.le_of_ble_eq_true rfl) (fun ls hl => ?_)
  have hl : lv_has ls 1 [(0, .ref h0)] := hl
  refine lv_aload_n hx hb dX0_time_0 rfl (lv_at hl 0 rfl) ?_
  refine va_get (ci := 0) (v := .int now) (C := RX0) (T := TX0) (N := 8) hx hb hts hinX0 hown hK hP 0 rfl rfl 4 (by decide) (hts (.fieldLink RX0 23 "AlarmBench" "now" "I") (by decide +kernel)) (fun _ h9 => h9) rfl dX0_time_1 ?_
  exact W.iret (v := now) hx hb hr (fun t9 ht9 hW9 => ⟨_, rfl, rfl, ht9⟩) (fun q h => by cases h) dX0_time_4
set_option maxHeartbeats 4000000 in
set_option maxRecDepth 100000 in
/-- putAhead(k, x) -/
theorem c_putAhead (l : Launch) (D : va_G) (h0 a1 a2 a3 a4 : Nat) (cZ cI : ClassId) (S Du T Rk : Nat → Int32) (now lr rt rd : Int32) (sz : Nat) (k : Nat) (hk : k < 512) (x : Int32) : Met l yX0_putAhead wsX0_putAhead ({ frames := 0, cells := 0, slots := 0, locals := 0 } : Room) (kz_Pc D vwCl (abT cZ cI) (abW h0 a1 a2 a3 a4 cZ cI S Du T Rk now lr rt rd) sz [.ref h0, .int (nI k), .int x]) (va_Qv (fun u : ABs => u = (S, upd Du k (now + x), T, upd Rk k (lr + 1), now, lr + 1, rt, rd)) (kz_B D vwCl (abT cZ cI) (abU h0 a1 a2 a3 a4 cZ cI) (va_A (abW h0 a1 a2 a3 a4 cZ cI S Du T Rk now lr rt rd) sz)) (va_A (abW h0 a1 a2 a3 a4 cZ cI S Du T Rk now lr rt rd) sz)) 0 0 (va_A (abW h0 a1 a2 a3 a4 cZ cI S Du T Rk now lr rt rd) sz) := by
  refine Met.ofW (cc := cX0_putAhead) (maxL := 3) (ret := none) (by decide) rfl ?_
  intro p e s m args below meth c s₁ B hml hv
  obtain ⟨rfl, hsz, hP, hK, hD0⟩ := hv
  have hx := B.exec
  have hb := B.bytes
  have hr := B.returns
  have hts := atoms_spec (ws := wsX0_putAhead) B.pre
  have hown : s.vm.findClass RX0 = some m.cls := findClass_of_methodNamed B.named
  have hlocks := B.notSynchronized
  have hinX0 : ∀ w ∈ wsX00, w ∈ wsX0_putAhead := by decide +kernel
  subst hsz
  have hD := hD0.self (sz := s.heap.size)
  generalize hAe : va_A (abW h0 a1 a2 a3 a4 cZ cI S Du T Rk now lr rt rd) s.heap.size = A at hD ⊢
  have hA : ∀ q : Nat, s.heap.size ≤ q → A q := fun q h => by rw [← hAe]; exact Or.inr h
  have hS : va_S A s.heap s.heap [] := va_S.rf
  refine kz_enter [.ref h0, .int (nI k), .int x] (Nat.le_of_ble_eq_true rfl) (fun ls hl => ?_)
  have hl : lv_has ls 3 [(0, .ref h0), (1, .int (nI k)), (2, .int x)] := hl
  refine lv_aload_n hx hb dX0_putAhead_0 rfl (lv_at hl 0 rfl) ?_
  refine va_get (ci := 0) (v := .ref a2) (C := RX0) (T := TX0) (N := 8) hx hb hts hinX0 hown hK hP 0 rfl rfl 1 (by decide) (hts (.fieldLink RX0 13 "AlarmBench" "dueAt" "[I") (by decide +kernel)) (fun _ h9 => h9) rfl dX0_putAhead_1 ?_
  refine lv_iload_n hx hb dX0_putAhead_4 rfl (lv_at hl 1 rfl) ?_
  refine lv_aload_n hx hb dX0_putAhead_5 rfl (lv_at hl 0 rfl) ?_
  refine va_get (ci := 0) (v := .int now) (C := RX0) (T := TX0) (N := 8) hx hb hts hinX0 hown hK hP 0 rfl rfl 4 (by decide) (hts (.fieldLink RX0 23 "AlarmBench" "now" "I") (by decide +kernel)) (fun _ h9 => h9) rfl dX0_putAhead_6 ?_
  refine lv_iload_n hx hb dX0_putAhead_9 rfl (lv_at hl 2 rfl) ?_
  refine lv_iadd hx hb dX0_putAhead_10 ?_
  refine kz_iast hx hb hK hP hD hS 2 1 rfl rfl hk (by decide) dX0_putAhead_11 (fun H locs hP hD hS => ?_)
  have hP : va_P D vwCl (abW h0 a1 a2 a3 a4 cZ cI S (upd Du k (now + x)) T Rk now lr rt rd) H := hP
  have hD : va_D A (abW h0 a1 a2 a3 a4 cZ cI S (upd Du k (now + x)) T Rk now lr rt rd) := hD
  refine lv_aload_n hx hb dX0_putAhead_12 rfl (lv_at hl 0 rfl) ?_
  refine lv_dup hx hb dX0_putAhead_13 rfl ?_
  refine va_get (ci := 0) (v := .int lr) (C := RX0) (T := TX0) (N := 8) hx hb hts hinX0 hown hK hP 0 rfl rfl 5 (by decide) (hts (.fieldLink RX0 27 "AlarmBench" "lastRank" "I") (by decide +kernel)) (fun _ h9 => h9) rfl dX0_putAhead_14 ?_
  refine lv_iconst (v := 1) hx hb dX0_putAhead_17 (by decide) ?_
  refine lv_iadd hx hb dX0_putAhead_18 ?_
  refine va_put (ci := 0) (v := .int (lr + 1)) (ty := .int) (C := RX0) (T := TX0) (N := 8) hx hb hts hinX0 tyX0 tyX0_ok nmX0 hown hK hP hD hS 0 rfl rfl 5 (by decide) (hts (.fieldLink RX0 27 "AlarmBench" "lastRank" "I") (by decide +kernel)) (fun _ h9 => h9) rfl (by decide +kernel) rfl rfl (Nat.le_of_ble_eq_true rfl) dX0_putAhead_19 (fun H locs hP hD hS => ?_)
  have hP : va_P D vwCl (abW h0 a1 a2 a3 a4 cZ cI S (upd Du k (now + x)) T Rk now (lr + 1) rt rd) H := hP
  have hD : va_D A (abW h0 a1 a2 a3 a4 cZ cI S (upd Du k (now + x)) T Rk now (lr + 1) rt rd) := hD
  refine lv_aload_n hx hb dX0_putAhead_22 rfl (lv_at hl 0 rfl) ?_
  refine va_get (ci := 0) (v := .ref a4) (C := RX0) (T := TX0) (N := 8) hx hb hts hinX0 hown hK hP 0 rfl rfl 3 (by decide) (hts (.fieldLink RX0 20 "AlarmBench" "rank" "[I") (by decide +kernel)) (fun _ h9 => h9) rfl dX0_putAhead_23 ?_
  refine lv_iload_n hx hb dX0_putAhead_26 rfl (lv_at hl 1 rfl) ?_
  refine lv_aload_n hx hb dX0_putAhead_27 rfl (lv_at hl 0 rfl) ?_
  refine va_get (ci := 0) (v := .int (lr + 1)) (C := RX0) (T := TX0) (N := 8) hx hb hts hinX0 hown hK hP 0 rfl rfl 5 (by decide) (hts (.fieldLink RX0 27 "AlarmBench" "lastRank" "I") (by decide +kernel)) (fun _ h9 => h9) rfl dX0_putAhead_28 ?_
  refine kz_iast hx hb hK hP hD hS 4 1 rfl rfl hk (by decide) dX0_putAhead_31 (fun H locs hP hD hS => ?_)
  have hP : va_P D vwCl (abW h0 a1 a2 a3 a4 cZ cI S (upd Du k (now + x)) T (upd Rk k (lr + 1)) now (lr + 1) rt rd) H := hP
  have hD : va_D A (abW h0 a1 a2 a3 a4 cZ cI S (upd Du k (now + x)) T (upd Rk k (lr + 1)) now (lr + 1) rt rd) := hD
  exact W.vret hx hb hr (fun t9 ht9 hW9 => ⟨⟨(S, upd Du k (now + x), T, upd Rk k (lr + 1), now, lr + 1, rt, rd), rfl, rfl, by rw [ht9]; exact hP, va_K.moved hW9.alike hK, hD⟩, hS.F ht9⟩) hS.2.2 dX0_putAhead_32
