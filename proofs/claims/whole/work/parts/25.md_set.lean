set_option maxHeartbeats 4000000 in
set_option maxRecDepth 100000 in
/-- reference: set -/
theorem m_set (l : Launch) (D : va_G) (h1 b1 b2 b3 : Nat) (cJ : ClassId) (cd nw rk : Int32) (K E L : Nat → Int32) (td wd : Int32) (sz : Nat) (t w : Int32) : Met l yX1_set wsX1_set ({ frames := 1, cells := 0, slots := 0, locals := 23 } : Room) (kz_Pc D vwCl (mdT cJ) (mdW h1 b1 b2 b3 cJ cd nw rk K E L td wd) sz [.ref h1, .int t, .int w]) (va_Qi (fun (r : Int32) (u : MDs) => ∃ k : Nat, k ≤ 512 ∧ (∀ j, j < k → ¬ K j ≤ 0) ∧ (k < 512 → K k ≤ 0) ∧ ((¬ ab_ok t ∧ u = (1, nw, rk, K, E, L, td, wd)) ∨ (ab_ok t ∧ (k = 512 ∨ 1000000000 - nw < t) ∧ u = (2, nw, rk, K, E, L, td, wd)) ∨ (ab_ok t ∧ k < 512 ∧ ¬ 1000000000 - nw < t ∧ r = nI k ∧ u = (0, nw, rk + 1, upd K k (rk + 1), upd E k (nw + t), upd L k w, td, wd)))) (kz_B D vwCl (mdT cJ) (mdU h1 b1 b2 b3 cJ) (va_A (mdW h1 b1 b2 b3 cJ cd nw rk K E L td wd) sz)) (va_A (mdW h1 b1 b2 b3 cJ cd nw rk K E L td wd) sz)) 0 0 (va_A (mdW h1 b1 b2 b3 cJ cd nw rk K E L td wd) sz) := by
  refine Met.ofW (cc := cX1_set) (maxL := 4) (ret := some .int) (by decide) rfl ?_
  intro p e s m args below meth c s₁ B hml hv
  obtain ⟨rfl, hsz, hP, hK, hD0⟩ := hv
  have hx := B.exec
  have hb := B.bytes
  have hr := B.returns
  have hts := atoms_spec (ws := wsX1_set) B.pre
  have hown : s.vm.findClass RX1 = some m.cls := findClass_of_methodNamed B.named
  have hlocks := B.notSynchronized
  have hinX1 : ∀ w ∈ wsX10, w ∈ wsX1_set := by decide +kernel
  subst hsz
  have hD := hD0.self (sz := s.heap.size)
  generalize hAe : va_A (mdW h1 b1 b2 b3 cJ cd nw rk K E L td wd) s.heap.size = A at hD ⊢
  have hA : ∀ q : Nat, s.heap.size ≤ q → A q := fun q h => by rw [← hAe]; exact Or.inr h
  have hS : va_S A s.heap s.heap [] := va_S.rf
  refine kz_enter [.ref h1, .int t, .int w] (Nat.le_of_ble_eq_true rfl) (fun ls hl => ?_)
  have hl : lv_has ls 4 [(0, .ref h1), (1, .int t), (2, .int w)] := hl
  refine lv_iconst (v := 0) hx hb dX1_set_0 (by decide) ?_
  refine lv_istore_n (lv' := [(3, .int 0), (0, .ref h1), (1, .int t), (2, .int w)]) hx hb dX1_set_1 rfl hl (by decide) rfl (fun ls hl => ?_)
  refine kz_loop (G := fun ls : Array Slot => W p l e _ s m _ below meth c s.heap [] 0 0 _ (F0 m 2 ls [])) (I := fun k ls => (∀ j, j < k → ¬ K j ≤ 0) ∧ lv_has ls 4 [(3, .int (nI k)), (0, .ref h1), (1, .int t), (2, .int w)]) 512 ?_ ?_ 0 (Nat.zero_le _) ls ⟨fun j hj => absurd hj (Nat.not_lt_zero j), lv_sub hl [0, 1, 2, 3] rfl⟩
  · intro k ls hk ⟨hlo, hl⟩ ih
    refine lv_iload_n hx hb dX1_set_2 rfl (lv_at hl 0 rfl) ?_
    refine lv_sipush (v := 512) hx hb dX1_set_3 (by decide) ?_
    refine lv_icmp_ge (tgt := 24) hx hb dX1_set_6 (by decide) (fun c_6 => ?_) (fun c_6 => ?_)
    · exact absurd c_6 (nI_ge (a := k) (b := 512) hk (by decide))
    · refine lv_aload_n hx hb dX1_set_9 rfl (lv_at hl 1 rfl) ?_
      refine va_get (ci := 1) (v := .ref b1) (C := RX1) (T := TX1) (N := 8) hx hb hts hinX1 hown hK hP 0 rfl rfl 3 (by decide) (hts (.fieldLink RX1 7 "AlarmBenchModel" "rank" "[I") (by decide +kernel)) (fun _ h9 => h9) rfl dX1_set_10 ?_
      refine lv_iload_n hx hb dX1_set_13 rfl (lv_at hl 0 rfl) ?_
      refine kz_iald hx hb hK hP 1 0 rfl rfl hk (by decide) dX1_set_14 ?_
      refine lv_if_le (tgt := 24) hx hb dX1_set_15 (by decide) (fun c_15 => ?_) (fun c_15 => ?_)
      · refine lv_aload_n hx hb dX1_set_24 rfl (lv_at hl 1 rfl) ?_
        refine lv_iload_n hx hb dX1_set_25 rfl (lv_at hl 2 rfl) ?_
        refine lv_if_lt (tgt := 35) hx hb dX1_set_26 (by decide) (fun c_26 => ?_) (fun c_26 => ?_)
        · refine lv_iconst (v := 1) hx hb dX1_set_35 (by decide) ?_
          refine lv_goto (tgt := 62) hx hb dX1_set_36 (by decide) ?_
          refine va_put (ci := 1) (v := .int 1) (ty := .int) (C := RX1) (T := TX1) (N := 8) hx hb hts hinX1 tyX1 tyX1_ok nmX1 hown hK hP hD hS 0 rfl rfl 0 (by decide) (hts (.fieldLink RX1 23 "AlarmBenchModel" "code" "I") (by decide +kernel)) (fun _ h9 => h9) rfl (by decide +kernel) rfl rfl (Nat.le_of_ble_eq_true rfl) dX1_set_62 (fun H locs hP hD hS => ?_)
          have hP : va_P D vwCl (mdW h1 b1 b2 b3 cJ 1 nw rk K E L td wd) H := hP
          have hD : va_D A (mdW h1 b1 b2 b3 cJ 1 nw rk K E L td wd) := hD
          refine lv_aload_n hx hb dX1_set_65 rfl (lv_at hl 1 rfl) ?_
          refine va_get (ci := 1) (v := .int 1) (C := RX1) (T := TX1) (N := 8) hx hb hts hinX1 hown hK hP 0 rfl rfl 0 (by decide) (hts (.fieldLink RX1 23 "AlarmBenchModel" "code" "I") (by decide +kernel)) (fun _ h9 => h9) rfl dX1_set_66 ?_
          refine lv_if_le (tgt := 74) hx hb dX1_set_69 (by decide) (fun c_69 => ?_) (fun c_69 => ?_)
          · exact absurd c_69 (by decide)
          · refine lv_iconst (v := 0) hx hb dX1_set_72 (by decide) ?_
            exact W.iret (v := 0) hx hb hr (fun t9 ht9 hW9 => ⟨⟨_, (1, nw, rk, K, E, L, td, wd), rfl, ⟨k, Nat.le_of_lt hk, hlo, fun _ => c_15, Or.inl ⟨fun h9 => h9.1 c_26, rfl⟩⟩, by rw [ht9]; exact hP, va_K.moved hW9.alike hK, hD⟩, hS.F ht9⟩) hS.2.2 dX1_set_73
        · refine lv_iload_n hx hb dX1_set_29 rfl (lv_at hl 2 rfl) ?_
          refine lv_ldc (v := 1000000000) hx hb hown (hts (.constant RX1 32 1000000000) (by decide +kernel)) dX1_set_30 ?_
          refine lv_icmp_le (tgt := 39) hx hb dX1_set_32 (by decide) (fun c_32 => ?_) (fun c_32 => ?_)
          · refine lv_iload_n hx hb dX1_set_39 rfl (lv_at hl 0 rfl) ?_
            refine lv_sipush (v := 512) hx hb dX1_set_40 (by decide) ?_
            refine lv_icmp_eq (tgt := 57) hx hb dX1_set_43 (by decide) (fun c_43 => ?_) (fun c_43 => ?_)
            · exact absurd ((nI_eq (a := k) (b := 512) (by omega) (by decide)).mp c_43) (by omega)
            · refine lv_iload_n hx hb dX1_set_46 rfl (lv_at hl 2 rfl) ?_
              refine lv_ldc (v := 1000000000) hx hb hown (hts (.constant RX1 32 1000000000) (by decide +kernel)) dX1_set_47 ?_
              refine lv_aload_n hx hb dX1_set_49 rfl (lv_at hl 1 rfl) ?_
              refine va_get (ci := 1) (v := .int nw) (C := RX1) (T := TX1) (N := 8) hx hb hts hinX1 hown hK hP 0 rfl rfl 1 (by decide) (hts (.fieldLink RX1 29 "AlarmBenchModel" "now" "I") (by decide +kernel)) (fun _ h9 => h9) rfl dX1_set_50 ?_
              refine lv_isub hx hb dX1_set_53 ?_
              refine lv_icmp_le (tgt := 61) hx hb dX1_set_54 (by decide) (fun c_54 => ?_) (fun c_54 => ?_)
              · refine lv_iconst (v := 0) hx hb dX1_set_61 (by decide) ?_
                refine va_put (ci := 1) (v := .int 0) (ty := .int) (C := RX1) (T := TX1) (N := 8) hx hb hts hinX1 tyX1 tyX1_ok nmX1 hown hK hP hD hS 0 rfl rfl 0 (by decide) (hts (.fieldLink RX1 23 "AlarmBenchModel" "code" "I") (by decide +kernel)) (fun _ h9 => h9) rfl (by decide +kernel) rfl rfl (Nat.le_of_ble_eq_true rfl) dX1_set_62 (fun H locs hP hD hS => ?_)
                have hP : va_P D vwCl (mdW h1 b1 b2 b3 cJ 0 nw rk K E L td wd) H := hP
                have hD : va_D A (mdW h1 b1 b2 b3 cJ 0 nw rk K E L td wd) := hD
                refine lv_aload_n hx hb dX1_set_65 rfl (lv_at hl 1 rfl) ?_
                refine va_get (ci := 1) (v := .int 0) (C := RX1) (T := TX1) (N := 8) hx hb hts hinX1 hown hK hP 0 rfl rfl 0 (by decide) (hts (.fieldLink RX1 23 "AlarmBenchModel" "code" "I") (by decide +kernel)) (fun _ h9 => h9) rfl dX1_set_66 ?_
                refine lv_if_le (tgt := 74) hx hb dX1_set_69 (by decide) (fun c_69 => ?_) (fun c_69 => ?_)
                · refine lv_aload_n hx hb dX1_set_74 rfl (lv_at hl 1 rfl) ?_
                  refine lv_iload_n hx hb dX1_set_75 rfl (lv_at hl 0 rfl) ?_
                  refine lv_iload_n hx hb dX1_set_76 rfl (lv_at hl 2 rfl) ?_
                  refine lv_iload_n hx hb dX1_set_77 rfl (lv_at hl 3 rfl) ?_
                  refine kz_callv (wc := (mdW h1 b1 b2 b3 cJ 0 nw rk K E L td wd)) (wr := []) (As := [.int (nI k), .int t, .int w]) (rest := []) ⟨hx, hb, hml, hown, hts⟩ (m_start l D h1 b1 b2 b3 cJ 0 nw rk K E L td wd _ k hk t w) (cwV 3 hts gX1_set_X1_start rfl rfl rfl (by decide +kernel) ⟨Nat.le_of_ble_eq_true rfl, Nat.le_of_ble_eq_true rfl⟩) hP hD hS hA hK [0, 1, 2, 3] [] rfl rfl rfl rfl rfl (by decide) (va_recv hK hP (ci := 1) (q0 := 0) rfl rfl) rfl hl.1 rfl (Nat.le_of_ble_eq_true rfl) dX1_set_78 ⟨Nat.zero_le _, Nat.zero_le _⟩ (fun u H locs hu hP hD hS => ?_)
                  subst hu
                  have hP : va_P D vwCl (mdW h1 b1 b2 b3 cJ 0 nw (rk + 1) (upd K k (rk + 1)) (upd E k (nw + t)) (upd L k w) td wd) H := hP
                  have hD : va_D A (mdW h1 b1 b2 b3 cJ 0 nw (rk + 1) (upd K k (rk + 1)) (upd E k (nw + t)) (upd L k w) td wd) := hD
                  refine lv_iload_n hx hb dX1_set_81 rfl (lv_at hl 0 rfl) ?_
                  exact W.iret (v := nI k) hx hb hr (fun t9 ht9 hW9 => ⟨⟨_, (0, nw, rk + 1, upd K k (rk + 1), upd E k (nw + t), upd L k w, td, wd), rfl, ⟨k, Nat.le_of_lt hk, hlo, fun _ => c_15, Or.inr (Or.inr ⟨⟨c_26, Int32.not_lt.mpr c_32⟩, hk, Int32.not_lt.mpr c_54, rfl, rfl⟩)⟩, by rw [ht9]; exact hP, va_K.moved hW9.alike hK, hD⟩, hS.F ht9⟩) hS.2.2 dX1_set_82
                · exact absurd (by decide) c_69
              · refine lv_iconst (v := 2) hx hb dX1_set_57 (by decide) ?_
                refine lv_goto (tgt := 62) hx hb dX1_set_58 (by decide) ?_
                refine va_put (ci := 1) (v := .int 2) (ty := .int) (C := RX1) (T := TX1) (N := 8) hx hb hts hinX1 tyX1 tyX1_ok nmX1 hown hK hP hD hS 0 rfl rfl 0 (by decide) (hts (.fieldLink RX1 23 "AlarmBenchModel" "code" "I") (by decide +kernel)) (fun _ h9 => h9) rfl (by decide +kernel) rfl rfl (Nat.le_of_ble_eq_true rfl) dX1_set_62 (fun H locs hP hD hS => ?_)
                have hP : va_P D vwCl (mdW h1 b1 b2 b3 cJ 2 nw rk K E L td wd) H := hP
                have hD : va_D A (mdW h1 b1 b2 b3 cJ 2 nw rk K E L td wd) := hD
                refine lv_aload_n hx hb dX1_set_65 rfl (lv_at hl 1 rfl) ?_
                refine va_get (ci := 1) (v := .int 2) (C := RX1) (T := TX1) (N := 8) hx hb hts hinX1 hown hK hP 0 rfl rfl 0 (by decide) (hts (.fieldLink RX1 23 "AlarmBenchModel" "code" "I") (by decide +kernel)) (fun _ h9 => h9) rfl dX1_set_66 ?_
                refine lv_if_le (tgt := 74) hx hb dX1_set_69 (by decide) (fun c_69 => ?_) (fun c_69 => ?_)
                · exact absurd c_69 (by decide)
                · refine lv_iconst (v := 0) hx hb dX1_set_72 (by decide) ?_
                  exact W.iret (v := 0) hx hb hr (fun t9 ht9 hW9 => ⟨⟨_, (2, nw, rk, K, E, L, td, wd), rfl, ⟨k, Nat.le_of_lt hk, hlo, fun _ => c_15, Or.inr (Or.inl ⟨⟨c_26, Int32.not_lt.mpr c_32⟩, Or.inr (Int32.not_le.mp c_54), rfl⟩)⟩, by rw [ht9]; exact hP, va_K.moved hW9.alike hK, hD⟩, hS.F ht9⟩) hS.2.2 dX1_set_73
          · refine lv_iconst (v := 1) hx hb dX1_set_35 (by decide) ?_
            refine lv_goto (tgt := 62) hx hb dX1_set_36 (by decide) ?_
            refine va_put (ci := 1) (v := .int 1) (ty := .int) (C := RX1) (T := TX1) (N := 8) hx hb hts hinX1 tyX1 tyX1_ok nmX1 hown hK hP hD hS 0 rfl rfl 0 (by decide) (hts (.fieldLink RX1 23 "AlarmBenchModel" "code" "I") (by decide +kernel)) (fun _ h9 => h9) rfl (by decide +kernel) rfl rfl (Nat.le_of_ble_eq_true rfl) dX1_set_62 (fun H locs hP hD hS => ?_)
            have hP : va_P D vwCl (mdW h1 b1 b2 b3 cJ 1 nw rk K E L td wd) H := hP
            have hD : va_D A (mdW h1 b1 b2 b3 cJ 1 nw rk K E L td wd) := hD
            refine lv_aload_n hx hb dX1_set_65 rfl (lv_at hl 1 rfl) ?_
            refine va_get (ci := 1) (v := .int 1) (C := RX1) (T := TX1) (N := 8) hx hb hts hinX1 hown hK hP 0 rfl rfl 0 (by decide) (hts (.fieldLink RX1 23 "AlarmBenchModel" "code" "I") (by decide +kernel)) (fun _ h9 => h9) rfl dX1_set_66 ?_
            refine lv_if_le (tgt := 74) hx hb dX1_set_69 (by decide) (fun c_69 => ?_) (fun c_69 => ?_)
            · exact absurd c_69 (by decide)
            · refine lv_iconst (v := 0) hx hb dX1_set_72 (by decide) ?_
              exact W.iret (v := 0) hx hb hr (fun t9 ht9 hW9 => ⟨⟨_, (1, nw, rk, K, E, L, td, wd), rfl, ⟨k, Nat.le_of_lt hk, hlo, fun _ => c_15, Or.inl ⟨fun h9 => h9.2 (Int32.not_le.mp c_32), rfl⟩⟩, by rw [ht9]; exact hP, va_K.moved hW9.alike hK, hD⟩, hS.F ht9⟩) hS.2.2 dX1_set_73
      · refine lv_iinc (v := nI (k + 1)) (lv' := [(3, .int (nI (k + 1))), (0, .ref h1), (1, .int t), (2, .int w)]) hx hb dX1_set_18 hl (k := 0) rfl (kz_inc k) (by decide) rfl (fun ls hl => ?_)
        refine lv_goto (tgt := 2) hx hb dX1_set_21 (by decide) ?_
        exact ih ls ⟨fun j hj => (Nat.lt_succ_iff_lt_or_eq.mp hj).elim (hlo j) (fun e9 => e9 ▸ c_15), lv_sub hl [0, 1, 2, 3] rfl⟩
  · intro ls ⟨hlo, hl⟩
    refine lv_iload_n hx hb dX1_set_2 rfl (lv_at hl 0 rfl) ?_
    refine lv_sipush (v := 512) hx hb dX1_set_3 (by decide) ?_
    refine lv_icmp_ge (tgt := 24) hx hb dX1_set_6 (by decide) (fun c_6 => ?_) (fun c_6 => ?_)
    · refine lv_aload_n hx hb dX1_set_24 rfl (lv_at hl 1 rfl) ?_
      refine lv_iload_n hx hb dX1_set_25 rfl (lv_at hl 2 rfl) ?_
      refine lv_if_lt (tgt := 35) hx hb dX1_set_26 (by decide) (fun c_26 => ?_) (fun c_26 => ?_)
      · refine lv_iconst (v := 1) hx hb dX1_set_35 (by decide) ?_
        refine lv_goto (tgt := 62) hx hb dX1_set_36 (by decide) ?_
        refine va_put (ci := 1) (v := .int 1) (ty := .int) (C := RX1) (T := TX1) (N := 8) hx hb hts hinX1 tyX1 tyX1_ok nmX1 hown hK hP hD hS 0 rfl rfl 0 (by decide) (hts (.fieldLink RX1 23 "AlarmBenchModel" "code" "I") (by decide +kernel)) (fun _ h9 => h9) rfl (by decide +kernel) rfl rfl (Nat.le_of_ble_eq_true rfl) dX1_set_62 (fun H locs hP hD hS => ?_)
        have hP : va_P D vwCl (mdW h1 b1 b2 b3 cJ 1 nw rk K E L td wd) H := hP
        have hD : va_D A (mdW h1 b1 b2 b3 cJ 1 nw rk K E L td wd) := hD
        refine lv_aload_n hx hb dX1_set_65 rfl (lv_at hl 1 rfl) ?_
        refine va_get (ci := 1) (v := .int 1) (C := RX1) (T := TX1) (N := 8) hx hb hts hinX1 hown hK hP 0 rfl rfl 0 (by decide) (hts (.fieldLink RX1 23 "AlarmBenchModel" "code" "I") (by decide +kernel)) (fun _ h9 => h9) rfl dX1_set_66 ?_
        refine lv_if_le (tgt := 74) hx hb dX1_set_69 (by decide) (fun c_69 => ?_) (fun c_69 => ?_)
        · exact absurd c_69 (by decide)
        · refine lv_iconst (v := 0) hx hb dX1_set_72 (by decide) ?_
          exact W.iret (v := 0) hx hb hr (fun t9 ht9 hW9 => ⟨⟨_, (1, nw, rk, K, E, L, td, wd), rfl, ⟨512, Nat.le_refl _, hlo, fun h9 => absurd h9 (Nat.lt_irrefl _), Or.inl ⟨fun h9 => h9.1 c_26, rfl⟩⟩, by rw [ht9]; exact hP, va_K.moved hW9.alike hK, hD⟩, hS.F ht9⟩) hS.2.2 dX1_set_73
      · refine lv_iload_n hx hb dX1_set_29 rfl (lv_at hl 2 rfl) ?_
        refine lv_ldc (v := 1000000000) hx hb hown (hts (.constant RX1 32 1000000000) (by decide +kernel)) dX1_set_30 ?_
        refine lv_icmp_le (tgt := 39) hx hb dX1_set_32 (by decide) (fun c_32 => ?_) (fun c_32 => ?_)
        · refine lv_iload_n hx hb dX1_set_39 rfl (lv_at hl 0 rfl) ?_
          refine lv_sipush (v := 512) hx hb dX1_set_40 (by decide) ?_
          refine lv_icmp_eq (tgt := 57) hx hb dX1_set_43 (by decide) (fun c_43 => ?_) (fun c_43 => ?_)
          · refine lv_iconst (v := 2) hx hb dX1_set_57 (by decide) ?_
            refine lv_goto (tgt := 62) hx hb dX1_set_58 (by decide) ?_
            refine va_put (ci := 1) (v := .int 2) (ty := .int) (C := RX1) (T := TX1) (N := 8) hx hb hts hinX1 tyX1 tyX1_ok nmX1 hown hK hP hD hS 0 rfl rfl 0 (by decide) (hts (.fieldLink RX1 23 "AlarmBenchModel" "code" "I") (by decide +kernel)) (fun _ h9 => h9) rfl (by decide +kernel) rfl rfl (Nat.le_of_ble_eq_true rfl) dX1_set_62 (fun H locs hP hD hS => ?_)
            have hP : va_P D vwCl (mdW h1 b1 b2 b3 cJ 2 nw rk K E L td wd) H := hP
            have hD : va_D A (mdW h1 b1 b2 b3 cJ 2 nw rk K E L td wd) := hD
            refine lv_aload_n hx hb dX1_set_65 rfl (lv_at hl 1 rfl) ?_
            refine va_get (ci := 1) (v := .int 2) (C := RX1) (T := TX1) (N := 8) hx hb hts hinX1 hown hK hP 0 rfl rfl 0 (by decide) (hts (.fieldLink RX1 23 "AlarmBenchModel" "code" "I") (by decide +kernel)) (fun _ h9 => h9) rfl dX1_set_66 ?_
            refine lv_if_le (tgt := 74) hx hb dX1_set_69 (by decide) (fun c_69 => ?_) (fun c_69 => ?_)
            · exact absurd c_69 (by decide)
            · refine lv_iconst (v := 0) hx hb dX1_set_72 (by decide) ?_
              exact W.iret (v := 0) hx hb hr (fun t9 ht9 hW9 => ⟨⟨_, (2, nw, rk, K, E, L, td, wd), rfl, ⟨512, Nat.le_refl _, hlo, fun h9 => absurd h9 (Nat.lt_irrefl _), Or.inr (Or.inl ⟨⟨c_26, Int32.not_lt.mpr c_32⟩, Or.inl rfl, rfl⟩)⟩, by rw [ht9]; exact hP, va_K.moved hW9.alike hK, hD⟩, hS.F ht9⟩) hS.2.2 dX1_set_73
          · exact absurd rfl c_43
        · refine lv_iconst (v := 1) hx hb dX1_set_35 (by decide) ?_
          refine lv_goto (tgt := 62) hx hb dX1_set_36 (by decide) ?_
          refine va_put (ci := 1) (v := .int 1) (ty := .int) (C := RX1) (T := TX1) (N := 8) hx hb hts hinX1 tyX1 tyX1_ok nmX1 hown hK hP hD hS 0 rfl rfl 0 (by decide) (hts (.fieldLink RX1 23 "AlarmBenchModel" "code" "I") (by decide +kernel)) (fun _ h9 => h9) rfl (by decide +kernel) rfl rfl (Nat.le_of_ble_eq_true rfl) dX1_set_62 (fun H locs hP hD hS => ?_)
          have hP : va_P D vwCl (mdW h1 b1 b2 b3 cJ 1 nw rk K E L td wd) H := hP
          have hD : va_D A (mdW h1 b1 b2 b3 cJ 1 nw rk K E L td wd) := hD
          refine lv_aload_n hx hb dX1_set_65 rfl (lv_at hl 1 rfl) ?_
          refine va_get (ci := 1) (v := .int 1) (C := RX1) (T := TX1) (N := 8) hx hb hts hinX1 hown hK hP 0 rfl rfl 0 (by decide) (hts (.fieldLink RX1 23 "AlarmBenchModel" "code" "I") (by decide +kernel)) (fun _ h9 => h9) rfl dX1_set_66 ?_
          refine lv_if_le (tgt := 74) hx hb dX1_set_69 (by decide) (fun c_69 => ?_) (fun c_69 => ?_)
          · exact absurd c_69 (by decide)
          · refine lv_iconst (v := 0) hx hb dX1_set_72 (by decide) ?_
            exact W.iret (v := 0) hx hb hr (fun t9 ht9 hW9 => ⟨⟨_, (1, nw, rk, K, E, L, td, wd), rfl, ⟨512, Nat.le_refl _, hlo, fun h9 => absurd h9 (Nat.lt_irrefl _), Or.inl ⟨fun h9 => h9.2 (Int32.not_le.mp c_32), rfl⟩⟩, by rw [ht9]; exact hP, va_K.moved hW9.alike hK, hD⟩, hS.F ht9⟩) hS.2.2 dX1_set_73
    · exact absurd (Int32.le_refl _) c_6
set_option maxHeartbeats 4000000 in
set_option maxRecDepth 100000 in
/-- reference: shift -/
theorem m_shift (l : Launch) (D : va_G) (h1 b1 b2 b3 : Nat) (cJ : ClassId) (cd nw rk : Int32) (K E L : Nat → Int32) (td wd : Int32) (sz : Nat) (x t : Int32) : Met l yX1_shift wsX1_shift ({ frames := 1, cells := 0, slots := 0, locals := 23 } : Room) (kz_Pc D vwCl (mdT cJ) (mdW h1 b1 b2 b3 cJ cd nw rk K E L td wd) sz [.ref h1, .int x, .int t]) (va_Qi (fun (r : Int32) (u : MDs) => (¬ (md_al K x ∧ ab_ok t) ∧ u = (1, nw, rk, K, E, L, td, wd)) ∨ (md_al K x ∧ ab_ok t ∧ 1000000000 - nw < t ∧ u = (2, nw, rk, K, E, L, td, wd)) ∨ (∃ k : Nat, k < 512 ∧ x = nI k ∧ ¬ K k ≤ 0 ∧ ab_ok t ∧ ¬ 1000000000 - nw < t ∧ r = E k - nw ∧ u = (0, nw, rk + 1, upd K k (rk + 1), upd E k (nw + t), upd L k (L k), td, wd))) (kz_B D vwCl (mdT cJ) (mdU h1 b1 b2 b3 cJ) (va_A (mdW h1 b1 b2 b3 cJ cd nw rk K E L td wd) sz)) (va_A (mdW h1 b1 b2 b3 cJ cd nw rk K E L td wd) sz)) 0 0 (va_A (mdW h1 b1 b2 b3 cJ cd nw rk K E L td wd) sz) := by
  refine Met.ofW (cc := cX1_shift) (maxL := 4) (ret := some .int) (by decide) rfl ?_
  intro p e s m args below meth c s₁ B hml hv
  obtain ⟨rfl, hsz, hP, hK, hD0⟩ := hv
  have hx := B.exec
  have hb := B.bytes
  have hr := B.returns
  have hts := atoms_spec (ws := wsX1_shift) B.pre
  have hown : s.vm.findClass RX1 = some m.cls := findClass_of_methodNamed B.named
  have hlocks := B.notSynchronized
  have hinX1 : ∀ w ∈ wsX10, w ∈ wsX1_shift := by decide +kernel
  subst hsz
  have hD := hD0.self (sz := s.heap.size)
  generalize hAe : va_A (mdW h1 b1 b2 b3 cJ cd nw rk K E L td wd) s.heap.size = A at hD ⊢
  have hA : ∀ q : Nat, s.heap.size ≤ q → A q := fun q h => by rw [← hAe]; exact Or.inr h
  have hS : va_S A s.heap s.heap [] := va_S.rf
  refine kz_enter [.ref h1, .int x, .int t] (Nat.le_of_ble_eq_true rfl) (fun ls hl => ?_)
  have hl : lv_has ls 4 [(0, .ref h1), (1, .int x), (2, .int t)] := hl
  refine lv_aload_n hx hb dX1_shift_0 rfl (lv_at hl 0 rfl) ?_
  refine lv_aload_n hx hb dX1_shift_1 rfl (lv_at hl 0 rfl) ?_
  refine lv_iload_n hx hb dX1_shift_2 rfl (lv_at hl 1 rfl) ?_
  refine kz_callR (As := [.int x]) (rest := [.ref h1]) ⟨hx, hb, hml, hown, hts⟩ (m_isAlarm l D h1 b1 b2 b3 cJ cd nw rk K E L td wd x) (cwV 1 hts gX1_shift_X1_isAlarm rfl rfl rfl (by decide +kernel) ⟨Nat.le_of_ble_eq_true rfl, Nat.le_of_ble_eq_true rfl⟩) hP hK (va_recv hK hP (ci := 1) (q0 := 0) rfl rfl) rfl hl.1 rfl (Nat.le_of_ble_eq_true rfl) dX1_shift_3 ⟨Nat.zero_le _, Nat.zero_le _⟩ (fun r_1 hr_2 => ?_)
  refine lv_if_eq (tgt := 19) hx hb dX1_shift_6 (by decide) (fun c_6 => ?_) (fun c_6 => ?_)
  · have hS0 := hr_2.f c_6
    refine lv_iconst (v := 1) hx hb dX1_shift_19 (by decide) ?_
    refine lv_goto (tgt := 39) hx hb dX1_shift_20 (by decide) ?_
    refine va_put (ci := 1) (v := .int 1) (ty := .int) (C := RX1) (T := TX1) (N := 8) hx hb hts hinX1 tyX1 tyX1_ok nmX1 hown hK hP hD hS 0 rfl rfl 0 (by decide) (hts (.fieldLink RX1 23 "AlarmBenchModel" "code" "I") (by decide +kernel)) (fun _ h9 => h9) rfl (by decide +kernel) rfl rfl (Nat.le_of_ble_eq_true rfl) dX1_shift_39 (fun H locs hP hD hS => ?_)
    have hP : va_P D vwCl (mdW h1 b1 b2 b3 cJ 1 nw rk K E L td wd) H := hP
    have hD : va_D A (mdW h1 b1 b2 b3 cJ 1 nw rk K E L td wd) := hD
    refine lv_aload_n hx hb dX1_shift_42 rfl (lv_at hl 0 rfl) ?_
    refine va_get (ci := 1) (v := .int 1) (C := RX1) (T := TX1) (N := 8) hx hb hts hinX1 hown hK hP 0 rfl rfl 0 (by decide) (hts (.fieldLink RX1 23 "AlarmBenchModel" "code" "I") (by decide +kernel)) (fun _ h9 => h9) rfl dX1_shift_43 ?_
    refine lv_if_le (tgt := 51) hx hb dX1_shift_46 (by decide) (fun c_46 => ?_) (fun c_46 => ?_)
    · exact absurd c_46 (by decide)
    · refine lv_iconst (v := 0) hx hb dX1_shift_49 (by decide) ?_
      exact W.iret (v := 0) hx hb hr (fun t9 ht9 hW9 => ⟨⟨_, (1, nw, rk, K, E, L, td, wd), rfl, Or.inl ⟨fun h9 => hS0 h9.1, rfl⟩, by rw [ht9]; exact hP, va_K.moved hW9.alike hK, hD⟩, hS.F ht9⟩) hS.2.2 dX1_shift_50
  · obtain ⟨k, hk, rfl, hS0⟩ := hr_2.t c_6
    refine lv_iload_n hx hb dX1_shift_9 rfl (lv_at hl 2 rfl) ?_
    refine lv_if_lt (tgt := 19) hx hb dX1_shift_10 (by decide) (fun c_10 => ?_) (fun c_10 => ?_)
    · refine lv_iconst (v := 1) hx hb dX1_shift_19 (by decide) ?_
      refine lv_goto (tgt := 39) hx hb dX1_shift_20 (by decide) ?_
      refine va_put (ci := 1) (v := .int 1) (ty := .int) (C := RX1) (T := TX1) (N := 8) hx hb hts hinX1 tyX1 tyX1_ok nmX1 hown hK hP hD hS 0 rfl rfl 0 (by decide) (hts (.fieldLink RX1 23 "AlarmBenchModel" "code" "I") (by decide +kernel)) (fun _ h9 => h9) rfl (by decide +kernel) rfl rfl (Nat.le_of_ble_eq_true rfl) dX1_shift_39 (fun H locs hP hD hS => ?_)
      have hP : va_P D vwCl (mdW h1 b1 b2 b3 cJ 1 nw rk K E L td wd) H := hP
      have hD : va_D A (mdW h1 b1 b2 b3 cJ 1 nw rk K E L td wd) := hD
      refine lv_aload_n hx hb dX1_shift_42 rfl (lv_at hl 0 rfl) ?_
      refine va_get (ci := 1) (v := .int 1) (C := RX1) (T := TX1) (N := 8) hx hb hts hinX1 hown hK hP 0 rfl rfl 0 (by decide) (hts (.fieldLink RX1 23 "AlarmBenchModel" "code" "I") (by decide +kernel)) (fun _ h9 => h9) rfl dX1_shift_43 ?_
      refine lv_if_le (tgt := 51) hx hb dX1_shift_46 (by decide) (fun c_46 => ?_) (fun c_46 => ?_)
      · exact absurd c_46 (by decide)
      · refine lv_iconst (v := 0) hx hb dX1_shift_49 (by decide) ?_
        exact W.iret (v := 0) hx hb hr (fun t9 ht9 hW9 => ⟨⟨_, (1, nw, rk, K, E, L, td, wd), rfl, Or.inl ⟨fun h9 => h9.2.1 c_10, rfl⟩, by rw [ht9]; exact hP, va_K.moved hW9.alike hK, hD⟩, hS.F ht9⟩) hS.2.2 dX1_shift_50
    · refine lv_iload_n hx hb dX1_shift_13 rfl (lv_at hl 2 rfl) ?_
      refine lv_ldc (v := 1000000000) hx hb hown (hts (.constant RX1 32 1000000000) (by decide +kernel)) dX1_shift_14 ?_
      refine lv_icmp_le (tgt := 23) hx hb dX1_shift_16 (by decide) (fun c_16 => ?_) (fun c_16 => ?_)
      · refine lv_iload_n hx hb dX1_shift_23 rfl (lv_at hl 2 rfl) ?_
        refine lv_ldc (v := 1000000000) hx hb hown (hts (.constant RX1 32 1000000000) (by decide +kernel)) dX1_shift_24 ?_
        refine lv_aload_n hx hb dX1_shift_26 rfl (lv_at hl 0 rfl) ?_
        refine va_get (ci := 1) (v := .int nw) (C := RX1) (T := TX1) (N := 8) hx hb hts hinX1 hown hK hP 0 rfl rfl 1 (by decide) (hts (.fieldLink RX1 29 "AlarmBenchModel" "now" "I") (by decide +kernel)) (fun _ h9 => h9) rfl dX1_shift_27 ?_
        refine lv_isub hx hb dX1_shift_30 ?_
        refine lv_icmp_le (tgt := 38) hx hb dX1_shift_31 (by decide) (fun c_31 => ?_) (fun c_31 => ?_)
        · refine lv_iconst (v := 0) hx hb dX1_shift_38 (by decide) ?_
          refine va_put (ci := 1) (v := .int 0) (ty := .int) (C := RX1) (T := TX1) (N := 8) hx hb hts hinX1 tyX1 tyX1_ok nmX1 hown hK hP hD hS 0 rfl rfl 0 (by decide) (hts (.fieldLink RX1 23 "AlarmBenchModel" "code" "I") (by decide +kernel)) (fun _ h9 => h9) rfl (by decide +kernel) rfl rfl (Nat.le_of_ble_eq_true rfl) dX1_shift_39 (fun H locs hP hD hS => ?_)
          have hP : va_P D vwCl (mdW h1 b1 b2 b3 cJ 0 nw rk K E L td wd) H := hP
          have hD : va_D A (mdW h1 b1 b2 b3 cJ 0 nw rk K E L td wd) := hD
          refine lv_aload_n hx hb dX1_shift_42 rfl (lv_at hl 0 rfl) ?_
          refine va_get (ci := 1) (v := .int 0) (C := RX1) (T := TX1) (N := 8) hx hb hts hinX1 hown hK hP 0 rfl rfl 0 (by decide) (hts (.fieldLink RX1 23 "AlarmBenchModel" "code" "I") (by decide +kernel)) (fun _ h9 => h9) rfl dX1_shift_43 ?_
          refine lv_if_le (tgt := 51) hx hb dX1_shift_46 (by decide) (fun c_46 => ?_) (fun c_46 => ?_)
          · refine lv_aload_n hx hb dX1_shift_51 rfl (lv_at hl 0 rfl) ?_
            refine va_get (ci := 1) (v := .ref b2) (C := RX1) (T := TX1) (N := 8) hx hb hts hinX1 hown hK hP 0 rfl rfl 4 (by decide) (hts (.fieldLink RX1 13 "AlarmBenchModel" "due" "[I") (by decide +kernel)) (fun _ h9 => h9) rfl dX1_shift_52 ?_
            refine lv_iload_n hx hb dX1_shift_55 rfl (lv_at hl 1 rfl) ?_
            refine kz_iald hx hb hK hP 2 0 rfl rfl hk (by decide) dX1_shift_56 ?_
            refine lv_aload_n hx hb dX1_shift_57 rfl (lv_at hl 0 rfl) ?_
            refine va_get (ci := 1) (v := .int nw) (C := RX1) (T := TX1) (N := 8) hx hb hts hinX1 hown hK hP 0 rfl rfl 1 (by decide) (hts (.fieldLink RX1 29 "AlarmBenchModel" "now" "I") (by decide +kernel)) (fun _ h9 => h9) rfl dX1_shift_58 ?_
            refine lv_isub hx hb dX1_shift_61 ?_
            refine lv_istore_n (lv' := [(3, .int ((E k) - nw)), (0, .ref h1), (1, .int (nI k)), (2, .int t)]) hx hb dX1_shift_62 rfl hl (by decide) rfl (fun ls hl => ?_)
            refine lv_aload_n hx hb dX1_shift_63 rfl (lv_at hl 1 rfl) ?_
            refine lv_iload_n hx hb dX1_shift_64 rfl (lv_at hl 2 rfl) ?_
            refine lv_iload_n hx hb dX1_shift_65 rfl (lv_at hl 3 rfl) ?_
            refine lv_aload_n hx hb dX1_shift_66 rfl (lv_at hl 1 rfl) ?_
            refine va_get (ci := 1) (v := .ref b3) (C := RX1) (T := TX1) (N := 8) hx hb hts hinX1 hown hK hP 0 rfl rfl 5 (by decide) (hts (.fieldLink RX1 16 "AlarmBenchModel" "tells" "[I") (by decide +kernel)) (fun _ h9 => h9) rfl dX1_shift_67 ?_
            refine lv_iload_n hx hb dX1_shift_70 rfl (lv_at hl 2 rfl) ?_
            refine kz_iald hx hb hK hP 3 0 rfl rfl hk (by decide) dX1_shift_71 ?_
            refine kz_callv (wc := (mdW h1 b1 b2 b3 cJ 0 nw rk K E L td wd)) (wr := []) (As := [.int (nI k), .int t, .int (L k)]) (rest := []) ⟨hx, hb, hml, hown, hts⟩ (m_start l D h1 b1 b2 b3 cJ 0 nw rk K E L td wd _ k hk t (L k)) (cwV 3 hts gX1_shift_X1_start rfl rfl rfl (by decide +kernel) ⟨Nat.le_of_ble_eq_true rfl, Nat.le_of_ble_eq_true rfl⟩) hP hD hS hA hK [0, 1, 2, 3] [] rfl rfl rfl rfl rfl (by decide) (va_recv hK hP (ci := 1) (q0 := 0) rfl rfl) rfl hl.1 rfl (Nat.le_of_ble_eq_true rfl) dX1_shift_72 ⟨Nat.zero_le _, Nat.zero_le _⟩ (fun u H locs hu hP hD hS => ?_)
            subst hu
            have hP : va_P D vwCl (mdW h1 b1 b2 b3 cJ 0 nw (rk + 1) (upd K k (rk + 1)) (upd E k (nw + t)) (upd L k (L k)) td wd) H := hP
            have hD : va_D A (mdW h1 b1 b2 b3 cJ 0 nw (rk + 1) (upd K k (rk + 1)) (upd E k (nw + t)) (upd L k (L k)) td wd) := hD
            refine lv_iload_n hx hb dX1_shift_75 rfl (lv_at hl 0 rfl) ?_
            exact W.iret (v := (E k) - nw) hx hb hr (fun t9 ht9 hW9 => ⟨⟨_, (0, nw, rk + 1, upd K k (rk + 1), upd E k (nw + t), upd L k (L k), td, wd), rfl, Or.inr (Or.inr ⟨k, hk, rfl, hS0, ⟨c_10, Int32.not_lt.mpr c_16⟩, Int32.not_lt.mpr c_31, rfl, rfl⟩), by rw [ht9]; exact hP, va_K.moved hW9.alike hK, hD⟩, hS.F ht9⟩) hS.2.2 dX1_shift_76
          · exact absurd (by decide) c_46
        · refine lv_iconst (v := 2) hx hb dX1_shift_34 (by decide) ?_
          refine lv_goto (tgt := 39) hx hb dX1_shift_35 (by decide) ?_
          refine va_put (ci := 1) (v := .int 2) (ty := .int) (C := RX1) (T := TX1) (N := 8) hx hb hts hinX1 tyX1 tyX1_ok nmX1 hown hK hP hD hS 0 rfl rfl 0 (by decide) (hts (.fieldLink RX1 23 "AlarmBenchModel" "code" "I") (by decide +kernel)) (fun _ h9 => h9) rfl (by decide +kernel) rfl rfl (Nat.le_of_ble_eq_true rfl) dX1_shift_39 (fun H locs hP hD hS => ?_)
          have hP : va_P D vwCl (mdW h1 b1 b2 b3 cJ 2 nw rk K E L td wd) H := hP
          have hD : va_D A (mdW h1 b1 b2 b3 cJ 2 nw rk K E L td wd) := hD
          refine lv_aload_n hx hb dX1_shift_42 rfl (lv_at hl 0 rfl) ?_
          refine va_get (ci := 1) (v := .int 2) (C := RX1) (T := TX1) (N := 8) hx hb hts hinX1 hown hK hP 0 rfl rfl 0 (by decide) (hts (.fieldLink RX1 23 "AlarmBenchModel" "code" "I") (by decide +kernel)) (fun _ h9 => h9) rfl dX1_shift_43 ?_
          refine lv_if_le (tgt := 51) hx hb dX1_shift_46 (by decide) (fun c_46 => ?_) (fun c_46 => ?_)
          · exact absurd c_46 (by decide)
          · refine lv_iconst (v := 0) hx hb dX1_shift_49 (by decide) ?_
            exact W.iret (v := 0) hx hb hr (fun t9 ht9 hW9 => ⟨⟨_, (2, nw, rk, K, E, L, td, wd), rfl, Or.inr (Or.inl ⟨⟨k, hk, rfl, hS0⟩, ⟨c_10, Int32.not_lt.mpr c_16⟩, Int32.not_le.mp c_31, rfl⟩), by rw [ht9]; exact hP, va_K.moved hW9.alike hK, hD⟩, hS.F ht9⟩) hS.2.2 dX1_shift_50
      · refine lv_iconst (v := 1) hx hb dX1_shift_19 (by decide) ?_
        refine lv_goto (tgt := 39) hx hb dX1_shift_20 (by decide) ?_
        refine va_put (ci := 1) (v := .int 1) (ty := .int) (C := RX1) (T := TX1) (N := 8) hx hb hts hinX1 tyX1 tyX1_ok nmX1 hown hK hP hD hS 0 rfl rfl 0 (by decide) (hts (.fieldLink RX1 23 "AlarmBenchModel" "code" "I") (by decide +kernel)) (fun _ h9 => h9) rfl (by decide +kernel) rfl rfl (Nat.le_of_ble_eq_true rfl) dX1_shift_39 (fun H locs hP hD hS => ?_)
        have hP : va_P D vwCl (mdW h1 b1 b2 b3 cJ 1 nw rk K E L td wd) H := hP
        have hD : va_D A (mdW h1 b1 b2 b3 cJ 1 nw rk K E L td wd) := hD
        refine lv_aload_n hx hb dX1_shift_42 rfl (lv_at hl 0 rfl) ?_
        refine va_get (ci := 1) (v := .int 1) (C := RX1) (T := TX1) (N := 8) hx hb hts hinX1 hown hK hP 0 rfl rfl 0 (by decide) (hts (.fieldLink RX1 23 "AlarmBenchModel" "code" "I") (by decide +kernel)) (fun _ h9 => h9) rfl dX1_shift_43 ?_
        refine lv_if_le (tgt := 51) hx hb dX1_shift_46 (by decide) (fun c_46 => ?_) (fun c_46 => ?_)
        · exact absurd c_46 (by decide)
        · refine lv_iconst (v := 0) hx hb dX1_shift_49 (by decide) ?_
          exact W.iret (v := 0) hx hb hr (fun t9 ht9 hW9 => ⟨⟨_, (1, nw, rk, K, E, L, td, wd), rfl, Or.inl ⟨fun h9 => h9.2.2 (Int32.not_le.mp c_16), rfl⟩, by rw [ht9]; exact hP, va_K.moved hW9.alike hK, hD⟩, hS.F ht9⟩) hS.2.2 dX1_shift_50
set_option maxHeartbeats 4000000 in
set_option maxRecDepth 100000 in
/-- reference: stop -/
theorem m_stop (l : Launch) (D : va_G) (h1 b1 b2 b3 : Nat) (cJ : ClassId) (cd nw rk : Int32) (K E L : Nat → Int32) (td wd : Int32) (sz : Nat) (x : Int32) : Met l yX1_stop wsX1_stop ({ frames := 1, cells := 0, slots := 0, locals := 21 } : Room) (kz_Pc D vwCl (mdT cJ) (mdW h1 b1 b2 b3 cJ cd nw rk K E L td wd) sz [.ref h1, .int x]) (va_Qi (fun (r : Int32) (u : MDs) => (¬ md_al K x ∧ u = (1, nw, rk, K, E, L, td, wd)) ∨ (∃ k : Nat, k < 512 ∧ x = nI k ∧ ¬ K k ≤ 0 ∧ r = L k ∧ u = (0, nw, rk, upd K k 0, E, L, td, wd))) (kz_B D vwCl (mdT cJ) (mdU h1 b1 b2 b3 cJ) (va_A (mdW h1 b1 b2 b3 cJ cd nw rk K E L td wd) sz)) (va_A (mdW h1 b1 b2 b3 cJ cd nw rk K E L td wd) sz)) 0 0 (va_A (mdW h1 b1 b2 b3 cJ cd nw rk K E L td wd) sz) := by
  refine Met.ofW (cc := cX1_stop) (maxL := 2) (ret := some .int) (by decide) rfl ?_
  intro p e s m args below meth c s₁ B hml hv
  obtain ⟨rfl, hsz, hP, hK, hD0⟩ := hv
  have hx := B.exec
  have hb := B.bytes
  have hr := B.returns
  have hts := atoms_spec (ws := wsX1_stop) B.pre
  have hown : s.vm.findClass RX1 = some m.cls := findClass_of_methodNamed B.named
  have hlocks := B.notSynchronized
  have hinX1 : ∀ w ∈ wsX10, w ∈ wsX1_stop := by decide +kernel
  subst hsz
  have hD := hD0.self (sz := s.heap.size)
  generalize hAe : va_A (mdW h1 b1 b2 b3 cJ cd nw rk K E L td wd) s.heap.size = A at hD ⊢
  have hA : ∀ q : Nat, s.heap.size ≤ q → A q := fun q h => by rw [← hAe]; exact Or.inr h
  have hS : va_S A s.heap s.heap [] := va_S.rf
  refine kz_enter [.ref h1, .int x] (Nat.le_of_ble_eq_true rfl) (fun ls hl => ?_)
  have hl : lv_has ls 2 [(0, .ref h1), (1, .int x)] := hl
  refine lv_aload_n hx hb dX1_stop_0 rfl (lv_at hl 0 rfl) ?_
  refine lv_aload_n hx hb dX1_stop_1 rfl (lv_at hl 0 rfl) ?_
  refine lv_iload_n hx hb dX1_stop_2 rfl (lv_at hl 1 rfl) ?_
  refine kz_callR (As := [.int x]) (rest := [.ref h1]) ⟨hx, hb, hml, hown, hts⟩ (m_isAlarm l D h1 b1 b2 b3 cJ cd nw rk K E L td wd x) (cwV 1 hts gX1_stop_X1_isAlarm rfl rfl rfl (by decide +kernel) ⟨Nat.le_of_ble_eq_true rfl, Nat.le_of_ble_eq_true rfl⟩) hP hK (va_recv hK hP (ci := 1) (q0 := 0) rfl rfl) rfl hl.1 rfl (Nat.le_of_ble_eq_true rfl) dX1_stop_3 ⟨Nat.zero_le _, Nat.zero_le _⟩ (fun r_1 hr_2 => ?_)
  refine lv_if_eq (tgt := 13) hx hb dX1_stop_6 (by decide) (fun c_6 => ?_) (fun c_6 => ?_)
  · have hS0 := hr_2.f c_6
    refine lv_iconst (v := 1) hx hb dX1_stop_13 (by decide) ?_
    refine va_put (ci := 1) (v := .int 1) (ty := .int) (C := RX1) (T := TX1) (N := 8) hx hb hts hinX1 tyX1 tyX1_ok nmX1 hown hK hP hD hS 0 rfl rfl 0 (by decide) (hts (.fieldLink RX1 23 "AlarmBenchModel" "code" "I") (by decide +kernel)) (fun _ h9 => h9) rfl (by decide +kernel) rfl rfl (Nat.le_of_ble_eq_true rfl) dX1_stop_14 (fun H locs hP hD hS => ?_)
    have hP : va_P D vwCl (mdW h1 b1 b2 b3 cJ 1 nw rk K E L td wd) H := hP
    have hD : va_D A (mdW h1 b1 b2 b3 cJ 1 nw rk K E L td wd) := hD
    refine lv_aload_n hx hb dX1_stop_17 rfl (lv_at hl 0 rfl) ?_
    refine va_get (ci := 1) (v := .int 1) (C := RX1) (T := TX1) (N := 8) hx hb hts hinX1 hown hK hP 0 rfl rfl 0 (by decide) (hts (.fieldLink RX1 23 "AlarmBenchModel" "code" "I") (by decide +kernel)) (fun _ h9 => h9) rfl dX1_stop_18 ?_
    refine lv_if_le (tgt := 26) hx hb dX1_stop_21 (by decide) (fun c_21 => ?_) (fun c_21 => ?_)
    · exact absurd c_21 (by decide)
    · refine lv_iconst (v := 0) hx hb dX1_stop_24 (by decide) ?_
      exact W.iret (v := 0) hx hb hr (fun t9 ht9 hW9 => ⟨⟨_, (1, nw, rk, K, E, L, td, wd), rfl, Or.inl ⟨hS0, rfl⟩, by rw [ht9]; exact hP, va_K.moved hW9.alike hK, hD⟩, hS.F ht9⟩) hS.2.2 dX1_stop_25
  · obtain ⟨k, hk, rfl, hS0⟩ := hr_2.t c_6
    refine lv_iconst (v := 0) hx hb dX1_stop_9 (by decide) ?_
    refine lv_goto (tgt := 14) hx hb dX1_stop_10 (by decide) ?_
    refine va_put (ci := 1) (v := .int 0) (ty := .int) (C := RX1) (T := TX1) (N := 8) hx hb hts hinX1 tyX1 tyX1_ok nmX1 hown hK hP hD hS 0 rfl rfl 0 (by decide) (hts (.fieldLink RX1 23 "AlarmBenchModel" "code" "I") (by decide +kernel)) (fun _ h9 => h9) rfl (by decide +kernel) rfl rfl (Nat.le_of_ble_eq_true rfl) dX1_stop_14 (fun H locs hP hD hS => ?_)
    have hP : va_P D vwCl (mdW h1 b1 b2 b3 cJ 0 nw rk K E L td wd) H := hP
    have hD : va_D A (mdW h1 b1 b2 b3 cJ 0 nw rk K E L td wd) := hD
    refine lv_aload_n hx hb dX1_stop_17 rfl (lv_at hl 0 rfl) ?_
    refine va_get (ci := 1) (v := .int 0) (C := RX1) (T := TX1) (N := 8) hx hb hts hinX1 hown hK hP 0 rfl rfl 0 (by decide) (hts (.fieldLink RX1 23 "AlarmBenchModel" "code" "I") (by decide +kernel)) (fun _ h9 => h9) rfl dX1_stop_18 ?_
    refine lv_if_le (tgt := 26) hx hb dX1_stop_21 (by decide) (fun c_21 => ?_) (fun c_21 => ?_)
    · refine lv_aload_n hx hb dX1_stop_26 rfl (lv_at hl 0 rfl) ?_
      refine va_get (ci := 1) (v := .ref b1) (C := RX1) (T := TX1) (N := 8) hx hb hts hinX1 hown hK hP 0 rfl rfl 3 (by decide) (hts (.fieldLink RX1 7 "AlarmBenchModel" "rank" "[I") (by decide +kernel)) (fun _ h9 => h9) rfl dX1_stop_27 ?_
      refine lv_iload_n hx hb dX1_stop_30 rfl (lv_at hl 1 rfl) ?_
      refine lv_iconst (v := 0) hx hb dX1_stop_31 (by decide) ?_
      refine kz_iast hx hb hK hP hD hS 1 0 rfl rfl hk (by decide) dX1_stop_32 (fun H locs hP hD hS => ?_)
      have hP : va_P D vwCl (mdW h1 b1 b2 b3 cJ 0 nw rk (upd K k 0) E L td wd) H := hP
      have hD : va_D A (mdW h1 b1 b2 b3 cJ 0 nw rk (upd K k 0) E L td wd) := hD
      refine lv_aload_n hx hb dX1_stop_33 rfl (lv_at hl 0 rfl) ?_
      refine va_get (ci := 1) (v := .ref b3) (C := RX1) (T := TX1) (N := 8) hx hb hts hinX1 hown hK hP 0 rfl rfl 5 (by decide) (hts (.fieldLink RX1 16 "AlarmBenchModel" "tells" "[I") (by decide +kernel)) (fun _ h9 => h9) rfl dX1_stop_34 ?_
      refine lv_iload_n hx hb dX1_stop_37 rfl (lv_at hl 1 rfl) ?_
      refine kz_iald hx hb hK hP 3 0 rfl rfl hk (by decide) dX1_stop_38 ?_
      exact W.iret (v := L k) hx hb hr (fun t9 ht9 hW9 => ⟨⟨_, (0, nw, rk, upd K k 0, E, L, td, wd), rfl, Or.inr ⟨k, hk, rfl, hS0, rfl, rfl⟩, by rw [ht9]; exact hP, va_K.moved hW9.alike hK, hD⟩, hS.F ht9⟩) hS.2.2 dX1_stop_39
    · exact absurd (by decide) c_21
set_option maxHeartbeats 4000000 in
set_option maxRecDepth 100000 in
/-- reference: pass -/
theorem m_pass (l : Launch) (D : va_G) (h1 b1 b2 b3 : Nat) (cJ : ClassId) (cd nw rk : Int32) (K E L : Nat → Int32) (td wd : Int32) (sz : Nat) (x : Int32) : Met l yX1_pass wsX1_pass ({ frames := 0, cells := 0, slots := 0, locals := 0 } : Room) (kz_Pc D vwCl (mdT cJ) (mdW h1 b1 b2 b3 cJ cd nw rk K E L td wd) sz [.ref h1, .int x]) (va_Qi (fun (r : Int32) (u : MDs) => ((x < 0 ∨ 200000 < x) ∧ u = (1, nw, rk, K, E, L, td, wd)) ∨ (¬ x < 0 ∧ ¬ 200000 < x ∧ 1000000000 - nw < x ∧ u = (2, nw, rk, K, E, L, td, wd)) ∨ (¬ x < 0 ∧ ¬ 200000 < x ∧ ¬ 1000000000 - nw < x ∧ r = nw + x ∧ u = (0, nw + x, rk, K, E, L, td, wd))) (kz_B D vwCl (mdT cJ) (mdU h1 b1 b2 b3 cJ) (va_A (mdW h1 b1 b2 b3 cJ cd nw rk K E L td wd) sz)) (va_A (mdW h1 b1 b2 b3 cJ cd nw rk K E L td wd) sz)) 0 0 (va_A (mdW h1 b1 b2 b3 cJ cd nw rk K E L td wd) sz) := by
  refine Met.ofW (cc := cX1_pass) (maxL := 2) (ret := some .int) (by decide) rfl ?_
  intro p e s m args below meth c s₁ B hml hv
  obtain ⟨rfl, hsz, hP, hK, hD0⟩ := hv
  have hx := B.exec
  have hb := B.bytes
  have hr := B.returns
  have hts := atoms_spec (ws := wsX1_pass) B.pre
  have hown : s.vm.findClass RX1 = some m.cls := findClass_of_methodNamed B.named
  have hlocks := B.notSynchronized
  have hinX1 : ∀ w ∈ wsX10, w ∈ wsX1_pass := by decide +kernel
  subst hsz
  have hD := hD0.self (sz := s.heap.size)
  generalize hAe : va_A (mdW h1 b1 b2 b3 cJ cd nw rk K E L td wd) s.heap.size = A at hD ⊢
  have hA : ∀ q : Nat, s.heap.size ≤ q → A q := fun q h => by rw [← hAe]; exact Or.inr h
  have hS : va_S A s.heap s.heap [] := va_S.rf
  refine kz_enter [.ref h1, .int x] (Nat.le_of_ble_eq_true rfl) (fun ls hl => ?_)
  have hl : lv_has ls 2 [(0, .ref h1), (1, .int x)] := hl
  refine lv_aload_n hx hb dX1_pass_0 rfl (lv_at hl 0 rfl) ?_
  refine lv_iload_n hx hb dX1_pass_1 rfl (lv_at hl 1 rfl) ?_
  refine lv_if_lt (tgt := 11) hx hb dX1_pass_2 (by decide) (fun c_2 => ?_) (fun c_2 => ?_)
  · refine lv_iconst (v := 1) hx hb dX1_pass_11 (by decide) ?_
    refine lv_goto (tgt := 31) hx hb dX1_pass_12 (by decide) ?_
    refine va_put (ci := 1) (v := .int 1) (ty := .int) (C := RX1) (T := TX1) (N := 8) hx hb hts hinX1 tyX1 tyX1_ok nmX1 hown hK hP hD hS 0 rfl rfl 0 (by decide) (hts (.fieldLink RX1 23 "AlarmBenchModel" "code" "I") (by decide +kernel)) (fun _ h9 => h9) rfl (by decide +kernel) rfl rfl (Nat.le_of_ble_eq_true rfl) dX1_pass_31 (fun H locs hP hD hS => ?_)
    have hP : va_P D vwCl (mdW h1 b1 b2 b3 cJ 1 nw rk K E L td wd) H := hP
    have hD : va_D A (mdW h1 b1 b2 b3 cJ 1 nw rk K E L td wd) := hD
    refine lv_aload_n hx hb dX1_pass_34 rfl (lv_at hl 0 rfl) ?_
    refine va_get (ci := 1) (v := .int 1) (C := RX1) (T := TX1) (N := 8) hx hb hts hinX1 hown hK hP 0 rfl rfl 0 (by decide) (hts (.fieldLink RX1 23 "AlarmBenchModel" "code" "I") (by decide +kernel)) (fun _ h9 => h9) rfl dX1_pass_35 ?_
    refine lv_if_le (tgt := 43) hx hb dX1_pass_38 (by decide) (fun c_38 => ?_) (fun c_38 => ?_)
    · exact absurd c_38 (by decide)
    · refine lv_iconst (v := 0) hx hb dX1_pass_41 (by decide) ?_
      exact W.iret (v := 0) hx hb hr (fun t9 ht9 hW9 => ⟨⟨_, (1, nw, rk, K, E, L, td, wd), rfl, Or.inl ⟨Or.inl c_2, rfl⟩, by rw [ht9]; exact hP, va_K.moved hW9.alike hK, hD⟩, hS.F ht9⟩) hS.2.2 dX1_pass_42
  · refine lv_iload_n hx hb dX1_pass_5 rfl (lv_at hl 1 rfl) ?_
    refine lv_ldc (v := 200000) hx hb hown (hts (.constant RX1 41 200000) (by decide +kernel)) dX1_pass_6 ?_
    refine lv_icmp_le (tgt := 15) hx hb dX1_pass_8 (by decide) (fun c_8 => ?_) (fun c_8 => ?_)
    · refine lv_iload_n hx hb dX1_pass_15 rfl (lv_at hl 1 rfl) ?_
      refine lv_ldc (v := 1000000000) hx hb hown (hts (.constant RX1 32 1000000000) (by decide +kernel)) dX1_pass_16 ?_
      refine lv_aload_n hx hb dX1_pass_18 rfl (lv_at hl 0 rfl) ?_
      refine va_get (ci := 1) (v := .int nw) (C := RX1) (T := TX1) (N := 8) hx hb hts hinX1 hown hK hP 0 rfl rfl 1 (by decide) (hts (.fieldLink RX1 29 "AlarmBenchModel" "now" "I") (by decide +kernel)) (fun _ h9 => h9) rfl dX1_pass_19 ?_
      refine lv_isub hx hb dX1_pass_22 ?_
      refine lv_icmp_le (tgt := 30) hx hb dX1_pass_23 (by decide) (fun c_23 => ?_) (fun c_23 => ?_)
      · refine lv_iconst (v := 0) hx hb dX1_pass_30 (by decide) ?_
        refine va_put (ci := 1) (v := .int 0) (ty := .int) (C := RX1) (T := TX1) (N := 8) hx hb hts hinX1 tyX1 tyX1_ok nmX1 hown hK hP hD hS 0 rfl rfl 0 (by decide) (hts (.fieldLink RX1 23 "AlarmBenchModel" "code" "I") (by decide +kernel)) (fun _ h9 => h9) rfl (by decide +kernel) rfl rfl (Nat.le_of_ble_eq_true rfl) dX1_pass_31 (fun H locs hP hD hS => ?_)
        have hP : va_P D vwCl (mdW h1 b1 b2 b3 cJ 0 nw rk K E L td wd) H := hP
        have hD : va_D A (mdW h1 b1 b2 b3 cJ 0 nw rk K E L td wd) := hD
        refine lv_aload_n hx hb dX1_pass_34 rfl (lv_at hl 0 rfl) ?_
        refine va_get (ci := 1) (v := .int 0) (C := RX1) (T := TX1) (N := 8) hx hb hts hinX1 hown hK hP 0 rfl rfl 0 (by decide) (hts (.fieldLink RX1 23 "AlarmBenchModel" "code" "I") (by decide +kernel)) (fun _ h9 => h9) rfl dX1_pass_35 ?_
        refine lv_if_le (tgt := 43) hx hb dX1_pass_38 (by decide) (fun c_38 => ?_) (fun c_38 => ?_)
        · refine lv_aload_n hx hb dX1_pass_43 rfl (lv_at hl 0 rfl) ?_
          refine lv_dup hx hb dX1_pass_44 rfl ?_
          refine va_get (ci := 1) (v := .int nw) (C := RX1) (T := TX1) (N := 8) hx hb hts hinX1 hown hK hP 0 rfl rfl 1 (by decide) (hts (.fieldLink RX1 29 "AlarmBenchModel" "now" "I") (by decide +kernel)) (fun _ h9 => h9) rfl dX1_pass_45 ?_
          refine lv_iload_n hx hb dX1_pass_48 rfl (lv_at hl 1 rfl) ?_
          refine lv_iadd hx hb dX1_pass_49 ?_
          refine va_put (ci := 1) (v := .int (nw + x)) (ty := .int) (C := RX1) (T := TX1) (N := 8) hx hb hts hinX1 tyX1 tyX1_ok nmX1 hown hK hP hD hS 0 rfl rfl 1 (by decide) (hts (.fieldLink RX1 29 "AlarmBenchModel" "now" "I") (by decide +kernel)) (fun _ h9 => h9) rfl (by decide +kernel) rfl rfl (Nat.le_of_ble_eq_true rfl) dX1_pass_50 (fun H locs hP hD hS => ?_)
          have hP : va_P D vwCl (mdW h1 b1 b2 b3 cJ 0 (nw + x) rk K E L td wd) H := hP
          have hD : va_D A (mdW h1 b1 b2 b3 cJ 0 (nw + x) rk K E L td wd) := hD
          refine lv_aload_n hx hb dX1_pass_53 rfl (lv_at hl 0 rfl) ?_
          refine va_get (ci := 1) (v := .int (nw + x)) (C := RX1) (T := TX1) (N := 8) hx hb hts hinX1 hown hK hP 0 rfl rfl 1 (by decide) (hts (.fieldLink RX1 29 "AlarmBenchModel" "now" "I") (by decide +kernel)) (fun _ h9 => h9) rfl dX1_pass_54 ?_
          exact W.iret (v := nw + x) hx hb hr (fun t9 ht9 hW9 => ⟨⟨_, (0, nw + x, rk, K, E, L, td, wd), rfl, Or.inr (Or.inr ⟨c_2, Int32.not_lt.mpr c_8, Int32.not_lt.mpr c_23, rfl, rfl⟩), by rw [ht9]; exact hP, va_K.moved hW9.alike hK, hD⟩, hS.F ht9⟩) hS.2.2 dX1_pass_57
        · exact absurd (by decide) c_38
      · refine lv_iconst (v := 2) hx hb dX1_pass_26 (by decide) ?_
        refine lv_goto (tgt := 31) hx hb dX1_pass_27 (by decide) ?_
        refine va_put (ci := 1) (v := .int 2) (ty := .int) (C := RX1) (T := TX1) (N := 8) hx hb hts hinX1 tyX1 tyX1_ok nmX1 hown hK hP hD hS 0 rfl rfl 0 (by decide) (hts (.fieldLink RX1 23 "AlarmBenchModel" "code" "I") (by decide +kernel)) (fun _ h9 => h9) rfl (by decide +kernel) rfl rfl (Nat.le_of_ble_eq_true rfl) dX1_pass_31 (fun H locs hP hD hS => ?_)
        have hP : va_P D vwCl (mdW h1 b1 b2 b3 cJ 2 nw rk K E L td wd) H := hP
        have hD : va_D A (mdW h1 b1 b2 b3 cJ 2 nw rk K E L td wd) := hD
        refine lv_aload_n hx hb dX1_pass_34 rfl (lv_at hl 0 rfl) ?_
        refine va_get (ci := 1) (v := .int 2) (C := RX1) (T := TX1) (N := 8) hx hb hts hinX1 hown hK hP 0 rfl rfl 0 (by decide) (hts (.fieldLink RX1 23 "AlarmBenchModel" "code" "I") (by decide +kernel)) (fun _ h9 => h9) rfl dX1_pass_35 ?_
        refine lv_if_le (tgt := 43) hx hb dX1_pass_38 (by decide) (fun c_38 => ?_) (fun c_38 => ?_)
        · exact absurd c_38 (by decide)
        · refine lv_iconst (v := 0) hx hb dX1_pass_41 (by decide) ?_
          exact W.iret (v := 0) hx hb hr (fun t9 ht9 hW9 => ⟨⟨_, (2, nw, rk, K, E, L, td, wd), rfl, Or.inr (Or.inl ⟨c_2, Int32.not_lt.mpr c_8, Int32.not_le.mp c_23, rfl⟩), by rw [ht9]; exact hP, va_K.moved hW9.alike hK, hD⟩, hS.F ht9⟩) hS.2.2 dX1_pass_42
    · refine lv_iconst (v := 1) hx hb dX1_pass_11 (by decide) ?_
      refine lv_goto (tgt := 31) hx hb dX1_pass_12 (by decide) ?_
      refine va_put (ci := 1) (v := .int 1) (ty := .int) (C := RX1) (T := TX1) (N := 8) hx hb hts hinX1 tyX1 tyX1_ok nmX1 hown hK hP hD hS 0 rfl rfl 0 (by decide) (hts (.fieldLink RX1 23 "AlarmBenchModel" "code" "I") (by decide +kernel)) (fun _ h9 => h9) rfl (by decide +kernel) rfl rfl (Nat.le_of_ble_eq_true rfl) dX1_pass_31 (fun H locs hP hD hS => ?_)
      have hP : va_P D vwCl (mdW h1 b1 b2 b3 cJ 1 nw rk K E L td wd) H := hP
      have hD : va_D A (mdW h1 b1 b2 b3 cJ 1 nw rk K E L td wd) := hD
      refine lv_aload_n hx hb dX1_pass_34 rfl (lv_at hl 0 rfl) ?_
      refine va_get (ci := 1) (v := .int 1) (C := RX1) (T := TX1) (N := 8) hx hb hts hinX1 hown hK hP 0 rfl rfl 0 (by decide) (hts (.fieldLink RX1 23 "AlarmBenchModel" "code" "I") (by decide +kernel)) (fun _ h9 => h9) rfl dX1_pass_35 ?_
      refine lv_if_le (tgt := 43) hx hb dX1_pass_38 (by decide) (fun c_38 => ?_) (fun c_38 => ?_)
      · exact absurd c_38 (by decide)
      · refine lv_iconst (v := 0) hx hb dX1_pass_41 (by decide) ?_
        exact W.iret (v := 0) hx hb hr (fun t9 ht9 hW9 => ⟨⟨_, (1, nw, rk, K, E, L, td, wd), rfl, Or.inl ⟨Or.inr (Int32.not_le.mp c_8), rfl⟩, by rw [ht9]; exact hP, va_K.moved hW9.alike hK, hD⟩, hS.F ht9⟩) hS.2.2 dX1_pass_42
set_option maxHeartbeats 4000000 in
set_option maxRecDepth 100000 in
/-- reference: about -/
theorem m_about (l : Launch) (D : va_G) (h1 b1 b2 b3 : Nat) (cJ : ClassId) (cd nw rk : Int32) (K E L : Nat → Int32) (td wd : Int32) (sz : Nat) (x w : Int32) : Met l yX1_about wsX1_about ({ frames := 1, cells := 0, slots := 0, locals := 21 } : Room) (kz_Pc D vwCl (mdT cJ) (mdW h1 b1 b2 b3 cJ cd nw rk K E L td wd) sz [.ref h1, .int x, .int w]) (va_Qi (fun (r : Int32) (u : MDs) => (¬ (md_al K x ∧ ¬ w < 0 ∧ ¬ 1 < w) ∧ u = (1, nw, rk, K, E, L, td, wd)) ∨ (∃ k : Nat, k < 512 ∧ x = nI k ∧ ¬ K k ≤ 0 ∧ ¬ w < 0 ∧ ¬ 1 < w ∧ ((w = 0 ∧ r = E k) ∨ (¬ w = 0 ∧ r = L k)) ∧ u = (0, nw, rk, K, E, L, td, wd))) (kz_B D vwCl (mdT cJ) (mdU h1 b1 b2 b3 cJ) (va_A (mdW h1 b1 b2 b3 cJ cd nw rk K E L td wd) sz)) (va_A (mdW h1 b1 b2 b3 cJ cd nw rk K E L td wd) sz)) 0 0 (va_A (mdW h1 b1 b2 b3 cJ cd nw rk K E L td wd) sz) := by
  refine Met.ofW (cc := cX1_about) (maxL := 3) (ret := some .int) (by decide) rfl ?_
  intro p e s m args below meth c s₁ B hml hv
  obtain ⟨rfl, hsz, hP, hK, hD0⟩ := hv
  have hx := B.exec
  have hb := B.bytes
  have hr := B.returns
  have hts := atoms_spec (ws := wsX1_about) B.pre
  have hown : s.vm.findClass RX1 = some m.cls := findClass_of_methodNamed B.named
  have hlocks := B.notSynchronized
  have hinX1 : ∀ w ∈ wsX10, w ∈ wsX1_about := by decide +kernel
  subst hsz
  have hD := hD0.self (sz := s.heap.size)
  generalize hAe : va_A (mdW h1 b1 b2 b3 cJ cd nw rk K E L td wd) s.heap.size = A at hD ⊢
  have hA : ∀ q : Nat, s.heap.size ≤ q → A q := fun q h => by rw [← hAe]; exact Or.inr h
  have hS : va_S A s.heap s.heap [] := va_S.rf
  refine kz_enter [.ref h1, .int x, .int w] (Nat.le_of_ble_eq_true rfl) (fun ls hl => ?_)
  have hl : lv_has ls 3 [(0, .ref h1), (1, .int x), (2, .int w)] := hl
  refine lv_aload_n hx hb dX1_about_0 rfl (lv_at hl 0 rfl) ?_
  refine lv_aload_n hx hb dX1_about_1 rfl (lv_at hl 0 rfl) ?_
  refine lv_iload_n hx hb dX1_about_2 rfl (lv_at hl 1 rfl) ?_
  refine kz_callR (As := [.int x]) (rest := [.ref h1]) ⟨hx, hb, hml, hown, hts⟩ (m_isAlarm l D h1 b1 b2 b3 cJ cd nw rk K E L td wd x) (cwV 1 hts gX1_about_X1_isAlarm rfl rfl rfl (by decide +kernel) ⟨Nat.le_of_ble_eq_true rfl, Nat.le_of_ble_eq_true rfl⟩) hP hK (va_recv hK hP (ci := 1) (q0 := 0) rfl rfl) rfl hl.1 rfl (Nat.le_of_ble_eq_true rfl) dX1_about_3 ⟨Nat.zero_le _, Nat.zero_le _⟩ (fun r_1 hr_2 => ?_)
  refine lv_if_eq (tgt := 18) hx hb dX1_about_6 (by decide) (fun c_6 => ?_) (fun c_6 => ?_)
  · have hS0 := hr_2.f c_6
    refine lv_iconst (v := 1) hx hb dX1_about_18 (by decide) ?_
    refine lv_goto (tgt := 23) hx hb dX1_about_19 (by decide) ?_
    refine va_put (ci := 1) (v := .int 1) (ty := .int) (C := RX1) (T := TX1) (N := 8) hx hb hts hinX1 tyX1 tyX1_ok nmX1 hown hK hP hD hS 0 rfl rfl 0 (by decide) (hts (.fieldLink RX1 23 "AlarmBenchModel" "code" "I") (by decide +kernel)) (fun _ h9 => h9) rfl (by decide +kernel) rfl rfl (Nat.le_of_ble_eq_true rfl) dX1_about_23 (fun H locs hP hD hS => ?_)
    have hP : va_P D vwCl (mdW h1 b1 b2 b3 cJ 1 nw rk K E L td wd) H := hP
    have hD : va_D A (mdW h1 b1 b2 b3 cJ 1 nw rk K E L td wd) := hD
    refine lv_aload_n hx hb dX1_about_26 rfl (lv_at hl 0 rfl) ?_
    refine va_get (ci := 1) (v := .int 1) (C := RX1) (T := TX1) (N := 8) hx hb hts hinX1 hown hK hP 0 rfl rfl 0 (by decide) (hts (.fieldLink RX1 23 "AlarmBenchModel" "code" "I") (by decide +kernel)) (fun _ h9 => h9) rfl dX1_about_27 ?_
    refine lv_if_le (tgt := 37) hx hb dX1_about_30 (by decide) (fun c_30 => ?_) (fun c_30 => ?_)
    · exact absurd c_30 (by decide)
    · refine lv_iconst (v := 0) hx hb dX1_about_33 (by decide) ?_
      refine lv_goto (tgt := 56) hx hb dX1_about_34 (by decide) ?_
      exact W.iret (v := 0) hx hb hr (fun t9 ht9 hW9 => ⟨⟨_, (1, nw, rk, K, E, L, td, wd), rfl, Or.inl ⟨fun h9 => hS0 h9.1, rfl⟩, by rw [ht9]; exact hP, va_K.moved hW9.alike hK, hD⟩, hS.F ht9⟩) hS.2.2 dX1_about_56
  · obtain ⟨k, hk, rfl, hS0⟩ := hr_2.t c_6
    refine lv_iload_n hx hb dX1_about_9 rfl (lv_at hl 2 rfl) ?_
    refine lv_if_lt (tgt := 18) hx hb dX1_about_10 (by decide) (fun c_10 => ?_) (fun c_10 => ?_)
    · refine lv_iconst (v := 1) hx hb dX1_about_18 (by decide) ?_
      refine lv_goto (tgt := 23) hx hb dX1_about_19 (by decide) ?_
      refine va_put (ci := 1) (v := .int 1) (ty := .int) (C := RX1) (T := TX1) (N := 8) hx hb hts hinX1 tyX1 tyX1_ok nmX1 hown hK hP hD hS 0 rfl rfl 0 (by decide) (hts (.fieldLink RX1 23 "AlarmBenchModel" "code" "I") (by decide +kernel)) (fun _ h9 => h9) rfl (by decide +kernel) rfl rfl (Nat.le_of_ble_eq_true rfl) dX1_about_23 (fun H locs hP hD hS => ?_)
      have hP : va_P D vwCl (mdW h1 b1 b2 b3 cJ 1 nw rk K E L td wd) H := hP
      have hD : va_D A (mdW h1 b1 b2 b3 cJ 1 nw rk K E L td wd) := hD
      refine lv_aload_n hx hb dX1_about_26 rfl (lv_at hl 0 rfl) ?_
      refine va_get (ci := 1) (v := .int 1) (C := RX1) (T := TX1) (N := 8) hx hb hts hinX1 hown hK hP 0 rfl rfl 0 (by decide) (hts (.fieldLink RX1 23 "AlarmBenchModel" "code" "I") (by decide +kernel)) (fun _ h9 => h9) rfl dX1_about_27 ?_
      refine lv_if_le (tgt := 37) hx hb dX1_about_30 (by decide) (fun c_30 => ?_) (fun c_30 => ?_)
      · exact absurd c_30 (by decide)
      · refine lv_iconst (v := 0) hx hb dX1_about_33 (by decide) ?_
        refine lv_goto (tgt := 56) hx hb dX1_about_34 (by decide) ?_
        exact W.iret (v := 0) hx hb hr (fun t9 ht9 hW9 => ⟨⟨_, (1, nw, rk, K, E, L, td, wd), rfl, Or.inl ⟨fun h9 => h9.2.1 c_10, rfl⟩, by rw [ht9]; exact hP, va_K.moved hW9.alike hK, hD⟩, hS.F ht9⟩) hS.2.2 dX1_about_56
    · refine lv_iload_n hx hb dX1_about_13 rfl (lv_at hl 2 rfl) ?_
      refine lv_iconst (v := 1) hx hb dX1_about_14 (by decide) ?_
      refine lv_icmp_le (tgt := 22) hx hb dX1_about_15 (by decide) (fun c_15 => ?_) (fun c_15 => ?_)
      · refine lv_iconst (v := 0) hx hb dX1_about_22 (by decide) ?_
        refine va_put (ci := 1) (v := .int 0) (ty := .int) (C := RX1) (T := TX1) (N := 8) hx hb hts hinX1 tyX1 tyX1_ok nmX1 hown hK hP hD hS 0 rfl rfl 0 (by decide) (hts (.fieldLink RX1 23 "AlarmBenchModel" "code" "I") (by decide +kernel)) (fun _ h9 => h9) rfl (by decide +kernel) rfl rfl (Nat.le_of_ble_eq_true rfl) dX1_about_23 (fun H locs hP hD hS => ?_)
        have hP : va_P D vwCl (mdW h1 b1 b2 b3 cJ 0 nw rk K E L td wd) H := hP
        have hD : va_D A (mdW h1 b1 b2 b3 cJ 0 nw rk K E L td wd) := hD
        refine lv_aload_n hx hb dX1_about_26 rfl (lv_at hl 0 rfl) ?_
        refine va_get (ci := 1) (v := .int 0) (C := RX1) (T := TX1) (N := 8) hx hb hts hinX1 hown hK hP 0 rfl rfl 0 (by decide) (hts (.fieldLink RX1 23 "AlarmBenchModel" "code" "I") (by decide +kernel)) (fun _ h9 => h9) rfl dX1_about_27 ?_
        refine lv_if_le (tgt := 37) hx hb dX1_about_30 (by decide) (fun c_30 => ?_) (fun c_30 => ?_)
        · refine lv_iload_n hx hb dX1_about_37 rfl (lv_at hl 2 rfl) ?_
          refine lv_if_ne (tgt := 50) hx hb dX1_about_38 (by decide) (fun c_38 => ?_) (fun c_38 => ?_)
          · refine lv_aload_n hx hb dX1_about_50 rfl (lv_at hl 0 rfl) ?_
            refine va_get (ci := 1) (v := .ref b3) (C := RX1) (T := TX1) (N := 8) hx hb hts hinX1 hown hK hP 0 rfl rfl 5 (by decide) (hts (.fieldLink RX1 16 "AlarmBenchModel" "tells" "[I") (by decide +kernel)) (fun _ h9 => h9) rfl dX1_about_51 ?_
            refine lv_iload_n hx hb dX1_about_54 rfl (lv_at hl 1 rfl) ?_
            refine kz_iald hx hb hK hP 3 0 rfl rfl hk (by decide) dX1_about_55 ?_
            exact W.iret (v := L k) hx hb hr (fun t9 ht9 hW9 => ⟨⟨_, (0, nw, rk, K, E, L, td, wd), rfl, Or.inr ⟨k, hk, rfl, hS0, c_10, Int32.not_lt.mpr c_15, Or.inr ⟨c_38, rfl⟩, rfl⟩, by rw [ht9]; exact hP, va_K.moved hW9.alike hK, hD⟩, hS.F ht9⟩) hS.2.2 dX1_about_56
          · refine lv_aload_n hx hb dX1_about_41 rfl (lv_at hl 0 rfl) ?_
            refine va_get (ci := 1) (v := .ref b2) (C := RX1) (T := TX1) (N := 8) hx hb hts hinX1 hown hK hP 0 rfl rfl 4 (by decide) (hts (.fieldLink RX1 13 "AlarmBenchModel" "due" "[I") (by decide +kernel)) (fun _ h9 => h9) rfl dX1_about_42 ?_
            refine lv_iload_n hx hb dX1_about_45 rfl (lv_at hl 1 rfl) ?_
            refine kz_iald hx hb hK hP 2 0 rfl rfl hk (by decide) dX1_about_46 ?_
            refine lv_goto (tgt := 56) hx hb dX1_about_47 (by decide) ?_
            exact W.iret (v := E k) hx hb hr (fun t9 ht9 hW9 => ⟨⟨_, (0, nw, rk, K, E, L, td, wd), rfl, Or.inr ⟨k, hk, rfl, hS0, c_10, Int32.not_lt.mpr c_15, Or.inl ⟨c_38, rfl⟩, rfl⟩, by rw [ht9]; exact hP, va_K.moved hW9.alike hK, hD⟩, hS.F ht9⟩) hS.2.2 dX1_about_56
        · exact absurd (by decide) c_30
      · refine lv_iconst (v := 1) hx hb dX1_about_18 (by decide) ?_
        refine lv_goto (tgt := 23) hx hb dX1_about_19 (by decide) ?_
        refine va_put (ci := 1) (v := .int 1) (ty := .int) (C := RX1) (T := TX1) (N := 8) hx hb hts hinX1 tyX1 tyX1_ok nmX1 hown hK hP hD hS 0 rfl rfl 0 (by decide) (hts (.fieldLink RX1 23 "AlarmBenchModel" "code" "I") (by decide +kernel)) (fun _ h9 => h9) rfl (by decide +kernel) rfl rfl (Nat.le_of_ble_eq_true rfl) dX1_about_23 (fun H locs hP hD hS => ?_)
        have hP : va_P D vwCl (mdW h1 b1 b2 b3 cJ 1 nw rk K E L td wd) H := hP
        have hD : va_D A (mdW h1 b1 b2 b3 cJ 1 nw rk K E L td wd) := hD
        refine lv_aload_n hx hb dX1_about_26 rfl (lv_at hl 0 rfl) ?_
        refine va_get (ci := 1) (v := .int 1) (C := RX1) (T := TX1) (N := 8) hx hb hts hinX1 hown hK hP 0 rfl rfl 0 (by decide) (hts (.fieldLink RX1 23 "AlarmBenchModel" "code" "I") (by decide +kernel)) (fun _ h9 => h9) rfl dX1_about_27 ?_
        refine lv_if_le (tgt := 37) hx hb dX1_about_30 (by decide) (fun c_30 => ?_) (fun c_30 => ?_)
        · exact absurd c_30 (by decide)
        · refine lv_iconst (v := 0) hx hb dX1_about_33 (by decide) ?_
          refine lv_goto (tgt := 56) hx hb dX1_about_34 (by decide) ?_
          exact W.iret (v := 0) hx hb hr (fun t9 ht9 hW9 => ⟨⟨_, (1, nw, rk, K, E, L, td, wd), rfl, Or.inl ⟨fun h9 => h9.2.2 (Int32.not_le.mp c_15), rfl⟩, by rw [ht9]; exact hP, va_K.moved hW9.alike hK, hD⟩, hS.F ht9⟩) hS.2.2 dX1_about_56
