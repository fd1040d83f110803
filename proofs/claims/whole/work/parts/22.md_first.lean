set_option maxHeartbeats 4000000 in
set_option maxRecDepth 100000 in
/-- reference: first -/
theorem m_first (l : Launch) (D : va_G) (h1 b1 b2 b3 : Nat) (cJ : ClassId) (cd nw rk : Int32) (K E L : Nat → Int32) (td wd : Int32)  : Met l yX1_first wsX1_first ({ frames := 0, cells := 0, slots := 0, locals := 0 } : Room) (va_Pc [.ref h1] (fun U => va_P D vwCl (mdW h1 b1 b2 b3 cJ cd nw rk K E L td wd) U.heap ∧ va_K D vwCl (mdT cJ) U)) (vp_Si (fun r => r = oI (ab_fst (md_S K) E K 512))) 0 0 (fun _ => False) := by
  refine Met.ofW (cc := cX1_first) (maxL := 4) (ret := some .int) (by decide) rfl ?_
  intro p e s m args below meth c s₁ B hml hv
  obtain ⟨rfl, hP, hK⟩ := hv
  have hx := B.exec
  have hb := B.bytes
  have hr := B.returns
  have hts := atoms_spec (ws := wsX1_first) B.pre
  have hown : s.vm.findClass RX1 = some m.cls := findClass_of_methodNamed B.named
  have hlocks := B.notSynchronized
  have hinX1 : ∀ w ∈ wsX10, w ∈ wsX1_first := by decide +kernel
  refine kz_enter [.ref h1] (Nat.le_of_ble_eq_true rfl) (fun ls hl => ?_)
  have hl : lv_has ls 4 [(0, .ref h1)] := hl
  refine lv_iconst (v := -1) hx hb dX1_first_0 (by decide) ?_
  refine lv_istore_n (lv' := [(1, .int ((-1))), (0, .ref h1)]) hx hb dX1_first_1 rfl hl (by decide) rfl (fun ls hl => ?_)
  refine lv_iconst (v := 0) hx hb dX1_first_2 (by decide) ?_
  refine lv_istore_n (lv' := [(2, .int 0), (1, .int ((-1))), (0, .ref h1)]) hx hb dX1_first_3 rfl hl (by decide) rfl (fun ls hl => ?_)
  refine kz_loop (G := fun ls : Array Slot => W p l e _ s m _ below meth c s.heap [] 0 0 _ (F0 m 4 ls [])) (I := fun k ls => lv_has ls 4 [(2, .int (nI k)), (1, .int (oI (ab_fst (md_S K) E K k))), (0, .ref h1)]) 512 ?_ ?_ 0 (Nat.zero_le _) ls (lv_sub hl [0, 1, 2] rfl)
  · intro k ls hk hl ih
    refine lv_iload_n hx hb dX1_first_4 rfl (lv_at hl 0 rfl) ?_
    refine lv_sipush (v := 512) hx hb dX1_first_5 (by decide) ?_
    refine lv_icmp_ge (tgt := 91) hx hb dX1_first_8 (by decide) (fun c_8 => ?_) (fun c_8 => ?_)
    · exact absurd c_8 (nI_ge (a := k) (b := 512) hk (by decide))
    · refine lv_iload_n hx hb dX1_first_11 rfl (lv_at hl 1 rfl) ?_
      refine lv_if_lt (tgt := 60) hx hb dX1_first_12 (by decide) (fun c_12 => ?_) (fun c_12 => ?_)
      · have hn0 := oI_neg c_12 (fun j hj => Nat.lt_trans (ab_fst_lt hj).1 (Nat.lt_trans hk (by decide)))
        refine lv_iconst (v := 1) hx hb dX1_first_60 (by decide) ?_
        refine lv_goto (tgt := 65) hx hb dX1_first_61 (by decide) ?_
        refine lv_istore_n (lv' := [(3, .int 1), (2, .int (nI k)), (1, .int (oI (ab_fst (md_S K) E K k))), (0, .ref h1)]) hx hb dX1_first_65 rfl hl (by decide) rfl (fun ls hl => ?_)
        refine lv_aload_n hx hb dX1_first_66 rfl (lv_at hl 3 rfl) ?_
        refine va_get (ci := 1) (v := .ref b1) (C := RX1) (T := TX1) (N := 8) hx hb hts hinX1 hown hK hP 0 rfl rfl 3 (by decide) (hts (.fieldLink RX1 7 "AlarmBenchModel" "rank" "[I") (by decide +kernel)) (fun _ h9 => h9) rfl dX1_first_67 ?_
        refine lv_iload_n hx hb dX1_first_70 rfl (lv_at hl 1 rfl) ?_
        refine kz_iald hx hb hK hP 1 0 rfl rfl hk (by decide) dX1_first_71 ?_
        refine lv_if_le (tgt := 83) hx hb dX1_first_72 (by decide) (fun c_72 => ?_) (fun c_72 => ?_)
        · refine lv_iload_n hx hb dX1_first_83 rfl (lv_at hl 2 rfl) ?_
          refine lv_istore_n (lv' := [(1, .int (oI (ab_fst (md_S K) E K k))), (3, .int 1), (2, .int (nI k)), (0, .ref h1)]) hx hb dX1_first_84 rfl hl (by decide) rfl (fun ls hl => ?_)
          refine lv_iinc (v := nI (k + 1)) (lv' := [(2, .int (nI (k + 1))), (1, .int (oI (ab_fst (md_S K) E K k))), (3, .int 1), (0, .ref h1)]) hx hb dX1_first_85 hl (k := 2) rfl (kz_inc k) (by decide) rfl (fun ls hl => ?_)
          refine lv_goto (tgt := 4) hx hb dX1_first_88 (by decide) ?_
          exact ih ls (by rw [ab_fst_0 (md_S0 c_72)]; exact lv_sub hl [0, 1, 3] rfl)
        · refine lv_iload_n hx hb dX1_first_75 rfl (lv_at hl 0 rfl) ?_
          refine lv_if_eq (tgt := 83) hx hb dX1_first_76 (by decide) (fun c_76 => ?_) (fun c_76 => ?_)
          · exact absurd c_76 (by decide)
          · refine lv_iload_n hx hb dX1_first_79 rfl (lv_at hl 1 rfl) ?_
            refine lv_goto (tgt := 84) hx hb dX1_first_80 (by decide) ?_
            refine lv_istore_n (lv' := [(1, .int (nI k)), (3, .int 1), (2, .int (nI k)), (0, .ref h1)]) hx hb dX1_first_84 rfl hl (by decide) rfl (fun ls hl => ?_)
            refine lv_iinc (v := nI (k + 1)) (lv' := [(2, .int (nI (k + 1))), (1, .int (nI k)), (3, .int 1), (0, .ref h1)]) hx hb dX1_first_85 hl (k := 2) rfl (kz_inc k) (by decide) rfl (fun ls hl => ?_)
            refine lv_goto (tgt := 4) hx hb dX1_first_88 (by decide) ?_
            exact ih ls (by rw [ab_fst_n (md_S1 c_72) hn0]; exact lv_sub hl [0, 1, 3] rfl)
      · obtain ⟨j0, hj0⟩ := oI_pos c_12
        have hjk : j0 < 512 := Nat.lt_trans (ab_fst_lt hj0).1 hk
        rw [hj0] at hl
        have hl : lv_has ls 4 [(2, .int (nI k)), (1, .int (nI j0)), (0, .ref h1)] := hl
        refine lv_aload_n hx hb dX1_first_15 rfl (lv_at hl 2 rfl) ?_
        refine va_get (ci := 1) (v := .ref b2) (C := RX1) (T := TX1) (N := 8) hx hb hts hinX1 hown hK hP 0 rfl rfl 4 (by decide) (hts (.fieldLink RX1 13 "AlarmBenchModel" "due" "[I") (by decide +kernel)) (fun _ h9 => h9) rfl dX1_first_16 ?_
        refine lv_iload_n hx hb dX1_first_19 rfl (lv_at hl 0 rfl) ?_
        refine kz_iald hx hb hK hP 2 0 rfl rfl hk (by decide) dX1_first_20 ?_
        refine lv_aload_n hx hb dX1_first_21 rfl (lv_at hl 2 rfl) ?_
        refine va_get (ci := 1) (v := .ref b2) (C := RX1) (T := TX1) (N := 8) hx hb hts hinX1 hown hK hP 0 rfl rfl 4 (by decide) (hts (.fieldLink RX1 13 "AlarmBenchModel" "due" "[I") (by decide +kernel)) (fun _ h9 => h9) rfl dX1_first_22 ?_
        refine lv_iload_n hx hb dX1_first_25 rfl (lv_at hl 1 rfl) ?_
        refine kz_iald hx hb hK hP 2 0 rfl rfl hjk (by decide) dX1_first_26 ?_
        refine lv_icmp_lt (tgt := 60) hx hb dX1_first_27 (by decide) (fun c_27 => ?_) (fun c_27 => ?_)
        · refine lv_iconst (v := 1) hx hb dX1_first_60 (by decide) ?_
          refine lv_goto (tgt := 65) hx hb dX1_first_61 (by decide) ?_
          refine lv_istore_n (lv' := [(3, .int 1), (2, .int (nI k)), (1, .int (nI j0)), (0, .ref h1)]) hx hb dX1_first_65 rfl hl (by decide) rfl (fun ls hl => ?_)
          refine lv_aload_n hx hb dX1_first_66 rfl (lv_at hl 3 rfl) ?_
          refine va_get (ci := 1) (v := .ref b1) (C := RX1) (T := TX1) (N := 8) hx hb hts hinX1 hown hK hP 0 rfl rfl 3 (by decide) (hts (.fieldLink RX1 7 "AlarmBenchModel" "rank" "[I") (by decide +kernel)) (fun _ h9 => h9) rfl dX1_first_67 ?_
          refine lv_iload_n hx hb dX1_first_70 rfl (lv_at hl 1 rfl) ?_
          refine kz_iald hx hb hK hP 1 0 rfl rfl hk (by decide) dX1_first_71 ?_
          refine lv_if_le (tgt := 83) hx hb dX1_first_72 (by decide) (fun c_72 => ?_) (fun c_72 => ?_)
          · refine lv_iload_n hx hb dX1_first_83 rfl (lv_at hl 2 rfl) ?_
            refine lv_istore_n (lv' := [(1, .int (nI j0)), (3, .int 1), (2, .int (nI k)), (0, .ref h1)]) hx hb dX1_first_84 rfl hl (by decide) rfl (fun ls hl => ?_)
            refine lv_iinc (v := nI (k + 1)) (lv' := [(2, .int (nI (k + 1))), (1, .int (nI j0)), (3, .int 1), (0, .ref h1)]) hx hb dX1_first_85 hl (k := 2) rfl (kz_inc k) (by decide) rfl (fun ls hl => ?_)
            refine lv_goto (tgt := 4) hx hb dX1_first_88 (by decide) ?_
            exact ih ls (by rw [ab_fst_0 (md_S0 c_72), hj0]; exact lv_sub hl [0, 1, 3] rfl)
          · refine lv_iload_n hx hb dX1_first_75 rfl (lv_at hl 0 rfl) ?_
            refine lv_if_eq (tgt := 83) hx hb dX1_first_76 (by decide) (fun c_76 => ?_) (fun c_76 => ?_)
            · exact absurd c_76 (by decide)
            · refine lv_iload_n hx hb dX1_first_79 rfl (lv_at hl 1 rfl) ?_
              refine lv_goto (tgt := 84) hx hb dX1_first_80 (by decide) ?_
              refine lv_istore_n (lv' := [(1, .int (nI k)), (3, .int 1), (2, .int (nI k)), (0, .ref h1)]) hx hb dX1_first_84 rfl hl (by decide) rfl (fun ls hl => ?_)
              refine lv_iinc (v := nI (k + 1)) (lv' := [(2, .int (nI (k + 1))), (1, .int (nI k)), (3, .int 1), (0, .ref h1)]) hx hb dX1_first_85 hl (k := 2) rfl (kz_inc k) (by decide) rfl (fun ls hl => ?_)
              refine lv_goto (tgt := 4) hx hb dX1_first_88 (by decide) ?_
              exact ih ls (by rw [ab_fst_t (md_S1 c_72) hj0 (md_blt c_27)]; exact lv_sub hl [0, 1, 3] rfl)
        · refine lv_aload_n hx hb dX1_first_30 rfl (lv_at hl 2 rfl) ?_
          refine va_get (ci := 1) (v := .ref b2) (C := RX1) (T := TX1) (N := 8) hx hb hts hinX1 hown hK hP 0 rfl rfl 4 (by decide) (hts (.fieldLink RX1 13 "AlarmBenchModel" "due" "[I") (by decide +kernel)) (fun _ h9 => h9) rfl dX1_first_31 ?_
          refine lv_iload_n hx hb dX1_first_34 rfl (lv_at hl 0 rfl) ?_
          refine kz_iald hx hb hK hP 2 0 rfl rfl hk (by decide) dX1_first_35 ?_
          refine lv_aload_n hx hb dX1_first_36 rfl (lv_at hl 2 rfl) ?_
          refine va_get (ci := 1) (v := .ref b2) (C := RX1) (T := TX1) (N := 8) hx hb hts hinX1 hown hK hP 0 rfl rfl 4 (by decide) (hts (.fieldLink RX1 13 "AlarmBenchModel" "due" "[I") (by decide +kernel)) (fun _ h9 => h9) rfl dX1_first_37 ?_
          refine lv_iload_n hx hb dX1_first_40 rfl (lv_at hl 1 rfl) ?_
          refine kz_iald hx hb hK hP 2 0 rfl rfl hjk (by decide) dX1_first_41 ?_
          refine lv_icmp_ne (tgt := 64) hx hb dX1_first_42 (by decide) (fun c_42 => ?_) (fun c_42 => ?_)
          · refine lv_iconst (v := 0) hx hb dX1_first_64 (by decide) ?_
            refine lv_istore_n (lv' := [(3, .int 0), (2, .int (nI k)), (1, .int (nI j0)), (0, .ref h1)]) hx hb dX1_first_65 rfl hl (by decide) rfl (fun ls hl => ?_)
            refine lv_aload_n hx hb dX1_first_66 rfl (lv_at hl 3 rfl) ?_
            refine va_get (ci := 1) (v := .ref b1) (C := RX1) (T := TX1) (N := 8) hx hb hts hinX1 hown hK hP 0 rfl rfl 3 (by decide) (hts (.fieldLink RX1 7 "AlarmBenchModel" "rank" "[I") (by decide +kernel)) (fun _ h9 => h9) rfl dX1_first_67 ?_
            refine lv_iload_n hx hb dX1_first_70 rfl (lv_at hl 1 rfl) ?_
            refine kz_iald hx hb hK hP 1 0 rfl rfl hk (by decide) dX1_first_71 ?_
            refine lv_if_le (tgt := 83) hx hb dX1_first_72 (by decide) (fun c_72 => ?_) (fun c_72 => ?_)
            · refine lv_iload_n hx hb dX1_first_83 rfl (lv_at hl 2 rfl) ?_
              refine lv_istore_n (lv' := [(1, .int (nI j0)), (3, .int 0), (2, .int (nI k)), (0, .ref h1)]) hx hb dX1_first_84 rfl hl (by decide) rfl (fun ls hl => ?_)
              refine lv_iinc (v := nI (k + 1)) (lv' := [(2, .int (nI (k + 1))), (1, .int (nI j0)), (3, .int 0), (0, .ref h1)]) hx hb dX1_first_85 hl (k := 2) rfl (kz_inc k) (by decide) rfl (fun ls hl => ?_)
              refine lv_goto (tgt := 4) hx hb dX1_first_88 (by decide) ?_
              exact ih ls (by rw [ab_fst_0 (md_S0 c_72), hj0]; exact lv_sub hl [0, 1, 3] rfl)
            · refine lv_iload_n hx hb dX1_first_75 rfl (lv_at hl 0 rfl) ?_
              refine lv_if_eq (tgt := 83) hx hb dX1_first_76 (by decide) (fun c_76 => ?_) (fun c_76 => ?_)
              · refine lv_iload_n hx hb dX1_first_83 rfl (lv_at hl 2 rfl) ?_
                refine lv_istore_n (lv' := [(1, .int (nI j0)), (3, .int 0), (2, .int (nI k)), (0, .ref h1)]) hx hb dX1_first_84 rfl hl (by decide) rfl (fun ls hl => ?_)
                refine lv_iinc (v := nI (k + 1)) (lv' := [(2, .int (nI (k + 1))), (1, .int (nI j0)), (3, .int 0), (0, .ref h1)]) hx hb dX1_first_85 hl (k := 2) rfl (kz_inc k) (by decide) rfl (fun ls hl => ?_)
                refine lv_goto (tgt := 4) hx hb dX1_first_88 (by decide) ?_
                exact ih ls (by rw [ab_fst_f (md_S1 c_72) hj0 (md_bne c_27 c_42)]; exact lv_sub hl [0, 1, 3] rfl)
              · exact absurd rfl c_76
          · refine lv_aload_n hx hb dX1_first_45 rfl (lv_at hl 2 rfl) ?_
            refine va_get (ci := 1) (v := .ref b1) (C := RX1) (T := TX1) (N := 8) hx hb hts hinX1 hown hK hP 0 rfl rfl 3 (by decide) (hts (.fieldLink RX1 7 "AlarmBenchModel" "rank" "[I") (by decide +kernel)) (fun _ h9 => h9) rfl dX1_first_46 ?_
            refine lv_iload_n hx hb dX1_first_49 rfl (lv_at hl 0 rfl) ?_
            refine kz_iald hx hb hK hP 1 0 rfl rfl hk (by decide) dX1_first_50 ?_
            refine lv_aload_n hx hb dX1_first_51 rfl (lv_at hl 2 rfl) ?_
            refine va_get (ci := 1) (v := .ref b1) (C := RX1) (T := TX1) (N := 8) hx hb hts hinX1 hown hK hP 0 rfl rfl 3 (by decide) (hts (.fieldLink RX1 7 "AlarmBenchModel" "rank" "[I") (by decide +kernel)) (fun _ h9 => h9) rfl dX1_first_52 ?_
            refine lv_iload_n hx hb dX1_first_55 rfl (lv_at hl 1 rfl) ?_
            refine kz_iald hx hb hK hP 1 0 rfl rfl hjk (by decide) dX1_first_56 ?_
            refine lv_icmp_ge (tgt := 64) hx hb dX1_first_57 (by decide) (fun c_57 => ?_) (fun c_57 => ?_)
            · refine lv_iconst (v := 0) hx hb dX1_first_64 (by decide) ?_
              refine lv_istore_n (lv' := [(3, .int 0), (2, .int (nI k)), (1, .int (nI j0)), (0, .ref h1)]) hx hb dX1_first_65 rfl hl (by decide) rfl (fun ls hl => ?_)
              refine lv_aload_n hx hb dX1_first_66 rfl (lv_at hl 3 rfl) ?_
              refine va_get (ci := 1) (v := .ref b1) (C := RX1) (T := TX1) (N := 8) hx hb hts hinX1 hown hK hP 0 rfl rfl 3 (by decide) (hts (.fieldLink RX1 7 "AlarmBenchModel" "rank" "[I") (by decide +kernel)) (fun _ h9 => h9) rfl dX1_first_67 ?_
              refine lv_iload_n hx hb dX1_first_70 rfl (lv_at hl 1 rfl) ?_
              refine kz_iald hx hb hK hP 1 0 rfl rfl hk (by decide) dX1_first_71 ?_
              refine lv_if_le (tgt := 83) hx hb dX1_first_72 (by decide) (fun c_72 => ?_) (fun c_72 => ?_)
              · refine lv_iload_n hx hb dX1_first_83 rfl (lv_at hl 2 rfl) ?_
                refine lv_istore_n (lv' := [(1, .int (nI j0)), (3, .int 0), (2, .int (nI k)), (0, .ref h1)]) hx hb dX1_first_84 rfl hl (by decide) rfl (fun ls hl => ?_)
                refine lv_iinc (v := nI (k + 1)) (lv' := [(2, .int (nI (k + 1))), (1, .int (nI j0)), (3, .int 0), (0, .ref h1)]) hx hb dX1_first_85 hl (k := 2) rfl (kz_inc k) (by decide) rfl (fun ls hl => ?_)
                refine lv_goto (tgt := 4) hx hb dX1_first_88 (by decide) ?_
                exact ih ls (by rw [ab_fst_0 (md_S0 c_72), hj0]; exact lv_sub hl [0, 1, 3] rfl)
              · refine lv_iload_n hx hb dX1_first_75 rfl (lv_at hl 0 rfl) ?_
                refine lv_if_eq (tgt := 83) hx hb dX1_first_76 (by decide) (fun c_76 => ?_) (fun c_76 => ?_)
                · refine lv_iload_n hx hb dX1_first_83 rfl (lv_at hl 2 rfl) ?_
                  refine lv_istore_n (lv' := [(1, .int (nI j0)), (3, .int 0), (2, .int (nI k)), (0, .ref h1)]) hx hb dX1_first_84 rfl hl (by decide) rfl (fun ls hl => ?_)
                  refine lv_iinc (v := nI (k + 1)) (lv' := [(2, .int (nI (k + 1))), (1, .int (nI j0)), (3, .int 0), (0, .ref h1)]) hx hb dX1_first_85 hl (k := 2) rfl (kz_inc k) (by decide) rfl (fun ls hl => ?_)
                  refine lv_goto (tgt := 4) hx hb dX1_first_88 (by decide) ?_
                  exact ih ls (by rw [ab_fst_f (md_S1 c_72) hj0 (md_bge c_42 c_57)]; exact lv_sub hl [0, 1, 3] rfl)
                · exact absurd rfl c_76
            · refine lv_iconst (v := 1) hx hb dX1_first_60 (by decide) ?_
              refine lv_goto (tgt := 65) hx hb dX1_first_61 (by decide) ?_
              refine lv_istore_n (lv' := [(3, .int 1), (2, .int (nI k)), (1, .int (nI j0)), (0, .ref h1)]) hx hb dX1_first_65 rfl hl (by decide) rfl (fun ls hl => ?_)
              refine lv_aload_n hx hb dX1_first_66 rfl (lv_at hl 3 rfl) ?_
              refine va_get (ci := 1) (v := .ref b1) (C := RX1) (T := TX1) (N := 8) hx hb hts hinX1 hown hK hP 0 rfl rfl 3 (by decide) (hts (.fieldLink RX1 7 "AlarmBenchModel" "rank" "[I") (by decide +kernel)) (fun _ h9 => h9) rfl dX1_first_67 ?_
              refine lv_iload_n hx hb dX1_first_70 rfl (lv_at hl 1 rfl) ?_
              refine kz_iald hx hb hK hP 1 0 rfl rfl hk (by decide) dX1_first_71 ?_
              refine lv_if_le (tgt := 83) hx hb dX1_first_72 (by decide) (fun c_72 => ?_) (fun c_72 => ?_)
              · refine lv_iload_n hx hb dX1_first_83 rfl (lv_at hl 2 rfl) ?_
                refine lv_istore_n (lv' := [(1, .int (nI j0)), (3, .int 1), (2, .int (nI k)), (0, .ref h1)]) hx hb dX1_first_84 rfl hl (by decide) rfl (fun ls hl => ?_)
                refine lv_iinc (v := nI (k + 1)) (lv' := [(2, .int (nI (k + 1))), (1, .int (nI j0)), (3, .int 1), (0, .ref h1)]) hx hb dX1_first_85 hl (k := 2) rfl (kz_inc k) (by decide) rfl (fun ls hl => ?_)
                refine lv_goto (tgt := 4) hx hb dX1_first_88 (by decide) ?_
                exact ih ls (by rw [ab_fst_0 (md_S0 c_72), hj0]; exact lv_sub hl [0, 1, 3] rfl)
              · refine lv_iload_n hx hb dX1_first_75 rfl (lv_at hl 0 rfl) ?_
                refine lv_if_eq (tgt := 83) hx hb dX1_first_76 (by decide) (fun c_76 => ?_) (fun c_76 => ?_)
                · exact absurd c_76 (by decide)
                · refine lv_iload_n hx hb dX1_first_79 rfl (lv_at hl 1 rfl) ?_
                  refine lv_goto (tgt := 84) hx hb dX1_first_80 (by decide) ?_
                  refine lv_istore_n (lv' := [(1, .int (nI k)), (3, .int 1), (2, .int (nI k)), (0, .ref h1)]) hx hb dX1_first_84 rfl hl (by decide) rfl (fun ls hl => ?_)
                  refine lv_iinc (v := nI (k + 1)) (lv' := [(2, .int (nI (k + 1))), (1, .int (nI k)), (3, .int 1), (0, .ref h1)]) hx hb dX1_first_85 hl (k := 2) rfl (kz_inc k) (by decide) rfl (fun ls hl => ?_)
                  refine lv_goto (tgt := 4) hx hb dX1_first_88 (by decide) ?_
                  exact ih ls (by rw [ab_fst_t (md_S1 c_72) hj0 (md_beq c_42 c_57)]; exact lv_sub hl [0, 1, 3] rfl)
  · intro ls hl
    refine lv_iload_n hx hb dX1_first_4 rfl (lv_at hl 0 rfl) ?_
    refine lv_sipush (v := 512) hx hb dX1_first_5 (by decide) ?_
    refine lv_icmp_ge (tgt := 91) hx hb dX1_first_8 (by decide) (fun c_8 => ?_) (fun c_8 => ?_)
    · refine lv_iload_n hx hb dX1_first_91 rfl (lv_at hl 1 rfl) ?_
      exact W.iret (v := oI (ab_fst (md_S K) E K 512)) hx hb hr (fun t9 ht9 hW9 => ⟨_, rfl, rfl, ht9⟩) (fun q h => by cases h) dX1_first_92
    · exact absurd (Int32.le_refl _) c_8
