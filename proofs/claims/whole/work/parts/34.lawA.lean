set_option maxHeartbeats 4000000 in
set_option maxRecDepth 100000 in
theorem w_set {p : Program} {l : Launch} {e : Env} {s : State} {m : MethodId} {below : List Frame} {meth : Method} {c : Code} {D : va_G} {b L : Nat} {xs : Nat → Int32} {h0 a1 a2 a3 a4 : Nat} {cZ cI : ClassId} {h1 b1 b2 b3 : Nat} {cJ : ClassId} {o1 : Nat} {cL : ClassId} {j : Nat} {u : ABs} {v : MDs} {F : Nat → Int64} {H : Heap} {locs : List Loc} {ls : Array Slot} (C0 : lwC p l s m meth c b L xs D cZ cI cL cJ) (hj : 3 * j + 3 ≤ L) (hsim : sim j u v) (hP : va_P D vwCl (lwW h0 a1 a2 a3 a4 cZ cI h1 b1 b2 b3 cJ o1 cL u v F) H) (hD : va_D (fun q : Nat => s.heap.size ≤ q) (lwW h0 a1 a2 a3 a4 cZ cI h1 b1 b2 b3 cJ o1 cL u v F)) (hS : va_S (fun q : Nat => s.heap.size ≤ q) s.heap H locs) (hl : lv_has ls 7 [(0, .ref b), (1, .ref h0), (2, .ref h1), (3, .ref o1), (4, .int (nI (3 * j)))]) (go : lwGo p l e s m below meth c b D h0 a1 a2 a3 a4 cZ cI h1 b1 b2 b3 cJ o1 cL j) : W p l e room_1 s m #[Value.ref b] below meth c H locs (10 + j) (3601 + 6 * j) (lw_Z below #[Value.ref b] s) (F0 m 100 ls []) := by
  obtain ⟨⟨hx, hb, hr, hml, hown, hts, hX, hbl, hlocks, hgv⟩, hL, hl9, hK, hE, hN⟩ := C0
  have hA : ∀ q : Nat, s.heap.size ≤ q → (fun q : Nat => s.heap.size ≤ q) q := fun _ h => h
  have hbA : ¬ (fun q : Nat => s.heap.size ≤ q) b := Nat.not_le.mpr hbl
  have hown : s.vm.findClass RL = some m.cls := hown
  have htL : ∀ w ∈ wsL_law, w.before #[Value.ref b] s = true := fun w h => hts w (wsL_law_in w h)
  have hKa := hK.sub (tys' := abT cZ cI) [0, 1] rfl
  have hKh := hK.sub (tys' := hlT cZ cI cL) [0, 1, 2] rfl
  have hKm := hK.sub (tys' := mdT cJ) [3] rfl
  refine lv_aload_n hx hb dL_law_100 rfl (lv_at hl 1 rfl) ?_
  refine lv_aload_n hx hb dL_law_101 rfl (lv_at hl 0 rfl) ?_
  refine lv_iload hx hb dL_law_102 (lv_at hl 4 rfl) ?_
  refine lv_iconst (v := 1) hx hb dL_law_104 (by decide) ?_
  refine lv_iadd hx hb dL_law_105 ?_
  rw [nI_1]
  refine kz_sld hx hb hX hbl hbA hS (k := 3 * j + 1) (by omega) (by omega) dL_law_106 ?_
  refine lv_aload_n hx hb dL_law_107 rfl (lv_at hl 0 rfl) ?_
  refine lv_iload hx hb dL_law_108 (lv_at hl 4 rfl) ?_
  refine lv_iconst (v := 2) hx hb dL_law_110 (by decide) ?_
  refine lv_iadd hx hb dL_law_111 ?_
  rw [kz_p2]
  refine kz_sld hx hb hX hbl hbA hS (k := 3 * j + 2) (by omega) (by omega) dL_law_112 ?_
  refine lv_aload_n hx hb dL_law_113 rfl (lv_at hl 3 rfl) ?_
  refine hl_call (wc := hlW o1 cL F (abU h0 a1 a2 a3 a4 cZ cI u)) (wr := mdU h1 b1 b2 b3 cJ v) (w1 := hlU h0 a1 a2 a3 a4 cZ cI o1 cL) (As := [.ref h0, .int (xs (3 * j + 1)), .int (xs (3 * j + 2)), .ref o1]) (rest := []) ⟨hx, hb, hml, hown, htL⟩ (h_set l hl9 D h0 a1 a2 a3 a4 cZ cI o1 cL u.1 u.2.1 u.2.2.1 u.2.2.2.1 u.2.2.2.2.1 u.2.2.2.2.2.1 u.2.2.2.2.2.2.1 u.2.2.2.2.2.2.2 F _ (xs (3 * j + 1)) (xs (3 * j + 2))) (vx_cwSW 4 htL gL_law_L_set rfl rfl rfl (by decide +kernel) ⟨Nat.le_of_ble_eq_true rfl, Nat.le_of_ble_eq_true rfl⟩) hP hD hS hA hKh hE hN [0, 1, 2, 3, 4, 5] [6, 7, 8, 9] rfl rfl rfl rfl rfl (by decide) rfl hl.1 rfl (Nat.le_of_ble_eq_true rfl) dL_law_114 ⟨by show _ ≤ 1045; omega, by show _ ≤ 11859; omega⟩ (fun r1 w1 H locs hu hP hD hS => ?_)
  have hP := hP.sub (ws' := (lwW h0 a1 a2 a3 a4 cZ cI h1 b1 b2 b3 cJ o1 cL w1.1 v w1.2)) [4, 5, 6, 7, 8, 9, 0, 1, 2, 3] rfl
  have hD := hD.sub (ws' := (lwW h0 a1 a2 a3 a4 cZ cI h1 b1 b2 b3 cJ o1 cL w1.1 v w1.2)) [4, 5, 6, 7, 8, 9, 0, 1, 2, 3] (by decide) rfl
  refine lv_istore (lv' := [(5, .int r1), (0, .ref b), (1, .ref h0), (2, .ref h1), (3, .ref o1), (4, .int (nI (3 * j)))]) hx hb dL_law_117 hl (by decide) rfl (fun ls hl => ?_)
  refine lv_aload_n hx hb dL_law_119 rfl (lv_at hl 3 rfl) ?_
  refine lv_aload_n hx hb dL_law_120 rfl (lv_at hl 1 rfl) ?_
  refine lv_iload hx hb dL_law_121 (lv_at hl 5 rfl) ?_
  refine lv_iconst (v := 1) hx hb dL_law_123 (by decide) ?_
  refine lv_iadd hx hb dL_law_124 ?_
  rw [nI_1]
  refine kz_sld hx hb hX hbl hbA hS (k := 3 * j + 1) (by omega) (by omega) dL_law_125 ?_
  refine lv_aload_n hx hb dL_law_126 rfl (lv_at hl 1 rfl) ?_
  refine lv_iload hx hb dL_law_127 (lv_at hl 5 rfl) ?_
  refine lv_iconst (v := 2) hx hb dL_law_129 (by decide) ?_
  refine lv_iadd hx hb dL_law_130 ?_
  rw [kz_p2]
  refine kz_sld hx hb hX hbl hbA hS (k := 3 * j + 2) (by omega) (by omega) dL_law_131 ?_
  refine kz_calli (wc := mdU h1 b1 b2 b3 cJ v) (wr := hlW o1 cL w1.2 (abU h0 a1 a2 a3 a4 cZ cI w1.1)) (w1 := mdU h1 b1 b2 b3 cJ) (As := [.int (xs (3 * j + 1)), .int (xs (3 * j + 2))]) (rest := []) ⟨hx, hb, hml, hown, hts⟩ (m_set l D h1 b1 b2 b3 cJ v.1 v.2.1 v.2.2.1 v.2.2.2.1 v.2.2.2.2.1 v.2.2.2.2.2.1 v.2.2.2.2.2.2.1 v.2.2.2.2.2.2.2 _ (xs (3 * j + 1)) (xs (3 * j + 2))) (cwV 2 hts gW_X1_set rfl rfl rfl (by decide +kernel) ⟨Nat.le_of_ble_eq_true rfl, Nat.le_of_ble_eq_true rfl⟩) hP hD hS hA hKm [6, 7, 8, 9] [0, 1, 2, 3, 4, 5] rfl rfl rfl rfl rfl (by decide) (va_recv hK hP (ci := 1) (q0 := 6) rfl rfl) rfl hl.1 rfl (Nat.le_of_ble_eq_true rfl) dL_law_132 ⟨by show _ ≤ 1045; omega, by show _ ≤ 11859; omega⟩ (fun r2 v1 H locs hm hP hD hS => ?_)
  have hP : va_P D vwCl (lwW h0 a1 a2 a3 a4 cZ cI h1 b1 b2 b3 cJ o1 cL w1.1 v1 w1.2) H := hP
  have hD : va_D (fun q : Nat => s.heap.size ≤ q) (lwW h0 a1 a2 a3 a4 cZ cI h1 b1 b2 b3 cJ o1 cL w1.1 v1 w1.2) := hD
  obtain ⟨hq1, hq2, hsim⟩ := sim_set (by omega) hsim hu hm
  refine lv_istore (lv' := [(6, .int r2), (5, .int r1), (0, .ref b), (1, .ref h0), (2, .ref h1), (3, .ref o1), (4, .int (nI (3 * j)))]) hx hb dL_law_135 hl (by decide) rfl (fun ls hl => ?_)
  refine lv_aload_n hx hb dL_law_137 rfl (lv_at hl 4 rfl) ?_
  refine kz_callR (As := []) (rest := []) ⟨hx, hb, hml, hown, hts⟩ (m_thrown l D h1 b1 b2 b3 cJ v1.1 v1.2.1 v1.2.2.1 v1.2.2.2.1 v1.2.2.2.2.1 v1.2.2.2.2.2.1 v1.2.2.2.2.2.2.1 v1.2.2.2.2.2.2.2) (cwV 0 hts gW_X1_thrown rfl rfl rfl (by decide +kernel) ⟨Nat.le_of_ble_eq_true rfl, Nat.le_of_ble_eq_true rfl⟩) (hP.sub [6, 7, 8, 9] rfl) hKm (va_recv hK hP (ci := 1) (q0 := 6) rfl rfl) rfl hl.1 rfl (Nat.le_of_ble_eq_true rfl) dL_law_138 ⟨by show _ ≤ 1045; omega, by show _ ≤ 11859; omega⟩ (fun r3 h3 => ?_)
  refine lv_iload hx hb dL_law_141 (lv_at hl 1 rfl) ?_
  refine lv_icmp_eq (tgt := 148) hx hb dL_law_143 (by decide) (fun c_143 => ?_) (fun c_143 => ?_)
  · refine lv_iload hx hb dL_law_148 (lv_at hl 1 rfl) ?_
    refine lv_if_ne (tgt := 165) hx hb dL_law_150 (by decide) (fun c_150 => ?_) (fun c_150 => ?_)
    · refine lv_goto (tgt := 547) hx hb dL_law_165 (by decide) ?_
      refine W.widen (k := 11 + j) (n := 3607 + 6 * j) (by omega) (by omega) ?_
      exact go _ _ _ H locs ls hsim hP hD hS (lv_sub hl [2, 3, 4, 5, 6] rfl)
    · refine lv_aload_n hx hb dL_law_153 rfl (lv_at hl 5 rfl) ?_
      refine lv_iconst (v := 0) hx hb dL_law_154 (by decide) ?_
      refine kz_lald0 hx hb hK hP 0 2 rfl rfl (vp_in_nI (n := 0) (N := 1) (by decide) (by decide)) dL_law_155 ?_
      refine lv_iload hx hb dL_law_156 (lv_at hl 0 rfl) ?_
      refine lv_i2l hx hb dL_law_158 rfl ?_
      refine W.lcmp hx hb dL_law_159 ?_
      refine lv_if_eq (tgt := 165) hx hb dL_law_160 (by decide) (fun c_160 => ?_) (fun c_160 => ?_)
      · refine lv_goto (tgt := 547) hx hb dL_law_165 (by decide) ?_
        refine W.widen (k := 11 + j) (n := 3607 + 6 * j) (by omega) (by omega) ?_
        exact go _ _ _ H locs ls hsim hP hD hS (lv_sub hl [2, 3, 4, 5, 6] rfl)
      · exact absurd (by rw [hq2 c_150]; exact lg_self _) c_160
  · exact absurd (h3.trans hq1) c_143
set_option maxHeartbeats 4000000 in
set_option maxRecDepth 100000 in
theorem w_shift {p : Program} {l : Launch} {e : Env} {s : State} {m : MethodId} {below : List Frame} {meth : Method} {c : Code} {D : va_G} {b L : Nat} {xs : Nat → Int32} {h0 a1 a2 a3 a4 : Nat} {cZ cI : ClassId} {h1 b1 b2 b3 : Nat} {cJ : ClassId} {o1 : Nat} {cL : ClassId} {j : Nat} {u : ABs} {v : MDs} {F : Nat → Int64} {H : Heap} {locs : List Loc} {ls : Array Slot} (C0 : lwC p l s m meth c b L xs D cZ cI cL cJ) (hj : 3 * j + 3 ≤ L) (hsim : sim j u v) (hP : va_P D vwCl (lwW h0 a1 a2 a3 a4 cZ cI h1 b1 b2 b3 cJ o1 cL u v F) H) (hD : va_D (fun q : Nat => s.heap.size ≤ q) (lwW h0 a1 a2 a3 a4 cZ cI h1 b1 b2 b3 cJ o1 cL u v F)) (hS : va_S (fun q : Nat => s.heap.size ≤ q) s.heap H locs) (hl : lv_has ls 7 [(0, .ref b), (1, .ref h0), (2, .ref h1), (3, .ref o1), (4, .int (nI (3 * j)))]) (go : lwGo p l e s m below meth c b D h0 a1 a2 a3 a4 cZ cI h1 b1 b2 b3 cJ o1 cL j) : W p l e room_1 s m #[Value.ref b] below meth c H locs (10 + j) (3601 + 6 * j) (lw_Z below #[Value.ref b] s) (F0 m 168 ls []) := by
  obtain ⟨⟨hx, hb, hr, hml, hown, hts, hX, hbl, hlocks, hgv⟩, hL, hl9, hK, hE, hN⟩ := C0
  have hA : ∀ q : Nat, s.heap.size ≤ q → (fun q : Nat => s.heap.size ≤ q) q := fun _ h => h
  have hbA : ¬ (fun q : Nat => s.heap.size ≤ q) b := Nat.not_le.mpr hbl
  have hown : s.vm.findClass RL = some m.cls := hown
  have htL : ∀ w ∈ wsL_law, w.before #[Value.ref b] s = true := fun w h => hts w (wsL_law_in w h)
  have hKa := hK.sub (tys' := abT cZ cI) [0, 1] rfl
  have hKh := hK.sub (tys' := hlT cZ cI cL) [0, 1, 2] rfl
  have hKm := hK.sub (tys' := mdT cJ) [3] rfl
  refine lv_aload_n hx hb dL_law_168 rfl (lv_at hl 1 rfl) ?_
  refine lv_aload_n hx hb dL_law_169 rfl (lv_at hl 0 rfl) ?_
  refine lv_iload hx hb dL_law_170 (lv_at hl 4 rfl) ?_
  refine lv_iconst (v := 1) hx hb dL_law_172 (by decide) ?_
  refine lv_iadd hx hb dL_law_173 ?_
  rw [nI_1]
  refine kz_sld hx hb hX hbl hbA hS (k := 3 * j + 1) (by omega) (by omega) dL_law_174 ?_
  refine lv_aload_n hx hb dL_law_175 rfl (lv_at hl 0 rfl) ?_
  refine lv_iload hx hb dL_law_176 (lv_at hl 4 rfl) ?_
  refine lv_iconst (v := 2) hx hb dL_law_178 (by decide) ?_
  refine lv_iadd hx hb dL_law_179 ?_
  rw [kz_p2]
  refine kz_sld hx hb hX hbl hbA hS (k := 3 * j + 2) (by omega) (by omega) dL_law_180 ?_
  refine lv_aload_n hx hb dL_law_181 rfl (lv_at hl 3 rfl) ?_
  refine hl_call (wc := hlW o1 cL F (abU h0 a1 a2 a3 a4 cZ cI u)) (wr := mdU h1 b1 b2 b3 cJ v) (w1 := hlU h0 a1 a2 a3 a4 cZ cI o1 cL) (As := [.ref h0, .int (xs (3 * j + 1)), .int (xs (3 * j + 2)), .ref o1]) (rest := []) ⟨hx, hb, hml, hown, htL⟩ (h_shift l hl9 D h0 a1 a2 a3 a4 cZ cI o1 cL u.1 u.2.1 u.2.2.1 u.2.2.2.1 u.2.2.2.2.1 u.2.2.2.2.2.1 u.2.2.2.2.2.2.1 u.2.2.2.2.2.2.2 F _ (xs (3 * j + 1)) (xs (3 * j + 2))) (vx_cwSW 4 htL gL_law_L_shift rfl rfl rfl (by decide +kernel) ⟨Nat.le_of_ble_eq_true rfl, Nat.le_of_ble_eq_true rfl⟩) hP hD hS hA hKh hE hN [0, 1, 2, 3, 4, 5] [6, 7, 8, 9] rfl rfl rfl rfl rfl (by decide) rfl hl.1 rfl (Nat.le_of_ble_eq_true rfl) dL_law_182 ⟨by show _ ≤ 1045; omega, by show _ ≤ 11859; omega⟩ (fun r1 w1 H locs hu hP hD hS => ?_)
  have hP := hP.sub (ws' := (lwW h0 a1 a2 a3 a4 cZ cI h1 b1 b2 b3 cJ o1 cL w1.1 v w1.2)) [4, 5, 6, 7, 8, 9, 0, 1, 2, 3] rfl
  have hD := hD.sub (ws' := (lwW h0 a1 a2 a3 a4 cZ cI h1 b1 b2 b3 cJ o1 cL w1.1 v w1.2)) [4, 5, 6, 7, 8, 9, 0, 1, 2, 3] (by decide) rfl
  refine lv_istore (lv' := [(5, .int r1), (0, .ref b), (1, .ref h0), (2, .ref h1), (3, .ref o1), (4, .int (nI (3 * j)))]) hx hb dL_law_185 hl (by decide) rfl (fun ls hl => ?_)
  refine lv_aload_n hx hb dL_law_187 rfl (lv_at hl 3 rfl) ?_
  refine lv_aload_n hx hb dL_law_188 rfl (lv_at hl 1 rfl) ?_
  refine lv_iload hx hb dL_law_189 (lv_at hl 5 rfl) ?_
  refine lv_iconst (v := 1) hx hb dL_law_191 (by decide) ?_
  refine lv_iadd hx hb dL_law_192 ?_
  rw [nI_1]
  refine kz_sld hx hb hX hbl hbA hS (k := 3 * j + 1) (by omega) (by omega) dL_law_193 ?_
  refine lv_aload_n hx hb dL_law_194 rfl (lv_at hl 1 rfl) ?_
  refine lv_iload hx hb dL_law_195 (lv_at hl 5 rfl) ?_
  refine lv_iconst (v := 2) hx hb dL_law_197 (by decide) ?_
  refine lv_iadd hx hb dL_law_198 ?_
  rw [kz_p2]
  refine kz_sld hx hb hX hbl hbA hS (k := 3 * j + 2) (by omega) (by omega) dL_law_199 ?_
  refine kz_calli (wc := mdU h1 b1 b2 b3 cJ v) (wr := hlW o1 cL w1.2 (abU h0 a1 a2 a3 a4 cZ cI w1.1)) (w1 := mdU h1 b1 b2 b3 cJ) (As := [.int (xs (3 * j + 1)), .int (xs (3 * j + 2))]) (rest := []) ⟨hx, hb, hml, hown, hts⟩ (m_shift l D h1 b1 b2 b3 cJ v.1 v.2.1 v.2.2.1 v.2.2.2.1 v.2.2.2.2.1 v.2.2.2.2.2.1 v.2.2.2.2.2.2.1 v.2.2.2.2.2.2.2 _ (xs (3 * j + 1)) (xs (3 * j + 2))) (cwV 2 hts gW_X1_shift rfl rfl rfl (by decide +kernel) ⟨Nat.le_of_ble_eq_true rfl, Nat.le_of_ble_eq_true rfl⟩) hP hD hS hA hKm [6, 7, 8, 9] [0, 1, 2, 3, 4, 5] rfl rfl rfl rfl rfl (by decide) (va_recv hK hP (ci := 1) (q0 := 6) rfl rfl) rfl hl.1 rfl (Nat.le_of_ble_eq_true rfl) dL_law_200 ⟨by show _ ≤ 1045; omega, by show _ ≤ 11859; omega⟩ (fun r2 v1 H locs hm hP hD hS => ?_)
  have hP : va_P D vwCl (lwW h0 a1 a2 a3 a4 cZ cI h1 b1 b2 b3 cJ o1 cL w1.1 v1 w1.2) H := hP
  have hD : va_D (fun q : Nat => s.heap.size ≤ q) (lwW h0 a1 a2 a3 a4 cZ cI h1 b1 b2 b3 cJ o1 cL w1.1 v1 w1.2) := hD
  obtain ⟨hq1, hq2, hsim⟩ := sim_shift (by omega) hsim hu hm
  refine lv_istore (lv' := [(6, .int r2), (5, .int r1), (0, .ref b), (1, .ref h0), (2, .ref h1), (3, .ref o1), (4, .int (nI (3 * j)))]) hx hb dL_law_203 hl (by decide) rfl (fun ls hl => ?_)
  refine lv_aload_n hx hb dL_law_205 rfl (lv_at hl 4 rfl) ?_
  refine kz_callR (As := []) (rest := []) ⟨hx, hb, hml, hown, hts⟩ (m_thrown l D h1 b1 b2 b3 cJ v1.1 v1.2.1 v1.2.2.1 v1.2.2.2.1 v1.2.2.2.2.1 v1.2.2.2.2.2.1 v1.2.2.2.2.2.2.1 v1.2.2.2.2.2.2.2) (cwV 0 hts gW_X1_thrown rfl rfl rfl (by decide +kernel) ⟨Nat.le_of_ble_eq_true rfl, Nat.le_of_ble_eq_true rfl⟩) (hP.sub [6, 7, 8, 9] rfl) hKm (va_recv hK hP (ci := 1) (q0 := 6) rfl rfl) rfl hl.1 rfl (Nat.le_of_ble_eq_true rfl) dL_law_206 ⟨by show _ ≤ 1045; omega, by show _ ≤ 11859; omega⟩ (fun r3 h3 => ?_)
  refine lv_iload hx hb dL_law_209 (lv_at hl 1 rfl) ?_
  refine lv_icmp_eq (tgt := 216) hx hb dL_law_211 (by decide) (fun c_211 => ?_) (fun c_211 => ?_)
  · refine lv_iload hx hb dL_law_216 (lv_at hl 1 rfl) ?_
    refine lv_if_ne (tgt := 233) hx hb dL_law_218 (by decide) (fun c_218 => ?_) (fun c_218 => ?_)
    · refine lv_goto (tgt := 547) hx hb dL_law_233 (by decide) ?_
      refine W.widen (k := 11 + j) (n := 3607 + 6 * j) (by omega) (by omega) ?_
      exact go _ _ _ H locs ls hsim hP hD hS (lv_sub hl [2, 3, 4, 5, 6] rfl)
    · refine lv_aload_n hx hb dL_law_221 rfl (lv_at hl 5 rfl) ?_
      refine lv_iconst (v := 0) hx hb dL_law_222 (by decide) ?_
      refine kz_lald0 hx hb hK hP 0 2 rfl rfl (vp_in_nI (n := 0) (N := 1) (by decide) (by decide)) dL_law_223 ?_
      refine lv_iload hx hb dL_law_224 (lv_at hl 0 rfl) ?_
      refine lv_i2l hx hb dL_law_226 rfl ?_
      refine W.lcmp hx hb dL_law_227 ?_
      refine lv_if_eq (tgt := 233) hx hb dL_law_228 (by decide) (fun c_228 => ?_) (fun c_228 => ?_)
      · refine lv_goto (tgt := 547) hx hb dL_law_233 (by decide) ?_
        refine W.widen (k := 11 + j) (n := 3607 + 6 * j) (by omega) (by omega) ?_
        exact go _ _ _ H locs ls hsim hP hD hS (lv_sub hl [2, 3, 4, 5, 6] rfl)
      · exact absurd (by rw [hq2 c_218]; exact lg_self _) c_228
  · exact absurd (h3.trans hq1) c_211
set_option maxHeartbeats 4000000 in
set_option maxRecDepth 100000 in
theorem w_stop {p : Program} {l : Launch} {e : Env} {s : State} {m : MethodId} {below : List Frame} {meth : Method} {c : Code} {D : va_G} {b L : Nat} {xs : Nat → Int32} {h0 a1 a2 a3 a4 : Nat} {cZ cI : ClassId} {h1 b1 b2 b3 : Nat} {cJ : ClassId} {o1 : Nat} {cL : ClassId} {j : Nat} {u : ABs} {v : MDs} {F : Nat → Int64} {H : Heap} {locs : List Loc} {ls : Array Slot} (C0 : lwC p l s m meth c b L xs D cZ cI cL cJ) (hj : 3 * j + 3 ≤ L) (hsim : sim j u v) (hP : va_P D vwCl (lwW h0 a1 a2 a3 a4 cZ cI h1 b1 b2 b3 cJ o1 cL u v F) H) (hD : va_D (fun q : Nat => s.heap.size ≤ q) (lwW h0 a1 a2 a3 a4 cZ cI h1 b1 b2 b3 cJ o1 cL u v F)) (hS : va_S (fun q : Nat => s.heap.size ≤ q) s.heap H locs) (hl : lv_has ls 7 [(0, .ref b), (1, .ref h0), (2, .ref h1), (3, .ref o1), (4, .int (nI (3 * j)))]) (go : lwGo p l e s m below meth c b D h0 a1 a2 a3 a4 cZ cI h1 b1 b2 b3 cJ o1 cL j) : W p l e room_1 s m #[Value.ref b] below meth c H locs (10 + j) (3601 + 6 * j) (lw_Z below #[Value.ref b] s) (F0 m 236 ls []) := by
  obtain ⟨⟨hx, hb, hr, hml, hown, hts, hX, hbl, hlocks, hgv⟩, hL, hl9, hK, hE, hN⟩ := C0
  have hA : ∀ q : Nat, s.heap.size ≤ q → (fun q : Nat => s.heap.size ≤ q) q := fun _ h => h
  have hbA : ¬ (fun q : Nat => s.heap.size ≤ q) b := Nat.not_le.mpr hbl
  have hown : s.vm.findClass RL = some m.cls := hown
  have htL : ∀ w ∈ wsL_law, w.before #[Value.ref b] s = true := fun w h => hts w (wsL_law_in w h)
  have hKa := hK.sub (tys' := abT cZ cI) [0, 1] rfl
  have hKh := hK.sub (tys' := hlT cZ cI cL) [0, 1, 2] rfl
  have hKm := hK.sub (tys' := mdT cJ) [3] rfl
  refine lv_aload_n hx hb dL_law_236 rfl (lv_at hl 1 rfl) ?_
  refine lv_aload_n hx hb dL_law_237 rfl (lv_at hl 0 rfl) ?_
  refine lv_iload hx hb dL_law_238 (lv_at hl 4 rfl) ?_
  refine lv_iconst (v := 1) hx hb dL_law_240 (by decide) ?_
  refine lv_iadd hx hb dL_law_241 ?_
  rw [nI_1]
  refine kz_sld hx hb hX hbl hbA hS (k := 3 * j + 1) (by omega) (by omega) dL_law_242 ?_
  refine lv_aload_n hx hb dL_law_243 rfl (lv_at hl 3 rfl) ?_
  refine hl_call (wc := hlW o1 cL F (abU h0 a1 a2 a3 a4 cZ cI u)) (wr := mdU h1 b1 b2 b3 cJ v) (w1 := hlU h0 a1 a2 a3 a4 cZ cI o1 cL) (As := [.ref h0, .int (xs (3 * j + 1)), .ref o1]) (rest := []) ⟨hx, hb, hml, hown, htL⟩ (h_stop l hl9 D h0 a1 a2 a3 a4 cZ cI o1 cL u.1 u.2.1 u.2.2.1 u.2.2.2.1 u.2.2.2.2.1 u.2.2.2.2.2.1 u.2.2.2.2.2.2.1 u.2.2.2.2.2.2.2 F _ (xs (3 * j + 1))) (vx_cwSW 3 htL gL_law_L_stop rfl rfl rfl (by decide +kernel) ⟨Nat.le_of_ble_eq_true rfl, Nat.le_of_ble_eq_true rfl⟩) hP hD hS hA hKh hE hN [0, 1, 2, 3, 4, 5] [6, 7, 8, 9] rfl rfl rfl rfl rfl (by decide) rfl hl.1 rfl (Nat.le_of_ble_eq_true rfl) dL_law_244 ⟨by show _ ≤ 1045; omega, by show _ ≤ 11859; omega⟩ (fun r1 w1 H locs hu hP hD hS => ?_)
  have hP := hP.sub (ws' := (lwW h0 a1 a2 a3 a4 cZ cI h1 b1 b2 b3 cJ o1 cL w1.1 v w1.2)) [4, 5, 6, 7, 8, 9, 0, 1, 2, 3] rfl
  have hD := hD.sub (ws' := (lwW h0 a1 a2 a3 a4 cZ cI h1 b1 b2 b3 cJ o1 cL w1.1 v w1.2)) [4, 5, 6, 7, 8, 9, 0, 1, 2, 3] (by decide) rfl
  refine lv_istore (lv' := [(5, .int r1), (0, .ref b), (1, .ref h0), (2, .ref h1), (3, .ref o1), (4, .int (nI (3 * j)))]) hx hb dL_law_247 hl (by decide) rfl (fun ls hl => ?_)
  refine lv_aload_n hx hb dL_law_249 rfl (lv_at hl 3 rfl) ?_
  refine lv_aload_n hx hb dL_law_250 rfl (lv_at hl 1 rfl) ?_
  refine lv_iload hx hb dL_law_251 (lv_at hl 5 rfl) ?_
  refine lv_iconst (v := 1) hx hb dL_law_253 (by decide) ?_
  refine lv_iadd hx hb dL_law_254 ?_
  rw [nI_1]
  refine kz_sld hx hb hX hbl hbA hS (k := 3 * j + 1) (by omega) (by omega) dL_law_255 ?_
  refine kz_calli (wc := mdU h1 b1 b2 b3 cJ v) (wr := hlW o1 cL w1.2 (abU h0 a1 a2 a3 a4 cZ cI w1.1)) (w1 := mdU h1 b1 b2 b3 cJ) (As := [.int (xs (3 * j + 1))]) (rest := []) ⟨hx, hb, hml, hown, hts⟩ (m_stop l D h1 b1 b2 b3 cJ v.1 v.2.1 v.2.2.1 v.2.2.2.1 v.2.2.2.2.1 v.2.2.2.2.2.1 v.2.2.2.2.2.2.1 v.2.2.2.2.2.2.2 _ (xs (3 * j + 1))) (cwV 1 hts gW_X1_stop rfl rfl rfl (by decide +kernel) ⟨Nat.le_of_ble_eq_true rfl, Nat.le_of_ble_eq_true rfl⟩) hP hD hS hA hKm [6, 7, 8, 9] [0, 1, 2, 3, 4, 5] rfl rfl rfl rfl rfl (by decide) (va_recv hK hP (ci := 1) (q0 := 6) rfl rfl) rfl hl.1 rfl (Nat.le_of_ble_eq_true rfl) dL_law_256 ⟨by show _ ≤ 1045; omega, by show _ ≤ 11859; omega⟩ (fun r2 v1 H locs hm hP hD hS => ?_)
  have hP : va_P D vwCl (lwW h0 a1 a2 a3 a4 cZ cI h1 b1 b2 b3 cJ o1 cL w1.1 v1 w1.2) H := hP
  have hD : va_D (fun q : Nat => s.heap.size ≤ q) (lwW h0 a1 a2 a3 a4 cZ cI h1 b1 b2 b3 cJ o1 cL w1.1 v1 w1.2) := hD
  obtain ⟨hq1, hq2, hsim⟩ := sim_stop (by omega) hsim hu hm
  refine lv_istore (lv' := [(6, .int r2), (5, .int r1), (0, .ref b), (1, .ref h0), (2, .ref h1), (3, .ref o1), (4, .int (nI (3 * j)))]) hx hb dL_law_259 hl (by decide) rfl (fun ls hl => ?_)
  refine lv_aload_n hx hb dL_law_261 rfl (lv_at hl 4 rfl) ?_
  refine kz_callR (As := []) (rest := []) ⟨hx, hb, hml, hown, hts⟩ (m_thrown l D h1 b1 b2 b3 cJ v1.1 v1.2.1 v1.2.2.1 v1.2.2.2.1 v1.2.2.2.2.1 v1.2.2.2.2.2.1 v1.2.2.2.2.2.2.1 v1.2.2.2.2.2.2.2) (cwV 0 hts gW_X1_thrown rfl rfl rfl (by decide +kernel) ⟨Nat.le_of_ble_eq_true rfl, Nat.le_of_ble_eq_true rfl⟩) (hP.sub [6, 7, 8, 9] rfl) hKm (va_recv hK hP (ci := 1) (q0 := 6) rfl rfl) rfl hl.1 rfl (Nat.le_of_ble_eq_true rfl) dL_law_262 ⟨by show _ ≤ 1045; omega, by show _ ≤ 11859; omega⟩ (fun r3 h3 => ?_)
  refine lv_iload hx hb dL_law_265 (lv_at hl 1 rfl) ?_
  refine lv_icmp_eq (tgt := 272) hx hb dL_law_267 (by decide) (fun c_267 => ?_) (fun c_267 => ?_)
  · refine lv_iload hx hb dL_law_272 (lv_at hl 1 rfl) ?_
    refine lv_if_ne (tgt := 289) hx hb dL_law_274 (by decide) (fun c_274 => ?_) (fun c_274 => ?_)
    · refine lv_goto (tgt := 547) hx hb dL_law_289 (by decide) ?_
      refine W.widen (k := 11 + j) (n := 3607 + 6 * j) (by omega) (by omega) ?_
      exact go _ _ _ H locs ls hsim hP hD hS (lv_sub hl [2, 3, 4, 5, 6] rfl)
    · refine lv_aload_n hx hb dL_law_277 rfl (lv_at hl 5 rfl) ?_
      refine lv_iconst (v := 0) hx hb dL_law_278 (by decide) ?_
      refine kz_lald0 hx hb hK hP 0 2 rfl rfl (vp_in_nI (n := 0) (N := 1) (by decide) (by decide)) dL_law_279 ?_
      refine lv_iload hx hb dL_law_280 (lv_at hl 0 rfl) ?_
      refine lv_i2l hx hb dL_law_282 rfl ?_
      refine W.lcmp hx hb dL_law_283 ?_
      refine lv_if_eq (tgt := 289) hx hb dL_law_284 (by decide) (fun c_284 => ?_) (fun c_284 => ?_)
      · refine lv_goto (tgt := 547) hx hb dL_law_289 (by decide) ?_
        refine W.widen (k := 11 + j) (n := 3607 + 6 * j) (by omega) (by omega) ?_
        exact go _ _ _ H locs ls hsim hP hD hS (lv_sub hl [2, 3, 4, 5, 6] rfl)
      · exact absurd (by rw [hq2 c_274]; exact lg_self _) c_284
  · exact absurd (h3.trans hq1) c_267
