set_option maxHeartbeats 4000000 in
set_option maxRecDepth 100000 in
theorem w_stopAll {p : Program} {l : Launch} {e : Env} {s : State} {m : MethodId} {below : List Frame} {meth : Method} {c : Code} {D : va_G} {b L : Nat} {xs : Nat → Int32} {h0 a1 a2 a3 a4 : Nat} {cZ cI : ClassId} {h1 b1 b2 b3 : Nat} {cJ : ClassId} {o1 : Nat} {cL : ClassId} {j : Nat} {u : ABs} {v : MDs} {F : Nat → Int64} {H : Heap} {locs : List Loc} {ls : Array Slot} (C0 : lwC p l s m meth c b L xs D cZ cI cL cJ) (hj : 3 * j + 3 ≤ L) (hsim : sim j u v) (hP : va_P D vwCl (lwW h0 a1 a2 a3 a4 cZ cI h1 b1 b2 b3 cJ o1 cL u v F) H) (hD : va_D (fun q : Nat => s.heap.size ≤ q) (lwW h0 a1 a2 a3 a4 cZ cI h1 b1 b2 b3 cJ o1 cL u v F)) (hS : va_S (fun q : Nat => s.heap.size ≤ q) s.heap H locs) (hl : lv_has ls 7 [(0, .ref b), (1, .ref h0), (2, .ref h1), (3, .ref o1), (4, .int (nI (3 * j)))]) (go : lwGo p l e s m below meth c b D h0 a1 a2 a3 a4 cZ cI h1 b1 b2 b3 cJ o1 cL j) : W p l e room_1 s m #[Value.ref b] below meth c H locs (10 + j) (3601 + 6 * j) (lw_Z below #[Value.ref b] s) (F0 m 292 ls []) := by
  obtain ⟨⟨hx, hb, hr, hml, hown, hts, hX, hbl, hlocks, hgv⟩, hL, hl9, hK, hE, hN⟩ := C0
  have hA : ∀ q : Nat, s.heap.size ≤ q → (fun q : Nat => s.heap.size ≤ q) q := fun _ h => h
  have hbA : ¬ (fun q : Nat => s.heap.size ≤ q) b := Nat.not_le.mpr hbl
  have hown : s.vm.findClass RL = some m.cls := hown
  have htL : ∀ w ∈ wsL_law, w.before #[Value.ref b] s = true := fun w h => hts w (wsL_law_in w h)
  have hKa := hK.sub (tys' := abT cZ cI) [0, 1] rfl
  have hKh := hK.sub (tys' := hlT cZ cI cL) [0, 1, 2] rfl
  have hKm := hK.sub (tys' := mdT cJ) [3] rfl
  refine lv_aload_n hx hb dL_law_292 rfl (lv_at hl 1 rfl) ?_
  refine lv_aload_n hx hb dL_law_293 rfl (lv_at hl 0 rfl) ?_
  refine lv_iload hx hb dL_law_294 (lv_at hl 4 rfl) ?_
  refine lv_iconst (v := 1) hx hb dL_law_296 (by decide) ?_
  refine lv_iadd hx hb dL_law_297 ?_
  rw [nI_1]
  refine kz_sld hx hb hX hbl hbA hS (k := 3 * j + 1) (by omega) (by omega) dL_law_298 ?_
  refine kz_calli (wc := abU h0 a1 a2 a3 a4 cZ cI u) (wr := hlW o1 cL F (mdU h1 b1 b2 b3 cJ v)) (w1 := abU h0 a1 a2 a3 a4 cZ cI) (As := [.int (xs (3 * j + 1))]) (rest := []) ⟨hx, hb, hml, hown, htL⟩ (c_stopAll l D h0 a1 a2 a3 a4 cZ cI u.1 u.2.1 u.2.2.1 u.2.2.2.1 u.2.2.2.2.1 u.2.2.2.2.2.1 u.2.2.2.2.2.2.1 u.2.2.2.2.2.2.2 _ (xs (3 * j + 1))) (cwV 1 htL gL_law_X0_stopAll rfl rfl rfl (by decide +kernel) ⟨Nat.le_of_ble_eq_true rfl, Nat.le_of_ble_eq_true rfl⟩) hP hD hS hA hKa [1, 2, 3, 4, 5] [0, 6, 7, 8, 9] rfl rfl rfl rfl rfl (by decide) (va_recv hK hP (ci := 0) (q0 := 1) rfl rfl) rfl hl.1 rfl (Nat.le_of_ble_eq_true rfl) dL_law_299 ⟨by show _ ≤ 1045; omega, by show _ ≤ 11859; omega⟩ (fun r1 u1 H locs hu hP hD hS => ?_)
  have hP := hP.sub (ws' := (lwW h0 a1 a2 a3 a4 cZ cI h1 b1 b2 b3 cJ o1 cL u1 v F)) [0, 5, 6, 7, 8, 9, 1, 2, 3, 4] rfl
  have hD := hD.sub (ws' := (lwW h0 a1 a2 a3 a4 cZ cI h1 b1 b2 b3 cJ o1 cL u1 v F)) [0, 5, 6, 7, 8, 9, 1, 2, 3, 4] (by decide) rfl
  refine lv_aload_n hx hb dL_law_302 rfl (lv_at hl 2 rfl) ?_
  refine lv_aload_n hx hb dL_law_303 rfl (lv_at hl 0 rfl) ?_
  refine lv_iload hx hb dL_law_304 (lv_at hl 4 rfl) ?_
  refine lv_iconst (v := 1) hx hb dL_law_306 (by decide) ?_
  refine lv_iadd hx hb dL_law_307 ?_
  rw [nI_1]
  refine kz_sld hx hb hX hbl hbA hS (k := 3 * j + 1) (by omega) (by omega) dL_law_308 ?_
  refine kz_calli (wc := mdU h1 b1 b2 b3 cJ v) (wr := hlW o1 cL F (abU h0 a1 a2 a3 a4 cZ cI u1)) (w1 := mdU h1 b1 b2 b3 cJ) (As := [.int (xs (3 * j + 1))]) (rest := [.int r1]) ⟨hx, hb, hml, hown, hts⟩ (m_stopAll l D h1 b1 b2 b3 cJ v.1 v.2.1 v.2.2.1 v.2.2.2.1 v.2.2.2.2.1 v.2.2.2.2.2.1 v.2.2.2.2.2.2.1 v.2.2.2.2.2.2.2 _ (xs (3 * j + 1))) (cwV 1 hts gW_X1_stopAll rfl rfl rfl (by decide +kernel) ⟨Nat.le_of_ble_eq_true rfl, Nat.le_of_ble_eq_true rfl⟩) hP hD hS hA hKm [6, 7, 8, 9] [0, 1, 2, 3, 4, 5] rfl rfl rfl rfl rfl (by decide) (va_recv hK hP (ci := 1) (q0 := 6) rfl rfl) rfl hl.1 rfl (Nat.le_of_ble_eq_true rfl) dL_law_309 ⟨by show _ ≤ 1045; omega, by show _ ≤ 11859; omega⟩ (fun r2 v1 H locs hm hP hD hS => ?_)
  have hP : va_P D vwCl (lwW h0 a1 a2 a3 a4 cZ cI h1 b1 b2 b3 cJ o1 cL u1 v1 F) H := hP
  have hD : va_D (fun q : Nat => s.heap.size ≤ q) (lwW h0 a1 a2 a3 a4 cZ cI h1 b1 b2 b3 cJ o1 cL u1 v1 F) := hD
  obtain ⟨hq1, hsim⟩ := sim_stopAll hsim hu hm
  refine lv_icmp_eq (tgt := 547) hx hb dL_law_312 (by decide) (fun c_312 => ?_) (fun c_312 => ?_)
  · refine W.widen (k := 11 + j) (n := 3607 + 6 * j) (by omega) (by omega) ?_
    exact go _ _ _ H locs ls hsim hP hD hS (lv_sub hl [0, 1, 2, 3, 4] rfl)
  · exact absurd hq1 c_312
set_option maxHeartbeats 4000000 in
set_option maxRecDepth 100000 in
theorem w_ring {p : Program} {l : Launch} {e : Env} {s : State} {m : MethodId} {below : List Frame} {meth : Method} {c : Code} {D : va_G} {b L : Nat} {xs : Nat → Int32} {h0 a1 a2 a3 a4 : Nat} {cZ cI : ClassId} {h1 b1 b2 b3 : Nat} {cJ : ClassId} {o1 : Nat} {cL : ClassId} {j : Nat} {u : ABs} {v : MDs} {F : Nat → Int64} {H : Heap} {locs : List Loc} {ls : Array Slot} (C0 : lwC p l s m meth c b L xs D cZ cI cL cJ) (hj : 3 * j + 3 ≤ L) (hsim : sim j u v) (hP : va_P D vwCl (lwW h0 a1 a2 a3 a4 cZ cI h1 b1 b2 b3 cJ o1 cL u v F) H) (hD : va_D (fun q : Nat => s.heap.size ≤ q) (lwW h0 a1 a2 a3 a4 cZ cI h1 b1 b2 b3 cJ o1 cL u v F)) (hS : va_S (fun q : Nat => s.heap.size ≤ q) s.heap H locs) (hl : lv_has ls 7 [(0, .ref b), (1, .ref h0), (2, .ref h1), (3, .ref o1), (4, .int (nI (3 * j)))]) (go : lwGo p l e s m below meth c b D h0 a1 a2 a3 a4 cZ cI h1 b1 b2 b3 cJ o1 cL j) : W p l e room_1 s m #[Value.ref b] below meth c H locs (10 + j) (3601 + 6 * j) (lw_Z below #[Value.ref b] s) (F0 m 373 ls []) := by
  obtain ⟨⟨hx, hb, hr, hml, hown, hts, hX, hbl, hlocks, hgv⟩, hL, hl9, hK, hE, hN⟩ := C0
  have hA : ∀ q : Nat, s.heap.size ≤ q → (fun q : Nat => s.heap.size ≤ q) q := fun _ h => h
  have hbA : ¬ (fun q : Nat => s.heap.size ≤ q) b := Nat.not_le.mpr hbl
  have hown : s.vm.findClass RL = some m.cls := hown
  have htL : ∀ w ∈ wsL_law, w.before #[Value.ref b] s = true := fun w h => hts w (wsL_law_in w h)
  have hKa := hK.sub (tys' := abT cZ cI) [0, 1] rfl
  have hKh := hK.sub (tys' := hlT cZ cI cL) [0, 1, 2] rfl
  have hKm := hK.sub (tys' := mdT cJ) [3] rfl
  refine lv_aload_n hx hb dL_law_373 rfl (lv_at hl 1 rfl) ?_
  refine kz_calli (wc := abU h0 a1 a2 a3 a4 cZ cI u) (wr := hlW o1 cL F (mdU h1 b1 b2 b3 cJ v)) (w1 := abU h0 a1 a2 a3 a4 cZ cI) (As := []) (rest := []) ⟨hx, hb, hml, hown, htL⟩ (c_ring l D h0 a1 a2 a3 a4 cZ cI u.1 u.2.1 u.2.2.1 u.2.2.2.1 u.2.2.2.2.1 u.2.2.2.2.2.1 u.2.2.2.2.2.2.1 u.2.2.2.2.2.2.2 _ ) (cwV 0 htL gL_law_X0_ring rfl rfl rfl (by decide +kernel) ⟨Nat.le_of_ble_eq_true rfl, Nat.le_of_ble_eq_true rfl⟩) hP hD hS hA hKa [1, 2, 3, 4, 5] [0, 6, 7, 8, 9] rfl rfl rfl rfl rfl (by decide) (va_recv hK hP (ci := 0) (q0 := 1) rfl rfl) rfl hl.1 rfl (Nat.le_of_ble_eq_true rfl) dL_law_374 ⟨by show _ ≤ 1045; omega, by show _ ≤ 11859; omega⟩ (fun r1 u1 H locs hu hP hD hS => ?_)
  have hP := hP.sub (ws' := (lwW h0 a1 a2 a3 a4 cZ cI h1 b1 b2 b3 cJ o1 cL u1 v F)) [0, 5, 6, 7, 8, 9, 1, 2, 3, 4] rfl
  have hD := hD.sub (ws' := (lwW h0 a1 a2 a3 a4 cZ cI h1 b1 b2 b3 cJ o1 cL u1 v F)) [0, 5, 6, 7, 8, 9, 1, 2, 3, 4] (by decide) rfl
  refine lv_aload_n hx hb dL_law_377 rfl (lv_at hl 2 rfl) ?_
  refine kz_calli (wc := mdU h1 b1 b2 b3 cJ v) (wr := hlW o1 cL F (abU h0 a1 a2 a3 a4 cZ cI u1)) (w1 := mdU h1 b1 b2 b3 cJ) (As := []) (rest := [.int r1]) ⟨hx, hb, hml, hown, hts⟩ (m_ring l D h1 b1 b2 b3 cJ v.1 v.2.1 v.2.2.1 v.2.2.2.1 v.2.2.2.2.1 v.2.2.2.2.2.1 v.2.2.2.2.2.2.1 v.2.2.2.2.2.2.2 _ ) (cwV 0 hts gW_X1_ring rfl rfl rfl (by decide +kernel) ⟨Nat.le_of_ble_eq_true rfl, Nat.le_of_ble_eq_true rfl⟩) hP hD hS hA hKm [6, 7, 8, 9] [0, 1, 2, 3, 4, 5] rfl rfl rfl rfl rfl (by decide) (va_recv hK hP (ci := 1) (q0 := 6) rfl rfl) rfl hl.1 rfl (Nat.le_of_ble_eq_true rfl) dL_law_378 ⟨by show _ ≤ 1045; omega, by show _ ≤ 11859; omega⟩ (fun r2 v1 H locs hm hP hD hS => ?_)
  have hP : va_P D vwCl (lwW h0 a1 a2 a3 a4 cZ cI h1 b1 b2 b3 cJ o1 cL u1 v1 F) H := hP
  have hD : va_D (fun q : Nat => s.heap.size ≤ q) (lwW h0 a1 a2 a3 a4 cZ cI h1 b1 b2 b3 cJ o1 cL u1 v1 F) := hD
  obtain ⟨hq1, hsim⟩ := sim_ring hsim hu hm
  refine lv_icmp_eq (tgt := 547) hx hb dL_law_381 (by decide) (fun c_381 => ?_) (fun c_381 => ?_)
  · refine W.widen (k := 11 + j) (n := 3607 + 6 * j) (by omega) (by omega) ?_
    exact go _ _ _ H locs ls hsim hP hD hS (lv_sub hl [0, 1, 2, 3, 4] rfl)
  · exact absurd hq1 c_381
set_option maxHeartbeats 4000000 in
set_option maxRecDepth 100000 in
theorem w_told {p : Program} {l : Launch} {e : Env} {s : State} {m : MethodId} {below : List Frame} {meth : Method} {c : Code} {D : va_G} {b L : Nat} {xs : Nat → Int32} {h0 a1 a2 a3 a4 : Nat} {cZ cI : ClassId} {h1 b1 b2 b3 : Nat} {cJ : ClassId} {o1 : Nat} {cL : ClassId} {j : Nat} {u : ABs} {v : MDs} {F : Nat → Int64} {H : Heap} {locs : List Loc} {ls : Array Slot} (C0 : lwC p l s m meth c b L xs D cZ cI cL cJ) (hj : 3 * j + 3 ≤ L) (hsim : sim j u v) (hP : va_P D vwCl (lwW h0 a1 a2 a3 a4 cZ cI h1 b1 b2 b3 cJ o1 cL u v F) H) (hD : va_D (fun q : Nat => s.heap.size ≤ q) (lwW h0 a1 a2 a3 a4 cZ cI h1 b1 b2 b3 cJ o1 cL u v F)) (hS : va_S (fun q : Nat => s.heap.size ≤ q) s.heap H locs) (hl : lv_has ls 7 [(0, .ref b), (1, .ref h0), (2, .ref h1), (3, .ref o1), (4, .int (nI (3 * j)))]) (go : lwGo p l e s m below meth c b D h0 a1 a2 a3 a4 cZ cI h1 b1 b2 b3 cJ o1 cL j) : W p l e room_1 s m #[Value.ref b] below meth c H locs (10 + j) (3601 + 6 * j) (lw_Z below #[Value.ref b] s) (F0 m 386 ls []) := by
  obtain ⟨⟨hx, hb, hr, hml, hown, hts, hX, hbl, hlocks, hgv⟩, hL, hl9, hK, hE, hN⟩ := C0
  have hA : ∀ q : Nat, s.heap.size ≤ q → (fun q : Nat => s.heap.size ≤ q) q := fun _ h => h
  have hbA : ¬ (fun q : Nat => s.heap.size ≤ q) b := Nat.not_le.mpr hbl
  have hown : s.vm.findClass RL = some m.cls := hown
  have htL : ∀ w ∈ wsL_law, w.before #[Value.ref b] s = true := fun w h => hts w (wsL_law_in w h)
  have hKa := hK.sub (tys' := abT cZ cI) [0, 1] rfl
  have hKh := hK.sub (tys' := hlT cZ cI cL) [0, 1, 2] rfl
  have hKm := hK.sub (tys' := mdT cJ) [3] rfl
  refine lv_aload_n hx hb dL_law_386 rfl (lv_at hl 1 rfl) ?_
  refine kz_callR (As := []) (rest := []) ⟨hx, hb, hml, hown, htL⟩ (c_told l D h0 a1 a2 a3 a4 cZ cI u.1 u.2.1 u.2.2.1 u.2.2.2.1 u.2.2.2.2.1 u.2.2.2.2.2.1 u.2.2.2.2.2.2.1 u.2.2.2.2.2.2.2 ) (cwV 0 htL gL_law_X0_told rfl rfl rfl (by decide +kernel) ⟨Nat.le_of_ble_eq_true rfl, Nat.le_of_ble_eq_true rfl⟩) (hP.sub [1, 2, 3, 4, 5] rfl) hKa (va_recv hK hP (ci := 0) (q0 := 1) rfl rfl) rfl hl.1 rfl (Nat.le_of_ble_eq_true rfl) dL_law_387 ⟨by show _ ≤ 1045; omega, by show _ ≤ 11859; omega⟩ (fun r1 hu => ?_)
  refine lv_aload_n hx hb dL_law_390 rfl (lv_at hl 2 rfl) ?_
  refine kz_calli (wc := mdU h1 b1 b2 b3 cJ v) (wr := hlW o1 cL F (abU h0 a1 a2 a3 a4 cZ cI u)) (w1 := mdU h1 b1 b2 b3 cJ) (As := []) (rest := [.int r1]) ⟨hx, hb, hml, hown, hts⟩ (m_told l D h1 b1 b2 b3 cJ v.1 v.2.1 v.2.2.1 v.2.2.2.1 v.2.2.2.2.1 v.2.2.2.2.2.1 v.2.2.2.2.2.2.1 v.2.2.2.2.2.2.2 _ ) (cwV 0 hts gW_X1_told rfl rfl rfl (by decide +kernel) ⟨Nat.le_of_ble_eq_true rfl, Nat.le_of_ble_eq_true rfl⟩) hP hD hS hA hKm [6, 7, 8, 9] [0, 1, 2, 3, 4, 5] rfl rfl rfl rfl rfl (by decide) (va_recv hK hP (ci := 1) (q0 := 6) rfl rfl) rfl hl.1 rfl (Nat.le_of_ble_eq_true rfl) dL_law_391 ⟨by show _ ≤ 1045; omega, by show _ ≤ 11859; omega⟩ (fun r2 v1 H locs hm hP hD hS => ?_)
  have hP : va_P D vwCl (lwW h0 a1 a2 a3 a4 cZ cI h1 b1 b2 b3 cJ o1 cL u v1 F) H := hP
  have hD : va_D (fun q : Nat => s.heap.size ≤ q) (lwW h0 a1 a2 a3 a4 cZ cI h1 b1 b2 b3 cJ o1 cL u v1 F) := hD
  obtain ⟨hq1, hsim⟩ := sim_told hsim hu hm
  refine lv_icmp_eq (tgt := 547) hx hb dL_law_394 (by decide) (fun c_394 => ?_) (fun c_394 => ?_)
  · refine W.widen (k := 11 + j) (n := 3607 + 6 * j) (by omega) (by omega) ?_
    exact go _ _ _ H locs ls hsim hP hD hS (lv_sub hl [0, 1, 2, 3, 4] rfl)
  · exact absurd hq1 c_394
set_option maxHeartbeats 4000000 in
set_option maxRecDepth 100000 in
theorem w_wasDue {p : Program} {l : Launch} {e : Env} {s : State} {m : MethodId} {below : List Frame} {meth : Method} {c : Code} {D : va_G} {b L : Nat} {xs : Nat → Int32} {h0 a1 a2 a3 a4 : Nat} {cZ cI : ClassId} {h1 b1 b2 b3 : Nat} {cJ : ClassId} {o1 : Nat} {cL : ClassId} {j : Nat} {u : ABs} {v : MDs} {F : Nat → Int64} {H : Heap} {locs : List Loc} {ls : Array Slot} (C0 : lwC p l s m meth c b L xs D cZ cI cL cJ) (hj : 3 * j + 3 ≤ L) (hsim : sim j u v) (hP : va_P D vwCl (lwW h0 a1 a2 a3 a4 cZ cI h1 b1 b2 b3 cJ o1 cL u v F) H) (hD : va_D (fun q : Nat => s.heap.size ≤ q) (lwW h0 a1 a2 a3 a4 cZ cI h1 b1 b2 b3 cJ o1 cL u v F)) (hS : va_S (fun q : Nat => s.heap.size ≤ q) s.heap H locs) (hl : lv_has ls 7 [(0, .ref b), (1, .ref h0), (2, .ref h1), (3, .ref o1), (4, .int (nI (3 * j)))]) (go : lwGo p l e s m below meth c b D h0 a1 a2 a3 a4 cZ cI h1 b1 b2 b3 cJ o1 cL j) : W p l e room_1 s m #[Value.ref b] below meth c H locs (10 + j) (3601 + 6 * j) (lw_Z below #[Value.ref b] s) (F0 m 399 ls []) := by
  obtain ⟨⟨hx, hb, hr, hml, hown, hts, hX, hbl, hlocks, hgv⟩, hL, hl9, hK, hE, hN⟩ := C0
  have hA : ∀ q : Nat, s.heap.size ≤ q → (fun q : Nat => s.heap.size ≤ q) q := fun _ h => h
  have hbA : ¬ (fun q : Nat => s.heap.size ≤ q) b := Nat.not_le.mpr hbl
  have hown : s.vm.findClass RL = some m.cls := hown
  have htL : ∀ w ∈ wsL_law, w.before #[Value.ref b] s = true := fun w h => hts w (wsL_law_in w h)
  have hKa := hK.sub (tys' := abT cZ cI) [0, 1] rfl
  have hKh := hK.sub (tys' := hlT cZ cI cL) [0, 1, 2] rfl
  have hKm := hK.sub (tys' := mdT cJ) [3] rfl
  refine lv_aload_n hx hb dL_law_399 rfl (lv_at hl 1 rfl) ?_
  refine kz_callR (As := []) (rest := []) ⟨hx, hb, hml, hown, htL⟩ (c_wasDue l D h0 a1 a2 a3 a4 cZ cI u.1 u.2.1 u.2.2.1 u.2.2.2.1 u.2.2.2.2.1 u.2.2.2.2.2.1 u.2.2.2.2.2.2.1 u.2.2.2.2.2.2.2 ) (cwV 0 htL gL_law_X0_wasDue rfl rfl rfl (by decide +kernel) ⟨Nat.le_of_ble_eq_true rfl, Nat.le_of_ble_eq_true rfl⟩) (hP.sub [1, 2, 3, 4, 5] rfl) hKa (va_recv hK hP (ci := 0) (q0 := 1) rfl rfl) rfl hl.1 rfl (Nat.le_of_ble_eq_true rfl) dL_law_400 ⟨by show _ ≤ 1045; omega, by show _ ≤ 11859; omega⟩ (fun r1 hu => ?_)
  refine lv_aload_n hx hb dL_law_403 rfl (lv_at hl 2 rfl) ?_
  refine kz_calli (wc := mdU h1 b1 b2 b3 cJ v) (wr := hlW o1 cL F (abU h0 a1 a2 a3 a4 cZ cI u)) (w1 := mdU h1 b1 b2 b3 cJ) (As := []) (rest := [.int r1]) ⟨hx, hb, hml, hown, hts⟩ (m_wasDue l D h1 b1 b2 b3 cJ v.1 v.2.1 v.2.2.1 v.2.2.2.1 v.2.2.2.2.1 v.2.2.2.2.2.1 v.2.2.2.2.2.2.1 v.2.2.2.2.2.2.2 _ ) (cwV 0 hts gW_X1_wasDue rfl rfl rfl (by decide +kernel) ⟨Nat.le_of_ble_eq_true rfl, Nat.le_of_ble_eq_true rfl⟩) hP hD hS hA hKm [6, 7, 8, 9] [0, 1, 2, 3, 4, 5] rfl rfl rfl rfl rfl (by decide) (va_recv hK hP (ci := 1) (q0 := 6) rfl rfl) rfl hl.1 rfl (Nat.le_of_ble_eq_true rfl) dL_law_404 ⟨by show _ ≤ 1045; omega, by show _ ≤ 11859; omega⟩ (fun r2 v1 H locs hm hP hD hS => ?_)
  have hP : va_P D vwCl (lwW h0 a1 a2 a3 a4 cZ cI h1 b1 b2 b3 cJ o1 cL u v1 F) H := hP
  have hD : va_D (fun q : Nat => s.heap.size ≤ q) (lwW h0 a1 a2 a3 a4 cZ cI h1 b1 b2 b3 cJ o1 cL u v1 F) := hD
  obtain ⟨hq1, hsim⟩ := sim_wasDue hsim hu hm
  refine lv_icmp_eq (tgt := 547) hx hb dL_law_407 (by decide) (fun c_407 => ?_) (fun c_407 => ?_)
  · refine W.widen (k := 11 + j) (n := 3607 + 6 * j) (by omega) (by omega) ?_
    exact go _ _ _ H locs ls hsim hP hD hS (lv_sub hl [0, 1, 2, 3, 4] rfl)
  · exact absurd hq1 c_407
set_option maxHeartbeats 4000000 in
set_option maxRecDepth 100000 in
theorem w_next {p : Program} {l : Launch} {e : Env} {s : State} {m : MethodId} {below : List Frame} {meth : Method} {c : Code} {D : va_G} {b L : Nat} {xs : Nat → Int32} {h0 a1 a2 a3 a4 : Nat} {cZ cI : ClassId} {h1 b1 b2 b3 : Nat} {cJ : ClassId} {o1 : Nat} {cL : ClassId} {j : Nat} {u : ABs} {v : MDs} {F : Nat → Int64} {H : Heap} {locs : List Loc} {ls : Array Slot} (C0 : lwC p l s m meth c b L xs D cZ cI cL cJ) (hj : 3 * j + 3 ≤ L) (hsim : sim j u v) (hP : va_P D vwCl (lwW h0 a1 a2 a3 a4 cZ cI h1 b1 b2 b3 cJ o1 cL u v F) H) (hD : va_D (fun q : Nat => s.heap.size ≤ q) (lwW h0 a1 a2 a3 a4 cZ cI h1 b1 b2 b3 cJ o1 cL u v F)) (hS : va_S (fun q : Nat => s.heap.size ≤ q) s.heap H locs) (hl : lv_has ls 7 [(0, .ref b), (1, .ref h0), (2, .ref h1), (3, .ref o1), (4, .int (nI (3 * j)))]) (go : lwGo p l e s m below meth c b D h0 a1 a2 a3 a4 cZ cI h1 b1 b2 b3 cJ o1 cL j) : W p l e room_1 s m #[Value.ref b] below meth c H locs (10 + j) (3601 + 6 * j) (lw_Z below #[Value.ref b] s) (F0 m 412 ls []) := by
  obtain ⟨⟨hx, hb, hr, hml, hown, hts, hX, hbl, hlocks, hgv⟩, hL, hl9, hK, hE, hN⟩ := C0
  have hA : ∀ q : Nat, s.heap.size ≤ q → (fun q : Nat => s.heap.size ≤ q) q := fun _ h => h
  have hbA : ¬ (fun q : Nat => s.heap.size ≤ q) b := Nat.not_le.mpr hbl
  have hown : s.vm.findClass RL = some m.cls := hown
  have htL : ∀ w ∈ wsL_law, w.before #[Value.ref b] s = true := fun w h => hts w (wsL_law_in w h)
  have hKa := hK.sub (tys' := abT cZ cI) [0, 1] rfl
  have hKh := hK.sub (tys' := hlT cZ cI cL) [0, 1, 2] rfl
  have hKm := hK.sub (tys' := mdT cJ) [3] rfl
  refine lv_aload_n hx hb dL_law_412 rfl (lv_at hl 1 rfl) ?_
  refine kz_callR (As := []) (rest := []) ⟨hx, hb, hml, hown, htL⟩ (c_next l D h0 a1 a2 a3 a4 cZ cI u.1 u.2.1 u.2.2.1 u.2.2.2.1 u.2.2.2.2.1 u.2.2.2.2.2.1 u.2.2.2.2.2.2.1 u.2.2.2.2.2.2.2 ) (cwV 0 htL gL_law_X0_next rfl rfl rfl (by decide +kernel) ⟨Nat.le_of_ble_eq_true rfl, Nat.le_of_ble_eq_true rfl⟩) (hP.sub [1, 2, 3, 4, 5] rfl) hKa (va_recv hK hP (ci := 0) (q0 := 1) rfl rfl) rfl hl.1 rfl (Nat.le_of_ble_eq_true rfl) dL_law_413 ⟨by show _ ≤ 1045; omega, by show _ ≤ 11859; omega⟩ (fun r1 hu => ?_)
  refine lv_aload_n hx hb dL_law_416 rfl (lv_at hl 2 rfl) ?_
  refine kz_calli (wc := mdU h1 b1 b2 b3 cJ v) (wr := hlW o1 cL F (abU h0 a1 a2 a3 a4 cZ cI u)) (w1 := mdU h1 b1 b2 b3 cJ) (As := []) (rest := [.int r1]) ⟨hx, hb, hml, hown, hts⟩ (m_next l D h1 b1 b2 b3 cJ v.1 v.2.1 v.2.2.1 v.2.2.2.1 v.2.2.2.2.1 v.2.2.2.2.2.1 v.2.2.2.2.2.2.1 v.2.2.2.2.2.2.2 _ ) (cwV 0 hts gW_X1_next rfl rfl rfl (by decide +kernel) ⟨Nat.le_of_ble_eq_true rfl, Nat.le_of_ble_eq_true rfl⟩) hP hD hS hA hKm [6, 7, 8, 9] [0, 1, 2, 3, 4, 5] rfl rfl rfl rfl rfl (by decide) (va_recv hK hP (ci := 1) (q0 := 6) rfl rfl) rfl hl.1 rfl (Nat.le_of_ble_eq_true rfl) dL_law_417 ⟨by show _ ≤ 1045; omega, by show _ ≤ 11859; omega⟩ (fun r2 v1 H locs hm hP hD hS => ?_)
  have hP : va_P D vwCl (lwW h0 a1 a2 a3 a4 cZ cI h1 b1 b2 b3 cJ o1 cL u v1 F) H := hP
  have hD : va_D (fun q : Nat => s.heap.size ≤ q) (lwW h0 a1 a2 a3 a4 cZ cI h1 b1 b2 b3 cJ o1 cL u v1 F) := hD
  obtain ⟨hq1, hsim⟩ := sim_next hsim hu hm
  refine lv_icmp_eq (tgt := 547) hx hb dL_law_420 (by decide) (fun c_420 => ?_) (fun c_420 => ?_)
  · refine W.widen (k := 11 + j) (n := 3607 + 6 * j) (by omega) (by omega) ?_
    exact go _ _ _ H locs ls hsim hP hD hS (lv_sub hl [0, 1, 2, 3, 4] rfl)
  · exact absurd hq1 c_420
set_option maxHeartbeats 4000000 in
set_option maxRecDepth 100000 in
theorem w_count {p : Program} {l : Launch} {e : Env} {s : State} {m : MethodId} {below : List Frame} {meth : Method} {c : Code} {D : va_G} {b L : Nat} {xs : Nat → Int32} {h0 a1 a2 a3 a4 : Nat} {cZ cI : ClassId} {h1 b1 b2 b3 : Nat} {cJ : ClassId} {o1 : Nat} {cL : ClassId} {j : Nat} {u : ABs} {v : MDs} {F : Nat → Int64} {H : Heap} {locs : List Loc} {ls : Array Slot} (C0 : lwC p l s m meth c b L xs D cZ cI cL cJ) (hj : 3 * j + 3 ≤ L) (hsim : sim j u v) (hP : va_P D vwCl (lwW h0 a1 a2 a3 a4 cZ cI h1 b1 b2 b3 cJ o1 cL u v F) H) (hD : va_D (fun q : Nat => s.heap.size ≤ q) (lwW h0 a1 a2 a3 a4 cZ cI h1 b1 b2 b3 cJ o1 cL u v F)) (hS : va_S (fun q : Nat => s.heap.size ≤ q) s.heap H locs) (hl : lv_has ls 7 [(0, .ref b), (1, .ref h0), (2, .ref h1), (3, .ref o1), (4, .int (nI (3 * j)))]) (go : lwGo p l e s m below meth c b D h0 a1 a2 a3 a4 cZ cI h1 b1 b2 b3 cJ o1 cL j) : W p l e room_1 s m #[Value.ref b] below meth c H locs (10 + j) (3601 + 6 * j) (lw_Z below #[Value.ref b] s) (F0 m 493 ls []) := by
  obtain ⟨⟨hx, hb, hr, hml, hown, hts, hX, hbl, hlocks, hgv⟩, hL, hl9, hK, hE, hN⟩ := C0
  have hA : ∀ q : Nat, s.heap.size ≤ q → (fun q : Nat => s.heap.size ≤ q) q := fun _ h => h
  have hbA : ¬ (fun q : Nat => s.heap.size ≤ q) b := Nat.not_le.mpr hbl
  have hown : s.vm.findClass RL = some m.cls := hown
  have htL : ∀ w ∈ wsL_law, w.before #[Value.ref b] s = true := fun w h => hts w (wsL_law_in w h)
  have hKa := hK.sub (tys' := abT cZ cI) [0, 1] rfl
  have hKh := hK.sub (tys' := hlT cZ cI cL) [0, 1, 2] rfl
  have hKm := hK.sub (tys' := mdT cJ) [3] rfl
  refine lv_aload_n hx hb dL_law_493 rfl (lv_at hl 1 rfl) ?_
  refine lv_aload_n hx hb dL_law_494 rfl (lv_at hl 0 rfl) ?_
  refine lv_iload hx hb dL_law_495 (lv_at hl 4 rfl) ?_
  refine lv_iconst (v := 1) hx hb dL_law_497 (by decide) ?_
  refine lv_iadd hx hb dL_law_498 ?_
  rw [nI_1]
  refine kz_sld hx hb hX hbl hbA hS (k := 3 * j + 1) (by omega) (by omega) dL_law_499 ?_
  refine lv_if_eq (tgt := 507) hx hb dL_law_500 (by decide) (fun c_500 => ?_) (fun c_500 => ?_)
  · refine lv_iconst (v := 0) hx hb dL_law_507 (by decide) ?_
    refine kz_callR (As := [.int 0]) (rest := []) ⟨hx, hb, hml, hown, htL⟩ (c_count l D h0 a1 a2 a3 a4 cZ cI u.1 u.2.1 u.2.2.1 u.2.2.2.1 u.2.2.2.2.1 u.2.2.2.2.2.1 u.2.2.2.2.2.2.1 u.2.2.2.2.2.2.2 0) (cwV 1 htL gL_law_X0_count rfl rfl rfl (by decide +kernel) ⟨Nat.le_of_ble_eq_true rfl, Nat.le_of_ble_eq_true rfl⟩) (hP.sub [1, 2, 3, 4, 5] rfl) hKa (va_recv hK hP (ci := 0) (q0 := 1) rfl rfl) rfl hl.1 rfl (Nat.le_of_ble_eq_true rfl) dL_law_508 ⟨by show _ ≤ 1045; omega, by show _ ≤ 11859; omega⟩ (fun r1 hu => ?_)
    refine lv_aload_n hx hb dL_law_511 rfl (lv_at hl 2 rfl) ?_
    refine lv_aload_n hx hb dL_law_512 rfl (lv_at hl 0 rfl) ?_
    refine lv_iload hx hb dL_law_513 (lv_at hl 4 rfl) ?_
    refine lv_iconst (v := 1) hx hb dL_law_515 (by decide) ?_
    refine lv_iadd hx hb dL_law_516 ?_
    rw [nI_1]
    refine kz_sld hx hb hX hbl hbA hS (k := 3 * j + 1) (by omega) (by omega) dL_law_517 ?_
    refine lv_if_eq (tgt := 525) hx hb dL_law_518 (by decide) (fun c_518 => ?_) (fun c_518 => ?_)
    · refine lv_iconst (v := 0) hx hb dL_law_525 (by decide) ?_
      refine kz_calli (wc := mdU h1 b1 b2 b3 cJ v) (wr := hlW o1 cL F (abU h0 a1 a2 a3 a4 cZ cI u)) (w1 := mdU h1 b1 b2 b3 cJ) (As := [.int 0]) (rest := [.int r1]) ⟨hx, hb, hml, hown, hts⟩ (m_count l D h1 b1 b2 b3 cJ v.1 v.2.1 v.2.2.1 v.2.2.2.1 v.2.2.2.2.1 v.2.2.2.2.2.1 v.2.2.2.2.2.2.1 v.2.2.2.2.2.2.2 _ 0) (cwV 1 hts gW_X1_count rfl rfl rfl (by decide +kernel) ⟨Nat.le_of_ble_eq_true rfl, Nat.le_of_ble_eq_true rfl⟩) hP hD hS hA hKm [6, 7, 8, 9] [0, 1, 2, 3, 4, 5] rfl rfl rfl rfl rfl (by decide) (va_recv hK hP (ci := 1) (q0 := 6) rfl rfl) rfl hl.1 rfl (Nat.le_of_ble_eq_true rfl) dL_law_526 ⟨by show _ ≤ 1045; omega, by show _ ≤ 11859; omega⟩ (fun r2 v1 H locs hm hP hD hS => ?_)
      have hP : va_P D vwCl (lwW h0 a1 a2 a3 a4 cZ cI h1 b1 b2 b3 cJ o1 cL u v1 F) H := hP
      have hD : va_D (fun q : Nat => s.heap.size ≤ q) (lwW h0 a1 a2 a3 a4 cZ cI h1 b1 b2 b3 cJ o1 cL u v1 F) := hD
      obtain ⟨hq1, hsim⟩ := sim_count hsim hu hm
      refine lv_icmp_eq (tgt := 547) hx hb dL_law_529 (by decide) (fun c_529 => ?_) (fun c_529 => ?_)
      · refine W.widen (k := 11 + j) (n := 3607 + 6 * j) (by omega) (by omega) ?_
        exact go _ _ _ H locs ls hsim hP hD hS (lv_sub hl [0, 1, 2, 3, 4] rfl)
      · exact absurd hq1 c_529
    · exact absurd c_500 c_518
  · refine lv_iconst (v := 1) hx hb dL_law_503 (by decide) ?_
    refine lv_goto (tgt := 508) hx hb dL_law_504 (by decide) ?_
    refine kz_callR (As := [.int 1]) (rest := []) ⟨hx, hb, hml, hown, htL⟩ (c_count l D h0 a1 a2 a3 a4 cZ cI u.1 u.2.1 u.2.2.1 u.2.2.2.1 u.2.2.2.2.1 u.2.2.2.2.2.1 u.2.2.2.2.2.2.1 u.2.2.2.2.2.2.2 1) (cwV 1 htL gL_law_X0_count rfl rfl rfl (by decide +kernel) ⟨Nat.le_of_ble_eq_true rfl, Nat.le_of_ble_eq_true rfl⟩) (hP.sub [1, 2, 3, 4, 5] rfl) hKa (va_recv hK hP (ci := 0) (q0 := 1) rfl rfl) rfl hl.1 rfl (Nat.le_of_ble_eq_true rfl) dL_law_508 ⟨by show _ ≤ 1045; omega, by show _ ≤ 11859; omega⟩ (fun r1 hu => ?_)
    refine lv_aload_n hx hb dL_law_511 rfl (lv_at hl 2 rfl) ?_
    refine lv_aload_n hx hb dL_law_512 rfl (lv_at hl 0 rfl) ?_
    refine lv_iload hx hb dL_law_513 (lv_at hl 4 rfl) ?_
    refine lv_iconst (v := 1) hx hb dL_law_515 (by decide) ?_
    refine lv_iadd hx hb dL_law_516 ?_
    rw [nI_1]
    refine kz_sld hx hb hX hbl hbA hS (k := 3 * j + 1) (by omega) (by omega) dL_law_517 ?_
    refine lv_if_eq (tgt := 525) hx hb dL_law_518 (by decide) (fun c_518 => ?_) (fun c_518 => ?_)
    · exact absurd c_518 c_500
    · refine lv_iconst (v := 1) hx hb dL_law_521 (by decide) ?_
      refine lv_goto (tgt := 526) hx hb dL_law_522 (by decide) ?_
      refine kz_calli (wc := mdU h1 b1 b2 b3 cJ v) (wr := hlW o1 cL F (abU h0 a1 a2 a3 a4 cZ cI u)) (w1 := mdU h1 b1 b2 b3 cJ) (As := [.int 1]) (rest := [.int r1]) ⟨hx, hb, hml, hown, hts⟩ (m_count l D h1 b1 b2 b3 cJ v.1 v.2.1 v.2.2.1 v.2.2.2.1 v.2.2.2.2.1 v.2.2.2.2.2.1 v.2.2.2.2.2.2.1 v.2.2.2.2.2.2.2 _ 1) (cwV 1 hts gW_X1_count rfl rfl rfl (by decide +kernel) ⟨Nat.le_of_ble_eq_true rfl, Nat.le_of_ble_eq_true rfl⟩) hP hD hS hA hKm [6, 7, 8, 9] [0, 1, 2, 3, 4, 5] rfl rfl rfl rfl rfl (by decide) (va_recv hK hP (ci := 1) (q0 := 6) rfl rfl) rfl hl.1 rfl (Nat.le_of_ble_eq_true rfl) dL_law_526 ⟨by show _ ≤ 1045; omega, by show _ ≤ 11859; omega⟩ (fun r2 v1 H locs hm hP hD hS => ?_)
      have hP : va_P D vwCl (lwW h0 a1 a2 a3 a4 cZ cI h1 b1 b2 b3 cJ o1 cL u v1 F) H := hP
      have hD : va_D (fun q : Nat => s.heap.size ≤ q) (lwW h0 a1 a2 a3 a4 cZ cI h1 b1 b2 b3 cJ o1 cL u v1 F) := hD
      obtain ⟨hq1, hsim⟩ := sim_count hsim hu hm
      refine lv_icmp_eq (tgt := 547) hx hb dL_law_529 (by decide) (fun c_529 => ?_) (fun c_529 => ?_)
      · refine W.widen (k := 11 + j) (n := 3607 + 6 * j) (by omega) (by omega) ?_
        exact go _ _ _ H locs ls hsim hP hD hS (lv_sub hl [0, 1, 2, 3, 4] rfl)
      · exact absurd hq1 c_529
set_option maxHeartbeats 4000000 in
set_option maxRecDepth 100000 in
theorem w_time {p : Program} {l : Launch} {e : Env} {s : State} {m : MethodId} {below : List Frame} {meth : Method} {c : Code} {D : va_G} {b L : Nat} {xs : Nat → Int32} {h0 a1 a2 a3 a4 : Nat} {cZ cI : ClassId} {h1 b1 b2 b3 : Nat} {cJ : ClassId} {o1 : Nat} {cL : ClassId} {j : Nat} {u : ABs} {v : MDs} {F : Nat → Int64} {H : Heap} {locs : List Loc} {ls : Array Slot} (C0 : lwC p l s m meth c b L xs D cZ cI cL cJ) (hj : 3 * j + 3 ≤ L) (hsim : sim j u v) (hP : va_P D vwCl (lwW h0 a1 a2 a3 a4 cZ cI h1 b1 b2 b3 cJ o1 cL u v F) H) (hD : va_D (fun q : Nat => s.heap.size ≤ q) (lwW h0 a1 a2 a3 a4 cZ cI h1 b1 b2 b3 cJ o1 cL u v F)) (hS : va_S (fun q : Nat => s.heap.size ≤ q) s.heap H locs) (hl : lv_has ls 7 [(0, .ref b), (1, .ref h0), (2, .ref h1), (3, .ref o1), (4, .int (nI (3 * j)))]) (go : lwGo p l e s m below meth c b D h0 a1 a2 a3 a4 cZ cI h1 b1 b2 b3 cJ o1 cL j) : W p l e room_1 s m #[Value.ref b] below meth c H locs (10 + j) (3601 + 6 * j) (lw_Z below #[Value.ref b] s) (F0 m 534 ls []) := by
  obtain ⟨⟨hx, hb, hr, hml, hown, hts, hX, hbl, hlocks, hgv⟩, hL, hl9, hK, hE, hN⟩ := C0
  have hA : ∀ q : Nat, s.heap.size ≤ q → (fun q : Nat => s.heap.size ≤ q) q := fun _ h => h
  have hbA : ¬ (fun q : Nat => s.heap.size ≤ q) b := Nat.not_le.mpr hbl
  have hown : s.vm.findClass RL = some m.cls := hown
  have htL : ∀ w ∈ wsL_law, w.before #[Value.ref b] s = true := fun w h => hts w (wsL_law_in w h)
  have hKa := hK.sub (tys' := abT cZ cI) [0, 1] rfl
  have hKh := hK.sub (tys' := hlT cZ cI cL) [0, 1, 2] rfl
  have hKm := hK.sub (tys' := mdT cJ) [3] rfl
  refine lv_aload_n hx hb dL_law_534 rfl (lv_at hl 1 rfl) ?_
  refine kz_callR (As := []) (rest := []) ⟨hx, hb, hml, hown, htL⟩ (c_time l D h0 a1 a2 a3 a4 cZ cI u.1 u.2.1 u.2.2.1 u.2.2.2.1 u.2.2.2.2.1 u.2.2.2.2.2.1 u.2.2.2.2.2.2.1 u.2.2.2.2.2.2.2 ) (cwV 0 htL gL_law_X0_time rfl rfl rfl (by decide +kernel) ⟨Nat.le_of_ble_eq_true rfl, Nat.le_of_ble_eq_true rfl⟩) (hP.sub [1, 2, 3, 4, 5] rfl) hKa (va_recv hK hP (ci := 0) (q0 := 1) rfl rfl) rfl hl.1 rfl (Nat.le_of_ble_eq_true rfl) dL_law_535 ⟨by show _ ≤ 1045; omega, by show _ ≤ 11859; omega⟩ (fun r1 hu => ?_)
  refine lv_aload_n hx hb dL_law_538 rfl (lv_at hl 2 rfl) ?_
  refine kz_calli (wc := mdU h1 b1 b2 b3 cJ v) (wr := hlW o1 cL F (abU h0 a1 a2 a3 a4 cZ cI u)) (w1 := mdU h1 b1 b2 b3 cJ) (As := []) (rest := [.int r1]) ⟨hx, hb, hml, hown, hts⟩ (m_time l D h1 b1 b2 b3 cJ v.1 v.2.1 v.2.2.1 v.2.2.2.1 v.2.2.2.2.1 v.2.2.2.2.2.1 v.2.2.2.2.2.2.1 v.2.2.2.2.2.2.2 _ ) (cwV 0 hts gW_X1_time rfl rfl rfl (by decide +kernel) ⟨Nat.le_of_ble_eq_true rfl, Nat.le_of_ble_eq_true rfl⟩) hP hD hS hA hKm [6, 7, 8, 9] [0, 1, 2, 3, 4, 5] rfl rfl rfl rfl rfl (by decide) (va_recv hK hP (ci := 1) (q0 := 6) rfl rfl) rfl hl.1 rfl (Nat.le_of_ble_eq_true rfl) dL_law_539 ⟨by show _ ≤ 1045; omega, by show _ ≤ 11859; omega⟩ (fun r2 v1 H locs hm hP hD hS => ?_)
  have hP : va_P D vwCl (lwW h0 a1 a2 a3 a4 cZ cI h1 b1 b2 b3 cJ o1 cL u v1 F) H := hP
  have hD : va_D (fun q : Nat => s.heap.size ≤ q) (lwW h0 a1 a2 a3 a4 cZ cI h1 b1 b2 b3 cJ o1 cL u v1 F) := hD
  obtain ⟨hq1, hsim⟩ := sim_time hsim hu hm
  refine lv_icmp_eq (tgt := 547) hx hb dL_law_542 (by decide) (fun c_542 => ?_) (fun c_542 => ?_)
  · refine W.widen (k := 11 + j) (n := 3607 + 6 * j) (by omega) (by omega) ?_
    exact go _ _ _ H locs ls hsim hP hD hS (lv_sub hl [0, 1, 2, 3, 4] rfl)
  · exact absurd hq1 c_542
