set_option maxHeartbeats 4000000 in
set_option maxRecDepth 100000 in
theorem w_pass {p : Program} {l : Launch} {e : Env} {s : State} {m : MethodId} {below : List Frame} {meth : Method} {c : Code} {D : va_G} {b L : Nat} {xs : Nat → Int32} {h0 a1 a2 a3 a4 : Nat} {cZ cI : ClassId} {h1 b1 b2 b3 : Nat} {cJ : ClassId} {o1 : Nat} {cL : ClassId} {j : Nat} {u : ABs} {v : MDs} {F : Nat → Int64} {H : Heap} {locs : List Loc} {ls : Array Slot} (C0 : lwC p l s m meth c b L xs D cZ cI cL cJ) (hj : 3 * j + 3 ≤ L) (hsim : sim j u v) (hP : va_P D vwCl (lwW h0 a1 a2 a3 a4 cZ cI h1 b1 b2 b3 cJ o1 cL u v F) H) (hD : va_D (fun q : Nat => s.heap.size ≤ q) (lwW h0 a1 a2 a3 a4 cZ cI h1 b1 b2 b3 cJ o1 cL u v F)) (hS : va_S (fun q : Nat => s.heap.size ≤ q) s.heap H locs) (hl : lv_has ls 7 [(0, .ref b), (1, .ref h0), (2, .ref h1), (3, .ref o1), (4, .int (nI (3 * j)))]) (go : lwGo p l e s m below meth c b D h0 a1 a2 a3 a4 cZ cI h1 b1 b2 b3 cJ o1 cL j) : W p l e room_1 s m #[Value.ref b] below meth c H locs (10 + j) (3601 + 6 * j) (lw_Z below #[Value.ref b] s) (F0 m 317 ls []) := by
  obtain ⟨⟨hx, hb, hr, hml, hown, hts, hX, hbl, hlocks, hgv⟩, hL, hl9, hK, hE, hN⟩ := C0
  have hA : ∀ q : Nat, s.heap.size ≤ q → (fun q : Nat => s.heap.size ≤ q) q := fun _ h => h
  have hbA : ¬ (fun q : Nat => s.heap.size ≤ q) b := Nat.not_le.mpr hbl
  have hown : s.vm.findClass RL = some m.cls := hown
  have htL : ∀ w ∈ wsL_law, w.before #[Value.ref b] s = true := fun w h => hts w (wsL_law_in w h)
  have hKa := hK.sub (tys' := abT cZ cI) [0, 1] rfl
  have hKh := hK.sub (tys' := hlT cZ cI cL) [0, 1, 2] rfl
  have hKm := hK.sub (tys' := mdT cJ) [3] rfl
  refine lv_aload_n hx hb dL_law_317 rfl (lv_at hl 1 rfl) ?_
  refine lv_aload_n hx hb dL_law_318 rfl (lv_at hl 0 rfl) ?_
  refine lv_iload hx hb dL_law_319 (lv_at hl 4 rfl) ?_
  refine lv_iconst (v := 1) hx hb dL_law_321 (by decide) ?_
  refine lv_iadd hx hb dL_law_322 ?_
  rw [nI_1]
  refine kz_sld hx hb hX hbl hbA hS (k := 3 * j + 1) (by omega) (by omega) dL_law_323 ?_
  refine lv_aload_n hx hb dL_law_324 rfl (lv_at hl 3 rfl) ?_
  refine hl_call (wc := hlW o1 cL F (abU h0 a1 a2 a3 a4 cZ cI u)) (wr := mdU h1 b1 b2 b3 cJ v) (w1 := hlU h0 a1 a2 a3 a4 cZ cI o1 cL) (As := [.ref h0, .int (xs (3 * j + 1)), .ref o1]) (rest := []) ⟨hx, hb, hml, hown, htL⟩ (h_pass l hl9 D h0 a1 a2 a3 a4 cZ cI o1 cL u.1 u.2.1 u.2.2.1 u.2.2.2.1 u.2.2.2.2.1 u.2.2.2.2.2.1 u.2.2.2.2.2.2.1 u.2.2.2.2.2.2.2 F _ (xs (3 * j + 1))) (vx_cwSW 3 htL gL_law_L_pass rfl rfl rfl (by decide +kernel) ⟨Nat.le_of_ble_eq_true rfl, Nat.le_of_ble_eq_true rfl⟩) hP hD hS hA hKh hE hN [0, 1, 2, 3, 4, 5] [6, 7, 8, 9] rfl rfl rfl rfl rfl (by decide) rfl hl.1 rfl (Nat.le_of_ble_eq_true rfl) dL_law_325 ⟨by show _ ≤ 1045; omega, by show _ ≤ 11859; omega⟩ (fun r1 w1 H locs hu hP hD hS => ?_)
  have hP := hP.sub (ws' := (lwW h0 a1 a2 a3 a4 cZ cI h1 b1 b2 b3 cJ o1 cL w1.1 v w1.2)) [4, 5, 6, 7, 8, 9, 0, 1, 2, 3] rfl
  have hD := hD.sub (ws' := (lwW h0 a1 a2 a3 a4 cZ cI h1 b1 b2 b3 cJ o1 cL w1.1 v w1.2)) [4, 5, 6, 7, 8, 9, 0, 1, 2, 3] (by decide) rfl
  refine lv_istore (lv' := [(5, .int r1), (0, .ref b), (1, .ref h0), (2, .ref h1), (3, .ref o1), (4, .int (nI (3 * j)))]) hx hb dL_law_328 hl (by decide) rfl (fun ls hl => ?_)
  refine lv_aload_n hx hb dL_law_330 rfl (lv_at hl 3 rfl) ?_
  refine lv_aload_n hx hb dL_law_331 rfl (lv_at hl 1 rfl) ?_
  refine lv_iload hx hb dL_law_332 (lv_at hl 5 rfl) ?_
  refine lv_iconst (v := 1) hx hb dL_law_334 (by decide) ?_
  refine lv_iadd hx hb dL_law_335 ?_
  rw [nI_1]
  refine kz_sld hx hb hX hbl hbA hS (k := 3 * j + 1) (by omega) (by omega) dL_law_336 ?_
  refine kz_calli (wc := mdU h1 b1 b2 b3 cJ v) (wr := hlW o1 cL w1.2 (abU h0 a1 a2 a3 a4 cZ cI w1.1)) (w1 := mdU h1 b1 b2 b3 cJ) (As := [.int (xs (3 * j + 1))]) (rest := []) ⟨hx, hb, hml, hown, hts⟩ (m_pass l D h1 b1 b2 b3 cJ v.1 v.2.1 v.2.2.1 v.2.2.2.1 v.2.2.2.2.1 v.2.2.2.2.2.1 v.2.2.2.2.2.2.1 v.2.2.2.2.2.2.2 _ (xs (3 * j + 1))) (cwV 1 hts gW_X1_pass rfl rfl rfl (by decide +kernel) ⟨Nat.le_of_ble_eq_true rfl, Nat.le_of_ble_eq_true rfl⟩) hP hD hS hA hKm [6, 7, 8, 9] [0, 1, 2, 3, 4, 5] rfl rfl rfl rfl rfl (by decide) (va_recv hK hP (ci := 1) (q0 := 6) rfl rfl) rfl hl.1 rfl (Nat.le_of_ble_eq_true rfl) dL_law_337 ⟨by show _ ≤ 1045; omega, by show _ ≤ 11859; omega⟩ (fun r2 v1 H locs hm hP hD hS => ?_)
  have hP : va_P D vwCl (lwW h0 a1 a2 a3 a4 cZ cI h1 b1 b2 b3 cJ o1 cL w1.1 v1 w1.2) H := hP
  have hD : va_D (fun q : Nat => s.heap.size ≤ q) (lwW h0 a1 a2 a3 a4 cZ cI h1 b1 b2 b3 cJ o1 cL w1.1 v1 w1.2) := hD
  obtain ⟨hq1, hq2, hsim⟩ := sim_pass (by omega) hsim hu hm
  refine lv_istore (lv' := [(6, .int r2), (5, .int r1), (0, .ref b), (1, .ref h0), (2, .ref h1), (3, .ref o1), (4, .int (nI (3 * j)))]) hx hb dL_law_340 hl (by decide) rfl (fun ls hl => ?_)
  refine lv_aload_n hx hb dL_law_342 rfl (lv_at hl 4 rfl) ?_
  refine kz_callR (As := []) (rest := []) ⟨hx, hb, hml, hown, hts⟩ (m_thrown l D h1 b1 b2 b3 cJ v1.1 v1.2.1 v1.2.2.1 v1.2.2.2.1 v1.2.2.2.2.1 v1.2.2.2.2.2.1 v1.2.2.2.2.2.2.1 v1.2.2.2.2.2.2.2) (cwV 0 hts gW_X1_thrown rfl rfl rfl (by decide +kernel) ⟨Nat.le_of_ble_eq_true rfl, Nat.le_of_ble_eq_true rfl⟩) (hP.sub [6, 7, 8, 9] rfl) hKm (va_recv hK hP (ci := 1) (q0 := 6) rfl rfl) rfl hl.1 rfl (Nat.le_of_ble_eq_true rfl) dL_law_343 ⟨by show _ ≤ 1045; omega, by show _ ≤ 11859; omega⟩ (fun r3 h3 => ?_)
  refine lv_iload hx hb dL_law_346 (lv_at hl 1 rfl) ?_
  refine lv_icmp_eq (tgt := 353) hx hb dL_law_348 (by decide) (fun c_348 => ?_) (fun c_348 => ?_)
  · refine lv_iload hx hb dL_law_353 (lv_at hl 1 rfl) ?_
    refine lv_if_ne (tgt := 370) hx hb dL_law_355 (by decide) (fun c_355 => ?_) (fun c_355 => ?_)
    · refine lv_goto (tgt := 547) hx hb dL_law_370 (by decide) ?_
      refine W.widen (k := 11 + j) (n := 3607 + 6 * j) (by omega) (by omega) ?_
      exact go _ _ _ H locs ls hsim hP hD hS (lv_sub hl [2, 3, 4, 5, 6] rfl)
    · refine lv_aload_n hx hb dL_law_358 rfl (lv_at hl 5 rfl) ?_
      refine lv_iconst (v := 0) hx hb dL_law_359 (by decide) ?_
      refine kz_lald0 hx hb hK hP 0 2 rfl rfl (vp_in_nI (n := 0) (N := 1) (by decide) (by decide)) dL_law_360 ?_
      refine lv_iload hx hb dL_law_361 (lv_at hl 0 rfl) ?_
      refine lv_i2l hx hb dL_law_363 rfl ?_
      refine W.lcmp hx hb dL_law_364 ?_
      refine lv_if_eq (tgt := 370) hx hb dL_law_365 (by decide) (fun c_365 => ?_) (fun c_365 => ?_)
      · refine lv_goto (tgt := 547) hx hb dL_law_370 (by decide) ?_
        refine W.widen (k := 11 + j) (n := 3607 + 6 * j) (by omega) (by omega) ?_
        exact go _ _ _ H locs ls hsim hP hD hS (lv_sub hl [2, 3, 4, 5, 6] rfl)
      · exact absurd (by rw [hq2 c_355]; exact lg_self _) c_365
  · exact absurd (h3.trans hq1) c_348
set_option maxHeartbeats 4000000 in
set_option maxRecDepth 100000 in
theorem w_about {p : Program} {l : Launch} {e : Env} {s : State} {m : MethodId} {below : List Frame} {meth : Method} {c : Code} {D : va_G} {b L : Nat} {xs : Nat → Int32} {h0 a1 a2 a3 a4 : Nat} {cZ cI : ClassId} {h1 b1 b2 b3 : Nat} {cJ : ClassId} {o1 : Nat} {cL : ClassId} {j : Nat} {u : ABs} {v : MDs} {F : Nat → Int64} {H : Heap} {locs : List Loc} {ls : Array Slot} (C0 : lwC p l s m meth c b L xs D cZ cI cL cJ) (hj : 3 * j + 3 ≤ L) (hsim : sim j u v) (hP : va_P D vwCl (lwW h0 a1 a2 a3 a4 cZ cI h1 b1 b2 b3 cJ o1 cL u v F) H) (hD : va_D (fun q : Nat => s.heap.size ≤ q) (lwW h0 a1 a2 a3 a4 cZ cI h1 b1 b2 b3 cJ o1 cL u v F)) (hS : va_S (fun q : Nat => s.heap.size ≤ q) s.heap H locs) (hl : lv_has ls 7 [(0, .ref b), (1, .ref h0), (2, .ref h1), (3, .ref o1), (4, .int (nI (3 * j)))]) (go : lwGo p l e s m below meth c b D h0 a1 a2 a3 a4 cZ cI h1 b1 b2 b3 cJ o1 cL j) : W p l e room_1 s m #[Value.ref b] below meth c H locs (10 + j) (3601 + 6 * j) (lw_Z below #[Value.ref b] s) (F0 m 425 ls []) := by
  obtain ⟨⟨hx, hb, hr, hml, hown, hts, hX, hbl, hlocks, hgv⟩, hL, hl9, hK, hE, hN⟩ := C0
  have hA : ∀ q : Nat, s.heap.size ≤ q → (fun q : Nat => s.heap.size ≤ q) q := fun _ h => h
  have hbA : ¬ (fun q : Nat => s.heap.size ≤ q) b := Nat.not_le.mpr hbl
  have hown : s.vm.findClass RL = some m.cls := hown
  have htL : ∀ w ∈ wsL_law, w.before #[Value.ref b] s = true := fun w h => hts w (wsL_law_in w h)
  have hKa := hK.sub (tys' := abT cZ cI) [0, 1] rfl
  have hKh := hK.sub (tys' := hlT cZ cI cL) [0, 1, 2] rfl
  have hKm := hK.sub (tys' := mdT cJ) [3] rfl
  refine lv_aload_n hx hb dL_law_425 rfl (lv_at hl 1 rfl) ?_
  refine lv_aload_n hx hb dL_law_426 rfl (lv_at hl 0 rfl) ?_
  refine lv_iload hx hb dL_law_427 (lv_at hl 4 rfl) ?_
  refine lv_iconst (v := 1) hx hb dL_law_429 (by decide) ?_
  refine lv_iadd hx hb dL_law_430 ?_
  rw [nI_1]
  refine kz_sld hx hb hX hbl hbA hS (k := 3 * j + 1) (by omega) (by omega) dL_law_431 ?_
  refine lv_aload_n hx hb dL_law_432 rfl (lv_at hl 0 rfl) ?_
  refine lv_iload hx hb dL_law_433 (lv_at hl 4 rfl) ?_
  refine lv_iconst (v := 2) hx hb dL_law_435 (by decide) ?_
  refine lv_iadd hx hb dL_law_436 ?_
  rw [kz_p2]
  refine kz_sld hx hb hX hbl hbA hS (k := 3 * j + 2) (by omega) (by omega) dL_law_437 ?_
  refine lv_aload_n hx hb dL_law_438 rfl (lv_at hl 3 rfl) ?_
  refine hl_call (wc := hlW o1 cL F (abU h0 a1 a2 a3 a4 cZ cI u)) (wr := mdU h1 b1 b2 b3 cJ v) (w1 := hlU h0 a1 a2 a3 a4 cZ cI o1 cL) (As := [.ref h0, .int (xs (3 * j + 1)), .int (xs (3 * j + 2)), .ref o1]) (rest := []) ⟨hx, hb, hml, hown, htL⟩ (h_about l hl9 D h0 a1 a2 a3 a4 cZ cI o1 cL u.1 u.2.1 u.2.2.1 u.2.2.2.1 u.2.2.2.2.1 u.2.2.2.2.2.1 u.2.2.2.2.2.2.1 u.2.2.2.2.2.2.2 F _ (xs (3 * j + 1)) (xs (3 * j + 2))) (vx_cwSW 4 htL gL_law_L_about rfl rfl rfl (by decide +kernel) ⟨Nat.le_of_ble_eq_true rfl, Nat.le_of_ble_eq_true rfl⟩) hP hD hS hA hKh hE hN [0, 1, 2, 3, 4, 5] [6, 7, 8, 9] rfl rfl rfl rfl rfl (by decide) rfl hl.1 rfl (Nat.le_of_ble_eq_true rfl) dL_law_439 ⟨by show _ ≤ 1045; omega, by show _ ≤ 11859; omega⟩ (fun r1 w1 H locs hu hP hD hS => ?_)
  have hP := hP.sub (ws' := (lwW h0 a1 a2 a3 a4 cZ cI h1 b1 b2 b3 cJ o1 cL w1.1 v w1.2)) [4, 5, 6, 7, 8, 9, 0, 1, 2, 3] rfl
  have hD := hD.sub (ws' := (lwW h0 a1 a2 a3 a4 cZ cI h1 b1 b2 b3 cJ o1 cL w1.1 v w1.2)) [4, 5, 6, 7, 8, 9, 0, 1, 2, 3] (by decide) rfl
  refine lv_istore (lv' := [(5, .int r1), (0, .ref b), (1, .ref h0), (2, .ref h1), (3, .ref o1), (4, .int (nI (3 * j)))]) hx hb dL_law_442 hl (by decide) rfl (fun ls hl => ?_)
  refine lv_aload_n hx hb dL_law_444 rfl (lv_at hl 3 rfl) ?_
  refine lv_aload_n hx hb dL_law_445 rfl (lv_at hl 1 rfl) ?_
  refine lv_iload hx hb dL_law_446 (lv_at hl 5 rfl) ?_
  refine lv_iconst (v := 1) hx hb dL_law_448 (by decide) ?_
  refine lv_iadd hx hb dL_law_449 ?_
  rw [nI_1]
  refine kz_sld hx hb hX hbl hbA hS (k := 3 * j + 1) (by omega) (by omega) dL_law_450 ?_
  refine lv_aload_n hx hb dL_law_451 rfl (lv_at hl 1 rfl) ?_
  refine lv_iload hx hb dL_law_452 (lv_at hl 5 rfl) ?_
  refine lv_iconst (v := 2) hx hb dL_law_454 (by decide) ?_
  refine lv_iadd hx hb dL_law_455 ?_
  rw [kz_p2]
  refine kz_sld hx hb hX hbl hbA hS (k := 3 * j + 2) (by omega) (by omega) dL_law_456 ?_
  refine kz_calli (wc := mdU h1 b1 b2 b3 cJ v) (wr := hlW o1 cL w1.2 (abU h0 a1 a2 a3 a4 cZ cI w1.1)) (w1 := mdU h1 b1 b2 b3 cJ) (As := [.int (xs (3 * j + 1)), .int (xs (3 * j + 2))]) (rest := []) ⟨hx, hb, hml, hown, hts⟩ (m_about l D h1 b1 b2 b3 cJ v.1 v.2.1 v.2.2.1 v.2.2.2.1 v.2.2.2.2.1 v.2.2.2.2.2.1 v.2.2.2.2.2.2.1 v.2.2.2.2.2.2.2 _ (xs (3 * j + 1)) (xs (3 * j + 2))) (cwV 2 hts gW_X1_about rfl rfl rfl (by decide +kernel) ⟨Nat.le_of_ble_eq_true rfl, Nat.le_of_ble_eq_true rfl⟩) hP hD hS hA hKm [6, 7, 8, 9] [0, 1, 2, 3, 4, 5] rfl rfl rfl rfl rfl (by decide) (va_recv hK hP (ci := 1) (q0 := 6) rfl rfl) rfl hl.1 rfl (Nat.le_of_ble_eq_true rfl) dL_law_457 ⟨by show _ ≤ 1045; omega, by show _ ≤ 11859; omega⟩ (fun r2 v1 H locs hm hP hD hS => ?_)
  have hP : va_P D vwCl (lwW h0 a1 a2 a3 a4 cZ cI h1 b1 b2 b3 cJ o1 cL w1.1 v1 w1.2) H := hP
  have hD : va_D (fun q : Nat => s.heap.size ≤ q) (lwW h0 a1 a2 a3 a4 cZ cI h1 b1 b2 b3 cJ o1 cL w1.1 v1 w1.2) := hD
  obtain ⟨hq1, hq2, hsim⟩ := sim_about (by omega) hsim hu hm
  refine lv_istore (lv' := [(6, .int r2), (5, .int r1), (0, .ref b), (1, .ref h0), (2, .ref h1), (3, .ref o1), (4, .int (nI (3 * j)))]) hx hb dL_law_460 hl (by decide) rfl (fun ls hl => ?_)
  refine lv_aload_n hx hb dL_law_462 rfl (lv_at hl 4 rfl) ?_
  refine kz_callR (As := []) (rest := []) ⟨hx, hb, hml, hown, hts⟩ (m_thrown l D h1 b1 b2 b3 cJ v1.1 v1.2.1 v1.2.2.1 v1.2.2.2.1 v1.2.2.2.2.1 v1.2.2.2.2.2.1 v1.2.2.2.2.2.2.1 v1.2.2.2.2.2.2.2) (cwV 0 hts gW_X1_thrown rfl rfl rfl (by decide +kernel) ⟨Nat.le_of_ble_eq_true rfl, Nat.le_of_ble_eq_true rfl⟩) (hP.sub [6, 7, 8, 9] rfl) hKm (va_recv hK hP (ci := 1) (q0 := 6) rfl rfl) rfl hl.1 rfl (Nat.le_of_ble_eq_true rfl) dL_law_463 ⟨by show _ ≤ 1045; omega, by show _ ≤ 11859; omega⟩ (fun r3 h3 => ?_)
  refine lv_iload hx hb dL_law_466 (lv_at hl 1 rfl) ?_
  refine lv_icmp_eq (tgt := 473) hx hb dL_law_468 (by decide) (fun c_468 => ?_) (fun c_468 => ?_)
  · refine lv_iload hx hb dL_law_473 (lv_at hl 1 rfl) ?_
    refine lv_if_ne (tgt := 490) hx hb dL_law_475 (by decide) (fun c_475 => ?_) (fun c_475 => ?_)
    · refine lv_goto (tgt := 547) hx hb dL_law_490 (by decide) ?_
      refine W.widen (k := 11 + j) (n := 3607 + 6 * j) (by omega) (by omega) ?_
      exact go _ _ _ H locs ls hsim hP hD hS (lv_sub hl [2, 3, 4, 5, 6] rfl)
    · refine lv_aload_n hx hb dL_law_478 rfl (lv_at hl 5 rfl) ?_
      refine lv_iconst (v := 0) hx hb dL_law_479 (by decide) ?_
      refine kz_lald0 hx hb hK hP 0 2 rfl rfl (vp_in_nI (n := 0) (N := 1) (by decide) (by decide)) dL_law_480 ?_
      refine lv_iload hx hb dL_law_481 (lv_at hl 0 rfl) ?_
      refine lv_i2l hx hb dL_law_483 rfl ?_
      refine W.lcmp hx hb dL_law_484 ?_
      refine lv_if_eq (tgt := 490) hx hb dL_law_485 (by decide) (fun c_485 => ?_) (fun c_485 => ?_)
      · refine lv_goto (tgt := 547) hx hb dL_law_490 (by decide) ?_
        refine W.widen (k := 11 + j) (n := 3607 + 6 * j) (by omega) (by omega) ?_
        exact go _ _ _ H locs ls hsim hP hD hS (lv_sub hl [2, 3, 4, 5, 6] rfl)
      · exact absurd (by rw [hq2 c_475]; exact lg_self _) c_485
  · exact absurd (h3.trans hq1) c_468
