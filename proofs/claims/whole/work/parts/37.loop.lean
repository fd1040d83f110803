/-! The law's loop, whole. -/
theorem kz_inc3 (j : Nat) : nI (3 * j) + Int32.ofInt 3 = nI (3 * (j + 1)) := by
  have h : Int32.ofInt 3 = nI 3 := by decide
  rw [h, nI_add]
  rfl
theorem law_cmp {L j : Nat} (hL : L ≤ 1536) (hj : 3 * j ≤ 1536) : (Int32.ofNat L - 3 < nI (3 * j)) ↔ L < 3 * j + 3 := by
  rw [Int32.lt_iff_toInt_lt, show Int32.ofNat L - 3 = nI L - nI 3 from rfl, pk_sub_toInt (by omega) (by omega), nI_toInt (by omega)]
  omega
set_option maxHeartbeats 4000000 in
set_option maxRecDepth 100000 in
theorem law_loop {p : Program} {l : Launch} {e : Env} {s : State} {m : MethodId} {below : List Frame} {meth : Method} {c : Code} {D : va_G} {b L : Nat} {xs : Nat → Int32} {h0 a1 a2 a3 a4 : Nat} {cZ cI : ClassId} {h1 b1 b2 b3 : Nat} {cJ : ClassId} {o1 : Nat} {cL : ClassId} (C0 : lwC p l s m meth c b L xs D cZ cI cL cJ) : ∀ (n j : Nat) (u : ABs) (v : MDs) (F : Nat → Int64), 3 * j ≤ L → 513 ≤ j + n → sim j u v → ∀ (H : Heap) (locs : List Loc) (ls : Array Slot), va_P D vwCl (lwW h0 a1 a2 a3 a4 cZ cI h1 b1 b2 b3 cJ o1 cL u v F) H → va_D (fun q : Nat => s.heap.size ≤ q) (lwW h0 a1 a2 a3 a4 cZ cI h1 b1 b2 b3 cJ o1 cL u v F) → va_S (fun q : Nat => s.heap.size ≤ q) s.heap H locs → lv_has ls 7 [(0, .ref b), (1, .ref h0), (2, .ref h1), (3, .ref o1), (4, .int (nI (3 * j)))] → W p l e room_1 s m #[Value.ref b] below meth c H locs (10 + j) (3601 + 6 * j) (lw_Z below #[Value.ref b] s) (F0 m 23 ls []) := by
  obtain ⟨⟨hx, hb, hr, hml, hown, hts, hX, hbl, hlocks, hgv⟩, hL, hl9, hK, hE, hN⟩ := id C0
  have hbA : ¬ (fun q : Nat => s.heap.size ≤ q) b := Nat.not_le.mpr hbl
  intro n
  induction n with
  | zero =>
    intro j u v F h1 h2
    exact absurd h2 (by omega)
  | succ n ih =>
    intro j u v F hjL hjn hsim H locs ls hP hD hS hl
    refine lv_iload hx hb dL_law_23 (lv_at hl 4 rfl) ?_
    refine lv_aload_n hx hb dL_law_25 rfl (lv_at hl 0 rfl) ?_
    refine va_slen hx hb hX hbl hbA hS dL_law_26 ?_
    refine lv_iconst (v := 3) hx hb dL_law_27 (by decide) ?_
    refine lv_isub hx hb dL_law_28 ?_
    refine lv_icmp_gt (tgt := 553) hx hb dL_law_29 (by decide) (fun c_29 => ?_) (fun c_29 => ?_)
    · refine lv_iconst (v := 1) hx hb dL_law_553 (by decide) ?_
      refine va_forget (fun q hq => hS.2.2 q hq) ?_
      refine W.widen (k := 1045) (n := 11859) (by omega) (by omega) ?_
      exact lw_ret hx hb hr hlocks dL_law_554
    · have hj : 3 * j + 3 ≤ L := Nat.not_lt.mp (fun z => c_29 ((law_cmp hL (by omega)).mpr z))
      have go : lwGo p l e s m below meth c b D h0 a1 a2 a3 a4 cZ cI h1 b1 b2 b3 cJ o1 cL j := by
        intro u v F H locs ls hsim hP hD hS hl
        refine lv_iinc (v := nI (3 * (j + 1))) (lv' := [(4, .int (nI (3 * (j + 1)))), (0, .ref b), (1, .ref h0), (2, .ref h1), (3, .ref o1)]) hx hb dL_law_547 hl (k := 4) rfl (kz_inc3 j) (by decide) rfl (fun ls hl => ?_)
        refine lv_goto (tgt := 23) hx hb dL_law_550 (by decide) ?_
        refine W.widen (k := 10 + (j + 1)) (n := 3601 + 6 * (j + 1)) (by omega) (by omega) ?_
        exact ih (j + 1) u v F (by omega) (by omega) hsim H locs ls hP hD hS (lv_sub hl [1, 2, 3, 4, 0] rfl)
      refine lv_aload_n hx hb dL_law_32 rfl (lv_at hl 0 rfl) ?_
      refine lv_iload hx hb dL_law_33 (lv_at hl 4 rfl) ?_
      refine kz_sld hx hb hX hbl hbA hS (k := 3 * j) (by omega) (by omega) dL_law_35 ?_
      refine lv_bipush (v := 15) hx hb dL_law_36 (by decide) ?_
      refine lv_iand hx hb dL_law_38 ?_
      obtain ⟨t, ht, et⟩ := pk_andE (xs (3 * j)) (m := 15) 4 rfl
      rw [et]
      clear et
      rcases (show t = 0 ∨ t = 1 ∨ t = 2 ∨ t = 3 ∨ t = 4 ∨ t = 5 ∨ t = 6 ∨ t = 7 ∨ t = 8 ∨ t = 9 ∨ t = 10 ∨ t = 11 ∨ t = 12 ∨ t = 13 ∨ t = 14 ∨ t = 15 by omega) with rfl | rfl | rfl | rfl | rfl | rfl | rfl | rfl | rfl | rfl | rfl | rfl | rfl | rfl | rfl | rfl
      · refine lv_tableIn (tgt := 100) (off := 61) hx hb dL_law_39 (by decide) (by decide) (by decide) (by decide) ?_
        exact w_set C0 hj hsim hP hD hS hl go
      · refine lv_tableIn (tgt := 168) (off := 129) hx hb dL_law_39 (by decide) (by decide) (by decide) (by decide) ?_
        exact w_shift C0 hj hsim hP hD hS hl go
      · refine lv_tableIn (tgt := 236) (off := 197) hx hb dL_law_39 (by decide) (by decide) (by decide) (by decide) ?_
        exact w_stop C0 hj hsim hP hD hS hl go
      · refine lv_tableIn (tgt := 292) (off := 253) hx hb dL_law_39 (by decide) (by decide) (by decide) (by decide) ?_
        exact w_stopAll C0 hj hsim hP hD hS hl go
      · refine lv_tableIn (tgt := 317) (off := 278) hx hb dL_law_39 (by decide) (by decide) (by decide) (by decide) ?_
        exact w_pass C0 hj hsim hP hD hS hl go
      · refine lv_tableIn (tgt := 373) (off := 334) hx hb dL_law_39 (by decide) (by decide) (by decide) (by decide) ?_
        exact w_ring C0 hj hsim hP hD hS hl go
      · refine lv_tableIn (tgt := 386) (off := 347) hx hb dL_law_39 (by decide) (by decide) (by decide) (by decide) ?_
        exact w_told C0 hj hsim hP hD hS hl go
      · refine lv_tableIn (tgt := 399) (off := 360) hx hb dL_law_39 (by decide) (by decide) (by decide) (by decide) ?_
        exact w_wasDue C0 hj hsim hP hD hS hl go
      · refine lv_tableIn (tgt := 412) (off := 373) hx hb dL_law_39 (by decide) (by decide) (by decide) (by decide) ?_
        exact w_next C0 hj hsim hP hD hS hl go
      · refine lv_tableIn (tgt := 425) (off := 386) hx hb dL_law_39 (by decide) (by decide) (by decide) (by decide) ?_
        exact w_about C0 hj hsim hP hD hS hl go
      · refine lv_tableIn (tgt := 493) (off := 454) hx hb dL_law_39 (by decide) (by decide) (by decide) (by decide) ?_
        exact w_count C0 hj hsim hP hD hS hl go
      · refine lv_tableIn (tgt := 534) (off := 495) hx hb dL_law_39 (by decide) (by decide) (by decide) (by decide) ?_
        exact w_time C0 hj hsim hP hD hS hl go
      · refine lv_tableOut (tgt := 547) hx hb dL_law_39 (by decide) (by decide) ?_
        refine W.widen (k := 11 + j) (n := 3607 + 6 * j) (by omega) (by omega) ?_
        exact go u v F H locs ls (sim_up hsim (Nat.le_succ _)) hP hD hS hl
      · refine lv_tableOut (tgt := 547) hx hb dL_law_39 (by decide) (by decide) ?_
        refine W.widen (k := 11 + j) (n := 3607 + 6 * j) (by omega) (by omega) ?_
        exact go u v F H locs ls (sim_up hsim (Nat.le_succ _)) hP hD hS hl
      · refine lv_tableOut (tgt := 547) hx hb dL_law_39 (by decide) (by decide) ?_
        refine W.widen (k := 11 + j) (n := 3607 + 6 * j) (by omega) (by omega) ?_
        exact go u v F H locs ls (sim_up hsim (Nat.le_succ _)) hP hD hS hl
      · refine lv_tableOut (tgt := 547) hx hb dL_law_39 (by decide) (by decide) ?_
        refine W.widen (k := 11 + j) (n := 3607 + 6 * j) (by omega) (by omega) ?_
        exact go u v F H locs ls (sim_up hsim (Nat.le_succ _)) hP hD hS hl
