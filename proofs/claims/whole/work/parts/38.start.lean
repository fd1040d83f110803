/-! The law from its entry. -/
theorem st_texts {args : Array Value} {s : State} (hts : ∀ w ∈ lw_tbl, w.before args s = true) (hs : ∀ w ∈ flatC (Jvm.Cond.and given_1 narrow_1), w.before args s = true) : ∀ q ∈ xz_texts, ∃ a : Nat, vk_R RX0 q.1 q.2 a s := by
  intro q hq
  simp only [xz_texts, List.mem_cons, List.not_mem_nil, or_false] at hq
  rcases hq with rfl | rfl | rfl | rfl | rfl | rfl | rfl
  · obtain ⟨a, -, -, -, ha, -⟩ := Cond.exactly_spec (hs (.exactly (.string RX0 42) "java/lang/String") (by decide +kernel))
    exact ⟨a, vk_R.of (hts (.stringRef RX0 42 "ticks is not 0 .. 1000000000") (by decide +kernel)) ha⟩
  · obtain ⟨a, -, -, -, ha, -⟩ := Cond.exactly_spec (hs (.exactly (.string RX0 53) "java/lang/String") (by decide +kernel))
    exact ⟨a, vk_R.of (hts (.stringRef RX0 53 "there are 512 alarms") (by decide +kernel)) ha⟩
  · obtain ⟨a, -, -, -, ha, -⟩ := Cond.exactly_spec (hs (.exactly (.string RX0 59) "java/lang/String") (by decide +kernel))
    exact ⟨a, vk_R.of (hts (.stringRef RX0 59 "it would be due behind 1000000000") (by decide +kernel)) ha⟩
  · obtain ⟨a, -, -, -, ha, -⟩ := Cond.exactly_spec (hs (.exactly (.string RX0 68) "java/lang/String") (by decide +kernel))
    exact ⟨a, vk_R.of (hts (.stringRef RX0 68 "there is no such alarm") (by decide +kernel)) ha⟩
  · obtain ⟨a, -, -, -, ha, -⟩ := Cond.exactly_spec (hs (.exactly (.string RX0 71) "java/lang/String") (by decide +kernel))
    exact ⟨a, vk_R.of (hts (.stringRef RX0 71 "ticks is not 0 .. 200000") (by decide +kernel)) ha⟩
  · obtain ⟨a, -, -, -, ha, -⟩ := Cond.exactly_spec (hs (.exactly (.string RX0 73) "java/lang/String") (by decide +kernel))
    exact ⟨a, vk_R.of (hts (.stringRef RX0 73 "the time would be behind 1000000000") (by decide +kernel)) ha⟩
  · obtain ⟨a, -, -, -, ha, -⟩ := Cond.exactly_spec (hs (.exactly (.string RX0 81) "java/lang/String") (by decide +kernel))
    exact ⟨a, vk_R.of (hts (.stringRef RX0 81 "what is not 0 or 1") (by decide +kernel)) ha⟩
theorem st_E {args : Array Value} {s : State} (hts : ∀ w ∈ lw_tbl, w.before args s = true) (hs : ∀ w ∈ flatC (Jvm.Cond.and given_1 narrow_1), w.before args s = true) : xz_E (fun q : Nat => s.heap.size ≤ q) s :=
  ⟨vx_Zqof (hts (.laysStatic Bundle.tN "UNASSIGNED_STACK" Bundle.steD) (by decide +kernel)) (hts (.initialized Bundle.tN) (by decide +kernel)) (hs (.isRef (.static Bundle.tN "UNASSIGNED_STACK" Bundle.steD)) (by decide +kernel)) (fun a h9 => Nat.not_le.mpr h9),
   vx_Zqof (hts (.laysStatic Bundle.tN "SUPPRESSED_SENTINEL" Bundle.listD) (by decide +kernel)) (hts (.initialized Bundle.tN) (by decide +kernel)) (hs (.isRef (.static Bundle.tN "SUPPRESSED_SENTINEL" Bundle.listD)) (by decide +kernel)) (fun a h9 => Nat.not_le.mpr h9),
   ⟨va_Nw.of rfl (hts (.castable xzA xzA) (by decide +kernel)), va_Nw.of rfl (hts (.castable xzI xzI) (by decide +kernel)), va_Nw.of rfl (hts (xzD "java/lang/RuntimeException") (by decide +kernel)), va_Nw.of rfl (hts (xzD "java/lang/Exception") (by decide +kernel)), va_Nw.of rfl (hts (xzD "java/lang/Throwable") (by decide +kernel))⟩, st_texts hts hs⟩
set_option maxHeartbeats 4000000 in
set_option maxRecDepth 100000 in
/-- THE LAW, from its entry -/
theorem whole_start {p : Program} {e : Env} {s : State} {m : MethodId} {below : List Frame} {meth : Method} {c : Code} (l : Launch) (hl9 : l.stackTraces = false) {b L : Nat} {xs : Nat → Int32} (hL : L ≤ 1536) (C0 : lw_At p s m meth c b L xs) : W p l e room_1 s m #[Value.ref b] below meth c s.heap [] 0 0 (lw_Z below #[Value.ref b] s) (entryFrame m ([Value.ref b] : List Value).toArray 7) := by
  obtain ⟨hx, hb, hr, hml, hown, hts, hX, hbl, hlocks, hgv⟩ := id C0
  have hown : s.vm.findClass RL = some m.cls := hown
  have hA : ∀ q : Nat, s.heap.size ≤ q → (fun q : Nat => s.heap.size ≤ q) q := fun _ h => h
  have hs := flat_of_before _ hgv
  have hE := st_E hts hs
  have hN : va_Nc xzI xzA s := va_Nc.of (hs (.not (.castable xzI xzA)) (by decide +kernel))
  have htL : ∀ w ∈ wsL_law, w.before #[Value.ref b] s = true := fun w h => hts w (wsL_law_in w h)
  obtain ⟨c0, iS0, hKn0⟩ := u_known (C := RX0) (T := TX0) (N := 8) (n := 8) hts inX0 (hts (.instantiable RX0 8) (by decide +kernel))
  obtain ⟨c1, iS1, hKn1⟩ := u_known (C := RX1) (T := TX1) (N := 8) (n := 8) hts inX1 (hts (.instantiable RX1 8) (by decide +kernel))
  obtain ⟨D, hKc⟩ : ∃ D : va_G, ∀ (k : Nat) (q : vw_C), vwCl[k]? = some q → u_Kn s q.1 q.2.1 q.2.2 (D.1 k) (D.2 k) := by
    refine ⟨(fun k => if k = 0 then c0 else c1, fun k => if k = 0 then iS0 else iS1), ?_⟩
    intro k q hq
    match k, hq with
    | 0, hq => cases hq; exact hKn0
    | 1, hq => cases hq; exact hKn1
    | k + 2, hq => simp [vwCl] at hq
  have hS : va_S (fun q : Nat => s.heap.size ≤ q) s.heap s.heap [] := va_S.rf
  have hK : va_K D vwCl [] s := ⟨hKc, fun k q h => by simp at h⟩
  have hP : va_P D vwCl [] s.heap := fun k q h => by simp at h
  have hD : va_D (fun q : Nat => s.heap.size ≤ q) [] := ⟨fun i j p q h => by simp at h, fun k q h => by simp at h⟩
  refine kz_enter [.ref b] (Nat.le_of_ble_eq_true rfl) (fun ls hl => ?_)
  have hl : lv_has ls 7 [(0, .ref b)] := hl
  refine va_new (ci := 0) (fs := [.null, .null, .null, .null, .int 0, .int 0, .int 0, .int 0]) (C := RX0) (T := TX0) (N := 8) hx hb hts inX0 tyX0 tyX0_ok hown (hts (.classLink RL 8 RX0) (by decide +kernel)) (hts (.instantiable RX0 8) (by decide +kernel)) (hts (.initialized RX0) (by decide +kernel)) hK hP hD hS hA rfl (fun j hj => by rcases (show j = 0 ∨ j = 1 ∨ j = 2 ∨ j = 3 ∨ j = 4 ∨ j = 5 ∨ j = 6 ∨ j = 7 by omega) with rfl | rfl | rfl | rfl | rfl | rfl | rfl | rfl <;> rfl) (Nat.le_of_ble_eq_true rfl) (Nat.le_of_ble_eq_true rfl) dL_law_0 (fun h0 H hP hD hS => ?_)
  have hP : va_P D vwCl [(h0, .inr (0, [.null, .null, .null, .null, .int 0, .int 0, .int 0, .int 0]))] H := hP
  have hD : va_D (fun q : Nat => s.heap.size ≤ q) [(h0, .inr (0, [.null, .null, .null, .null, .int 0, .int 0, .int 0, .int 0]))] := hD
  refine W.widen (k := 1) (n := 8) (by decide) (by decide) ?_
  refine lv_dup hx hb dL_law_3 rfl ?_
  have hPc := hP.sub (ws' := [(h0, .inr (0, [.null, .null, .null, .null, .int 0, .int 0, .int 0, .int 0]))]) [0] rfl
  have hDc := hD.sub (ws' := [(h0, .inr (0, [.null, .null, .null, .null, .int 0, .int 0, .int 0, .int 0]))]) [0] (by decide) rfl
  have hKc := hK.sub (tys' := []) [] rfl
  have hFc := va_free (wc := [(h0, .inr (0, [.null, .null, .null, .null, .int 0, .int 0, .int 0, .int 0]))]) hD hS hA [0] rfl
  refine va_callv (va_runI (As := []) (rest := [.ref h0]) ⟨hx, hb, hml, hown, htL⟩ (c_init l D h0 H.size) (cwI 0 htL gL_law_X0_init rfl rfl rfl (hts (.initialized RX0) (by decide +kernel)) (hts (.methodLink RL 30 yX0_init) (by decide +kernel)) (hts (.instanceMethod yX0_init) (by decide +kernel)) rfl (by decide +kernel) ⟨Nat.le_of_ble_eq_true rfl, Nat.le_of_ble_eq_true rfl⟩) ⟨kz_wr, fun U hU hW => ⟨rfl, by rw [hU], by rw [hU]; exact hPc, va_K.moved hW.alike hKc, hDc.weaken (fun _ _ _ _ => trivial)⟩⟩ rfl rfl hl.1 rfl (lv_room (Nat.le_of_ble_eq_true rfl)) dL_law_4 ⟨Nat.le_of_ble_eq_true rfl, Nat.le_of_ble_eq_true rfl⟩) hS (fun q _ h => hFc q h) hFc (fun g t H1 locs ht hvm hw hB hz1 hk1 hS => ?_)
  obtain ⟨a1, a2, a3, a4, cZ, cI⟩ := g
  obtain ⟨hP1, hK1, hD1⟩ := hB
  rw [ht] at hP1
  have hK1 := va_K.moved hvm.symm hK1
  obtain ⟨hP, hD⟩ := va_join (wr := []) (w1 := abW h0 a1 a2 a3 a4 cZ cI (fun _ => 0) (fun _ => 0) (fun _ => 0) (fun _ => 0) 0 0 0 (-1)) hP hD [0] [] rfl rfl (by decide) (by decide) hk1 hFc hP1 hD1
  have hK := hK.app hK1
  generalize H1 = H at hP hS ⊢
  have hP : va_P D vwCl (abW h0 a1 a2 a3 a4 cZ cI (fun _ => 0) (fun _ => 0) (fun _ => 0) (fun _ => 0) 0 0 0 (-1)) H := hP
  have hD : va_D (fun q : Nat => s.heap.size ≤ q) (abW h0 a1 a2 a3 a4 cZ cI (fun _ => 0) (fun _ => 0) (fun _ => 0) (fun _ => 0) 0 0 0 (-1)) := hD
  have hK : va_K D vwCl (abT cZ cI) s := hK
  refine W.widen (k := 5) (n := 2056) (by decide) (by decide) ?_
  refine lv_astore_n (lv' := [(1, .ref h0), (0, .ref b)]) hx hb dL_law_7 rfl hl (by decide) rfl (fun ls hl => ?_)
  refine va_new (ci := 1) (fs := [.int 0, .int 0, .int 0, .null, .null, .null, .int 0, .int 0]) (C := RX1) (T := TX1) (N := 8) hx hb hts inX1 tyX1 tyX1_ok hown (hts (.classLink RL 31 RX1) (by decide +kernel)) (hts (.instantiable RX1 8) (by decide +kernel)) (hts (.initialized RX1) (by decide +kernel)) hK hP hD hS hA rfl (fun j hj => by rcases (show j = 0 ∨ j = 1 ∨ j = 2 ∨ j = 3 ∨ j = 4 ∨ j = 5 ∨ j = 6 ∨ j = 7 by omega) with rfl | rfl | rfl | rfl | rfl | rfl | rfl | rfl <;> rfl) (Nat.le_of_ble_eq_true rfl) (Nat.le_of_ble_eq_true rfl) dL_law_8 (fun h1 H hP hD hS => ?_)
  have hP : va_P D vwCl (abW h0 a1 a2 a3 a4 cZ cI (fun _ => 0) (fun _ => 0) (fun _ => 0) (fun _ => 0) 0 0 0 (-1) ++ [(h1, .inr (1, [.int 0, .int 0, .int 0, .null, .null, .null, .int 0, .int 0]))]) H := hP
  have hD : va_D (fun q : Nat => s.heap.size ≤ q) (abW h0 a1 a2 a3 a4 cZ cI (fun _ => 0) (fun _ => 0) (fun _ => 0) (fun _ => 0) 0 0 0 (-1) ++ [(h1, .inr (1, [.int 0, .int 0, .int 0, .null, .null, .null, .int 0, .int 0]))]) := hD
  refine W.widen (k := 6) (n := 2064) (by decide) (by decide) ?_
  refine lv_dup hx hb dL_law_11 rfl ?_
  have hPc := hP.sub (ws' := [(h1, .inr (1, [.int 0, .int 0, .int 0, .null, .null, .null, .int 0, .int 0]))]) [5] rfl
  have hDc := hD.sub (ws' := [(h1, .inr (1, [.int 0, .int 0, .int 0, .null, .null, .null, .int 0, .int 0]))]) [5] (by decide) rfl
  have hKc := hK.sub (tys' := []) [] rfl
  have hFc := va_free (wc := [(h1, .inr (1, [.int 0, .int 0, .int 0, .null, .null, .null, .int 0, .int 0]))]) hD hS hA [5] rfl
  refine va_callv (va_runI (As := []) (rest := [.ref h1]) ⟨hx, hb, hml, hown, hts⟩ (m_init l D h1 H.size) (cwI 0 hts gW_X1_init rfl rfl rfl (hts (.initialized RX1) (by decide +kernel)) (hts (.methodLink RL 33 yX1_init) (by decide +kernel)) (hts (.instanceMethod yX1_init) (by decide +kernel)) rfl (by decide +kernel) ⟨Nat.le_of_ble_eq_true rfl, Nat.le_of_ble_eq_true rfl⟩) ⟨kz_wr, fun U hU hW => ⟨rfl, by rw [hU], by rw [hU]; exact hPc, va_K.moved hW.alike hKc, hDc.weaken (fun _ _ _ _ => trivial)⟩⟩ rfl rfl hl.1 rfl (lv_room (Nat.le_of_ble_eq_true rfl)) dL_law_12 ⟨Nat.le_of_ble_eq_true rfl, Nat.le_of_ble_eq_true rfl⟩) hS (fun q _ h => hFc q h) hFc (fun g t H1 locs ht hvm hw hB hz1 hk1 hS => ?_)
  obtain ⟨b1, b2, b3, cJ⟩ := g
  obtain ⟨hP1, hK1, hD1⟩ := hB
  rw [ht] at hP1
  have hK1 := va_K.moved hvm.symm hK1
  obtain ⟨hP, hD⟩ := va_join (wr := (abW h0 a1 a2 a3 a4 cZ cI (fun _ => 0) (fun _ => 0) (fun _ => 0) (fun _ => 0) 0 0 0 (-1))) (w1 := (mdW h1 b1 b2 b3 cJ 0 0 0 (fun _ => 0) (fun _ => 0) (fun _ => 0) 0 (-1))) hP hD [5] [0, 1, 2, 3, 4] rfl rfl (by decide) (by decide) hk1 hFc hP1 hD1
  have hK := hK.app hK1
  generalize H1 = H at hP hS ⊢
  have hP : va_P D vwCl (abW h0 a1 a2 a3 a4 cZ cI (fun _ => 0) (fun _ => 0) (fun _ => 0) (fun _ => 0) 0 0 0 (-1) ++ mdW h1 b1 b2 b3 cJ 0 0 0 (fun _ => 0) (fun _ => 0) (fun _ => 0) 0 (-1)) H := hP
  have hD : va_D (fun q : Nat => s.heap.size ≤ q) (abW h0 a1 a2 a3 a4 cZ cI (fun _ => 0) (fun _ => 0) (fun _ => 0) (fun _ => 0) 0 0 0 (-1) ++ mdW h1 b1 b2 b3 cJ 0 0 0 (fun _ => 0) (fun _ => 0) (fun _ => 0) 0 (-1)) := hD
  have hK : va_K D vwCl (abT cZ cI ++ mdT cJ) s := hK
  refine W.widen (k := 9) (n := 3600) (by decide) (by decide) ?_
  refine lv_astore_n (lv' := [(2, .ref h1), (1, .ref h0), (0, .ref b)]) hx hb dL_law_15 rfl hl (by decide) rfl (fun ls hl => ?_)
  refine lv_iconst (v := 1) hx hb dL_law_16 (by decide) ?_
  refine va_newa (atype := .long) (N' := 1) (a0 := (1, .inr (.inl (fun _ => 0)))) (ty := .long) (n := 1) hx hb (hts (.arrayClass .long) (by decide +kernel)) rfl hK hP hD hS hA (fun _ => rfl) (by decide) (by decide) (by decide) (Nat.le_of_ble_eq_true rfl) (Nat.le_of_ble_eq_true rfl) dL_law_17 (fun o1 cL H hK hP hD hS => ?_)
  have hP := hP.sub (ws' := lwW h0 a1 a2 a3 a4 cZ cI h1 b1 b2 b3 cJ o1 cL ((fun _ => 0), (fun _ => 0), (fun _ => 0), (fun _ => 0), 0, 0, 0, -1) (0, 0, 0, (fun _ => 0), (fun _ => 0), (fun _ => 0), 0, -1) (fun _ => 0)) [9, 0, 1, 2, 3, 4, 5, 6, 7, 8] rfl
  have hD := hD.sub (ws' := lwW h0 a1 a2 a3 a4 cZ cI h1 b1 b2 b3 cJ o1 cL ((fun _ => 0), (fun _ => 0), (fun _ => 0), (fun _ => 0), 0, 0, 0, -1) (0, 0, 0, (fun _ => 0), (fun _ => 0), (fun _ => 0), 0, -1) (fun _ => 0)) [9, 0, 1, 2, 3, 4, 5, 6, 7, 8] (by decide) rfl
  have hK := hK.sub (tys' := lwT cZ cI cL cJ) [0, 1, 3, 2] rfl
  refine W.widen (k := 10) (n := 3601) (by decide) (by decide) ?_
  refine lv_astore_n (lv' := [(3, .ref o1), (2, .ref h1), (1, .ref h0), (0, .ref b)]) hx hb dL_law_19 rfl hl (by decide) rfl (fun ls hl => ?_)
  refine lv_iconst (v := 0) hx hb dL_law_20 (by decide) ?_
  refine lv_istore (lv' := [(4, .int 0), (3, .ref o1), (2, .ref h1), (1, .ref h0), (0, .ref b)]) hx hb dL_law_21 hl (by decide) rfl (fun ls hl => ?_)
  exact law_loop ⟨C0, hL, hl9, hK, hE, hN⟩ 513 0 _ _ _ (Nat.zero_le L) (by omega) sim_0 H _ ls hP hD hS (lv_sub hl [4, 3, 2, 1, 0] rfl)
