abbrev MDg : Type := Nat × Nat × Nat × ClassId
set_option maxHeartbeats 4000000 in
set_option maxRecDepth 100000 in
/-- reference: constructor -/
theorem m_init (l : Launch) (D : va_G) (h1 sz : Nat) : Met l yX1_init wsX1_init ({ frames := 1, cells := 3, slots := 1536, locals := 12 } : Room) (kz_Pc D vwCl [] [(h1, .inr (1, [.int 0, .int 0, .int 0, .null, .null, .null, .int 0, .int 0]))] sz [.ref h1]) (va_Qv (fun _ : MDg => True) (fun v t => va_P D vwCl (mdW h1 v.1 v.2.1 v.2.2.1 v.2.2.2 0 0 0 (fun _ => 0) (fun _ => 0) (fun _ => 0) 0 (-1)) t.heap ∧ va_K D vwCl (mdT v.2.2.2) t ∧ va_D (va_A [(h1, .inr (1, [.int 0, .int 0, .int 0, .null, .null, .null, .int 0, .int 0]))] sz) (mdW h1 v.1 v.2.1 v.2.2.1 v.2.2.2 0 0 0 (fun _ => 0) (fun _ => 0) (fun _ => 0) 0 (-1))) (va_A [(h1, .inr (1, [.int 0, .int 0, .int 0, .null, .null, .null, .int 0, .int 0]))] sz)) 3 1536 (va_A [(h1, .inr (1, [.int 0, .int 0, .int 0, .null, .null, .null, .int 0, .int 0]))] sz) := by
  refine Met.ofW (cc := cX1_init) (maxL := 1) (ret := none) (by decide) rfl ?_
  intro p e s m args below meth c s₁ B hml hv
  obtain ⟨rfl, hsz, hP, hK, hD0⟩ := hv
  have hx := B.exec
  have hb := B.bytes
  have hr := B.returns
  have hts := atoms_spec (ws := wsX1_init) B.pre
  have hown : s.vm.findClass RX1 = some m.cls := findClass_of_methodNamed B.named
  have hlocks := B.notSynchronized
  have hin : meth.name = "<init>" := (name_of_methodNamed B.named B.method).1
  have hinX1 : ∀ w ∈ wsX10, w ∈ wsX1_init := by decide +kernel
  subst hsz
  have hD := hD0.self (sz := s.heap.size)
  generalize hAe : va_A [(h1, .inr (1, [.int 0, .int 0, .int 0, .null, .null, .null, .int 0, .int 0]))] s.heap.size = A at hD ⊢
  have hA : ∀ q : Nat, s.heap.size ≤ q → A q := fun q h => by rw [← hAe]; exact Or.inr h
  have hS : va_S A s.heap s.heap [] := va_S.rf
  refine kz_enter [.ref h1] (Nat.le_of_ble_eq_true rfl) (fun ls hl => ?_)
  have hl : lv_has ls 1 [(0, .ref h1)] := hl
  refine lv_aload_n hx hb dX1_init_0 rfl (lv_at hl 0 rfl) ?_
  refine W.objInit hx hb hown (hts (.methodLink RX1 1 objectInit) (by decide +kernel)) (hts (.instanceMethod objectInit) (by decide +kernel)) (hts (.code objectInit ⟨#[0xb1]⟩ 1 none) (by decide +kernel)) rfl (by rw [hml]; exact hl.1) rfl dX1_init_1 (Nat.le_of_ble_eq_true rfl) (Nat.le_of_ble_eq_true rfl) ?_
  refine W.eq (g2 := F0 m 4 ls []) rfl ?_
  refine lv_aload_n hx hb dX1_init_4 rfl (lv_at hl 0 rfl) ?_
  refine lv_sipush (v := 512) hx hb dX1_init_5 (by decide) ?_
  refine va_newa (atype := .int) (N' := 512) (a0 := (512, .inl (fun _ => 0))) (ty := .int) (n := 512) hx hb (hts (.arrayClass .int) (by decide +kernel)) rfl hK hP hD hS hA (fun _ => rfl) (by decide) (by decide) (by decide) (Nat.le_of_ble_eq_true rfl) (Nat.le_of_ble_eq_true rfl) dX1_init_8 (fun b1 c1 H hK hP hD hS => ?_)
  have hP : va_P D vwCl [(h1, .inr (1, [.int 0, .int 0, .int 0, .null, .null, .null, .int 0, .int 0])), (b1, .inl (c1, 512, .inl (fun _ => 0)))] H := hP
  have hD : va_D A [(h1, .inr (1, [.int 0, .int 0, .int 0, .null, .null, .null, .int 0, .int 0])), (b1, .inl (c1, 512, .inl (fun _ => 0)))] := hD
  have hK : va_K D vwCl [(c1, .int)] s := hK
  refine W.widen (k := 1) (n := 512) (by decide) (by decide) ?_
  refine va_putF (ci := 1) (v := .ref b1) (ty := .array .int) (C := RX1) (T := TX1) (N := 8) hx hb hts hinX1 tyX1 tyX1_ok nmX1 hown hK hP hD hS 0 rfl rfl 3 (by decide) (hts (.fieldLink RX1 7 "AlarmBenchModel" "rank" "[I") (by decide +kernel)) (fun _ h9 => h9) rfl hin rfl (by decide +kernel) rfl rfl (Nat.le_of_ble_eq_true rfl) dX1_init_10 (fun H locs hP hD hS => ?_)
  have hP : va_P D vwCl [(h1, .inr (1, [.int 0, .int 0, .int 0, .ref b1, .null, .null, .int 0, .int 0])), (b1, .inl (c1, 512, .inl (fun _ => 0)))] H := hP
  have hD : va_D A [(h1, .inr (1, [.int 0, .int 0, .int 0, .ref b1, .null, .null, .int 0, .int 0])), (b1, .inl (c1, 512, .inl (fun _ => 0)))] := hD
  refine lv_aload_n hx hb dX1_init_13 rfl (lv_at hl 0 rfl) ?_
  refine lv_sipush (v := 512) hx hb dX1_init_14 (by decide) ?_
  refine va_newa (atype := .int) (N' := 512) (a0 := (512, .inl (fun _ => 0))) (ty := .int) (n := 512) hx hb (hts (.arrayClass .int) (by decide +kernel)) rfl hK hP hD hS hA (fun _ => rfl) (by decide) (by decide) (by decide) (Nat.le_of_ble_eq_true rfl) (Nat.le_of_ble_eq_true rfl) dX1_init_17 (fun b2 c2 H hK hP hD hS => ?_)
  have hP : va_P D vwCl [(h1, .inr (1, [.int 0, .int 0, .int 0, .ref b1, .null, .null, .int 0, .int 0])), (b1, .inl (c1, 512, .inl (fun _ => 0))), (b2, .inl (c2, 512, .inl (fun _ => 0)))] H := hP
  have hD : va_D A [(h1, .inr (1, [.int 0, .int 0, .int 0, .ref b1, .null, .null, .int 0, .int 0])), (b1, .inl (c1, 512, .inl (fun _ => 0))), (b2, .inl (c2, 512, .inl (fun _ => 0)))] := hD
  have hK : va_K D vwCl [(c1, .int), (c2, .int)] s := hK
  refine W.widen (k := 2) (n := 1024) (by decide) (by decide) ?_
  refine va_putF (ci := 1) (v := .ref b2) (ty := .array .int) (C := RX1) (T := TX1) (N := 8) hx hb hts hinX1 tyX1 tyX1_ok nmX1 hown hK hP hD hS 0 rfl rfl 4 (by decide) (hts (.fieldLink RX1 13 "AlarmBenchModel" "due" "[I") (by decide +kernel)) (fun _ h9 => h9) rfl hin rfl (by decide +kernel) rfl rfl (Nat.le_of_ble_eq_true rfl) dX1_init_19 (fun H locs hP hD hS => ?_)
  have hP : va_P D vwCl [(h1, .inr (1, [.int 0, .int 0, .int 0, .ref b1, .ref b2, .null, .int 0, .int 0])), (b1, .inl (c1, 512, .inl (fun _ => 0))), (b2, .inl (c2, 512, .inl (fun _ => 0)))] H := hP
  have hD : va_D A [(h1, .inr (1, [.int 0, .int 0, .int 0, .ref b1, .ref b2, .null, .int 0, .int 0])), (b1, .inl (c1, 512, .inl (fun _ => 0))), (b2, .inl (c2, 512, .inl (fun _ => 0)))] := hD
  refine lv_aload_n hx hb dX1_init_22 rfl (lv_at hl 0 rfl) ?_
  refine lv_sipush (v := 512) hx hb dX1_init_23 (by decide) ?_
  refine va_newa (atype := .int) (N' := 512) (a0 := (512, .inl (fun _ => 0))) (ty := .int) (n := 512) hx hb (hts (.arrayClass .int) (by decide +kernel)) rfl hK hP hD hS hA (fun _ => rfl) (by decide) (by decide) (by decide) (Nat.le_of_ble_eq_true rfl) (Nat.le_of_ble_eq_true rfl) dX1_init_26 (fun b3 c3 H hK hP hD hS => ?_)
  have hP : va_P D vwCl [(h1, .inr (1, [.int 0, .int 0, .int 0, .ref b1, .ref b2, .null, .int 0, .int 0])), (b1, .inl (c1, 512, .inl (fun _ => 0))), (b2, .inl (c2, 512, .inl (fun _ => 0))), (b3, .inl (c3, 512, .inl (fun _ => 0)))] H := hP
  have hD : va_D A [(h1, .inr (1, [.int 0, .int 0, .int 0, .ref b1, .ref b2, .null, .int 0, .int 0])), (b1, .inl (c1, 512, .inl (fun _ => 0))), (b2, .inl (c2, 512, .inl (fun _ => 0))), (b3, .inl (c3, 512, .inl (fun _ => 0)))] := hD
  have hK : va_K D vwCl [(c1, .int), (c2, .int), (c3, .int)] s := hK
  refine W.widen (k := 3) (n := 1536) (by decide) (by decide) ?_
  refine va_putF (ci := 1) (v := .ref b3) (ty := .array .int) (C := RX1) (T := TX1) (N := 8) hx hb hts hinX1 tyX1 tyX1_ok nmX1 hown hK hP hD hS 0 rfl rfl 5 (by decide) (hts (.fieldLink RX1 16 "AlarmBenchModel" "tells" "[I") (by decide +kernel)) (fun _ h9 => h9) rfl hin rfl (by decide +kernel) rfl rfl (Nat.le_of_ble_eq_true rfl) dX1_init_28 (fun H locs hP hD hS => ?_)
  have hP : va_P D vwCl [(h1, .inr (1, [.int 0, .int 0, .int 0, .ref b1, .ref b2, .ref b3, .int 0, .int 0])), (b1, .inl (c1, 512, .inl (fun _ => 0))), (b2, .inl (c2, 512, .inl (fun _ => 0))), (b3, .inl (c3, 512, .inl (fun _ => 0)))] H := hP
  have hD : va_D A [(h1, .inr (1, [.int 0, .int 0, .int 0, .ref b1, .ref b2, .ref b3, .int 0, .int 0])), (b1, .inl (c1, 512, .inl (fun _ => 0))), (b2, .inl (c2, 512, .inl (fun _ => 0))), (b3, .inl (c3, 512, .inl (fun _ => 0)))] := hD
  refine lv_aload_n hx hb dX1_init_31 rfl (lv_at hl 0 rfl) ?_
  refine lv_iconst (v := -1) hx hb dX1_init_32 (by decide) ?_
  refine va_put (ci := 1) (v := .int (-1)) (ty := .int) (C := RX1) (T := TX1) (N := 8) hx hb hts hinX1 tyX1 tyX1_ok nmX1 hown hK hP hD hS 0 rfl rfl 7 (by decide) (hts (.fieldLink RX1 19 "AlarmBenchModel" "wasDue" "I") (by decide +kernel)) (fun _ h9 => h9) rfl (by decide +kernel) rfl rfl (Nat.le_of_ble_eq_true rfl) dX1_init_33 (fun H locs hP hD hS => ?_)
  have hP : va_P D vwCl [(h1, .inr (1, [.int 0, .int 0, .int 0, .ref b1, .ref b2, .ref b3, .int 0, .int (-1)])), (b1, .inl (c1, 512, .inl (fun _ => 0))), (b2, .inl (c2, 512, .inl (fun _ => 0))), (b3, .inl (c3, 512, .inl (fun _ => 0)))] H := hP
  have hD : va_D A [(h1, .inr (1, [.int 0, .int 0, .int 0, .ref b1, .ref b2, .ref b3, .int 0, .int (-1)])), (b1, .inl (c1, 512, .inl (fun _ => 0))), (b2, .inl (c2, 512, .inl (fun _ => 0))), (b3, .inl (c3, 512, .inl (fun _ => 0)))] := hD
  obtain rfl : c1 = c2 := Option.some.inj ((hK.2 0 _ rfl).2.symm.trans (hK.2 1 _ rfl).2)
  obtain rfl : c1 = c3 := Option.some.inj ((hK.2 0 _ rfl).2.symm.trans (hK.2 2 _ rfl).2)
  have hK := hK.sub (tys' := mdT c1) [0] rfl
  exact W.vret hx hb hr (fun t9 ht9 hW9 => ⟨⟨(b1, b2, b3, c1), rfl, trivial, by rw [ht9]; exact hP, va_K.moved hW9.alike hK, hD⟩, hS.F ht9⟩) hS.2.2 dX1_init_36
