abbrev ABg : Type := Nat × Nat × Nat × Nat × ClassId × ClassId
set_option maxHeartbeats 4000000 in
set_option maxRecDepth 100000 in
/-- AlarmBench() -/
theorem c_init (l : Launch) (D : va_G) (h0 sz : Nat) : Met l yX0_init wsX0_init ({ frames := 1, cells := 4, slots := 2048, locals := 12 } : Room) (kz_Pc D vwCl [] [(h0, .inr (0, [.null, .null, .null, .null, .int 0, .int 0, .int 0, .int 0]))] sz [.ref h0]) (va_Qv (fun _ : ABg => True) (fun v t => va_P D vwCl (abW h0 v.1 v.2.1 v.2.2.1 v.2.2.2.1 v.2.2.2.2.1 v.2.2.2.2.2 (fun _ => 0) (fun _ => 0) (fun _ => 0) (fun _ => 0) 0 0 0 (-1)) t.heap ∧ va_K D vwCl (abT v.2.2.2.2.1 v.2.2.2.2.2) t ∧ va_D (va_A [(h0, .inr (0, [.null, .null, .null, .null, .int 0, .int 0, .int 0, .int 0]))] sz) (abW h0 v.1 v.2.1 v.2.2.1 v.2.2.2.1 v.2.2.2.2.1 v.2.2.2.2.2 (fun _ => 0) (fun _ => 0) (fun _ => 0) (fun _ => 0) 0 0 0 (-1))) (va_A [(h0, .inr (0, [.null, .null, .null, .null, .int 0, .int 0, .int 0, .int 0]))] sz)) 4 2048 (va_A [(h0, .inr (0, [.null, .null, .null, .null, .int 0, .int 0, .int 0, .int 0]))] sz) := by
  refine Met.ofW (cc := cX0_init) (maxL := 1) (ret := none) (by decide) rfl ?_
  intro p e s m args below meth c s₁ B hml hv
  obtain ⟨rfl, hsz, hP, hK, hD0⟩ := hv
  have hx := B.exec
  have hb := B.bytes
  have hr := B.returns
  have hts := atoms_spec (ws := wsX0_init) B.pre
  have hown : s.vm.findClass RX0 = some m.cls := findClass_of_methodNamed B.named
  have hlocks := B.notSynchronized
  have hin : meth.name = "<init>" := (name_of_methodNamed B.named B.method).1
  have hinX0 : ∀ w ∈ wsX00, w ∈ wsX0_init := by decide +kernel
  subst hsz
  have hD := hD0.self (sz := s.heap.size)
  generalize hAe : va_A [(h0, .inr (0, [.null, .null, .null, .null, .int 0, .int 0, .int 0, .int 0]))] s.heap.size = A at hD ⊢
  have hA : ∀ q : Nat, s.heap.size ≤ q → A q := fun q h => by rw [← hAe]; exact Or.inr h
  have hS : va_S A s.heap s.heap [] := va_S.rf
  refine kz_enter [.ref h0] (Nat.le_of_ble_eq_true rfl) (fun ls hl => ?_)
  have hl : lv_has ls 1 [(0, .ref h0)] := hl
  refine lv_aload_n hx hb dX0_init_0 rfl (lv_at hl 0 rfl) ?_
  refine W.objInit hx hb hown (hts (.methodLink RX0 1 objectInit) (by decide +kernel)) (hts (.instanceMethod objectInit) (by decide +kernel)) (hts (.code objectInit ⟨#[0xb1]⟩ 1 none) (by decide +kernel)) rfl (by rw [hml]; exact hl.1) rfl dX0_init_1 (Nat.le_of_ble_eq_true rfl) (Nat.le_of_ble_eq_true rfl) ?_
  refine W.eq (g2 := F0 m 4 ls []) rfl ?_
  refine lv_aload_n hx hb dX0_init_4 rfl (lv_at hl 0 rfl) ?_
  refine lv_sipush (v := 512) hx hb dX0_init_5 (by decide) ?_
  refine va_newa (atype := .boolean) (N' := 512) (a0 := (512, .inl (fun _ => 0))) (ty := .boolean) (n := 512) hx hb (hts (.arrayClass .boolean) (by decide +kernel)) rfl hK hP hD hS hA (fun _ => rfl) (by decide) (by decide) (by decide) (Nat.le_of_ble_eq_true rfl) (Nat.le_of_ble_eq_true rfl) dX0_init_8 (fun a1 c1 H hK hP hD hS => ?_)
  have hP : va_P D vwCl [(h0, .inr (0, [.null, .null, .null, .null, .int 0, .int 0, .int 0, .int 0])), (a1, .inl (c1, 512, .inl (fun _ => 0)))] H := hP
  have hD : va_D A [(h0, .inr (0, [.null, .null, .null, .null, .int 0, .int 0, .int 0, .int 0])), (a1, .inl (c1, 512, .inl (fun _ => 0)))] := hD
  have hK : va_K D vwCl [(c1, .boolean)] s := hK
  refine W.widen (k := 1) (n := 512) (by decide) (by decide) ?_
  refine va_putF (ci := 0) (v := .ref a1) (ty := .array .boolean) (C := RX0) (T := TX0) (N := 8) hx hb hts hinX0 tyX0 tyX0_ok nmX0 hown hK hP hD hS 0 rfl rfl 0 (by decide) (hts (.fieldLink RX0 9 "AlarmBench" "isSet" "[Z") (by decide +kernel)) (fun _ h9 => h9) rfl hin rfl (by decide +kernel) rfl rfl (Nat.le_of_ble_eq_true rfl) dX0_init_10 (fun H locs hP hD hS => ?_)
  have hP : va_P D vwCl [(h0, .inr (0, [.ref a1, .null, .null, .null, .int 0, .int 0, .int 0, .int 0])), (a1, .inl (c1, 512, .inl (fun _ => 0)))] H := hP
  have hD : va_D A [(h0, .inr (0, [.ref a1, .null, .null, .null, .int 0, .int 0, .int 0, .int 0])), (a1, .inl (c1, 512, .inl (fun _ => 0)))] := hD
  refine lv_aload_n hx hb dX0_init_13 rfl (lv_at hl 0 rfl) ?_
  refine lv_sipush (v := 512) hx hb dX0_init_14 (by decide) ?_
  refine va_newa (atype := .int) (N' := 512) (a0 := (512, .inl (fun _ => 0))) (ty := .int) (n := 512) hx hb (hts (.arrayClass .int) (by decide +kernel)) rfl hK hP hD hS hA (fun _ => rfl) (by decide) (by decide) (by decide) (Nat.le_of_ble_eq_true rfl) (Nat.le_of_ble_eq_true rfl) dX0_init_17 (fun a2 c2 H hK hP hD hS => ?_)
  have hP : va_P D vwCl [(h0, .inr (0, [.ref a1, .null, .null, .null, .int 0, .int 0, .int 0, .int 0])), (a1, .inl (c1, 512, .inl (fun _ => 0))), (a2, .inl (c2, 512, .inl (fun _ => 0)))] H := hP
  have hD : va_D A [(h0, .inr (0, [.ref a1, .null, .null, .null, .int 0, .int 0, .int 0, .int 0])), (a1, .inl (c1, 512, .inl (fun _ => 0))), (a2, .inl (c2, 512, .inl (fun _ => 0)))] := hD
  have hK : va_K D vwCl [(c1, .boolean), (c2, .int)] s := hK
  refine W.widen (k := 2) (n := 1024) (by decide) (by decide) ?_
  refine va_putF (ci := 0) (v := .ref a2) (ty := .array .int) (C := RX0) (T := TX0) (N := 8) hx hb hts hinX0 tyX0 tyX0_ok nmX0 hown hK hP hD hS 0 rfl rfl 1 (by decide) (hts (.fieldLink RX0 13 "AlarmBench" "dueAt" "[I") (by decide +kernel)) (fun _ h9 => h9) rfl hin rfl (by decide +kernel) rfl rfl (Nat.le_of_ble_eq_true rfl) dX0_init_19 (fun H locs hP hD hS => ?_)
  have hP : va_P D vwCl [(h0, .inr (0, [.ref a1, .ref a2, .null, .null, .int 0, .int 0, .int 0, .int 0])), (a1, .inl (c1, 512, .inl (fun _ => 0))), (a2, .inl (c2, 512, .inl (fun _ => 0)))] H := hP
  have hD : va_D A [(h0, .inr (0, [.ref a1, .ref a2, .null, .null, .int 0, .int 0, .int 0, .int 0])), (a1, .inl (c1, 512, .inl (fun _ => 0))), (a2, .inl (c2, 512, .inl (fun _ => 0)))] := hD
  refine lv_aload_n hx hb dX0_init_22 rfl (lv_at hl 0 rfl) ?_
  refine lv_sipush (v := 512) hx hb dX0_init_23 (by decide) ?_
  refine va_newa (atype := .int) (N' := 512) (a0 := (512, .inl (fun _ => 0))) (ty := .int) (n := 512) hx hb (hts (.arrayClass .int) (by decide +kernel)) rfl hK hP hD hS hA (fun _ => rfl) (by decide) (by decide) (by decide) (Nat.le_of_ble_eq_true rfl) (Nat.le_of_ble_eq_true rfl) dX0_init_26 (fun a3 c3 H hK hP hD hS => ?_)
  have hP : va_P D vwCl [(h0, .inr (0, [.ref a1, .ref a2, .null, .null, .int 0, .int 0, .int 0, .int 0])), (a1, .inl (c1, 512, .inl (fun _ => 0))), (a2, .inl (c2, 512, .inl (fun _ => 0))), (a3, .inl (c3, 512, .inl (fun _ => 0)))] H := hP
  have hD : va_D A [(h0, .inr (0, [.ref a1, .ref a2, .null, .null, .int 0, .int 0, .int 0, .int 0])), (a1, .inl (c1, 512, .inl (fun _ => 0))), (a2, .inl (c2, 512, .inl (fun _ => 0))), (a3, .inl (c3, 512, .inl (fun _ => 0)))] := hD
  have hK : va_K D vwCl [(c1, .boolean), (c2, .int), (c3, .int)] s := hK
  refine W.widen (k := 3) (n := 1536) (by decide) (by decide) ?_
  refine va_putF (ci := 0) (v := .ref a3) (ty := .array .int) (C := RX0) (T := TX0) (N := 8) hx hb hts hinX0 tyX0 tyX0_ok nmX0 hown hK hP hD hS 0 rfl rfl 2 (by decide) (hts (.fieldLink RX0 17 "AlarmBench" "telling" "[I") (by decide +kernel)) (fun _ h9 => h9) rfl hin rfl (by decide +kernel) rfl rfl (Nat.le_of_ble_eq_true rfl) dX0_init_28 (fun H locs hP hD hS => ?_)
  have hP : va_P D vwCl [(h0, .inr (0, [.ref a1, .ref a2, .ref a3, .null, .int 0, .int 0, .int 0, .int 0])), (a1, .inl (c1, 512, .inl (fun _ => 0))), (a2, .inl (c2, 512, .inl (fun _ => 0))), (a3, .inl (c3, 512, .inl (fun _ => 0)))] H := hP
  have hD : va_D A [(h0, .inr (0, [.ref a1, .ref a2, .ref a3, .null, .int 0, .int 0, .int 0, .int 0])), (a1, .inl (c1, 512, .inl (fun _ => 0))), (a2, .inl (c2, 512, .inl (fun _ => 0))), (a3, .inl (c3, 512, .inl (fun _ => 0)))] := hD
  refine lv_aload_n hx hb dX0_init_31 rfl (lv_at hl 0 rfl) ?_
  refine lv_sipush (v := 512) hx hb dX0_init_32 (by decide) ?_
  refine va_newa (atype := .int) (N' := 512) (a0 := (512, .inl (fun _ => 0))) (ty := .int) (n := 512) hx hb (hts (.arrayClass .int) (by decide +kernel)) rfl hK hP hD hS hA (fun _ => rfl) (by decide) (by decide) (by decide) (Nat.le_of_ble_eq_true rfl) (Nat.le_of_ble_eq_true rfl) dX0_init_35 (fun a4 c4 H hK hP hD hS => ?_)
  have hP : va_P D vwCl [(h0, .inr (0, [.ref a1, .ref a2, .ref a3, .null, .int 0, .int 0, .int 0, .int 0])), (a1, .inl (c1, 512, .inl (fun _ => 0))), (a2, .inl (c2, 512, .inl (fun _ => 0))), (a3, .inl (c3, 512, .inl (fun _ => 0))), (a4, .inl (c4, 512, .inl (fun _ => 0)))] H := hP
  have hD : va_D A [(h0, .inr (0, [.ref a1, .ref a2, .ref a3, .null, .int 0, .int 0, .int 0, .int 0])), (a1, .inl (c1, 512, .inl (fun _ => 0))), (a2, .inl (c2, 512, .inl (fun _ => 0))), (a3, .inl (c3, 512, .inl (fun _ => 0))), (a4, .inl (c4, 512, .inl (fun _ => 0)))] := hD
  have hK : va_K D vwCl [(c1, .boolean), (c2, .int), (c3, .int), (c4, .int)] s := hK
  refine W.widen (k := 4) (n := 2048) (by decide) (by decide) ?_
  refine va_putF (ci := 0) (v := .ref a4) (ty := .array .int) (C := RX0) (T := TX0) (N := 8) hx hb hts hinX0 tyX0 tyX0_ok nmX0 hown hK hP hD hS 0 rfl rfl 3 (by decide) (hts (.fieldLink RX0 20 "AlarmBench" "rank" "[I") (by decide +kernel)) (fun _ h9 => h9) rfl hin rfl (by decide +kernel) rfl rfl (Nat.le_of_ble_eq_true rfl) dX0_init_37 (fun H locs hP hD hS => ?_)
  have hP : va_P D vwCl [(h0, .inr (0, [.ref a1, .ref a2, .ref a3, .ref a4, .int 0, .int 0, .int 0, .int 0])), (a1, .inl (c1, 512, .inl (fun _ => 0))), (a2, .inl (c2, 512, .inl (fun _ => 0))), (a3, .inl (c3, 512, .inl (fun _ => 0))), (a4, .inl (c4, 512, .inl (fun _ => 0)))] H := hP
  have hD : va_D A [(h0, .inr (0, [.ref a1, .ref a2, .ref a3, .ref a4, .int 0, .int 0, .int 0, .int 0])), (a1, .inl (c1, 512, .inl (fun _ => 0))), (a2, .inl (c2, 512, .inl (fun _ => 0))), (a3, .inl (c3, 512, .inl (fun _ => 0))), (a4, .inl (c4, 512, .inl (fun _ => 0)))] := hD
  refine lv_aload_n hx hb dX0_init_40 rfl (lv_at hl 0 rfl) ?_
  refine lv_iconst (v := 0) hx hb dX0_init_41 (by decide) ?_
  refine va_put (ci := 0) (v := .int 0) (ty := .int) (C := RX0) (T := TX0) (N := 8) hx hb hts hinX0 tyX0 tyX0_ok nmX0 hown hK hP hD hS 0 rfl rfl 4 (by decide) (hts (.fieldLink RX0 23 "AlarmBench" "now" "I") (by decide +kernel)) (fun _ h9 => h9) rfl (by decide +kernel) rfl rfl (Nat.le_of_ble_eq_true rfl) dX0_init_42 (fun H locs hP hD hS => ?_)
  have hP : va_P D vwCl [(h0, .inr (0, [.ref a1, .ref a2, .ref a3, .ref a4, .int 0, .int 0, .int 0, .int 0])), (a1, .inl (c1, 512, .inl (fun _ => 0))), (a2, .inl (c2, 512, .inl (fun _ => 0))), (a3, .inl (c3, 512, .inl (fun _ => 0))), (a4, .inl (c4, 512, .inl (fun _ => 0)))] H := hP
  have hD : va_D A [(h0, .inr (0, [.ref a1, .ref a2, .ref a3, .ref a4, .int 0, .int 0, .int 0, .int 0])), (a1, .inl (c1, 512, .inl (fun _ => 0))), (a2, .inl (c2, 512, .inl (fun _ => 0))), (a3, .inl (c3, 512, .inl (fun _ => 0))), (a4, .inl (c4, 512, .inl (fun _ => 0)))] := hD
  refine lv_aload_n hx hb dX0_init_45 rfl (lv_at hl 0 rfl) ?_
  refine lv_iconst (v := 0) hx hb dX0_init_46 (by decide) ?_
  refine va_put (ci := 0) (v := .int 0) (ty := .int) (C := RX0) (T := TX0) (N := 8) hx hb hts hinX0 tyX0 tyX0_ok nmX0 hown hK hP hD hS 0 rfl rfl 5 (by decide) (hts (.fieldLink RX0 27 "AlarmBench" "lastRank" "I") (by decide +kernel)) (fun _ h9 => h9) rfl (by decide +kernel) rfl rfl (Nat.le_of_ble_eq_true rfl) dX0_init_47 (fun H locs hP hD hS => ?_)
  have hP : va_P D vwCl [(h0, .inr (0, [.ref a1, .ref a2, .ref a3, .ref a4, .int 0, .int 0, .int 0, .int 0])), (a1, .inl (c1, 512, .inl (fun _ => 0))), (a2, .inl (c2, 512, .inl (fun _ => 0))), (a3, .inl (c3, 512, .inl (fun _ => 0))), (a4, .inl (c4, 512, .inl (fun _ => 0)))] H := hP
  have hD : va_D A [(h0, .inr (0, [.ref a1, .ref a2, .ref a3, .ref a4, .int 0, .int 0, .int 0, .int 0])), (a1, .inl (c1, 512, .inl (fun _ => 0))), (a2, .inl (c2, 512, .inl (fun _ => 0))), (a3, .inl (c3, 512, .inl (fun _ => 0))), (a4, .inl (c4, 512, .inl (fun _ => 0)))] := hD
  refine lv_aload_n hx hb dX0_init_50 rfl (lv_at hl 0 rfl) ?_
  refine lv_iconst (v := 0) hx hb dX0_init_51 (by decide) ?_
  refine va_put (ci := 0) (v := .int 0) (ty := .int) (C := RX0) (T := TX0) (N := 8) hx hb hts hinX0 tyX0 tyX0_ok nmX0 hown hK hP hD hS 0 rfl rfl 6 (by decide) (hts (.fieldLink RX0 30 "AlarmBench" "rungTold" "I") (by decide +kernel)) (fun _ h9 => h9) rfl (by decide +kernel) rfl rfl (Nat.le_of_ble_eq_true rfl) dX0_init_52 (fun H locs hP hD hS => ?_)
  have hP : va_P D vwCl [(h0, .inr (0, [.ref a1, .ref a2, .ref a3, .ref a4, .int 0, .int 0, .int 0, .int 0])), (a1, .inl (c1, 512, .inl (fun _ => 0))), (a2, .inl (c2, 512, .inl (fun _ => 0))), (a3, .inl (c3, 512, .inl (fun _ => 0))), (a4, .inl (c4, 512, .inl (fun _ => 0)))] H := hP
  have hD : va_D A [(h0, .inr (0, [.ref a1, .ref a2, .ref a3, .ref a4, .int 0, .int 0, .int 0, .int 0])), (a1, .inl (c1, 512, .inl (fun _ => 0))), (a2, .inl (c2, 512, .inl (fun _ => 0))), (a3, .inl (c3, 512, .inl (fun _ => 0))), (a4, .inl (c4, 512, .inl (fun _ => 0)))] := hD
  refine lv_aload_n hx hb dX0_init_55 rfl (lv_at hl 0 rfl) ?_
  refine lv_iconst (v := -1) hx hb dX0_init_56 (by decide) ?_
  refine va_put (ci := 0) (v := .int (-1)) (ty := .int) (C := RX0) (T := TX0) (N := 8) hx hb hts hinX0 tyX0 tyX0_ok nmX0 hown hK hP hD hS 0 rfl rfl 7 (by decide) (hts (.fieldLink RX0 33 "AlarmBench" "rungDue" "I") (by decide +kernel)) (fun _ h9 => h9) rfl (by decide +kernel) rfl rfl (Nat.le_of_ble_eq_true rfl) dX0_init_57 (fun H locs hP hD hS => ?_)
  have hP : va_P D vwCl [(h0, .inr (0, [.ref a1, .ref a2, .ref a3, .ref a4, .int 0, .int 0, .int 0, .int (-1)])), (a1, .inl (c1, 512, .inl (fun _ => 0))), (a2, .inl (c2, 512, .inl (fun _ => 0))), (a3, .inl (c3, 512, .inl (fun _ => 0))), (a4, .inl (c4, 512, .inl (fun _ => 0)))] H := hP
  have hD : va_D A [(h0, .inr (0, [.ref a1, .ref a2, .ref a3, .ref a4, .int 0, .int 0, .int 0, .int (-1)])), (a1, .inl (c1, 512, .inl (fun _ => 0))), (a2, .inl (c2, 512, .inl (fun _ => 0))), (a3, .inl (c3, 512, .inl (fun _ => 0))), (a4, .inl (c4, 512, .inl (fun _ => 0)))] := hD
  obtain rfl : c2 = c3 := Option.some.inj ((hK.2 1 _ rfl).2.symm.trans (hK.2 2 _ rfl).2)
  obtain rfl : c2 = c4 := Option.some.inj ((hK.2 1 _ rfl).2.symm.trans (hK.2 3 _ rfl).2)
  have hK := hK.sub (tys' := abT c1 c2) [0, 1] rfl
  exact W.vret hx hb hr (fun t9 ht9 hW9 => ⟨⟨(a1, a2, a3, a4, c1, c2), rfl, trivial, by rw [ht9]; exact hP, va_K.moved hW9.alike hK, hD⟩, hS.F ht9⟩) hS.2.2 dX0_init_60
