/-! Throws: what a method that throws needs beside its words, and a call of such a method in one row. -/
section XZ
abbrev xzA : String := "java/lang/IllegalArgumentException"
abbrev xzI : String := "java/lang/IllegalStateException"
abbrev xzN : List String := ["java/lang/RuntimeException", "java/lang/Exception"]
abbrev xzD (c : String) : Cond := .declares ⟨c, "<init>", "(Ljava/lang/String;)V"⟩
/-- the words that aren't kept in a method's list, and the texts -/
def xz_N (U : State) : Prop := (va_Nw (.castable xzA xzA) U ∧ va_Nw (.castable xzI xzI) U ∧ va_Nw (xzD "java/lang/RuntimeException") U ∧ va_Nw (xzD "java/lang/Exception") U ∧ va_Nw (xzD "java/lang/Throwable") U) ∧ ∀ q ∈ xz_texts, ∃ a : Nat, vk_R RX0 q.1 q.2 a U
theorem xz_N.warm {s U : State} (hW : s.WarmedH U.vm) (h : xz_N s) : xz_N U := by
  obtain ⟨⟨h1, h2, h3, h4, h5⟩, h6⟩ := h
  exact ⟨⟨va_Nw.warmC hW h1, va_Nw.warmC hW h2, va_Nw.warmD hW h3, va_Nw.warmD hW h4, va_Nw.warmD hW h5⟩, fun q hq => by obtain ⟨a, ha⟩ := h6 q hq; exact ⟨a, vk_R.warm hW ha⟩⟩
def xz_E (A : Nat → Prop) (U : State) : Prop := vx_Zq Bundle.tN "UNASSIGNED_STACK" Bundle.steD A U U.heap ∧ vx_Zq Bundle.tN "SUPPRESSED_SENTINEL" Bundle.listD A U U.heap ∧ xz_N U
theorem xz_E.calling {A : Nat → Prop} {U : State} {g : JFrame} {mk : MethodId} {a : Array Value} (h : xz_E A U) : xz_E A (U.calling g mk a) := by
  obtain ⟨h1, h2, h3⟩ := h
  exact ⟨vx_Zq.moved (u := U) (U := U.calling g mk a) (Vm.Alike.refl U.vm) h1, vx_Zq.moved (u := U) (U := U.calling g mk a) (Vm.Alike.refl U.vm) h2, xz_N.warm (s := U) (U := U.calling g mk a) (State.WarmedH.refl U) h3⟩
theorem xz_E.at {A B : Nat → Prop} {s U : State} {H : Heap} {locs : List Loc} (h : xz_E A s) (hS : va_S A s.heap H locs) (hW : s.WarmedH U.vm) (hU : U.heap = H) (hB : ∀ q, B q → A q) : xz_E B U := by
  obtain ⟨h1, h2, h3⟩ := h
  refine ⟨?_, ?_, xz_N.warm hW h3⟩
  · rw [hU]; exact (vx_Zq.moved hW.alike (h1.kept hS.2.1)).narrow hB
  · rw [hU]; exact (vx_Zq.moved hW.alike (h2.kept hS.2.1)).narrow hB
abbrev xz_Pc (D : va_G) (cl : List vw_C) (tys : List (ClassId × FieldType)) (ws : va_W) (sz : Nat) (av : List Value) : Array Value → State → Prop := va_Pc av (fun U => U.heap.size = sz ∧ va_P D cl ws U.heap ∧ va_K D cl tys U ∧ va_D (fun _ => True) ws ∧ xz_E (va_A ws sz) U)
abbrev xz_X (D : va_G) (cl : List vw_C) (tys : List (ClassId × FieldType)) (ws : va_W) (A : Nat → Prop) (PE : String → Prop) : String → State → State → Prop := vx_X (fun _ : Unit => True) (fun E _ t => PE E ∧ va_P D cl ws t.heap ∧ va_K D cl tys t ∧ va_D A ws) A
variable {p : Program} {l : Launch} {e : Env} {R : Room} {s : State} {m : MethodId} {args : Array Value} {below : List Frame} {meth : Method} {c : Code} {H : Heap} {locs : List Loc} {cells slots : Nat} {Q : State → Prop}
variable {cc : ByteArray} {pc : Nat} {ls : Array Slot} {rest : List Value} {D : va_G} {cl : List vw_C} {A : Nat → Prop} {a : Nat} {tys : List (ClassId × FieldType)} {ws : va_W}
variable {y : MethodName} {bytes : ByteArray} {maxL nL mc ms n index : Nat} {ret : Option FieldType} {wsY : List Cond} {rm : Room} {Ts : List Cond} {own C : String} {b : Addr} {As st0 : List Value} {wc wr : va_W} {S : Type} {posti : Int32 → S → Prop} {w1 : S → va_W} {PE : String → Prop}
theorem xz_bl {av : List Value} {sz : Nat} : FrameBlind (xz_Pc D cl tys ws sz av) := fun a U g mk q => ⟨q.1, q.2.1, q.2.2.1, va_K.moved (u := U) (U := U.calling g mk a) (Vm.Alike.refl U.vm) q.2.2.2.1, q.2.2.2.2.1, q.2.2.2.2.2.calling⟩
/-- a call of a method that may throw; thrown, its cells are as they were -/
theorem xz_call (hc : CallFix p m c cc nL s args Ts own) (hM : vx_Met l y wsY rm (xz_Pc D cl tys wc H.size (.ref b :: As)) (va_Qi posti (kz_B D cl tys w1 (va_A wc H.size)) (va_A wc H.size)) (xz_X D cl tys wc (va_A wc H.size) PE) mc ms (va_A wc H.size)) (cw : CallW R s args own C index y bytes maxL ret wsY rm mc ms n)
    (hP : va_P D cl ws H) (hD : va_D A ws) (hS : va_S A s.heap H locs) (hA : ∀ q, s.heap.size ≤ q → A q) (hK : va_K D cl tys s) (hE : xz_E A s) (isC isR : List Nat) (hC : isC.map (fun i => ws[i]?) = wc.map some) (hCf : isC.filterMap (fun i => ws[i]?) = wc) (hCn : va_nd isC = true) (hR : isR.map (fun i => ws[i]?) = wr.map some) (hRn : va_nd isR = true) (hdis : ∀ i ∈ isR, i ∉ isC)
    (hrv : ∃ cell : Cell, H[b]? = some cell ∧ cell.vm.isStatics = false ∧ s.vm.findClass C = some cell.cls) (hn : As.length = n) (hsz : ls.size = nL) (hst : st0 = As.reverse ++ .ref b :: rest) (hW : (rest.map fun v => v.category).sum ≤ 8) (hdg : decode cc pc = .ok (.invokevirtual index, 3)) (hf : cells + mc ≤ R.cells ∧ slots + ms ≤ R.slots)
    (kx : ∀ (E : String) (ce : Cell) (q9 : Addr) (H1 : Heap) (locs1 : List Loc), PE E → va_P D cl (wr ++ wc) H1 → va_D A (wr ++ wc) → va_S A s.heap H1 locs1 → H1[q9]? = some ce → ce.vm = .none → s.vm.findClass E = some ce.cls → vx_W p l e R s m args below meth c H1 locs1 (cells + mc) (slots + ms) Q (F0 m pc ls rest) q9)
    (kk : ∀ (r : Int32) (u : S) (H1 : Heap) (locs1 : List Loc), posti r u → va_P D cl (wr ++ w1 u) H1 → va_D A (wr ++ w1 u) → va_S A s.heap H1 locs1 → W p l e R s m args below meth c H1 locs1 (cells + mc) (slots + ms) Q (F0 m (pc + 3) ls (.int r :: rest))) : W p l e R s m args below meth c H locs cells slots Q (F0 m pc ls st0) := by
  have hPc := hP.sub (ws' := wc) isC hCf
  have hDc := hD.sub (ws' := wc) isC hCn hC
  have hF := va_free (wc := wc) hD hS hA isC hC
  exact vx_calli (vx_runV (g := F0 m pc ls st0) (rest := rest) hc hM cw ⟨xz_bl, hrv, fun U hU hW => ⟨rfl, by rw [hU], by rw [hU]; exact hPc, va_K.moved hW.alike hK, hDc.weaken (fun _ _ _ _ => trivial), hE.at hS hW hU hF⟩⟩ rfl hn hsz hst (lv_room hW) hdg hf) hS (fun q _ h => hF q h) hF (fun q _ h => hF q h)
    (fun E ce q9 u t H1 locs1 ht hvm _ hB hz hk hS1 h1 h2 h3 => by
      obtain ⟨hp, hP1, -, hD1⟩ := hB
      rw [ht] at hP1
      obtain ⟨p1, d1⟩ := va_join hP hD isC isR hC hR hRn hdis hk hF hP1 hD1
      exact kx E ce q9 H1 locs1 hp p1 d1 hS1 h1 h2 h3)
    (fun r u t H1 locs1 ht hvm hw hB hz hk hS1 => by
      obtain ⟨hP1, -, hD1⟩ := hB
      rw [ht] at hP1
      obtain ⟨p1, d1⟩ := va_join hP hD isC isR hC hR hRn hdis hk hF hP1 hD1
      exact kk r u H1 locs1 hw p1 d1 hS1)
end XZ
