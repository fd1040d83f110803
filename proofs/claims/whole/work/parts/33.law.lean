/-! The law: its cells, a pass of its loop case by case. -/
section LAW
abbrev lwW (h0 a1 a2 a3 a4 : Nat) (cZ cI : ClassId) (h1 b1 b2 b3 : Nat) (cJ : ClassId) (o1 : Nat) (cL : ClassId) (u : ABs) (v : MDs) (F : Nat → Int64) : va_W := hlW o1 cL F (abU h0 a1 a2 a3 a4 cZ cI u ++ mdU h1 b1 b2 b3 cJ v)
abbrev lwT (cZ cI cL cJ : ClassId) : List (ClassId × FieldType) := [(cZ, .boolean), (cI, .int), (cL, .long), (cJ, .int)]
theorem kz_p2 (a : Nat) : nI a + 2 = nI (a + 2) := nI_add a 2
theorem lg_self (x : Int64) : lg_cmp x x = 0 := by
  unfold lg_cmp
  simp
variable {p : Program} {l : Launch} {e : Env} {s : State} {m : MethodId} {below : List Frame} {meth : Method} {c : Code} {D : va_G} {b L : Nat} {xs : Nat → Int32} {h0 a1 a2 a3 a4 : Nat} {cZ cI : ClassId} {h1 b1 b2 b3 : Nat} {cJ : ClassId} {o1 : Nat} {cL : ClassId}
theorem kz_sld {R : Room} {args : Array Value} {H : Heap} {locs : List Loc} {cells slots : Nat} {Q : State → Prop} {cc : ByteArray} {pc : Nat} {ls : Array Slot} {rest : List Value} {A : Nat → Prop} {H0 : Heap} (hx : p.tables.exec = Jvm.exec) (hb : c.code = cc) (hX : va_X b L xs s H0) (hbl : b < H0.size) (hbA : ¬ A b) (hS : va_S A H0 H locs) {k : Nat} (hk : k < L) (hn : L < 2 ^ 31) (hdg : decode cc pc = .ok (.iaload, 1))
    (kk : W p l e R s m args below meth c H locs cells slots Q (F0 m (pc + 1) ls (.int (xs k) :: rest))) : W p l e R s m args below meth c H locs cells slots Q (F0 m pc ls (.int (nI k) :: .ref b :: rest)) :=
  va_sld hx hb hX hbl hbA hS (vp_in_nI hk hn) hdg (by rw [nI_clamp (Nat.lt_trans hk hn)]; exact kk)
/-- what holds all through the law -/
def lwC (p : Program) (l : Launch) (s : State) (m : MethodId) (meth : Method) (c : Code) (b L : Nat) (xs : Nat → Int32) (D : va_G) (cZ cI cL cJ : ClassId) : Prop := lw_At p s m meth c b L xs ∧ L ≤ 1536 ∧ l.stackTraces = false ∧ va_K D vwCl (lwT cZ cI cL cJ) s ∧ xz_E (fun q : Nat => s.heap.size ≤ q) s ∧ va_Nc xzI xzA s
/-- where a pass goes on: at 547, one call further -/
def lwGo (p : Program) (l : Launch) (e : Env) (s : State) (m : MethodId) (below : List Frame) (meth : Method) (c : Code) (b : Nat) (D : va_G) (h0 a1 a2 a3 a4 : Nat) (cZ cI : ClassId) (h1 b1 b2 b3 : Nat) (cJ : ClassId) (o1 : Nat) (cL : ClassId) (j : Nat) : Prop :=
  ∀ (u : ABs) (v : MDs) (F : Nat → Int64) (H : Heap) (locs : List Loc) (ls : Array Slot), sim (j + 1) u v → va_P D vwCl (lwW h0 a1 a2 a3 a4 cZ cI h1 b1 b2 b3 cJ o1 cL u v F) H → va_D (fun q : Nat => s.heap.size ≤ q) (lwW h0 a1 a2 a3 a4 cZ cI h1 b1 b2 b3 cJ o1 cL u v F) → va_S (fun q : Nat => s.heap.size ≤ q) s.heap H locs → lv_has ls 7 [(0, .ref b), (1, .ref h0), (2, .ref h1), (3, .ref o1), (4, .int (nI (3 * j)))] → W p l e room_1 s m #[Value.ref b] below meth c H locs (11 + j) (3607 + 6 * j) (lw_Z below #[Value.ref b] s) (F0 m 547 ls [])
end LAW
