section
-- ===== PART A: goes FIRST, ahead of the names: the tables' words, and 'selects' of the private methods out of them =====
/-- a private method of a class that the tables say can be made, by its rows of tables_1 -/
def lw_okq (q : MethodName × Nat) : Prop := (q.1.cls ≠ "java/lang/invoke/MethodHandle" ∧ q.1.cls ≠ "java/lang/invoke/VarHandle") ∧ Cond.instantiable q.1.cls q.2 ∈ tables_1 ∧ Cond.privateMethod q.1 ∈ tables_1 ∧ Cond.instanceMethod q.1 ∈ tables_1
theorem lw_p0 : lw_okq (⟨"AlarmBench", "first", "()I"⟩, 8) := ⟨⟨by decide +kernel, by decide +kernel⟩, List.mem_of_getElem? (i := 9) (by decide +kernel), List.mem_of_getElem? (i := 52) (by decide +kernel), List.mem_of_getElem? (i := 53) (by decide +kernel)⟩
theorem lw_p1 : lw_okq (⟨"AlarmBench", "isBefore", "(II)Z"⟩, 8) := ⟨⟨by decide +kernel, by decide +kernel⟩, List.mem_of_getElem? (i := 9) (by decide +kernel), List.mem_of_getElem? (i := 56) (by decide +kernel), List.mem_of_getElem? (i := 57) (by decide +kernel)⟩
theorem lw_p2 : lw_okq (⟨"AlarmBench", "isReady", "(I)Z"⟩, 8) := ⟨⟨by decide +kernel, by decide +kernel⟩, List.mem_of_getElem? (i := 9) (by decide +kernel), List.mem_of_getElem? (i := 60) (by decide +kernel), List.mem_of_getElem? (i := 61) (by decide +kernel)⟩
theorem lw_p3 : lw_okq (⟨"java/lang/Throwable", "fillInStackTrace", "(I)Ljava/lang/Throwable;"⟩, 6) := ⟨⟨by decide +kernel, by decide +kernel⟩, List.mem_of_getElem? (i := 134) (by decide +kernel), List.mem_of_getElem? (i := 132) (by decide +kernel), List.mem_of_getElem? (i := 133) (by decide +kernel)⟩
theorem lw_p4 : lw_okq (⟨"AlarmBench", "leastFree", "()I"⟩, 8) := ⟨⟨by decide +kernel, by decide +kernel⟩, List.mem_of_getElem? (i := 9) (by decide +kernel), List.mem_of_getElem? (i := 164) (by decide +kernel), List.mem_of_getElem? (i := 165) (by decide +kernel)⟩
theorem lw_p5 : lw_okq (⟨"AlarmBench", "isBehindLastTime", "(I)Z"⟩, 8) := ⟨⟨by decide +kernel, by decide +kernel⟩, List.mem_of_getElem? (i := 9) (by decide +kernel), List.mem_of_getElem? (i := 184) (by decide +kernel), List.mem_of_getElem? (i := 185) (by decide +kernel)⟩
theorem lw_p6 : lw_okq (⟨"AlarmBench", "putAhead", "(II)V"⟩, 8) := ⟨⟨by decide +kernel, by decide +kernel⟩, List.mem_of_getElem? (i := 9) (by decide +kernel), List.mem_of_getElem? (i := 189) (by decide +kernel), List.mem_of_getElem? (i := 190) (by decide +kernel)⟩
theorem lw_p7 : lw_okq (⟨"AlarmBench", "exists", "(I)Z"⟩, 8) := ⟨⟨by decide +kernel, by decide +kernel⟩, List.mem_of_getElem? (i := 9) (by decide +kernel), List.mem_of_getElem? (i := 200) (by decide +kernel), List.mem_of_getElem? (i := 201) (by decide +kernel)⟩
theorem lw_p8 : lw_okq (⟨"AlarmBenchModel", "start", "(III)V"⟩, 8) := ⟨⟨by decide +kernel, by decide +kernel⟩, List.mem_of_getElem? (i := 230) (by decide +kernel), List.mem_of_getElem? (i := 270) (by decide +kernel), List.mem_of_getElem? (i := 271) (by decide +kernel)⟩
theorem lw_p9 : lw_okq (⟨"AlarmBenchModel", "isAlarm", "(I)Z"⟩, 8) := ⟨⟨by decide +kernel, by decide +kernel⟩, List.mem_of_getElem? (i := 230) (by decide +kernel), List.mem_of_getElem? (i := 278) (by decide +kernel), List.mem_of_getElem? (i := 279) (by decide +kernel)⟩
theorem lw_p10 : lw_okq (⟨"AlarmBenchModel", "first", "()I"⟩, 8) := ⟨⟨by decide +kernel, by decide +kernel⟩, List.mem_of_getElem? (i := 230) (by decide +kernel), List.mem_of_getElem? (i := 299) (by decide +kernel), List.mem_of_getElem? (i := 300) (by decide +kernel)⟩
def lw_privs_1 : List (MethodName × Nat) := [(⟨"AlarmBench", "first", "()I"⟩, 8), (⟨"AlarmBench", "isBefore", "(II)Z"⟩, 8), (⟨"AlarmBench", "isReady", "(I)Z"⟩, 8), (⟨"java/lang/Throwable", "fillInStackTrace", "(I)Ljava/lang/Throwable;"⟩, 6), (⟨"AlarmBench", "leastFree", "()I"⟩, 8), (⟨"AlarmBench", "isBehindLastTime", "(I)Z"⟩, 8), (⟨"AlarmBench", "putAhead", "(II)V"⟩, 8), (⟨"AlarmBench", "exists", "(I)Z"⟩, 8), (⟨"AlarmBenchModel", "start", "(III)V"⟩, 8), (⟨"AlarmBenchModel", "isAlarm", "(I)Z"⟩, 8), (⟨"AlarmBenchModel", "first", "()I"⟩, 8)]
theorem lw_r1 : ∀ q ∈ lw_privs_1, lw_okq q := List.forall_mem_cons.mpr ⟨lw_p0, List.forall_mem_cons.mpr ⟨lw_p1, List.forall_mem_cons.mpr ⟨lw_p2, List.forall_mem_cons.mpr ⟨lw_p3, List.forall_mem_cons.mpr ⟨lw_p4, List.forall_mem_cons.mpr ⟨lw_p5, List.forall_mem_cons.mpr ⟨lw_p6, List.forall_mem_cons.mpr ⟨lw_p7, List.forall_mem_cons.mpr ⟨lw_p8, List.forall_mem_cons.mpr ⟨lw_p9, List.forall_mem_cons.mpr ⟨lw_p10, fun _ h => absurd h List.not_mem_nil⟩⟩⟩⟩⟩⟩⟩⟩⟩⟩⟩
def lw_privs : List (MethodName × Nat) := lw_privs_1
def lw_tbl : List Cond := k2_sels lw_privs ++ tables_1
theorem lw_privs_ok : ∀ q ∈ lw_privs, lw_okq q := lw_r1
end
section
/-! ===== BEGIN words of one list among another's, by their places ===== -/
theorem goodIn_r {big : List Cond} (ws : List Cond) (ps : List Nat) (hp : ws = ps.filterMap (fun i => big[i]?)) (h : ws.all goodWord = true) : GoodIn big ws := by
  intro w hw
  have h1 := List.all_eq_true.mp h w hw
  rw [hp] at hw
  obtain ⟨i, -, hi⟩ := List.mem_filterMap.mp hw
  have hm : w ∈ big := by first | exact List.mem_of_getElem? hi | exact List.getElem?_mem hi
  exact ⟨hm, good_of_word h1⟩
theorem goodIn_app {big a b : List Cond} (ha : GoodIn big a) (hb : GoodIn big b) : GoodIn big (a ++ b) := fun w h => (List.mem_append.mp h).elim (ha w) (hb w)
theorem goodIn_ca {big a b : List Cond} {c : Cond} (ha : GoodIn big (c :: a)) (hb : GoodIn big b) : GoodIn big (c :: (a ++ b)) := fun w h => (List.mem_cons.mp h).elim (fun e => ha w (List.mem_cons.mpr (Or.inl e))) (fun h => (List.mem_append.mp h).elim (fun h => ha w (List.mem_cons.mpr (Or.inr h))) (hb w))
theorem goodIn_sub {big ws : List Cond} (hm : ∀ w ∈ ws, w ∈ big) (h : ws.all goodWord = true) : GoodIn big ws := fun w hw => ⟨hm w hw, good_of_word (List.all_eq_true.mp h w hw)⟩
/-! ===== END ===== -/

/-! ===== BEGIN exceptions that leave a method, and their catching by the caller (launches without stack traces) ===== -/
section VXA
/-! The laws vx_back, vx_callV, vx_callS, vx_callSW, vx_throw0, vx_throwS follow proofs of the library, with one case more: JvmDerived/Free/Laws.lean (Back.of_free), Shelf42/LK1.lean (callV, callS), Shelf/KitTraced.lean (throwNew0V, throwNewS). -/
/-- where a method has thrown q: the class by its name, the cell, what was written, the world -/
def vx_T (XC : String → State → State → Prop) (st : State) (q : Addr) (t : State) (mc ms : Nat) (free : Addr → Prop) : Prop :=
  ∃ (E : String) (ce : Cell) (L : List Loc), XC E st t ∧ t.heap[q]? = some ce ∧ ce.vm = .none ∧ st.vm.findClass E = some ce.cls ∧ st.WarmedH t.vm ∧ st.sameButNew ({ t with vm := st.vm } : State) L mc ms ∧ ∀ z ∈ L, free z.base
def vx_Q (Qc : Array Value → State → Outcome → State → Prop) (XC : String → State → State → Prop) (mc ms : Nat) (free : Addr → Prop) : Array Value → State → Outcome → State → Prop := fun a st o t =>
  (Qc a st o t ∧ ∃ L, FrameEnd st o t L mc ms ∧ ∀ q ∈ L, free q.base) ∨ ∃ q, o = .threw q ∧ vx_T XC st q t mc ms free
/-- a callee that returns or throws -/
def vx_Met (l : Launch) (y : MethodName) (ws : List Cond) (rm : Room) (Pc : Array Value → State → Prop) (Qc : Array Value → State → Outcome → State → Prop) (XC : String → State → State → Prop) (mc ms : Nat) (free : Addr → Prop) : Prop :=
  MetFree l y (headSpec ws rm) Pc (fun _ _ _ _ _ => True) (vx_Q Qc XC mc ms free)
def vx_Post (XC : String → State → State → Prop) (mc ms : Nat) (free : Addr → Prop) : Pt → Array Value → Addr → Pt → Prop := fun A a q B =>
  ∃ (g : JFrame) (mk : MethodId) (t : State) (L : List Loc) (E : String) (ce : Cell), B.U.heap = t.heap ∧ B.U.vm = t.vm ∧ XC E (A.U.calling g mk a) t ∧ t.heap[q]? = some ce ∧ ce.vm = .none ∧ A.U.vm.findClass E = some ce.cls ∧ B.locs = A.locs ++ L ∧ (∀ z ∈ L, free z.base) ∧ B.cells = A.cells + mc ∧ B.slots = A.slots + ms
def vx_Back (l : Launch) (R : Room) (p : Program) (e : Env) (below : List Frame) (s : State) (sargs : Array Value) (y : MethodName) (len W9 : Nat)
    (Pre : Pt → Array Value → Prop) (Post : Pt → Array Value → Option Value → Pt → Prop) (PostX : Pt → Array Value → Addr → Pt → Prop) : Prop :=
  ∀ (m : MethodId) (meth : Method) (c : Code) (A : Pt) (g : JFrame) (ig : Instr) (mk : MethodId) (a : Array Value),
    Stand p l e R s m sargs below meth c A.U A.locs A.cells A.slots → g.method = m → g.locals.size = c.maxLocals → decode c.code g.pc = .ok (ig, len) →
    2 * g.monitorRoom + (g.stack.map fun v => v.category).sum ≤ W9 → A.U.methodNamed? y = some mk → Pre A a →
    (∃ (v : Option Value) (B : Pt), Stand p l e R s m sargs below meth c B.U B.locs B.cells B.slots ∧ Post A a v B ∧
      Steps p.tables e below (doInvoke e (A.U.setTop g) [] mk a).1 (B.U.setTop { g with pc := g.pc + len, stack := v.toList ++ g.stack })) ∨
    (∃ (q : Addr) (B : Pt), Stand p l e R s m sargs below meth c B.U B.locs B.cells B.slots ∧ PostX A a q B ∧
      Steps p.tables e below (doInvoke e (A.U.setTop g) [] mk a).1 ((B.U.setTop g).pushFrame (.throwing q)))
section Payer
variable {l : Launch} {R : Room} {p : Program} {e : Env} {below : List Frame} {s : State} {sargs : Array Value} {y : MethodName} {len W9 : Nat}
theorem vx_back {ws : List Cond} {rm : Room} {Pc : Array Value → State → Prop} {Qc : Array Value → State → Outcome → State → Prop} {XC : String → State → State → Prop} {mc ms : Nat} {free : Addr → Prop} {bytes : ByteArray} {maxL : Nat} {ret : Option FieldType}
    (hM : vx_Met l y ws rm Pc Qc XC mc ms free) (hblind : FrameBlind Pc) (hrc : rm.cells = mc) (hrs : rm.slots = ms)
    (hframes : rm.frames + 1 ≤ R.frames) (hlocals : W9 + (maxL + 11) + rm.locals ≤ R.locals)
    (hws : ∀ w ∈ ws, ∀ a' U, s.WarmedH U.vm → w.before a' U = true) (hcode : Cond.code y bytes maxL ret ∈ ws) (hinit : ∀ a' U, s.WarmedH U.vm → (Cond.initialized y.cls).before a' U = true) :
    vx_Back l R p e below s sargs y len W9 (PreOf R mc ms Pc) (PostOf Qc mc ms free) (vx_Post XC mc ms free) := by
  intro m meth c A g ig mk a X hg hsize hdg hW hn hp
  have h1 : (headSpec ws rm).pre.before a A.U = true := atoms_intro fun w hw => hws w hw _ _ X.warmed
  have h2 : (Cond.code y bytes maxL ret).before a A.U = true := hws _ hcode _ _ X.warmed
  have h3 : (Cond.initialized y.cls).before a A.U = true := hinit _ _ X.warmed
  have h4 : A.cells + (headSpec ws rm).room.cells ≤ R.cells := by rw [show (headSpec ws rm).room.cells = mc from hrc]; exact hp.1
  have h5 : A.slots + (headSpec ws rm).room.slots ≤ R.slots := by rw [show (headSpec ws rm).room.slots = ms from hrs]; exact hp.2.1
  have hPc : Pc a (A.U.calling g mk a) := hblind _ _ _ _ hp.2.2
  obtain ⟨U, Ls, c0, s0⟩ := A
  dsimp only [Pt.U, Pt.locs, Pt.cells, Pt.slots] at h1 h2 h3 h4 h5 X hn hPc ⊢
  obtain ⟨methY, cY, hmY, hcY, -, hlY, -, -, -, -⟩ := Cond.code_spec hn h2
  obtain ⟨kY, hkY, -⟩ := className_of_methodNamed hn
  have hinitY : kY.init = .initialized := Cond.initialized_spec (findClass_of_methodNamed hn) hkY h3
  have h : At U g.method c below := by rw [hg]; exact X.here
  have hlocals9 : W9 + (maxL + 11) + (headSpec ws rm).room.locals ≤ R.locals := hlocals
  have happ : (headSpec ws rm).appliesLoose y e.platform (U.calling g mk a) = true :=
    Spec.appliesLoose_calling (g := g) h hdg hn hkY hinitY
      (X.room_calling (g := g) (R' := (headSpec ws rm).room) hsize hmY hcY hframes (by rw [hlY]; omega) h4 h5) h1
  obtain ⟨mid, hmid⟩ := h.above
  have hfr : (U.setTop g).frames = (.java g :: mid) ++ below := by rw [State.frames_setTop' g h.top, hmid]; rfl
  obtain ⟨o, s₂, hsteps, -, hend, hq⟩ := Steps.callFree hM p X.admits X.cas X.clock (acts := []) hfr happ hPc trivial
  have hq' : vx_Q Qc XC mc ms free a (U.calling g mk a) o s₂ := hq
  rw [State.frames_setTop' g h.top] at hend
  obtain ⟨g₀, hg0⟩ := Option.isSome_iff_exists.mp h.top
  obtain ⟨r, hr⟩ := State.topJava?_eq_some.mp hg0
  have hr' : (({ U with heap := s₂.heap, slotsUsed := s₂.slotsUsed } : State).setVm s₂.vm).frames = .java g₀ :: r := hr
  rcases hq' with ⟨hqc, L, hfe, hL⟩ | ⟨q, rfl, E, ce, L, hx, hce, hcv, hcl, hW₂, hsm, hL⟩
  · obtain ⟨⟨v, rfl⟩, hW₂, e2, q2, q3, q4, q5, q6⟩ := id hfe
    have e3 : s₂ = ({ (U.calling g mk a).setFrames s₂.frames with heap := s₂.heap, slotsUsed := s₂.slotsUsed } : State).setVm s₂.vm := by
      have : s₂ = ({ s₂ with vm := (U.calling g mk a).vm } : State).setVm s₂.vm := rfl
      rw [e2] at this
      exact this
    obtain ⟨c₂, i₂, len₂, hc₂, hd₂, hf₂⟩ := hend
    have hW' : U.WarmedH s₂.vm := hW₂
    have hcc : c₂ = c := by
      have h1 : s₂.code? g.method = U.code? g.method := by
        rw [State.code?_eq, State.code?_eq, hW'.alike.method?]
      exact Option.some.inj (hc₂.symm.trans (h1.trans h.code))
    subst hcc
    have hlen : len₂ = len := by rw [hdg] at hd₂; cases hd₂; rfl
    subst hlen
    have hs₂ : s₂ = (({ U with heap := s₂.heap, slotsUsed := s₂.slotsUsed } : State).setVm s₂.vm).setTop { g with pc := g.pc + len₂, stack := v.toList ++ g.stack } := by
      refine e3.trans ?_
      rw [hf₂, State.calling_eq h.top, State.setFrames_setFrames, State.setTop_of_frames _ hr', hr]
      rfl
    have hsame : U.sameButNew ({ U with heap := s₂.heap, slotsUsed := s₂.slotsUsed } : State) L mc ms := by
      refine ⟨?_, q2, q3, q4, q5, q6⟩
      obtain ⟨t, ht, -⟩ := State.frames_cons hr
      show ({ U with heap := s₂.heap, slotsUsed := s₂.slotsUsed } : State) = { U.setFrames U.frames with heap := s₂.heap, slotsUsed := s₂.slotsUsed }
      rw [State.setFrames_self ht]
    subst hg
    refine Or.inl ⟨v, ⟨(({ U with heap := s₂.heap, slotsUsed := s₂.slotsUsed } : State).setVm s₂.vm), Ls ++ L, c0 + mc, s0 + ms⟩,
      ⟨X.admits, X.cas, X.clock, X.frames, X.room, X.hears, X.method, X.code, (X.here.setHeapUsed s₂.heap s₂.slotsUsed).setVm hW'.alike, X.tail, State.WarmedH.trans X.warmed hW', X.limits, X.bytes, X.same.trans (hsame.setVm s.vm)⟩,
      ⟨g, mk, s₂, L, rfl, rfl, hqc, rfl, hL, rfl, rfl⟩, ?_⟩
    show Steps p.tables e below _ ((({ U with heap := s₂.heap, slotsUsed := s₂.slotsUsed } : State).setVm s₂.vm).setTop { g with pc := g.pc + len₂, stack := v.toList ++ g.stack })
    rw [← hs₂]
    exact hsteps
  · obtain ⟨e2, q2, q3, q4, q5, q6⟩ := id hsm
    have e3 : s₂ = ({ (U.calling g mk a).setFrames s₂.frames with heap := s₂.heap, slotsUsed := s₂.slotsUsed } : State).setVm s₂.vm := by
      have : s₂ = ({ s₂ with vm := (U.calling g mk a).vm } : State).setVm s₂.vm := rfl
      rw [e2] at this
      exact this
    have hf₂ : s₂.frames = .throwing q :: .java g :: U.frames.tail := hend
    have hW' : U.WarmedH s₂.vm := hW₂
    have hs₂ : s₂ = ((({ U with heap := s₂.heap, slotsUsed := s₂.slotsUsed } : State).setVm s₂.vm).setTop g).pushFrame (.throwing q) := by
      refine e3.trans ?_
      rw [hf₂, State.calling_eq h.top, State.setFrames_setFrames, State.pushFrame, State.frames_setTop _ hr', State.setTop_of_frames _ hr', State.setFrames_setFrames, hr]
      rfl
    have hsame : U.sameButNew ({ U with heap := s₂.heap, slotsUsed := s₂.slotsUsed } : State) L mc ms := by
      refine ⟨?_, q2, q3, q4, q5, q6⟩
      obtain ⟨t, ht, -⟩ := State.frames_cons hr
      show ({ U with heap := s₂.heap, slotsUsed := s₂.slotsUsed } : State) = { U.setFrames U.frames with heap := s₂.heap, slotsUsed := s₂.slotsUsed }
      rw [State.setFrames_self ht]
    subst hg
    refine Or.inr ⟨q, ⟨(({ U with heap := s₂.heap, slotsUsed := s₂.slotsUsed } : State).setVm s₂.vm), Ls ++ L, c0 + mc, s0 + ms⟩,
      ⟨X.admits, X.cas, X.clock, X.frames, X.room, X.hears, X.method, X.code, (X.here.setHeapUsed s₂.heap s₂.slotsUsed).setVm hW'.alike, X.tail, State.WarmedH.trans X.warmed hW', X.limits, X.bytes, X.same.trans (hsame.setVm s.vm)⟩,
      ⟨g, mk, s₂, L, E, ce, rfl, rfl, hx, hce, hcv, hcl, rfl, hL, rfl, rfl⟩, ?_⟩
    show Steps p.tables e below _ (((({ U with heap := s₂.heap, slotsUsed := s₂.slotsUsed } : State).setVm s₂.vm).setTop g).pushFrame (.throwing q))
    rw [← hs₂]
    exact hsteps
end Payer
section Calls
variable {p : Program} {l : Launch} {e : Env} {R : Room} {s : State} {m : MethodId} {args : Array Value} {below : List Frame} {meth : Method} {c : Code} {T : State} {locs : List Loc} {cells slots : Nat}
theorem vx_callV (X : Stand p l e R s m args below meth c T locs cells slots) (hexec : p.tables.exec = Jvm.exec) {own C : String} {index : Nat} {y : MethodName} {bytes : ByteArray} {maxL : Nat} {ret : Option FieldType}
    (hown : s.vm.findClass own = some m.cls) (hlink : (Cond.methodLink own index y).before args s = true) (hinst : (Cond.instanceMethod y).before args s = true) (hsel : (Cond.selects C y y).before args s = true)
    (hcode : (Cond.code y bytes maxL ret).before args s = true) (hy : y.cls ≠ "java/lang/invoke/MethodHandle" ∧ y.cls ≠ "java/lang/invoke/VarHandle")
    {W9 : Nat} {Pre : Pt → Array Value → Prop} {Post : Pt → Array Value → Option Value → Pt → Prop} {PostX : Pt → Array Value → Addr → Pt → Prop} (hK : vx_Back l R p e below s args y 3 W9 Pre Post PostX)
    {b : Addr} {cellB : Cell} (hcell : T.heap[b]? = some cellB) (hobj : cellB.vm.isStatics = false) (hcls : s.vm.findClass C = some cellB.cls)
    {g : JFrame} (hg : g.method = m) (hsize : g.locals.size = c.maxLocals) {argsL rest : List Value} (hlen : ∀ sig, parseMethodDescriptor y.desc = some sig → argsL.length = sig.parameters.length)
    (hstack : g.stack = argsL.reverse ++ .ref b :: rest) (hW : 2 * g.monitorRoom + (rest.map fun v => v.category).sum ≤ W9) (hdg : decode c.code g.pc = .ok (.invokevirtual index, 3))
    (hpre : ∀ vm₁, s.WarmedH vm₁ → Pre ⟨T.setVm vm₁, locs, cells, slots⟩ (Value.ref b :: argsL).toArray) :
    (∃ (v : Option Value) (vm₁ : Vm) (B : Pt), s.WarmedH vm₁ ∧ Stand p l e R s m args below meth c B.U B.locs B.cells B.slots ∧ Post ⟨T.setVm vm₁, locs, cells, slots⟩ (Value.ref b :: argsL).toArray v B ∧
      ∀ target, Steps p.tables e below (B.U.setTop { g with pc := g.pc + 3, stack := v.toList ++ rest }) target → Steps p.tables e below (T.setTop g) target) ∨
    (∃ (q : Addr) (vm₁ : Vm) (B : Pt), s.WarmedH vm₁ ∧ Stand p l e R s m args below meth c B.U B.locs B.cells B.slots ∧ PostX ⟨T.setVm vm₁, locs, cells, slots⟩ (Value.ref b :: argsL).toArray q B ∧
      Steps p.tables e below (T.setTop g) ((B.U.setTop { g with stack := rest }).pushFrame (.throwing q))) := by
  obtain ⟨mk, methM, hnamed, hmethM, hstM, habM⟩ := Cond.instanceMethod_spec hinst
  obtain ⟨methM', cM, hmethM', -, -, -, -, -, -, hsigM⟩ := Cond.code_spec hnamed hcode
  cases hmethM.symm.trans hmethM'
  obtain ⟨c2, r2, m2, q1, q2, q3, q4, kP, hkP, hkPi⟩ := Cond.selects_spec hsel
  cases hcls.symm.trans q1
  cases (State.methodFound?_of_named hnamed hy).symm.trans q2
  cases hnamed.symm.trans q3
  have hselP : selectMethod e.platform s.vm cellB.cls mk = .method mk := by rw [Launch.admits_selectMethod X.admits]; exact q4
  obtain ⟨vm₁, X₁, hstep₁⟩ := X.invokevirtual hexec hown hlink hnamed hmethM hstM hkP hkPi hy (a := b) (cell := cellB) hcell
    (fun z h => by rw [h] at hobj; cases hobj) hselP hmethM habM hkP hkPi (g := g) hg (argsL := argsL) (rest := rest) (hlen _ hsigM) hstack hdg
  rcases hK m meth c ⟨T.setVm vm₁, locs, cells, slots⟩ { g with stack := rest } (.invokevirtual index) mk (Value.ref b :: argsL).toArray X₁ hg hsize hdg hW (X₁.named hnamed) (hpre vm₁ X₁.warmed) with ⟨v, B, X', hpost, hsteps⟩ | ⟨q, B, X', hpost, hsteps⟩
  · exact Or.inl ⟨v, vm₁, B, X₁.warmed, X', hpost, fun target h => hstep₁ _ fun acts => by rw [doInvoke_state]; exact hsteps.trans h⟩
  · exact Or.inr ⟨q, vm₁, B, X₁.warmed, X', hpost, hstep₁ _ fun acts => by rw [doInvoke_state]; exact hsteps⟩
theorem vx_callS (X : Stand p l e R s m args below meth c T locs cells slots) (hexec : p.tables.exec = Jvm.exec) {own : String} {index : Nat} {y : MethodName} {bytes : ByteArray} {maxL : Nat} {ret : Option FieldType}
    (hown : s.vm.findClass own = some m.cls) (hlink : (Cond.methodLink own index y).before args s = true) (hstat : (Cond.static y).before args s = true) (hinit : (Cond.initialized y.cls).before args s = true)
    (hcode : (Cond.code y bytes maxL ret).before args s = true) (hy : y.cls ≠ "java/lang/invoke/MethodHandle" ∧ y.cls ≠ "java/lang/invoke/VarHandle")
    {W9 : Nat} {Pre : Pt → Array Value → Prop} {Post : Pt → Array Value → Option Value → Pt → Prop} {PostX : Pt → Array Value → Addr → Pt → Prop} (hK : vx_Back l R p e below s args y 3 W9 Pre Post PostX)
    {g : JFrame} (hg : g.method = m) (hsize : g.locals.size = c.maxLocals) {argsL rest : List Value} (hlen : ∀ sig, parseMethodDescriptor y.desc = some sig → argsL.length = sig.parameters.length)
    (hstack : g.stack = argsL.reverse ++ rest) (hW : 2 * g.monitorRoom + (rest.map fun v => v.category).sum ≤ W9) (hdg : decode c.code g.pc = .ok (.invokestatic index, 3))
    (hpre : ∀ vm₁, s.WarmedH vm₁ → Pre ⟨T.setVm vm₁, locs, cells, slots⟩ argsL.toArray) :
    (∃ (v : Option Value) (vm₁ : Vm) (B : Pt), s.WarmedH vm₁ ∧ Stand p l e R s m args below meth c B.U B.locs B.cells B.slots ∧ Post ⟨T.setVm vm₁, locs, cells, slots⟩ argsL.toArray v B ∧
      ∀ target, Steps p.tables e below (B.U.setTop { g with pc := g.pc + 3, stack := v.toList ++ rest }) target → Steps p.tables e below (T.setTop g) target) ∨
    (∃ (q : Addr) (vm₁ : Vm) (B : Pt), s.WarmedH vm₁ ∧ Stand p l e R s m args below meth c B.U B.locs B.cells B.slots ∧ PostX ⟨T.setVm vm₁, locs, cells, slots⟩ argsL.toArray q B ∧
      Steps p.tables e below (T.setTop g) ((B.U.setTop { g with stack := rest }).pushFrame (.throwing q))) := by
  obtain ⟨mk, hnamed⟩ := Cond.code_named hcode
  obtain ⟨methM, cM, hmethM, -, -, -, -, -, -, hsigM⟩ := Cond.code_spec hnamed hcode
  have hstatic : methM.isStatic = true := Cond.static_spec hnamed hmethM hstat
  obtain ⟨kP, hkP, -⟩ := className_of_methodNamed hnamed
  have hinitP : kP.init = .initialized := Cond.initialized_spec (findClass_of_methodNamed hnamed) hkP hinit
  obtain ⟨vm₁, X₁, hstep₁⟩ := X.invokestatic hexec hown hlink hnamed hmethM hstatic hkP hinitP hy (g := g) hg (argsL := argsL) (rest := rest) (hlen _ hsigM) hstack hdg
  rcases hK m meth c ⟨T.setVm vm₁, locs, cells, slots⟩ { g with stack := rest } (.invokestatic index) mk argsL.toArray X₁ hg hsize hdg hW (X₁.named hnamed) (hpre vm₁ X₁.warmed) with ⟨v, B, X', hpost, hsteps⟩ | ⟨q, B, X', hpost, hsteps⟩
  · exact Or.inl ⟨v, vm₁, B, X₁.warmed, X', hpost, fun target h => hstep₁ _ fun acts => by rw [doInvoke_state]; exact hsteps.trans h⟩
  · exact Or.inr ⟨q, vm₁, B, X₁.warmed, X', hpost, hstep₁ _ fun acts => by rw [doInvoke_state]; exact hsteps⟩
end Calls
theorem vx_cls {s : State} {T : State} {vm₁ : Vm} {E : String} {k : ClassId} (hW : s.WarmedH vm₁) (h : (T.setVm vm₁).vm.findClass E = some k) : s.vm.findClass E = some k := by
  have h1 : vm₁.findClass E = some k := h
  rw [hW.alike.findClass] at h1
  exact h1
/-- the method's frame g, with q thrown over it -/
def vx_W (p : Program) (l : Launch) (e : Env) (R : Room) (s : State) (m : MethodId) (args : Array Value) (below : List Frame) (meth : Method) (c : Code) (H : Heap) (locs : List Loc) (cells slots : Nat) (Q : State → Prop) (g : JFrame) (q : Addr) : Prop :=
  ∀ T : State, T.heap = H → Stand p l e R s m args below meth c T locs cells slots → ∃ t, Steps p.tables e below ((T.setTop g).pushFrame (.throwing q)) t ∧ Q t
def vx_Run (p : Program) (l : Launch) (e : Env) (R : Room) (s : State) (m : MethodId) (args : Array Value) (below : List Frame) (meth : Method) (c : Code) (H : Heap) (locs : List Loc) (cells slots mc ms : Nat) (g : JFrame) (rest : List Value) (Qa : State → Outcome → State → Prop) (XC : String → State → State → Prop) (free : Addr → Prop) : Prop :=
  ∀ T : State, T.heap = H → Stand p l e R s m args below meth c T locs cells slots →
    (∃ (v : Option Value) (st₀ t T' : State) (L : List Loc), st₀.heap = H ∧ Stand p l e R s m args below meth c T' (locs ++ L) (cells + mc) (slots + ms) ∧ (∀ q ∈ L, free q.base) ∧ T'.heap = t.heap ∧ T'.vm = t.vm ∧ Qa st₀ (.returned v) t ∧
      Goes p e below T g T' { g with pc := g.pc + 3, stack := v.toList ++ rest }) ∨
    (∃ (q : Addr) (st₀ t T' : State) (L : List Loc) (E : String) (ce : Cell), st₀.heap = H ∧ Stand p l e R s m args below meth c T' (locs ++ L) (cells + mc) (slots + ms) ∧ (∀ z ∈ L, free z.base) ∧ T'.heap = t.heap ∧ T'.vm = t.vm ∧ XC E st₀ t ∧ t.heap[q]? = some ce ∧ ce.vm = .none ∧ s.vm.findClass E = some ce.cls ∧
      Steps p.tables e below (T.setTop g) ((T'.setTop { g with stack := rest }).pushFrame (.throwing q)))
def vx_X {S : Type} (px : S → Prop) (B : String → S → State → Prop) (A : Nat → Prop) : String → State → State → Prop := fun E st t => ∃ u : S, px u ∧ B E u t ∧ va_F A st t
section Runs
variable {p : Program} {l : Launch} {e : Env} {R : Room} {s : State} {m : MethodId} {args : Array Value} {below : List Frame} {meth : Method} {c : Code} {H : Heap} {locs : List Loc} {cells slots : Nat}
variable {y : MethodName} {bytes cc : ByteArray} {maxL nL mc ms n index : Nat} {ret : Option FieldType} {ws : List Cond} {rm : Room} {Pc : Array Value → State → Prop} {Qc : Array Value → State → Outcome → State → Prop} {XC : String → State → State → Prop} {free : Addr → Prop} {Ts : List Cond} {own C : String} {b : Addr} {As rest : List Value} {g : JFrame}
theorem vx_callBack (cb : CallB R s args own index y bytes maxL ret ws rm mc ms n) (hM : vx_Met l y ws rm Pc Qc XC mc ms free) (hbl : FrameBlind Pc) : vx_Back l R p e below s args y 3 8 (PreOf R mc ms Pc) (PostOf Qc mc ms free) (vx_Post XC mc ms free) := by
  obtain ⟨hrc, hrs, hfr, hlo, hws, hcw, -, hini, -⟩ := cb
  exact vx_back (bytes := bytes) (maxL := maxL) (ret := ret) hM hbl hrc hrs hfr hlo hws hcw (fun a' U hW => word_at hW (Or.inl (by first | rfl | simp [Cond.onTables, Cond.keeps, Cond.steady])) hini)
theorem vx_runV (S : CallFix p m c cc nL s args Ts own) (hM : vx_Met l y ws rm Pc Qc XC mc ms free) (cw : CallW R s args own C index y bytes maxL ret ws rm mc ms n) (hp : PreV s H C b Pc As)
    (hg : g.method = m) (hn : As.length = n) (hsize : g.locals.size = nL) (hstack : g.stack = As.reverse ++ .ref b :: rest) (hW : 2 * g.monitorRoom + (rest.map fun v => v.category).sum ≤ 8) (hdg : decode cc g.pc = .ok (.invokevirtual index, 3)) (hf : cells + mc ≤ R.cells ∧ slots + ms ≤ R.slots) :
    vx_Run p l e R s m args below meth c H locs cells slots mc ms g rest (Qc (Value.ref b :: As).toArray) XC free := by
  have hK : vx_Back l R p e below s args y 3 8 (PreOf R mc ms Pc) (PostOf Qc mc ms free) (vx_Post XC mc ms free) := vx_callBack cw.1 hM hp.1
  obtain ⟨⟨-, -, -, -, -, -, hcode, -, hy, hlen, hl⟩, hin, hse⟩ := cw
  obtain ⟨hx, hb, hml, ho, -⟩ := S
  obtain ⟨-, ⟨cellB, hcB, hoB, hclB⟩, hPc⟩ := hp
  intro T hT X
  rcases vx_callV X hx (C := C) (bytes := bytes) (maxL := maxL) (ret := ret) ho hl hin hse hcode hy hK (by rw [hT]; exact hcB) hoB hclB hg (hsize.trans hml.symm) (argsL := As) (rest := rest) (fun sig h => hn.trans (hlen sig h)) hstack hW (by rw [hb]; exact hdg)
    (fun vm₁ hW₁ => ⟨hf.1, hf.2, hPc (T.setVm vm₁) hT hW₁⟩) with ⟨v, vm₁, ⟨U', l2, c2, s2⟩, hW₁, X', ⟨g', mk, t, L, e1, e2, hq, h1, hL, h2, h3⟩, st⟩ | ⟨q, vm₁, ⟨U', l2, c2, s2⟩, hW₁, X', ⟨g', mk, t, L, E, ce, e1, e2, hq, hce, hcv, hcl, h1, hL, h2, h3⟩, st⟩
  · dsimp only [Pt.U, Pt.locs, Pt.cells, Pt.slots] at X' e1 e2 h1 h2 h3 st
    subst h1; subst h2; subst h3
    exact Or.inl ⟨v, (T.setVm vm₁).calling g' mk (Value.ref b :: As).toArray, t, U', L, hT, X', hL, e1, e2, hq, st⟩
  · dsimp only [Pt.U, Pt.locs, Pt.cells, Pt.slots] at X' e1 e2 h1 h2 h3 st hcl
    subst h1; subst h2; subst h3
    exact Or.inr ⟨q, (T.setVm vm₁).calling g' mk (Value.ref b :: As).toArray, t, U', L, E, ce, hT, X', hL, e1, e2, hq, hce, hcv, vx_cls hW₁ hcl, st⟩
theorem vx_runS (S : CallFix p m c cc nL s args Ts own) (hM : vx_Met l y ws rm Pc Qc XC mc ms free) (cw : CallB R s args own index y bytes maxL ret ws rm mc ms n ∧ (Cond.static y).before args s = true) (hp : PreS s H Pc As)
    (hg : g.method = m) (hn : As.length = n) (hsize : g.locals.size = nL) (hstack : g.stack = As.reverse ++ rest) (hW : 2 * g.monitorRoom + (rest.map fun v => v.category).sum ≤ 8) (hdg : decode cc g.pc = .ok (.invokestatic index, 3)) (hf : cells + mc ≤ R.cells ∧ slots + ms ≤ R.slots) :
    vx_Run p l e R s m args below meth c H locs cells slots mc ms g rest (Qc As.toArray) XC free := by
  have hK : vx_Back l R p e below s args y 3 8 (PreOf R mc ms Pc) (PostOf Qc mc ms free) (vx_Post XC mc ms free) := vx_callBack cw.1 hM hp.1
  obtain ⟨⟨-, -, -, -, -, -, hcode, hini, hy, hlen, hl⟩, hstt⟩ := cw
  obtain ⟨hx, hb, hml, ho, -⟩ := S
  intro T hT X
  rcases vx_callS X hx (bytes := bytes) (maxL := maxL) (ret := ret) ho hl hstt hini hcode hy hK hg (hsize.trans hml.symm) (argsL := As) (rest := rest) (fun sig h => hn.trans (hlen sig h)) hstack hW (by rw [hb]; exact hdg)
    (fun vm₁ hW₁ => ⟨hf.1, hf.2, hp.2 (T.setVm vm₁) hT hW₁⟩) with ⟨v, vm₁, ⟨U', l2, c2, s2⟩, hW₁, X', ⟨g', mk, t, L, e1, e2, hq, h1, hL, h2, h3⟩, st⟩ | ⟨q, vm₁, ⟨U', l2, c2, s2⟩, hW₁, X', ⟨g', mk, t, L, E, ce, e1, e2, hq, hce, hcv, hcl, h1, hL, h2, h3⟩, st⟩
  · dsimp only [Pt.U, Pt.locs, Pt.cells, Pt.slots] at X' e1 e2 h1 h2 h3 st
    subst h1; subst h2; subst h3
    exact Or.inl ⟨v, (T.setVm vm₁).calling g' mk As.toArray, t, U', L, hT, X', hL, e1, e2, hq, st⟩
  · dsimp only [Pt.U, Pt.locs, Pt.cells, Pt.slots] at X' e1 e2 h1 h2 h3 st hcl
    subst h1; subst h2; subst h3
    exact Or.inr ⟨q, (T.setVm vm₁).calling g' mk As.toArray, t, U', L, E, ce, hT, X', hL, e1, e2, hq, hce, hcv, vx_cls hW₁ hcl, st⟩
end Runs
section Rows
variable {p : Program} {l : Launch} {e : Env} {R : Room} {s : State} {m : MethodId} {args : Array Value} {below : List Frame} {meth : Method} {c : Code} {H : Heap} {locs : List Loc} {cells slots : Nat} {Q : State → Prop}
variable {mc ms : Nat} {free : Addr → Prop} {A0 A1 : Nat → Prop} {H0 : Heap} {a : Array Value} {pc : Nat} {ls : Array Slot} {st0 rest : List Value}
theorem vx_keep {st₀ t T' : State} {L : List Loc} (h0 : st₀.heap = H) (e1 : T'.heap = t.heap) (hS : va_S A0 H0 H locs) (hA : ∀ q, q < H.size → A1 q → A0 q) (hf : ∀ q, free q → A0 q) (hL : ∀ q ∈ L, free q.base) (hF : va_F A1 st₀ t) :
    H.size ≤ T'.heap.size ∧ (∀ q : Nat, q < H.size → ¬ A1 q → T'.heap[q]? = H[q]?) ∧ va_S A0 H0 T'.heap (locs ++ L) := by
  obtain ⟨hz, hk⟩ := hF
  rw [h0] at hz hk
  exact ⟨by rw [e1]; exact hz, fun q h1 h2 => by rw [e1]; exact hk q h1 h2,
    ⟨Nat.le_trans hS.1 (by rw [e1]; exact hz), fun q h1 h2 => by rw [e1, hk q (Nat.lt_of_lt_of_le h1 hS.1) (fun z => h2 (hA q (Nat.lt_of_lt_of_le h1 hS.1) z))]; exact hS.2.1 q h1 h2, fun q hq => by
      rcases List.mem_append.mp hq with h | h
      · exact hS.2.2 q h
      · exact hf _ (hL q h)⟩⟩
theorem vx_calli {S SX : Type} {post : Int32 → S → Prop} {px : SX → Prop} {B : S → State → Prop} {BX : String → SX → State → Prop} {AX : Nat → Prop} (hr : vx_Run p l e R s m args below meth c H locs cells slots mc ms (F0 m pc ls st0) rest (va_Qi post B A1 a) (vx_X px BX AX) free) (hS : va_S A0 H0 H locs) (hA : ∀ q, q < H.size → A1 q → A0 q) (hf : ∀ q, free q → A0 q) (hAX : ∀ q, q < H.size → AX q → A0 q)
    (kx : ∀ (E : String) (ce : Cell) (q9 : Addr) (u : SX) (t : State) (H1 : Heap) (locs1 : List Loc), t.heap = H1 → s.vm.Alike t.vm → px u → BX E u t → H.size ≤ H1.size → (∀ q : Nat, q < H.size → ¬ AX q → H1[q]? = H[q]?) → va_S A0 H0 H1 locs1 → H1[q9]? = some ce → ce.vm = .none → s.vm.findClass E = some ce.cls → vx_W p l e R s m args below meth c H1 locs1 (cells + mc) (slots + ms) Q (F0 m pc ls rest) q9)
    (kk : ∀ (r : Int32) (u : S) (t : State) (H1 : Heap) (locs1 : List Loc), t.heap = H1 → s.vm.Alike t.vm → post r u → B u t → H.size ≤ H1.size → (∀ q : Nat, q < H.size → ¬ A1 q → H1[q]? = H[q]?) → va_S A0 H0 H1 locs1 → W p l e R s m args below meth c H1 locs1 (cells + mc) (slots + ms) Q (F0 m (pc + 3) ls (.int r :: rest))) : W p l e R s m args below meth c H locs cells slots Q (F0 m pc ls st0) := by
  intro T hT X
  rcases hr T hT X with ⟨v, st₀, t, T', L, h0, X', hL, e1, e2, ⟨⟨r, u, hv, hp, hb⟩, hF⟩, st⟩ | ⟨q, st₀, t, T', L, E, ce, h0, X', hL, e1, e2, ⟨u, hp, hb, hF⟩, hce, hcv, hcl, st⟩
  · cases hv
    obtain ⟨k1, k2, k3⟩ := vx_keep h0 e1 hS hA hf hL hF
    obtain ⟨t2, a1, b1⟩ := kk r u t T'.heap (locs ++ L) e1.symm (by rw [← e2]; exact X'.warmed.alike) hp hb k1 k2 k3 T' rfl X'
    exact ⟨t2, st t2 a1, b1⟩
  · obtain ⟨k1, k2, k3⟩ := vx_keep h0 e1 hS hAX hf hL hF
    obtain ⟨t2, a1, b1⟩ := kx E ce q u t T'.heap (locs ++ L) e1.symm (by rw [← e2]; exact X'.warmed.alike) hp hb k1 k2 k3 (by rw [e1]; exact hce) hcv hcl T' rfl X'
    exact ⟨t2, st.trans a1, b1⟩
theorem vx_calll {S SX : Type} {post : Int64 → S → Prop} {px : SX → Prop} {B : S → State → Prop} {BX : String → SX → State → Prop} {AX : Nat → Prop} (hr : vx_Run p l e R s m args below meth c H locs cells slots mc ms (F0 m pc ls st0) rest (va_Ql post B A1 a) (vx_X px BX AX) free) (hS : va_S A0 H0 H locs) (hA : ∀ q, q < H.size → A1 q → A0 q) (hf : ∀ q, free q → A0 q) (hAX : ∀ q, q < H.size → AX q → A0 q)
    (kx : ∀ (E : String) (ce : Cell) (q9 : Addr) (u : SX) (t : State) (H1 : Heap) (locs1 : List Loc), t.heap = H1 → s.vm.Alike t.vm → px u → BX E u t → H.size ≤ H1.size → (∀ q : Nat, q < H.size → ¬ AX q → H1[q]? = H[q]?) → va_S A0 H0 H1 locs1 → H1[q9]? = some ce → ce.vm = .none → s.vm.findClass E = some ce.cls → vx_W p l e R s m args below meth c H1 locs1 (cells + mc) (slots + ms) Q (F0 m pc ls rest) q9)
    (kk : ∀ (r : Int64) (u : S) (t : State) (H1 : Heap) (locs1 : List Loc), t.heap = H1 → s.vm.Alike t.vm → post r u → B u t → H.size ≤ H1.size → (∀ q : Nat, q < H.size → ¬ A1 q → H1[q]? = H[q]?) → va_S A0 H0 H1 locs1 → W p l e R s m args below meth c H1 locs1 (cells + mc) (slots + ms) Q (F0 m (pc + 3) ls (.long r :: rest))) : W p l e R s m args below meth c H locs cells slots Q (F0 m pc ls st0) := by
  intro T hT X
  rcases hr T hT X with ⟨v, st₀, t, T', L, h0, X', hL, e1, e2, ⟨⟨r, u, hv, hp, hb⟩, hF⟩, st⟩ | ⟨q, st₀, t, T', L, E, ce, h0, X', hL, e1, e2, ⟨u, hp, hb, hF⟩, hce, hcv, hcl, st⟩
  · cases hv
    obtain ⟨k1, k2, k3⟩ := vx_keep h0 e1 hS hA hf hL hF
    obtain ⟨t2, a1, b1⟩ := kk r u t T'.heap (locs ++ L) e1.symm (by rw [← e2]; exact X'.warmed.alike) hp hb k1 k2 k3 T' rfl X'
    exact ⟨t2, st t2 a1, b1⟩
  · obtain ⟨k1, k2, k3⟩ := vx_keep h0 e1 hS hAX hf hL hF
    obtain ⟨t2, a1, b1⟩ := kx E ce q u t T'.heap (locs ++ L) e1.symm (by rw [← e2]; exact X'.warmed.alike) hp hb k1 k2 k3 (by rw [e1]; exact hce) hcv hcl T' rfl X'
    exact ⟨t2, st.trans a1, b1⟩
theorem vx_callf {S SX : Type} {post : UInt32 → S → Prop} {px : SX → Prop} {B : S → State → Prop} {BX : String → SX → State → Prop} {AX : Nat → Prop} (hr : vx_Run p l e R s m args below meth c H locs cells slots mc ms (F0 m pc ls st0) rest (va_Qf post B A1 a) (vx_X px BX AX) free) (hS : va_S A0 H0 H locs) (hA : ∀ q, q < H.size → A1 q → A0 q) (hf : ∀ q, free q → A0 q) (hAX : ∀ q, q < H.size → AX q → A0 q)
    (kx : ∀ (E : String) (ce : Cell) (q9 : Addr) (u : SX) (t : State) (H1 : Heap) (locs1 : List Loc), t.heap = H1 → s.vm.Alike t.vm → px u → BX E u t → H.size ≤ H1.size → (∀ q : Nat, q < H.size → ¬ AX q → H1[q]? = H[q]?) → va_S A0 H0 H1 locs1 → H1[q9]? = some ce → ce.vm = .none → s.vm.findClass E = some ce.cls → vx_W p l e R s m args below meth c H1 locs1 (cells + mc) (slots + ms) Q (F0 m pc ls rest) q9)
    (kk : ∀ (r : UInt32) (u : S) (t : State) (H1 : Heap) (locs1 : List Loc), t.heap = H1 → s.vm.Alike t.vm → post r u → B u t → H.size ≤ H1.size → (∀ q : Nat, q < H.size → ¬ A1 q → H1[q]? = H[q]?) → va_S A0 H0 H1 locs1 → W p l e R s m args below meth c H1 locs1 (cells + mc) (slots + ms) Q (F0 m (pc + 3) ls (.float r :: rest))) : W p l e R s m args below meth c H locs cells slots Q (F0 m pc ls st0) := by
  intro T hT X
  rcases hr T hT X with ⟨v, st₀, t, T', L, h0, X', hL, e1, e2, ⟨⟨r, u, hv, hp, hb⟩, hF⟩, st⟩ | ⟨q, st₀, t, T', L, E, ce, h0, X', hL, e1, e2, ⟨u, hp, hb, hF⟩, hce, hcv, hcl, st⟩
  · cases hv
    obtain ⟨k1, k2, k3⟩ := vx_keep h0 e1 hS hA hf hL hF
    obtain ⟨t2, a1, b1⟩ := kk r u t T'.heap (locs ++ L) e1.symm (by rw [← e2]; exact X'.warmed.alike) hp hb k1 k2 k3 T' rfl X'
    exact ⟨t2, st t2 a1, b1⟩
  · obtain ⟨k1, k2, k3⟩ := vx_keep h0 e1 hS hAX hf hL hF
    obtain ⟨t2, a1, b1⟩ := kx E ce q u t T'.heap (locs ++ L) e1.symm (by rw [← e2]; exact X'.warmed.alike) hp hb k1 k2 k3 (by rw [e1]; exact hce) hcv hcl T' rfl X'
    exact ⟨t2, st.trans a1, b1⟩
theorem vx_calld {S SX : Type} {post : UInt64 → S → Prop} {px : SX → Prop} {B : S → State → Prop} {BX : String → SX → State → Prop} {AX : Nat → Prop} (hr : vx_Run p l e R s m args below meth c H locs cells slots mc ms (F0 m pc ls st0) rest (va_Qd post B A1 a) (vx_X px BX AX) free) (hS : va_S A0 H0 H locs) (hA : ∀ q, q < H.size → A1 q → A0 q) (hf : ∀ q, free q → A0 q) (hAX : ∀ q, q < H.size → AX q → A0 q)
    (kx : ∀ (E : String) (ce : Cell) (q9 : Addr) (u : SX) (t : State) (H1 : Heap) (locs1 : List Loc), t.heap = H1 → s.vm.Alike t.vm → px u → BX E u t → H.size ≤ H1.size → (∀ q : Nat, q < H.size → ¬ AX q → H1[q]? = H[q]?) → va_S A0 H0 H1 locs1 → H1[q9]? = some ce → ce.vm = .none → s.vm.findClass E = some ce.cls → vx_W p l e R s m args below meth c H1 locs1 (cells + mc) (slots + ms) Q (F0 m pc ls rest) q9)
    (kk : ∀ (r : UInt64) (u : S) (t : State) (H1 : Heap) (locs1 : List Loc), t.heap = H1 → s.vm.Alike t.vm → post r u → B u t → H.size ≤ H1.size → (∀ q : Nat, q < H.size → ¬ A1 q → H1[q]? = H[q]?) → va_S A0 H0 H1 locs1 → W p l e R s m args below meth c H1 locs1 (cells + mc) (slots + ms) Q (F0 m (pc + 3) ls (.double r :: rest))) : W p l e R s m args below meth c H locs cells slots Q (F0 m pc ls st0) := by
  intro T hT X
  rcases hr T hT X with ⟨v, st₀, t, T', L, h0, X', hL, e1, e2, ⟨⟨r, u, hv, hp, hb⟩, hF⟩, st⟩ | ⟨q, st₀, t, T', L, E, ce, h0, X', hL, e1, e2, ⟨u, hp, hb, hF⟩, hce, hcv, hcl, st⟩
  · cases hv
    obtain ⟨k1, k2, k3⟩ := vx_keep h0 e1 hS hA hf hL hF
    obtain ⟨t2, a1, b1⟩ := kk r u t T'.heap (locs ++ L) e1.symm (by rw [← e2]; exact X'.warmed.alike) hp hb k1 k2 k3 T' rfl X'
    exact ⟨t2, st t2 a1, b1⟩
  · obtain ⟨k1, k2, k3⟩ := vx_keep h0 e1 hS hAX hf hL hF
    obtain ⟨t2, a1, b1⟩ := kx E ce q u t T'.heap (locs ++ L) e1.symm (by rw [← e2]; exact X'.warmed.alike) hp hb k1 k2 k3 (by rw [e1]; exact hce) hcv hcl T' rfl X'
    exact ⟨t2, st.trans a1, b1⟩
theorem vx_callv {S SX : Type} {post : S → Prop} {px : SX → Prop} {B : S → State → Prop} {BX : String → SX → State → Prop} {AX : Nat → Prop} (hr : vx_Run p l e R s m args below meth c H locs cells slots mc ms (F0 m pc ls st0) rest (va_Qv post B A1 a) (vx_X px BX AX) free) (hS : va_S A0 H0 H locs) (hA : ∀ q, q < H.size → A1 q → A0 q) (hf : ∀ q, free q → A0 q) (hAX : ∀ q, q < H.size → AX q → A0 q)
    (kx : ∀ (E : String) (ce : Cell) (q9 : Addr) (u : SX) (t : State) (H1 : Heap) (locs1 : List Loc), t.heap = H1 → s.vm.Alike t.vm → px u → BX E u t → H.size ≤ H1.size → (∀ q : Nat, q < H.size → ¬ AX q → H1[q]? = H[q]?) → va_S A0 H0 H1 locs1 → H1[q9]? = some ce → ce.vm = .none → s.vm.findClass E = some ce.cls → vx_W p l e R s m args below meth c H1 locs1 (cells + mc) (slots + ms) Q (F0 m pc ls rest) q9)
    (kk : ∀ (u : S) (t : State) (H1 : Heap) (locs1 : List Loc), t.heap = H1 → s.vm.Alike t.vm → post u → B u t → H.size ≤ H1.size → (∀ q : Nat, q < H.size → ¬ A1 q → H1[q]? = H[q]?) → va_S A0 H0 H1 locs1 → W p l e R s m args below meth c H1 locs1 (cells + mc) (slots + ms) Q (F0 m (pc + 3) ls (rest))) : W p l e R s m args below meth c H locs cells slots Q (F0 m pc ls st0) := by
  intro T hT X
  rcases hr T hT X with ⟨v, st₀, t, T', L, h0, X', hL, e1, e2, ⟨⟨u, hv, hp, hb⟩, hF⟩, st⟩ | ⟨q, st₀, t, T', L, E, ce, h0, X', hL, e1, e2, ⟨u, hp, hb, hF⟩, hce, hcv, hcl, st⟩
  · cases hv
    obtain ⟨k1, k2, k3⟩ := vx_keep h0 e1 hS hA hf hL hF
    obtain ⟨t2, a1, b1⟩ := kk u t T'.heap (locs ++ L) e1.symm (by rw [← e2]; exact X'.warmed.alike) hp hb k1 k2 k3 T' rfl X'
    exact ⟨t2, st t2 a1, b1⟩
  · obtain ⟨k1, k2, k3⟩ := vx_keep h0 e1 hS hAX hf hL hF
    obtain ⟨t2, a1, b1⟩ := kx E ce q u t T'.heap (locs ++ L) e1.symm (by rw [← e2]; exact X'.warmed.alike) hp hb k1 k2 k3 (by rw [e1]; exact hce) hcv hcl T' rfl X'
    exact ⟨t2, st.trans a1, b1⟩
/-- caught by the row x of this method's table; the rows ahead don't take it -/
theorem vx_catch {own name : String} {E : String} {ce : Cell} {q : Addr} (hown : s.vm.findClass own = some m.cls) (pre : List ExceptionTableEntry) (x : ExceptionTableEntry) (suf : List ExceptionTableEntry) (hsplit : c.exceptionTable.toList = pre ++ x :: suf)
    (hpass : ∀ z ∈ pre, covers z pc = false ∨ (z.catchType ≠ 0 ∧ ∃ nm : String, (Cond.classLink own z.catchType nm).before args s = true ∧ va_Nc E nm s)) (hx : covers x pc = true) (h0 : x.catchType ≠ 0)
    (hlink : (Cond.classLink own x.catchType name).before args s = true) (hcast : (Cond.castable E name).before args s = true) (hcell : H[q]? = some ce) (hv : ce.vm = .none) (hcl : s.vm.findClass E = some ce.cls)
    (kk : W p l e R s m args below meth c H locs cells slots Q (F0 m x.handlerPc ls [.ref q])) : vx_W p l e R s m args below meth c H locs cells slots Q (F0 m pc ls rest) q := by
  intro T hT X
  have hpl : e.platform.magicAccessors = ({} : Platform).magicAccessors := by rw [X.admits.platform]
  obtain ⟨c3, c4, hc3, hc4, hasg⟩ := Cond.castable_spec hcast
  cases Option.some.inj (hc3.symm.trans hcl)
  obtain ⟨c5, hc5, hcl5⟩ := Cond.classLink_spec hown hlink e.platform hpl
  cases Option.some.inj (hc4.symm.trans hc5)
  obtain ⟨vm', X', st⟩ := X.thenCaughtThrough q (g := F0 m pc ls rest) rfl (Steps.refl _) (by rw [hT]; exact hcell) (by rw [hv]; rfl) (by obtain ⟨k9, h9, -⟩ := Vm.findClass_spec hcl; exact ⟨k9, h9⟩) pre x suf hsplit
    (fun z hz => by
      rcases hpass z hz with h | ⟨hz0, nm, hl1, hn1⟩
      · exact Or.inl h
      · obtain ⟨c6, hc6, hcl6⟩ := Cond.classLink_spec hown hl1 e.platform hpl
        obtain ⟨a8, b8, h1, h2, h3⟩ := hn1
        cases Option.some.inj (h1.symm.trans hcl)
        cases Option.some.inj (h2.symm.trans hc6)
        exact Or.inr ⟨hz0, _, hcl6, h3⟩) hx (Or.inr ⟨h0, c4, hcl5, hasg⟩)
  obtain ⟨t, a1, b1⟩ := kk (T.setVm vm') hT X'
  exact ⟨t, st.trans a1, b1⟩
end Rows
section Ends
variable {p : Program} {l : Launch} {e : Env} {R : Room} {s : State} {m : MethodId} {args : Array Value} {below : List Frame} {meth : Method} {c : Code} {H : Heap} {locs : List Loc} {cells slots : Nat} {Q : State → Prop}
variable {mc ms : Nat} {free : Addr → Prop} {A0 A1 : Nat → Prop} {H0 : Heap} {a : Array Value} {ls : Array Slot} {st0 rest : List Value}
variable {Qc : Array Value → State → Outcome → State → Prop} {XC : String → State → State → Prop}
/-- what a body that may throw owes at its end -/
def vx_MQ (below : List Frame) (Qc : Array Value → State → Outcome → State → Prop) (XC : String → State → State → Prop) (a : Array Value) (s : State) (mc ms : Nat) (free : Addr → Prop) : State → Prop := fun t =>
  ∃ o, t.status = .running ∧ Ended t below o ∧ vx_Q Qc XC mc ms free a s o t
theorem vx_ret {g : JFrame} {mc ms : Nat} (k : W p l e R s m args below meth c H locs cells slots (MQ below Qc args s mc ms free) g) : W p l e R s m args below meth c H locs cells slots (vx_MQ below Qc XC args s mc ms free) g := by
  intro T hT X
  obtain ⟨t, a1, o, b1, b2, b3, b4⟩ := k T hT X
  exact ⟨t, a1, o, b1, b2, Or.inl ⟨b3, b4⟩⟩
/-- not caught here: it goes on to the caller -/
theorem vx_widen {g : JFrame} {q : Addr} {k n : Nat} (h1 : cells ≤ k) (h2 : slots ≤ n) (kk : vx_W p l e R s m args below meth c H locs k n Q g q) : vx_W p l e R s m args below meth c H locs cells slots Q g q := fun T hT X => kk T hT (stand_widen X h1 h2)
theorem vx_out {pc : Nat} {E : String} {ce : Cell} {q : Addr} {mc ms : Nat} (hout : ∀ x ∈ c.exceptionTable.toList, covers x pc = false) (hlocks : meth.locks = false) (hcell : H[q]? = some ce) (hv : ce.vm = .none) (hcl : s.vm.findClass E = some ce.cls)
    (hx : ∀ t : State, t.heap = H → s.vm.Alike t.vm → XC E s t) (hf : ∀ z ∈ locs, free z.base) (hc : cells ≤ mc) (hs : slots ≤ ms) :
    vx_W p l e R s m args below meth c H locs cells slots (vx_MQ below Qc XC args s mc ms free) (F0 m pc ls rest) q := by
  intro T hT X
  obtain ⟨st1, hrun, hend, hW, hsm⟩ := X.leaveThrown q (g := F0 m pc ls rest) rfl rfl rfl hout hlocks
  have hcell9 : (T.setFrames (.throwing q :: below)).heap[q]? = some ce := by
    show T.heap[q]? = some ce
    rw [hT]; exact hcell
  exact ⟨_, st1, .threw q, hrun, hend, Or.inr ⟨q, rfl, E, ce, locs, hx _ hT hW.alike, hcell9, hv, hcl, hW, hsm.mono hc hs, hf⟩⟩
theorem vx_frame {U : State} {k n : Nat} (h : s.sameButNew ({ U with vm := s.vm } : State) locs k n) : s.heap.size ≤ U.heap.size ∧ ∀ q : Nat, q < s.heap.size → (∀ z ∈ locs, z.base ≠ q) → U.heap[q]? = s.heap[q]? := by
  obtain ⟨-, h2, -, -, -, h6⟩ := h
  refine ⟨h2, fun q hq hz => ?_⟩
  obtain ⟨c9, e1, e2, e3, e4⟩ := h6 q _ (Array.getElem?_eq_getElem hq)
  have hs : c9.slots = (s.heap[q]).slots := Array.ext_getElem? fun i => e4 i fun hm => hz _ hm rfl
  have h9 : c9 = s.heap[q] := by
    rw [hs] at e2
    exact e2
  have e5 : U.heap[q]? = some c9 := e1
  rw [e5, h9, Array.getElem?_eq_getElem hq]
/-- the words of a throw but the four that speak of the heap -/
def vx_no (w : Cond) : Bool := decide (w ≠ .isRef (.static Bundle.tN "UNASSIGNED_STACK" Bundle.steD)) && decide (w ≠ .isRef (.static Bundle.tN "SUPPRESSED_SENTINEL" Bundle.listD)) && decide (w ≠ .laysStatic Bundle.tN "UNASSIGNED_STACK" Bundle.steD) && decide (w ≠ .laysStatic Bundle.tN "SUPPRESSED_SENTINEL" Bundle.listD)
def vx_at0 (own : String) (ic : Nat) (X : String) (names : List String) : List Cond := (Bundle.ownAtoms0 own ic X names).filter vx_no
def vx_atS (own : String) (ic : Nat) (X : String) (names : List String) : List Cond := (Bundle.ownAtoms own ic X names).filter vx_no
/-- a word that the tables alone decide, or a good one -/
def vx_ot (w : Cond) : Bool := w.onTables || goodWord w
theorem vx_ot_at {args a' : Array Value} {s U : State} {w : Cond} (hW : s.WarmedH U.vm) (hvm : s.vm = U.vm) (hg : vx_ot w = true) (h : w.before args s = true) : w.before a' U = true := by
  simp only [vx_ot, Bool.or_eq_true] at hg
  rcases hg with hg | hg
  · exact va_tabs hg hvm h
  · exact word_at hW (good_of_word hg) h
/-- a list's words: the good ones out of the method's own list, the others by premises of their own -/
theorem vx_hat {args : Array Value} {s : State} {L B : List Cond} (h1 : ∀ w ∈ L.filter goodWord, w.before args s = true) (h2 : ∀ w ∈ L.filter (fun w => !goodWord w), w ∈ B) (h3 : ∀ w ∈ B, w.before args s = true) : ∀ w ∈ L, w.before args s = true := by
  intro w hw
  by_cases g : goodWord w = true
  · exact h1 w (List.mem_filter.mpr ⟨hw, g⟩)
  · refine h3 w (h2 w (List.mem_filter.mpr ⟨hw, ?_⟩))
    show (!goodWord w) = true
    cases hgw : goodWord w
    · rfl
    · exact absurd hgw g
theorem vx_c {args : Array Value} {s : State} {w : Cond} {B : List Cond} (h : w.before args s = true) (t : ∀ w ∈ B, w.before args s = true) : ∀ w' ∈ w :: B, w'.before args s = true := fun w' h' => (List.mem_cons.mp h').elim (fun e => by rw [e]; exact h) (t w')
theorem vx_n {args : Array Value} {s : State} : ∀ w ∈ ([] : List Cond), w.before args s = true := fun _ h => nomatch h
theorem vx_own {args : Array Value} {s : State} {L : List Cond} (h1 : ∀ w ∈ L.filter vx_no, w.before args s = true)
    (hU : (Cond.isRef (.static Bundle.tN "UNASSIGNED_STACK" Bundle.steD)).before args s = true) (hN : (Cond.isRef (.static Bundle.tN "SUPPRESSED_SENTINEL" Bundle.listD)).before args s = true)
    (lU : (Cond.laysStatic Bundle.tN "UNASSIGNED_STACK" Bundle.steD).before args s = true) (lN : (Cond.laysStatic Bundle.tN "SUPPRESSED_SENTINEL" Bundle.listD).before args s = true) : ∀ w ∈ L, w.before args s = true := by
  intro w hw
  by_cases e1 : w = .isRef (.static Bundle.tN "UNASSIGNED_STACK" Bundle.steD)
  · rw [e1]; exact hU
  · by_cases e2 : w = .isRef (.static Bundle.tN "SUPPRESSED_SENTINEL" Bundle.listD)
    · rw [e2]; exact hN
    · by_cases e3 : w = .laysStatic Bundle.tN "UNASSIGNED_STACK" Bundle.steD
      · rw [e3]; exact lU
      · by_cases e4 : w = .laysStatic Bundle.tN "SUPPRESSED_SENTINEL" Bundle.listD
        · rw [e4]; exact lN
        · exact h1 w (List.mem_filter.mpr ⟨hw, by unfold vx_no; rw [decide_eq_true e1, decide_eq_true e2, decide_eq_true e3, decide_eq_true e4]; rfl⟩)
/-- where a static field lies, its class's statics cell in H -/
def vx_L (C n d : String) (A : Nat → Prop) (U : State) (H : Heap) : Prop := ∃ (c : ClassId) (k : Class) (i : Nat) (f : Field) (a : Nat) (cell : Cell), U.vm.findClass C = some c ∧ U.fieldFound? C n d = some (c, k, i, f) ∧ f.isStatic = true ∧ k.statics = some a ∧ H[a]? = some cell ∧ cell.vm.isStatics = true ∧ cell.cls = c ∧ f.slot < cell.slots.size ∧ k.staticTypes[f.slot]? = some f.type ∧ ¬ A a
theorem vx_L.moved {C n d : String} {A : Nat → Prop} {u U : State} {H : Heap} (hvm : u.vm.Alike U.vm) (h : vx_L C n d A u H) : vx_L C n d A U H := by
  obtain ⟨c, k, i, f, a, cell, h1, h2, h3, h4, h5, h6, h7, h8, h9, h10⟩ := h
  obtain ⟨k', hi', he⟩ := State.fieldFound?_setVm hvm h2
  exact ⟨c, k', i, f, a, cell, by rw [hvm.findClass]; exact h1, hi', h3, by rw [he]; exact h4, h5, h6, h7, h8, by rw [he]; exact h9, h10⟩
theorem vx_L.kept {C n d : String} {A : Nat → Prop} {U : State} {H H1 : Heap} (h : vx_L C n d A U H) (hq : ∀ a : Nat, a < H.size → ¬ A a → H1[a]? = H[a]?) : vx_L C n d A U H1 := by
  obtain ⟨c, k, i, f, a, cell, h1, h2, h3, h4, h5, h6, h7, h8, h9, h10⟩ := h
  exact ⟨c, k, i, f, a, cell, h1, h2, h3, h4, by rw [hq a (Array.getElem?_eq_some_iff.mp h5).1 h10]; exact h5, h6, h7, h8, h9, h10⟩
theorem vx_L.narrow {C n d : String} {A B : Nat → Prop} {U : State} {H : Heap} (h : vx_L C n d A U H) (hAB : ∀ q, B q → A q) : vx_L C n d B U H := by
  obtain ⟨c, k, i, f, a, cell, h1, h2, h3, h4, h5, h6, h7, h8, h9, h10⟩ := h
  exact ⟨c, k, i, f, a, cell, h1, h2, h3, h4, h5, h6, h7, h8, h9, fun z => h10 (hAB _ z)⟩
theorem vx_L.word {C n d : String} {A : Nat → Prop} {s : State} {args : Array Value} (h : vx_L C n d A s s.heap) : (Cond.laysStatic C n d).before args s = true := by
  obtain ⟨c, k, i, f, a, cell, h1, h2, h3, h4, h5, h6, h7, h8, h9, -⟩ := h
  show (Cond.laysStatic C n d).holds args s none s [] = true
  exact Cond.laysStatic_of h1 h2 h3 h4 h5 h6 h7 h8 h9
/-- .. and what it holds: null or some reference -/
def vx_Zq (C n d : String) (A : Nat → Prop) (U : State) (H : Heap) : Prop := va_Zq C n d A U H ∧ vx_L C n d A U H
theorem vx_Zq.moved {C n d : String} {A : Nat → Prop} {u U : State} {H : Heap} (hvm : u.vm.Alike U.vm) (h : vx_Zq C n d A u H) : vx_Zq C n d A U H := ⟨va_Zq.moved hvm h.1, vx_L.moved hvm h.2⟩
theorem vx_Zq.kept {C n d : String} {A : Nat → Prop} {U : State} {H H1 : Heap} (h : vx_Zq C n d A U H) (hq : ∀ a : Nat, a < H.size → ¬ A a → H1[a]? = H[a]?) : vx_Zq C n d A U H1 := ⟨va_Zq.kept h.1 hq, vx_L.kept h.2 hq⟩
theorem vx_Zq.narrow {C n d : String} {A B : Nat → Prop} {U : State} {H : Heap} (h : vx_Zq C n d A U H) (hAB : ∀ q, B q → A q) : vx_Zq C n d B U H := ⟨va_Zq.narrow h.1 hAB, vx_L.narrow h.2 hAB⟩
theorem vx_Zqof {args : Array Value} {s : State} {C n d : String} {A : Nat → Prop} (hl : (Cond.laysStatic C n d).before args s = true) (hini : (Cond.initialized C).before args s = true) (h : (Cond.isRef (.static C n d)).before args s = true) (hA : ∀ a : Nat, a < s.heap.size → ¬ A a) : vx_Zq C n d A s s.heap := by
  refine ⟨va_Zqof hl hini h hA, ?_⟩
  obtain ⟨c, k, i, f, a, cell, h1, h2, h3, h4, h5, h6, h7, h8, h9⟩ := Cond.laysStatic_spec hl
  exact ⟨c, k, i, f, a, cell, h1, h2, h3, h4, h5, h6, h7, h8, h9, hA a (Array.getElem?_eq_some_iff.mp h5).1⟩
theorem vx_isRef {C n d : String} {v : Value} {A : Nat → Prop} {s : State} {args : Array Value} (h : va_Z C n d v A s s.heap) (hv : v.isRef = true) : (Cond.isRef (.static C n d)).before args s = true := by
  obtain ⟨cf, kf, fi, f, a, cell, h1, h2, h3, h4, h5, h6, h7, -⟩ := h
  have he : (Term.static C n d).eval args s none [] s = some v := by
    simp [Term.eval, State.fieldNamed?, h1, h2, h4, h5, h6, h7]
  simp only [Cond.before, Cond.holds, Cond.value, he]
  cases v <;> simp_all [Value.isRef]
theorem vx_isRefq {C n d : String} {A : Nat → Prop} {s : State} {args : Array Value} (h : va_Zq C n d A s s.heap) : (Cond.isRef (.static C n d)).before args s = true := by
  rcases h with h | ⟨t, h⟩
  · exact vx_isRef h rfl
  · exact vx_isRef h rfl
/-- the same frame, seen from here: as if the method were called anew in this heap -/
theorem vx_rebase {T : State} (X : Stand p l e R s m args below meth c T locs cells slots) {R' : Room} (hf : R'.frames ≤ R.frames) (hl : R'.locals ≤ R.locals) (hc : cells + R'.cells ≤ R.cells) (hs : slots + R'.slots ≤ R.slots) :
    Stand p l e R' ((T.setVm s.vm).setFrames (.invoking m args :: below)) m args below meth c T [] 0 0 := by
  have htop : (T.setVm s.vm).topJava?.isSome := X.here.top
  have hF : ((T.setVm s.vm).setFrames (.invoking m args :: below)).frames = .invoking m args :: below := State.frames_setFrames _ (State.cur_lt_of_top htop)
  obtain ⟨g₀, hg0⟩ := Option.isSome_iff_exists.mp htop
  obtain ⟨r, hr⟩ := State.topJava?_eq_some.mp hg0
  have hl9 : e.platform.stackLimits (T.setVm s.vm).me = e.platform.stackLimits s.me := X.limits
  have hb9 : (T.setVm s.vm).me.stackBytes = s.me.stackBytes := X.bytes
  refine ⟨X.admits, X.cas, X.clock, hF, ?_, X.hears, X.method, X.code, X.here, X.tail, X.warmed, ?_, ?_, ?_⟩
  · have h := X.room
    have hU : ((T.setVm s.vm).setFrames (.invoking m args :: below)).localsInUse = s.localsInUse := by
      rw [State.localsInUse_invoking hF (meth := meth) (c := c) X.method X.code, State.localsInUse_invoking X.frames X.method X.code]
    simp only [State.hasRoom, Bool.and_eq_true, decide_eq_true_eq] at h ⊢
    obtain ⟨⟨⟨⟨h1, h2, h3, h4, h5, h6⟩, h7⟩, h8⟩, h9⟩ := h
    rw [X.frames, List.length_cons] at h2 h3
    have q1 := X.heapSize
    have q2 := X.used
    simp only [hF, hU, List.length_cons, State.stackLimits_setFrames, State.stackBytes_setFrames, hl9, hb9]
    refine ⟨⟨⟨⟨by omega, by omega, by omega, by omega, by omega, h6⟩, ?_⟩, ?_⟩, X.book⟩
    · show T.heap.size + R'.cells ≤ e.platform.maxCells
      omega
    · show T.slotsUsed + R'.slots ≤ e.platform.maxSlots
      omega
  · rw [State.stackLimits_setFrames]; rfl
  · rw [State.stackBytes_setFrames]; rfl
  · refine ⟨?_, Nat.le_refl _, Nat.le_refl _, ?_, ?_, fun a c9 h9 => ⟨c9, h9, rfl, rfl, fun _ _ => rfl⟩⟩
    · obtain ⟨t, ht, -⟩ := State.frames_cons hr
      show T.setVm s.vm = { ((T.setVm s.vm).setFrames (.invoking m args :: below)).setFrames (T.setVm s.vm).frames with heap := T.heap, slotsUsed := T.slotsUsed }
      rw [State.setFrames_setFrames, State.setFrames_self ht]
      rfl
    · show T.slotsUsed = T.slotsUsed + ((T.heap.toList.drop T.heap.size).map (·.slots.size)).sum
      rw [List.drop_eq_nil_of_le (Nat.le_of_eq Array.length_toList)]
      rfl
    · show ((T.heap.toList.drop T.heap.size).map (·.slots.size)).sum ≤ 0
      rw [List.drop_eq_nil_of_le (Nat.le_of_eq Array.length_toList)]
      exact Nat.le_refl _
/-- 'throw new E()': new; dup; invokespecial; athrow -/
theorem vx_throw0 {cc : ByteArray} {pc : Nat} (hexec : p.tables.exec = Jvm.exec) (hb : c.code = cc) (hl : l.stackTraces = false) {own cls : String} {names : List String} {ik ic mc ms : Nat} {A : Nat → Prop}
    (hown : s.vm.findClass own = some m.cls) (hcls : Bundle.fit cls = true) (hnames : ∀ n ∈ names, Bundle.fit n = true)
    (hk : (Cond.classLink own ik cls).before args s = true) (hini : (Cond.initialized cls).before args s = true) (hat : ∀ w ∈ vx_at0 own ic cls names, w.before args s = true)
    (hgood : ∀ w ∈ Cond.classLink own ik cls :: Cond.initialized cls :: vx_at0 own ic cls names, vx_ot w = true)
    (hU : vx_Zq Bundle.tN "UNASSIGNED_STACK" Bundle.steD A s s.heap) (hN : vx_Zq Bundle.tN "SUPPRESSED_SENTINEL" Bundle.listD A s s.heap) (hS : va_S A s.heap H locs) (hsize : ls.size = c.maxLocals)
    (d0 : decode cc pc = .ok (.new ik, 3)) (d3 : decode cc (pc + 3) = .ok (.dup, 1)) (d4 : decode cc (pc + 4) = .ok (.invokespecial ic, 3)) (d7 : decode cc (pc + 7) = .ok (.athrow, 1))
    (hout : ∀ x ∈ c.exceptionTable.toList, covers x (pc + 7) = false)
    (hRframes : names.length + 3 < R.frames) (hRlocals : (rest.map fun v => v.category).sum + (13 * (names.length + 1) + 42) ≤ R.locals) (hRcells : cells + 1 ≤ R.cells) (hRslots : slots + 6 ≤ R.slots) (hlocks : meth.locks = false)
    (hx : ∀ t : State, s.vm.Alike t.vm → H.size ≤ t.heap.size → (∀ q : Nat, q < H.size → t.heap[q]? = H[q]?) → XC cls s t)
    (hf : ∀ z ∈ locs, free z.base) (hc : cells + 1 ≤ mc) (hs : slots + 6 ≤ ms) :
    W p l e R s m args below meth c H locs cells slots (vx_MQ below Qc XC args s mc ms free) (F0 m pc ls rest) := by
  intro T hT X
  have htr : e.platform.stackTraces = false := (show e.platform.stackTraces = l.stackTraces by rw [X.admits.platform]).trans hl
  have Y := vx_rebase X (R' := { frames := R.frames, locals := R.locals, cells := 1, slots := 6 }) (Nat.le_refl _) (Nat.le_refl _) hRcells hRslots
  obtain ⟨s', hA⟩ : ∃ z, z = (T.setVm s.vm).setFrames (.invoking m args :: below) := ⟨_, rfl⟩
  rw [← hA] at Y
  have hvm : s'.vm = s.vm := by rw [hA]; rfl
  have hhp : s'.heap = H := by rw [hA]; exact hT
  have hW0 : s.WarmedH s'.vm := by rw [hvm]; exact State.WarmedH.refl s
  have hat' : ∀ w ∈ vx_at0 own ic cls names, w.before args s' = true := fun w hw => vx_ot_at hW0 hvm.symm (hgood w (List.mem_cons_of_mem _ (List.mem_cons_of_mem _ hw))) (hat w hw)
  have hk' : (Cond.classLink own ik cls).before args s' = true := vx_ot_at hW0 hvm.symm (hgood _ List.mem_cons_self) hk
  have hini' : (Cond.initialized cls).before args s' = true := vx_ot_at hW0 hvm.symm (hgood _ (List.mem_cons_of_mem _ List.mem_cons_self)) hini
  have hU' : vx_Zq Bundle.tN "UNASSIGNED_STACK" Bundle.steD A s' s'.heap := by rw [hhp]; exact vx_Zq.moved hW0.alike (hU.kept hS.2.1)
  have hN' : vx_Zq Bundle.tN "SUPPRESSED_SENTINEL" Bundle.listD A s' s'.heap := by rw [hhp]; exact vx_Zq.moved hW0.alike (hN.kept hS.2.1)
  have h : ∀ w ∈ Bundle.ownAtoms0 own ic cls names, w.before args s' = true := vx_own hat' (vx_isRefq hU'.1) (vx_isRefq hN'.1) hU'.2.word hN'.2.word
  have hown' : s'.vm.findClass own = some m.cls := by rw [hvm]; exact hown
  have hins : (Cond.instantiable cls 6).before args s' = true := h _ (by simp [Bundle.ownAtoms0])
  obtain ⟨vm₁, cX, kX, hfX, hkX, -, -, X₁, st1⟩ := Y.newCold hexec (own := own) (C := cls) (index := ik) (n := 6) hown' hk' hins hini'
    (g := F0 m pc ls rest) rfl (by rw [hb]; exact d0) (Nat.le_refl _) (Nat.le_refl _)
  generalize hT1 : (T.setVm vm₁).pushCell { cls := cX, slots := kX.instanceTypes.map defaultValue, vm := .none } = T1 at X₁ st1
  have hcat : (Value.ref T.heap.size).category = 1 := rfl
  have hcellA : T1.heap[T.heap.size]? = some (freshCell cX kX) := by rw [← hT1]; exact State.heap_pushCell_size _ _
  have d3' : decode c.code (pc + 3) = .ok (.dup, 1) := by rw [hb]; exact d3
  obtain ⟨U, hsteps, hrun, hend, hW, hsame, ce, hce, hO⟩ := X₁.ctorThrow0 hexec htr (own := own) (cls := cls) (names := names) (ic := ic) hown' hcls hnames h (fun x hx => nomatch hx) hfX hkX hcellA (by rw [hhp, hT]; exact Nat.le_refl _)
    (g := { method := m, pc := pc + 4, locals := ls, stack := .ref T.heap.size :: .ref T.heap.size :: rest, locked := none }) rfl hsize rfl rfl (rest := rest) rfl
    (by rw [hb]; exact d4) (by rw [hb]; exact d7) hout hRframes (by simp only [List.map_cons, List.sum_cons, hcat]; omega) hlocks
  obtain ⟨f1, f2⟩ := vx_frame hsame
  rw [hhp] at f1 f2
  have hWs : s.WarmedH U.vm := State.WarmedH.trans hW0 hW
  have hcl : s.vm.findClass cls = some ce.cls := by
    have h9 := hO.cls
    rw [hvm] at h9
    exact h9
  have hall : s.sameButNew ({ U with vm := s.vm } : State) locs mc ms := by
    subst hA
    obtain ⟨e1, e2⟩ := hsame
    rw [State.setFrames_setFrames] at e1
    have h2 : (T.setVm s.vm).sameButNew ({ U with vm := s.vm } : State) [] (0 + 1) (0 + 6) := ⟨e1, e2⟩
    have h3 := X.same.trans h2
    rw [List.append_nil] at h3
    exact h3.mono hc hs
  refine ⟨U, ?_, .threw T.heap.size, hrun, hend, Or.inr ⟨T.heap.size, rfl, cls, ce, locs, hx U hWs.alike f1 (fun q hq => f2 q hq (fun z hz => nomatch hz)), hce, hO.vm, hcl, hWs, hall, hf⟩⟩
  refine st1 _ ?_
  show Steps p.tables e below (T1.setTop { method := m, pc := pc + 3, locals := ls, stack := .ref T.heap.size :: rest, locked := none }) _
  jvm_step X₁.here [X₁.here.top, hexec, d3', Value.category]
  exact hsteps
/-- 'throw new E("text")': new; dup; ldc; invokespecial; athrow -/
theorem vx_throwS {cc : ByteArray} {pc : Nat} (hexec : p.tables.exec = Jvm.exec) (hb : c.code = cc) (hl : l.stackTraces = false) {own cls text : String} {names : List String} {ik is ic mc ms sa : Nat} {A : Nat → Prop}
    (hown : s.vm.findClass own = some m.cls) (hcls : Bundle.fit cls = true) (hnames : ∀ n ∈ names, Bundle.fit n = true)
    (hk : (Cond.classLink own ik cls).before args s = true) (hini : (Cond.initialized cls).before args s = true) (hstr : vk_R own is text sa s) (hat : ∀ w ∈ vx_atS own ic cls names, w.before args s = true)
    (hgood : ∀ w ∈ Cond.classLink own ik cls :: Cond.initialized cls :: vx_atS own ic cls names, vx_ot w = true)
    (hU : vx_Zq Bundle.tN "UNASSIGNED_STACK" Bundle.steD A s s.heap) (hN : vx_Zq Bundle.tN "SUPPRESSED_SENTINEL" Bundle.listD A s s.heap) (hS : va_S A s.heap H locs) (hsize : ls.size = c.maxLocals)
    (d0 : decode cc pc = .ok (.new ik, 3)) (d3 : decode cc (pc + 3) = .ok (.dup, 1)) (d4 : decode cc (pc + 4) = .ok (.ldc is, 2)) (d6 : decode cc (pc + 6) = .ok (.invokespecial ic, 3)) (d9 : decode cc (pc + 9) = .ok (.athrow, 1))
    (hout : ∀ x ∈ c.exceptionTable.toList, covers x (pc + 9) = false)
    (hRframes : names.length + 3 < R.frames) (hRlocals : (rest.map fun v => v.category).sum + (13 * (names.length + 1) + 43) ≤ R.locals) (hRcells : cells + 1 ≤ R.cells) (hRslots : slots + 6 ≤ R.slots) (hlocks : meth.locks = false)
    (hx : ∀ t : State, s.vm.Alike t.vm → H.size ≤ t.heap.size → (∀ q : Nat, q < H.size → t.heap[q]? = H[q]?) → XC cls s t)
    (hf : ∀ z ∈ locs, free z.base) (hc : cells + 1 ≤ mc) (hs : slots + 6 ≤ ms) :
    W p l e R s m args below meth c H locs cells slots (vx_MQ below Qc XC args s mc ms free) (F0 m pc ls rest) := by
  intro T hT X
  have htr : e.platform.stackTraces = false := (show e.platform.stackTraces = l.stackTraces by rw [X.admits.platform]).trans hl
  have Y := vx_rebase X (R' := { frames := R.frames, locals := R.locals, cells := 1, slots := 6 }) (Nat.le_refl _) (Nat.le_refl _) hRcells hRslots
  obtain ⟨s', hA⟩ : ∃ z, z = (T.setVm s.vm).setFrames (.invoking m args :: below) := ⟨_, rfl⟩
  rw [← hA] at Y
  have hvm : s'.vm = s.vm := by rw [hA]; rfl
  have hhp : s'.heap = H := by rw [hA]; exact hT
  have hW0 : s.WarmedH s'.vm := by rw [hvm]; exact State.WarmedH.refl s
  have hat' : ∀ w ∈ vx_atS own ic cls names, w.before args s' = true := fun w hw => vx_ot_at hW0 hvm.symm (hgood w (List.mem_cons_of_mem _ (List.mem_cons_of_mem _ hw))) (hat w hw)
  have hk' : (Cond.classLink own ik cls).before args s' = true := vx_ot_at hW0 hvm.symm (hgood _ List.mem_cons_self) hk
  have hini' : (Cond.initialized cls).before args s' = true := vx_ot_at hW0 hvm.symm (hgood _ (List.mem_cons_of_mem _ List.mem_cons_self)) hini
  have hU' : vx_Zq Bundle.tN "UNASSIGNED_STACK" Bundle.steD A s' s'.heap := by rw [hhp]; exact vx_Zq.moved hW0.alike (hU.kept hS.2.1)
  have hN' : vx_Zq Bundle.tN "SUPPRESSED_SENTINEL" Bundle.listD A s' s'.heap := by rw [hhp]; exact vx_Zq.moved hW0.alike (hN.kept hS.2.1)
  have h : ∀ w ∈ Bundle.ownAtoms own ic cls names, w.before args s' = true := vx_own hat' (vx_isRefq hU'.1) (vx_isRefq hN'.1) hU'.2.word hN'.2.word
  have hown' : s'.vm.findClass own = some m.cls := by rw [hvm]; exact hown
  have hins : (Cond.instantiable cls 6).before args s' = true := h _ (by simp [Bundle.ownAtoms])
  obtain ⟨vm₁, cX, kX, hfX, hkX, -, -, X₁, st1⟩ := Y.newCold hexec (own := own) (C := cls) (index := ik) (n := 6) hown' hk' hins hini'
    (g := F0 m pc ls rest) rfl (by rw [hb]; exact d0) (Nat.le_refl _) (Nat.le_refl _)
  generalize hT1 : (T.setVm vm₁).pushCell { cls := cX, slots := kX.instanceTypes.map defaultValue, vm := .none } = T1 at X₁ st1
  have hcat : (Value.ref T.heap.size).category = 1 := rfl
  have hcellA : T1.heap[T.heap.size]? = some (freshCell cX kX) := by rw [← hT1]; exact State.heap_pushCell_size _ _
  have d3' : decode c.code (pc + 3) = .ok (.dup, 1) := by rw [hb]; exact d3
  have d4' : decode c.code (pc + 4) = .ok (.ldc is, 2) := by rw [hb]; exact d4
  have hstr' : vk_R own is text sa s' := vk_R.warm hW0 hstr
  obtain ⟨U, hsteps, hrun, hend, hW, hsame, ce, hce, hO⟩ := X₁.ctorThrowS hexec htr (own := own) (cls := cls) (names := names) (ic := ic) hown' hcls hnames h (fun x hx => nomatch hx) hfX hkX hcellA (by rw [hhp, hT]; exact Nat.le_refl _) (msg := .ref sa) rfl
    (g := { method := m, pc := pc + 6, locals := ls, stack := .ref sa :: .ref T.heap.size :: .ref T.heap.size :: rest, locked := none }) rfl hsize rfl rfl (rest := rest) rfl
    (by rw [hb]; exact d6) (by rw [hb]; exact d9) hout hRframes (by simp only [List.map_cons, List.sum_cons, hcat]; omega) hlocks
  obtain ⟨f1, f2⟩ := vx_frame hsame
  rw [hhp] at f1 f2
  have hWs : s.WarmedH U.vm := State.WarmedH.trans hW0 hW
  have hcl : s.vm.findClass cls = some ce.cls := by
    have h9 := hO.cls
    rw [hvm] at h9
    exact h9
  have hall : s.sameButNew ({ U with vm := s.vm } : State) locs mc ms := by
    subst hA
    obtain ⟨e1, e2⟩ := hsame
    rw [State.setFrames_setFrames] at e1
    have h2 : (T.setVm s.vm).sameButNew ({ U with vm := s.vm } : State) [] (0 + 1) (0 + 6) := ⟨e1, e2⟩
    have h3 := X.same.trans h2
    rw [List.append_nil] at h3
    exact h3.mono hc hs
  refine ⟨U, ?_, .threw T.heap.size, hrun, hend, Or.inr ⟨T.heap.size, rfl, cls, ce, locs, hx U hWs.alike f1 (fun q hq => f2 q hq (fun z hz => nomatch hz)), hce, hO.vm, hcl, hWs, hall, hf⟩⟩
  refine st1 _ ?_
  show Steps p.tables e below (T1.setTop { method := m, pc := pc + 3, locals := ls, stack := .ref T.heap.size :: rest, locked := none }) _
  jvm_step X₁.here [X₁.here.top, hexec, d3', Value.category]
  exact X₁.ldcString hexec (own := own) (text := text) (index := is) (a := sa) hown' hstr'.1 hstr'.2
    (g := { method := m, pc := pc + 4, locals := ls, stack := .ref T.heap.size :: .ref T.heap.size :: rest, locked := none }) rfl d4' _ hsteps
/-- 'throw new E("text")', the text by a wide index -/
theorem vx_throwSW {cc : ByteArray} {pc : Nat} (hexec : p.tables.exec = Jvm.exec) (hb : c.code = cc) (hl : l.stackTraces = false) {own cls text : String} {names : List String} {ik is ic mc ms sa : Nat} {A : Nat → Prop}
    (hown : s.vm.findClass own = some m.cls) (hcls : Bundle.fit cls = true) (hnames : ∀ n ∈ names, Bundle.fit n = true)
    (hk : (Cond.classLink own ik cls).before args s = true) (hini : (Cond.initialized cls).before args s = true) (hstr : vk_R own is text sa s) (hat : ∀ w ∈ vx_atS own ic cls names, w.before args s = true)
    (hgood : ∀ w ∈ Cond.classLink own ik cls :: Cond.initialized cls :: vx_atS own ic cls names, vx_ot w = true)
    (hU : vx_Zq Bundle.tN "UNASSIGNED_STACK" Bundle.steD A s s.heap) (hN : vx_Zq Bundle.tN "SUPPRESSED_SENTINEL" Bundle.listD A s s.heap) (hS : va_S A s.heap H locs) (hsize : ls.size = c.maxLocals)
    (d0 : decode cc pc = .ok (.new ik, 3)) (d3 : decode cc (pc + 3) = .ok (.dup, 1)) (d4 : decode cc (pc + 4) = .ok (.ldc_w is, 3)) (d7 : decode cc (pc + 7) = .ok (.invokespecial ic, 3)) (d10 : decode cc (pc + 10) = .ok (.athrow, 1))
    (hout : ∀ x ∈ c.exceptionTable.toList, covers x (pc + 10) = false)
    (hRframes : names.length + 3 < R.frames) (hRlocals : (rest.map fun v => v.category).sum + (13 * (names.length + 1) + 43) ≤ R.locals) (hRcells : cells + 1 ≤ R.cells) (hRslots : slots + 6 ≤ R.slots) (hlocks : meth.locks = false)
    (hx : ∀ t : State, s.vm.Alike t.vm → H.size ≤ t.heap.size → (∀ q : Nat, q < H.size → t.heap[q]? = H[q]?) → XC cls s t)
    (hf : ∀ z ∈ locs, free z.base) (hc : cells + 1 ≤ mc) (hs : slots + 6 ≤ ms) :
    W p l e R s m args below meth c H locs cells slots (vx_MQ below Qc XC args s mc ms free) (F0 m pc ls rest) := by
  intro T hT X
  have htr : e.platform.stackTraces = false := (show e.platform.stackTraces = l.stackTraces by rw [X.admits.platform]).trans hl
  have Y := vx_rebase X (R' := { frames := R.frames, locals := R.locals, cells := 1, slots := 6 }) (Nat.le_refl _) (Nat.le_refl _) hRcells hRslots
  obtain ⟨s', hA⟩ : ∃ z, z = (T.setVm s.vm).setFrames (.invoking m args :: below) := ⟨_, rfl⟩
  rw [← hA] at Y
  have hvm : s'.vm = s.vm := by rw [hA]; rfl
  have hhp : s'.heap = H := by rw [hA]; exact hT
  have hW0 : s.WarmedH s'.vm := by rw [hvm]; exact State.WarmedH.refl s
  have hat' : ∀ w ∈ vx_atS own ic cls names, w.before args s' = true := fun w hw => vx_ot_at hW0 hvm.symm (hgood w (List.mem_cons_of_mem _ (List.mem_cons_of_mem _ hw))) (hat w hw)
  have hk' : (Cond.classLink own ik cls).before args s' = true := vx_ot_at hW0 hvm.symm (hgood _ List.mem_cons_self) hk
  have hini' : (Cond.initialized cls).before args s' = true := vx_ot_at hW0 hvm.symm (hgood _ (List.mem_cons_of_mem _ List.mem_cons_self)) hini
  have hU' : vx_Zq Bundle.tN "UNASSIGNED_STACK" Bundle.steD A s' s'.heap := by rw [hhp]; exact vx_Zq.moved hW0.alike (hU.kept hS.2.1)
  have hN' : vx_Zq Bundle.tN "SUPPRESSED_SENTINEL" Bundle.listD A s' s'.heap := by rw [hhp]; exact vx_Zq.moved hW0.alike (hN.kept hS.2.1)
  have h : ∀ w ∈ Bundle.ownAtoms own ic cls names, w.before args s' = true := vx_own hat' (vx_isRefq hU'.1) (vx_isRefq hN'.1) hU'.2.word hN'.2.word
  have hown' : s'.vm.findClass own = some m.cls := by rw [hvm]; exact hown
  have hins : (Cond.instantiable cls 6).before args s' = true := h _ (by simp [Bundle.ownAtoms])
  obtain ⟨vm₁, cX, kX, hfX, hkX, -, -, X₁, st1⟩ := Y.newCold hexec (own := own) (C := cls) (index := ik) (n := 6) hown' hk' hins hini'
    (g := F0 m pc ls rest) rfl (by rw [hb]; exact d0) (Nat.le_refl _) (Nat.le_refl _)
  generalize hT1 : (T.setVm vm₁).pushCell { cls := cX, slots := kX.instanceTypes.map defaultValue, vm := .none } = T1 at X₁ st1
  have hcat : (Value.ref T.heap.size).category = 1 := rfl
  have hcellA : T1.heap[T.heap.size]? = some (freshCell cX kX) := by rw [← hT1]; exact State.heap_pushCell_size _ _
  have d3' : decode c.code (pc + 3) = .ok (.dup, 1) := by rw [hb]; exact d3
  have d4' : decode c.code (pc + 4) = .ok (.ldc_w is, 3) := by rw [hb]; exact d4
  have hstr' : vk_R own is text sa s' := vk_R.warm hW0 hstr
  obtain ⟨U, hsteps, hrun, hend, hW, hsame, ce, hce, hO⟩ := X₁.ctorThrowS hexec htr (own := own) (cls := cls) (names := names) (ic := ic) hown' hcls hnames h (fun x hx => nomatch hx) hfX hkX hcellA (by rw [hhp, hT]; exact Nat.le_refl _) (msg := .ref sa) rfl
    (g := { method := m, pc := pc + 7, locals := ls, stack := .ref sa :: .ref T.heap.size :: .ref T.heap.size :: rest, locked := none }) rfl hsize rfl rfl (rest := rest) rfl
    (by rw [hb]; exact d7) (by rw [hb]; exact d10) hout hRframes (by simp only [List.map_cons, List.sum_cons, hcat]; omega) hlocks
  obtain ⟨f1, f2⟩ := vx_frame hsame
  rw [hhp] at f1 f2
  have hWs : s.WarmedH U.vm := State.WarmedH.trans hW0 hW
  have hcl : s.vm.findClass cls = some ce.cls := by
    have h9 := hO.cls
    rw [hvm] at h9
    exact h9
  have hall : s.sameButNew ({ U with vm := s.vm } : State) locs mc ms := by
    subst hA
    obtain ⟨e1, e2⟩ := hsame
    rw [State.setFrames_setFrames] at e1
    have h2 : (T.setVm s.vm).sameButNew ({ U with vm := s.vm } : State) [] (0 + 1) (0 + 6) := ⟨e1, e2⟩
    have h3 := X.same.trans h2
    rw [List.append_nil] at h3
    exact h3.mono hc hs
  refine ⟨U, ?_, .threw T.heap.size, hrun, hend, Or.inr ⟨T.heap.size, rfl, cls, ce, locs, hx U hWs.alike f1 (fun q hq => f2 q hq (fun z hz => nomatch hz)), hce, hO.vm, hcl, hWs, hall, hf⟩⟩
  refine st1 _ ?_
  show Steps p.tables e below (T1.setTop { method := m, pc := pc + 3, locals := ls, stack := .ref T.heap.size :: rest, locked := none }) _
  jvm_step X₁.here [X₁.here.top, hexec, d3', Value.category]
  exact X₁.ldcStringW hexec (own := own) (text := text) (index := is) (a := sa) hown' hstr'.1 hstr'.2
    (g := { method := m, pc := pc + 4, locals := ls, stack := .ref T.heap.size :: .ref T.heap.size :: rest, locked := none }) rfl d4' _ hsteps
end Ends
section Bodies
variable {l : Launch}
theorem vx_ofW {y : MethodName} {ws ws' : List Cond} {rm : Room} {Pc : Array Value → State → Prop} {Qc : Array Value → State → Outcome → State → Prop} {XC : String → State → State → Prop} {mc ms : Nat} {free : Addr → Prop} {cc : ByteArray} {maxL : Nat} {ret : Option FieldType}
    (hy : plainName y.cls = true) (hw : ws = Cond.code y cc maxL ret :: ws')
    (body : ∀ p e s m args below meth c s₁, BodyLoose p l y (headSpec ws rm) cc maxL ret e s m args below meth c s₁ → c.maxLocals = maxL → (∀ x ∈ c.exceptionTable.toList, False) → Pc args s →
      W p l e (headSpec ws rm).room s m args below meth c s.heap [] 0 0 (vx_MQ below Qc XC args s mc ms free) (entryFrame m args maxL)) : vx_Met l y ws rm Pc Qc XC mc ms free := by
  refine MetFree.of_bodyS (code := cc) (maxLocals := maxL) (ret := ret) hy ?_ ?_
  · intro args s m h hn
    obtain ⟨meth, c, h1, h2, h3, h4, h5, h6, -, -⟩ := Cond.code_spec hn (atoms_spec (ws := ws) h _ (by rw [hw]; exact List.mem_cons_self))
    exact ⟨meth, c, h1, h2, h3, h4, h5, h6⟩
  · intro p e s m args below meth c s₁ B hml hP _
    have hh0 : s₁.heap = s.heap := by rw [B.state]; rfl
    have ht : ∀ x ∈ c.exceptionTable.toList, False := by
      obtain ⟨meth9, c9, h1, h2, -, -, -, -, h7, -⟩ := Cond.code_spec B.named (atoms_spec (ws := ws) B.pre _ (by rw [hw]; exact List.mem_cons_self))
      cases Option.some.inj (h1.symm.trans B.method)
      cases Option.some.inj (h2.symm.trans (Stand.of_body B).code)
      intro x hx
      rw [Array.isEmpty_iff.mp h7] at hx
      cases hx
    obtain ⟨t, a1, o, b1, b2, b3⟩ := body p e s m args below meth c s₁ B hml ht hP s₁ hh0 (Stand.of_body B)
    exact ⟨t, o, a1, b1, b2, b3⟩
/-- the table of a body with handlers -/
theorem vx_table {p : Program} {x y : MethodName} {S : Spec} {cc bytes : ByteArray} {maxL maxL' : Nat} {ret ret' : Option FieldType} {e : Env} {s s₁ : State} {m : MethodId} {args : Array Value} {below : List Frame} {meth : Method} {c : Code} {hh : List (Nat × Nat × Nat × Nat)}
    (B : BodyLoose p l y S cc maxL ret e s m args below meth c s₁) (h : (Cond.codeWith y bytes maxL' ret' hh).before args s = true) : c.exceptionTable.toList = tableOf hh := by
  obtain ⟨m9, meth9, c9, hn9, h1, h2, -, -, h6, -⟩ := Cond.codeWith_spec h
  cases Option.some.inj (hn9.symm.trans B.named)
  cases Option.some.inj (h1.symm.trans B.method)
  cases Option.some.inj (h2.symm.trans (Stand.of_body B).code)
  rw [← h6, table_eq]
end Bodies
end VXA
/-! ===== END ===== -/
/-! ===== BEGIN a static call of a method with an exception table ===== -/
section VXS
variable {p : Program} {l : Launch} {e : Env} {R : Room} {s : State} {m : MethodId} {args : Array Value} {below : List Frame} {meth : Method} {c : Code} {T : State} {H : Heap} {locs : List Loc} {cells slots : Nat}
abbrev vx_CSW (R : Room) (s : State) (args : Array Value) (own : String) (index : Nat) (y : MethodName) (bytes : ByteArray) (maxL : Nat) (ret : Option FieldType) (hh : List (Nat × Nat × Nat × Nat)) (ws : List Cond) (rm : Room) (mc ms n : Nat) : Prop :=
  (rm.cells = mc ∧ rm.slots = ms ∧ rm.frames + 1 ≤ R.frames ∧ 8 + (maxL + 11) + rm.locals ≤ R.locals ∧ (∀ w ∈ ws, ∀ (a' : Array Value) (U : State), s.WarmedH U.vm → w.before a' U = true) ∧ Cond.codeWith y bytes maxL ret hh ∈ ws) ∧
  (Cond.codeWith y bytes maxL ret hh).before args s = true ∧ (Cond.initialized y.cls).before args s = true ∧ (y.cls ≠ "java/lang/invoke/MethodHandle" ∧ y.cls ≠ "java/lang/invoke/VarHandle") ∧
  (∀ sig, parseMethodDescriptor y.desc = some sig → n = sig.parameters.length) ∧ (Cond.methodLink own index y).before args s = true ∧ (Cond.static y).before args s = true
theorem vx_cwSW {own : String} {index maxL mc ms : Nat} {y : MethodName} {bytes : ByteArray} {ret : Option FieldType} {hh : List (Nat × Nat × Nat × Nat)} {Ts ws ws' : List Cond} {rm : Room} (n : Nat) (ht : ∀ w ∈ Ts, w.before args s = true) (hT : GoodIn Ts (va_wsS own index y ws)) (hw : ws = Cond.codeWith y bytes maxL ret hh :: ws') (hrc : rm.cells = mc) (hrs : rm.slots = ms)
    (hd : y.cls ≠ "java/lang/invoke/MethodHandle" ∧ y.cls ≠ "java/lang/invoke/VarHandle" ∧ (parseMethodDescriptor y.desc).map (fun d => d.parameters.length) = some n) (hR : rm.frames + 1 ≤ R.frames ∧ 8 + (maxL + 11) + rm.locals ≤ R.locals) :
    vx_CSW R s args own index y bytes maxL ret hh ws rm mc ms n := by
  have ok : ∀ w ∈ va_wsS own index y ws, w.before args s = true := fun w h => ht w (hT w h).1
  have hG : GoodIn Ts ws := fun w h => hT w (by unfold va_wsS; exact List.mem_append_right _ h)
  have hc : Cond.codeWith y bytes maxL ret hh ∈ ws := by rw [hw]; exact List.mem_cons_self
  refine ⟨⟨hrc, hrs, hR.1, hR.2, pay_in ht hG, hc⟩, ht _ (hG _ hc).1, ok _ (by simp [va_wsS]), ⟨hd.1, hd.2.1⟩, fun sig h => ?_, ok _ (by simp [va_wsS]), ok _ (by simp [va_wsS])⟩
  have h2 := hd.2.2
  rw [h] at h2
  exact (Option.some.inj h2).symm
theorem vx_callSW (X : Stand p l e R s m args below meth c T locs cells slots) (hexec : p.tables.exec = Jvm.exec) {own : String} {index : Nat} {y : MethodName} {bytes : ByteArray} {maxL : Nat} {ret : Option FieldType} {hh : List (Nat × Nat × Nat × Nat)}
    (hown : s.vm.findClass own = some m.cls) (hlink : (Cond.methodLink own index y).before args s = true) (hstat : (Cond.static y).before args s = true) (hinit : (Cond.initialized y.cls).before args s = true)
    (hcode : (Cond.codeWith y bytes maxL ret hh).before args s = true) (hy : y.cls ≠ "java/lang/invoke/MethodHandle" ∧ y.cls ≠ "java/lang/invoke/VarHandle")
    {W9 : Nat} {Pre : Pt → Array Value → Prop} {Post : Pt → Array Value → Option Value → Pt → Prop} (hK : Back l R p e below s args y 3 W9 Pre Post)
    {g : JFrame} (hg : g.method = m) (hsize : g.locals.size = c.maxLocals) {argsL rest : List Value} (hlen : ∀ sig, parseMethodDescriptor y.desc = some sig → argsL.length = sig.parameters.length)
    (hstack : g.stack = argsL.reverse ++ rest) (hW : 2 * g.monitorRoom + (rest.map fun v => v.category).sum ≤ W9) (hdg : decode c.code g.pc = .ok (.invokestatic index, 3))
    (hpre : ∀ vm₁, s.WarmedH vm₁ → Pre ⟨T.setVm vm₁, locs, cells, slots⟩ argsL.toArray) :
    ∃ (v : Option Value) (vm₁ : Vm) (B : Pt), s.WarmedH vm₁ ∧ Stand p l e R s m args below meth c B.U B.locs B.cells B.slots ∧ Post ⟨T.setVm vm₁, locs, cells, slots⟩ argsL.toArray v B ∧
      ∀ target, Steps p.tables e below (B.U.setTop { g with pc := g.pc + 3, stack := v.toList ++ rest }) target → Steps p.tables e below (T.setTop g) target := by
  obtain ⟨mk, methM, cM, hnamed, hmethM, -, -, -, -, -, -, hsigM⟩ := Cond.codeWith_spec hcode
  have hstatic : methM.isStatic = true := Cond.static_spec hnamed hmethM hstat
  obtain ⟨kP, hkP, -⟩ := className_of_methodNamed hnamed
  have hinitP : kP.init = .initialized := Cond.initialized_spec (findClass_of_methodNamed hnamed) hkP hinit
  obtain ⟨vm₁, X₁, hstep₁⟩ := X.invokestatic hexec hown hlink hnamed hmethM hstatic hkP hinitP hy (g := g) hg (argsL := argsL) (rest := rest) (hlen _ hsigM) hstack hdg
  obtain ⟨v, B, X', hpost, hsteps⟩ := hK m meth c ⟨T.setVm vm₁, locs, cells, slots⟩ { g with stack := rest } (.invokestatic index) mk argsL.toArray X₁ hg hsize hdg hW (X₁.named hnamed) (hpre vm₁ X₁.warmed)
  exact ⟨v, vm₁, B, X₁.warmed, X', hpost, fun target h => hstep₁ _ fun acts => by rw [doInvoke_state]; exact hsteps.trans h⟩
theorem vx_runSW {y : MethodName} {bytes cc : ByteArray} {maxL nL mc ms n index : Nat} {ret : Option FieldType} {hh : List (Nat × Nat × Nat × Nat)} {ws : List Cond} {rm : Room} {Pc : Array Value → State → Prop} {Qc : Array Value → State → Outcome → State → Prop} {free : Addr → Prop} {Ts : List Cond} {own : String} {As rest : List Value} {g : JFrame}
    (S : CallFix p m c cc nL s args Ts own) (hM : Met l y ws rm Pc Qc mc ms free) (cw : vx_CSW R s args own index y bytes maxL ret hh ws rm mc ms n) (hp : PreS s H Pc As)
    (hg : g.method = m) (hn : As.length = n) (hsize : g.locals.size = nL) (hstack : g.stack = As.reverse ++ rest) (hW : 2 * g.monitorRoom + (rest.map fun v => v.category).sum ≤ 8) (hdg : decode cc g.pc = .ok (.invokestatic index, 3)) (hf : cells + mc ≤ R.cells ∧ slots + ms ≤ R.slots) :
    va_Run p l e R s m args below meth c H locs cells slots mc ms g rest (Qc As.toArray) (free) := by
  obtain ⟨⟨hrc, hrs, hfr, hlo, hws, hcw⟩, hcode, hini, hy, hlen, hl, hstt⟩ := cw
  have hK : Back l R p e below s args y 3 8 (PreOf R mc ms Pc) (PostOf Qc mc ms free) := va_backW (hh := hh) (bytes := bytes) (maxL := maxL) (ret := ret) hM hp.1 hrc hrs hfr hlo hws hcw (fun a' U hW => word_at hW (Or.inl (by first | rfl | simp [Cond.onTables, Cond.keeps, Cond.steady])) hini)
  obtain ⟨hx, hb, hml, ho, -⟩ := S
  intro T hT X
  obtain ⟨v, vm₁, ⟨U', l2, c2, s2⟩, hW₁, X', ⟨g', mk, t, L, e1, e2, hq, h1, hL, h2, h3⟩, st⟩ := vx_callSW X hx (hh := hh) (bytes := bytes) (maxL := maxL) (ret := ret) ho hl hstt hini hcode hy hK hg (hsize.trans hml.symm) (argsL := As) (rest := rest) (fun sig h => hn.trans (hlen sig h)) hstack hW (by rw [hb]; exact hdg)
    (fun vm₁ hW₁ => ⟨hf.1, hf.2, hp.2 (T.setVm vm₁) hT hW₁⟩)
  dsimp only [Pt.U, Pt.locs, Pt.cells, Pt.slots] at X' e1 e2 h1 h2 h3 st
  subst h1; subst h2; subst h3
  exact ⟨v, (T.setVm vm₁).calling g' mk As.toArray, t, U', L, hT, X', hL, e1, e2, hq, st⟩
/-- not caught here, past rows that name other classes: it goes on to the caller -/
theorem vx_outP {p : Program} {l : Launch} {e : Env} {R : Room} {s : State} {m : MethodId} {args : Array Value} {below : List Frame} {meth : Method} {c : Code} {H : Heap} {locs : List Loc} {cells slots : Nat} {free : Addr → Prop} {ls : Array Slot} {rest : List Value} {Qc : Array Value → State → Outcome → State → Prop} {XC : String → State → State → Prop}
    {pc : Nat} {own E : String} {ce : Cell} {q : Addr} {mc ms : Nat} (hown : s.vm.findClass own = some m.cls) (hlocks : meth.locks = false)
    (hpass : ∀ z ∈ c.exceptionTable.toList, covers z pc = false ∨ (z.catchType ≠ 0 ∧ ∃ nm : String, (Cond.classLink own z.catchType nm).before args s = true ∧ va_Nc E nm s)) (hcell : H[q]? = some ce) (hv : ce.vm = .none) (hcl : s.vm.findClass E = some ce.cls)
    (hx : ∀ t : State, t.heap = H → s.vm.Alike t.vm → XC E s t) (hf : ∀ z ∈ locs, free z.base) (hc : cells ≤ mc) (hs : slots ≤ ms) :
    vx_W p l e R s m args below meth c H locs cells slots (vx_MQ below Qc XC args s mc ms free) (F0 m pc ls rest) q := by
  intro T hT X
  have hpl : e.platform.magicAccessors = ({} : Platform).magicAccessors := by rw [X.admits.platform]
  obtain ⟨vm', hW', X', st⟩ := X.outThrough hlocks q (g := F0 m pc ls rest) rfl rfl rfl (cell := ce) (by rw [hT]; exact hcell) (by rw [hv]; rfl)
    (by obtain ⟨k9, h9, -⟩ := Vm.findClass_spec hcl; exact ⟨k9, h9⟩) (fun z hz => by
      rcases hpass z hz with h | ⟨hz0, nm, hl1, hn1⟩
      · exact Or.inl h
      · obtain ⟨c6, hc6, hcl6⟩ := Cond.classLink_spec hown hl1 e.platform hpl
        obtain ⟨a8, b8, h1, h2, h3⟩ := hn1
        cases Option.some.inj (h1.symm.trans hcl)
        cases Option.some.inj (h2.symm.trans hc6)
        exact Or.inr ⟨hz0, _, hcl6, h3⟩)
  obtain ⟨g₀, hfr⟩ := X'.frames_eq
  have hcell9 : ((T.setVm vm').setFrames (.throwing q :: below)).heap[q]? = some ce := by
    show T.heap[q]? = some ce
    rw [hT]; exact hcell
  have hend : Ended ((T.setVm vm').setFrames (.throwing q :: below)) below (.threw q) := State.frames_setFrames _ (State.cur_lt_of_frames hfr)
  refine ⟨(T.setVm vm').setFrames (.throwing q :: below), ?_, .threw q, X'.here.running, hend, Or.inr ⟨q, rfl, E, ce, locs, hx _ hT (X'.ends _).1.alike, hcell9, hv, hcl, (X'.ends _).1, (X'.ends _).2.mono hc hs, hf⟩⟩
  rw [X.pushThrowing_eq]
  exact st
/-- a thing of a world lies in the heap -/
theorem vx_lt {D : va_G} {cl : List vw_C} {ws : va_W} {H1 : Heap} (h : va_P D cl ws H1) {k : Nat} {q : Nat × va_E} (hk : ws[k]? = some q) : q.1 < H1.size := (h k q hk).lt
end VXS
/-! ===== END ===== -/
end
section
def RX0 : String := "AlarmBench"
def TX0 : u_T := fun k => match k with
  | 0 => ("AlarmBench", "isSet", "[Z", true)
  | 1 => ("AlarmBench", "dueAt", "[I", true)
  | 2 => ("AlarmBench", "telling", "[I", true)
  | 3 => ("AlarmBench", "rank", "[I", true)
  | 4 => ("AlarmBench", "now", "I", false)
  | 5 => ("AlarmBench", "lastRank", "I", false)
  | 6 => ("AlarmBench", "rungTold", "I", false)
  | _ => ("AlarmBench", "rungDue", "I", false)
def tyX0 : Nat → FieldType := fun k => match k with
  | 0 => .array .boolean
  | 1 => .array .int
  | 2 => .array .int
  | 3 => .array .int
  | 4 => .int
  | 5 => .int
  | 6 => .int
  | _ => .int
abbrev wsX00 : List Cond := u_ws RX0 TX0 8
theorem nmX0 : ∀ a, a < 8 → ∀ b, b < 8 → a ≠ b → (TX0 a).2.1 ≠ (TX0 b).2.1 := by decide +kernel
theorem tyX0_ok : ∀ k, k < 8 → parseFieldDescriptor (TX0 k).2.2.1 = some (tyX0 k) := by decide +kernel
abbrev cX0_init : ByteArray := prog_1_method_1_code
def yX0_init : MethodName := ⟨RX0, "<init>", "()V"⟩
abbrev cX0_set : ByteArray := prog_1_method_2_code
def yX0_set : MethodName := ⟨RX0, "set", "(II)I"⟩
abbrev cX0_shift : ByteArray := prog_1_method_3_code
def yX0_shift : MethodName := ⟨RX0, "shift", "(II)I"⟩
abbrev cX0_stop : ByteArray := prog_1_method_4_code
def yX0_stop : MethodName := ⟨RX0, "stop", "(I)I"⟩
abbrev cX0_stopAll : ByteArray := prog_1_method_5_code
def yX0_stopAll : MethodName := ⟨RX0, "stopAll", "(I)I"⟩
abbrev cX0_pass : ByteArray := prog_1_method_6_code
def yX0_pass : MethodName := ⟨RX0, "pass", "(I)I"⟩
abbrev cX0_ring : ByteArray := prog_1_method_7_code
def yX0_ring : MethodName := ⟨RX0, "ring", "()I"⟩
abbrev cX0_told : ByteArray := prog_1_method_8_code
def yX0_told : MethodName := ⟨RX0, "told", "()I"⟩
abbrev cX0_wasDue : ByteArray := prog_1_method_9_code
def yX0_wasDue : MethodName := ⟨RX0, "wasDue", "()I"⟩
abbrev cX0_next : ByteArray := prog_1_method_10_code
def yX0_next : MethodName := ⟨RX0, "next", "()I"⟩
abbrev cX0_about : ByteArray := prog_1_method_11_code
def yX0_about : MethodName := ⟨RX0, "about", "(II)I"⟩
abbrev cX0_count : ByteArray := prog_1_method_12_code
def yX0_count : MethodName := ⟨RX0, "count", "(Z)I"⟩
abbrev cX0_time : ByteArray := prog_1_method_13_code
def yX0_time : MethodName := ⟨RX0, "time", "()I"⟩
abbrev cX0_exists : ByteArray := prog_1_method_14_code
def yX0_exists : MethodName := ⟨RX0, "exists", "(I)Z"⟩
abbrev cX0_isReady : ByteArray := prog_1_method_15_code
def yX0_isReady : MethodName := ⟨RX0, "isReady", "(I)Z"⟩
abbrev cX0_canBeAhead : ByteArray := prog_1_method_16_code
def yX0_canBeAhead : MethodName := ⟨RX0, "canBeAhead", "(I)Z"⟩
abbrev cX0_isBehindLastTime : ByteArray := prog_1_method_17_code
def yX0_isBehindLastTime : MethodName := ⟨RX0, "isBehindLastTime", "(I)Z"⟩
abbrev cX0_putAhead : ByteArray := prog_1_method_18_code
def yX0_putAhead : MethodName := ⟨RX0, "putAhead", "(II)V"⟩
abbrev cX0_leastFree : ByteArray := prog_1_method_19_code
def yX0_leastFree : MethodName := ⟨RX0, "leastFree", "()I"⟩
abbrev cX0_first : ByteArray := prog_1_method_20_code
def yX0_first : MethodName := ⟨RX0, "first", "()I"⟩
abbrev cX0_isBefore : ByteArray := prog_1_method_21_code
def yX0_isBefore : MethodName := ⟨RX0, "isBefore", "(II)Z"⟩
def RL : String := "AlarmBenchLaw"
abbrev cL_set : ByteArray := method_3_code
def yL_set : MethodName := ⟨RL, "set", "(LAlarmBench;II[J)I"⟩
abbrev cL_shift : ByteArray := method_4_code
def yL_shift : MethodName := ⟨RL, "shift", "(LAlarmBench;II[J)I"⟩
abbrev cL_stop : ByteArray := method_5_code
def yL_stop : MethodName := ⟨RL, "stop", "(LAlarmBench;I[J)I"⟩
abbrev cL_pass : ByteArray := method_6_code
def yL_pass : MethodName := ⟨RL, "pass", "(LAlarmBench;I[J)I"⟩
abbrev cL_about : ByteArray := method_7_code
def yL_about : MethodName := ⟨RL, "about", "(LAlarmBench;II[J)I"⟩
abbrev cL_law : ByteArray := code
def yL_law : MethodName := ⟨RL, "law", "([I)Z"⟩
def wsX0_init : List Cond := .code yX0_init cX0_init 1 none :: ([.methodLink RX0 1 objectInit, .instanceMethod objectInit, .code objectInit ⟨#[0xb1]⟩ 1 none, .arrayClass .boolean, .fieldLink RX0 9 "AlarmBench" "isSet" "[Z", .arrayClass .int, .fieldLink RX0 13 "AlarmBench" "dueAt" "[I", .fieldLink RX0 17 "AlarmBench" "telling" "[I", .fieldLink RX0 20 "AlarmBench" "rank" "[I", .fieldLink RX0 23 "AlarmBench" "now" "I", .fieldLink RX0 27 "AlarmBench" "lastRank" "I", .fieldLink RX0 30 "AlarmBench" "rungTold" "I", .fieldLink RX0 33 "AlarmBench" "rungDue" "I"] ++ wsX00)
def wsX0_canBeAhead : List Cond := .code yX0_canBeAhead cX0_canBeAhead 1 (some .boolean) :: ([.constant RX0 83 (1000000000)])
def wsX0_leastFree : List Cond := .code yX0_leastFree cX0_leastFree 2 (some .int) :: ([.fieldLink RX0 9 "AlarmBench" "isSet" "[Z"] ++ wsX00)
def wsX0_isBehindLastTime : List Cond := .code yX0_isBehindLastTime cX0_isBehindLastTime 2 (some .boolean) :: ([.constant RX0 83 (1000000000), .fieldLink RX0 23 "AlarmBench" "now" "I"] ++ wsX00)
def wsX0_putAhead : List Cond := .code yX0_putAhead cX0_putAhead 3 none :: ([.fieldLink RX0 13 "AlarmBench" "dueAt" "[I", .fieldLink RX0 23 "AlarmBench" "now" "I", .fieldLink RX0 27 "AlarmBench" "lastRank" "I", .fieldLink RX0 20 "AlarmBench" "rank" "[I"] ++ wsX00)
def wsX0_set_r1 : List Cond := [Cond.classLink RX0 40 "java/lang/IllegalArgumentException", Cond.initialized "java/lang/IllegalArgumentException", Cond.classLink RX0 51 "java/lang/IllegalStateException", Cond.initialized "java/lang/IllegalStateException", Cond.fieldLink RX0 9 "AlarmBench" "isSet" "[Z", Cond.fieldLink RX0 17 "AlarmBench" "telling" "[I", Cond.methodLink RX0 36 yX0_canBeAhead, Cond.static yX0_canBeAhead, Cond.initialized RX0, Cond.code yX0_canBeAhead cX0_canBeAhead 1 (some .boolean), Cond.constant RX0 83 (1000000000), Cond.methodLink RX0 47 yX0_leastFree, Cond.instanceMethod yX0_leastFree, Cond.selects RX0 yX0_leastFree yX0_leastFree, Cond.code yX0_leastFree cX0_leastFree 2 (some .int), Cond.methodLink RX0 56 yX0_isBehindLastTime, Cond.instanceMethod yX0_isBehindLastTime, Cond.selects RX0 yX0_isBehindLastTime yX0_isBehindLastTime, Cond.code yX0_isBehindLastTime cX0_isBehindLastTime 2 (some .boolean), Cond.fieldLink RX0 23 "AlarmBench" "now" "I", Cond.methodLink RX0 61 yX0_putAhead, Cond.instanceMethod yX0_putAhead, Cond.selects RX0 yX0_putAhead yX0_putAhead, Cond.code yX0_putAhead cX0_putAhead 3 none]
def wsX0_set_r2 : List Cond := [Cond.fieldLink RX0 13 "AlarmBench" "dueAt" "[I", Cond.fieldLink RX0 27 "AlarmBench" "lastRank" "I", Cond.fieldLink RX0 20 "AlarmBench" "rank" "[I"]
def wsX0_set : List Cond := .code yX0_set cX0_set 4 (some .int) :: ((wsX0_set_r1 ++ wsX0_set_r2) ++ wsX00 ++ (vx_atS RX0 44 "java/lang/IllegalArgumentException" ["java/lang/RuntimeException", "java/lang/Exception"]).filter goodWord ++ (vx_atS RX0 55 "java/lang/IllegalStateException" ["java/lang/RuntimeException", "java/lang/Exception"]).filter goodWord)
def wsX0_exists : List Cond := .code yX0_exists cX0_exists 2 (some .boolean) :: ([.fieldLink RX0 9 "AlarmBench" "isSet" "[Z"] ++ wsX00)
def wsX0_shift_r1 : List Cond := [Cond.classLink RX0 40 "java/lang/IllegalArgumentException", Cond.initialized "java/lang/IllegalArgumentException", Cond.classLink RX0 51 "java/lang/IllegalStateException", Cond.initialized "java/lang/IllegalStateException", Cond.fieldLink RX0 13 "AlarmBench" "dueAt" "[I", Cond.fieldLink RX0 23 "AlarmBench" "now" "I", Cond.methodLink RX0 65 yX0_exists, Cond.instanceMethod yX0_exists, Cond.selects RX0 yX0_exists yX0_exists, Cond.initialized RX0, Cond.code yX0_exists cX0_exists 2 (some .boolean), Cond.fieldLink RX0 9 "AlarmBench" "isSet" "[Z", Cond.methodLink RX0 36 yX0_canBeAhead, Cond.static yX0_canBeAhead, Cond.code yX0_canBeAhead cX0_canBeAhead 1 (some .boolean), Cond.constant RX0 83 (1000000000), Cond.methodLink RX0 56 yX0_isBehindLastTime, Cond.instanceMethod yX0_isBehindLastTime, Cond.selects RX0 yX0_isBehindLastTime yX0_isBehindLastTime, Cond.code yX0_isBehindLastTime cX0_isBehindLastTime 2 (some .boolean), Cond.methodLink RX0 61 yX0_putAhead, Cond.instanceMethod yX0_putAhead, Cond.selects RX0 yX0_putAhead yX0_putAhead, Cond.code yX0_putAhead cX0_putAhead 3 none]
def wsX0_shift_r2 : List Cond := [Cond.fieldLink RX0 27 "AlarmBench" "lastRank" "I", Cond.fieldLink RX0 20 "AlarmBench" "rank" "[I"]
def wsX0_shift : List Cond := .code yX0_shift cX0_shift 4 (some .int) :: ((wsX0_shift_r1 ++ wsX0_shift_r2) ++ wsX00 ++ (vx_atS RX0 44 "java/lang/IllegalArgumentException" ["java/lang/RuntimeException", "java/lang/Exception"]).filter goodWord ++ (vx_atS RX0 55 "java/lang/IllegalStateException" ["java/lang/RuntimeException", "java/lang/Exception"]).filter goodWord)
def wsX0_stop : List Cond := .code yX0_stop cX0_stop 2 (some .int) :: ([.classLink RX0 40 "java/lang/IllegalArgumentException", .initialized "java/lang/IllegalArgumentException", .fieldLink RX0 9 "AlarmBench" "isSet" "[Z", .fieldLink RX0 17 "AlarmBench" "telling" "[I", .methodLink RX0 65 yX0_exists, .instanceMethod yX0_exists, .selects RX0 yX0_exists yX0_exists, .initialized RX0, .code yX0_exists cX0_exists 2 (some .boolean)] ++ wsX00 ++ (vx_atS RX0 44 "java/lang/IllegalArgumentException" ["java/lang/RuntimeException", "java/lang/Exception"]).filter goodWord)
def wsX0_stopAll : List Cond := .code yX0_stopAll cX0_stopAll 4 (some .int) :: ([.fieldLink RX0 9 "AlarmBench" "isSet" "[Z", .fieldLink RX0 17 "AlarmBench" "telling" "[I"] ++ wsX00)
def wsX0_pass : List Cond := .code yX0_pass cX0_pass 2 (some .int) :: ([.classLink RX0 40 "java/lang/IllegalArgumentException", .initialized "java/lang/IllegalArgumentException", .classLink RX0 51 "java/lang/IllegalStateException", .initialized "java/lang/IllegalStateException", .constant RX0 70 (200000), .fieldLink RX0 23 "AlarmBench" "now" "I", .methodLink RX0 56 yX0_isBehindLastTime, .instanceMethod yX0_isBehindLastTime, .selects RX0 yX0_isBehindLastTime yX0_isBehindLastTime, .initialized RX0, .code yX0_isBehindLastTime cX0_isBehindLastTime 2 (some .boolean), .constant RX0 83 (1000000000)] ++ wsX00 ++ (vx_atS RX0 44 "java/lang/IllegalArgumentException" ["java/lang/RuntimeException", "java/lang/Exception"]).filter goodWord ++ (vx_atS RX0 55 "java/lang/IllegalStateException" ["java/lang/RuntimeException", "java/lang/Exception"]).filter goodWord)
def wsX0_isBefore : List Cond := .code yX0_isBefore cX0_isBefore 3 (some .boolean) :: ([.fieldLink RX0 13 "AlarmBench" "dueAt" "[I", .fieldLink RX0 20 "AlarmBench" "rank" "[I"] ++ wsX00)
def wsX0_first : List Cond := .code yX0_first cX0_first 3 (some .int) :: ([.fieldLink RX0 9 "AlarmBench" "isSet" "[Z", .methodLink RX0 84 yX0_isBefore, .instanceMethod yX0_isBefore, .selects RX0 yX0_isBefore yX0_isBefore, .initialized RX0, .code yX0_isBefore cX0_isBefore 3 (some .boolean), .fieldLink RX0 13 "AlarmBench" "dueAt" "[I", .fieldLink RX0 20 "AlarmBench" "rank" "[I"] ++ wsX00)
def wsX0_isReady : List Cond := .code yX0_isReady cX0_isReady 2 (some .boolean) :: ([.fieldLink RX0 13 "AlarmBench" "dueAt" "[I", .fieldLink RX0 23 "AlarmBench" "now" "I"] ++ wsX00)
def wsX0_ring : List Cond := .code yX0_ring cX0_ring 2 (some .int) :: ([.fieldLink RX0 9 "AlarmBench" "isSet" "[Z", .fieldLink RX0 17 "AlarmBench" "telling" "[I", .fieldLink RX0 30 "AlarmBench" "rungTold" "I", .fieldLink RX0 13 "AlarmBench" "dueAt" "[I", .fieldLink RX0 33 "AlarmBench" "rungDue" "I", .methodLink RX0 75 yX0_first, .instanceMethod yX0_first, .selects RX0 yX0_first yX0_first, .initialized RX0, .code yX0_first cX0_first 3 (some .int), .methodLink RX0 84 yX0_isBefore, .instanceMethod yX0_isBefore, .selects RX0 yX0_isBefore yX0_isBefore, .code yX0_isBefore cX0_isBefore 3 (some .boolean), .fieldLink RX0 20 "AlarmBench" "rank" "[I", .methodLink RX0 78 yX0_isReady, .instanceMethod yX0_isReady, .selects RX0 yX0_isReady yX0_isReady, .code yX0_isReady cX0_isReady 2 (some .boolean), .fieldLink RX0 23 "AlarmBench" "now" "I"] ++ wsX00)
def wsX0_told : List Cond := .code yX0_told cX0_told 1 (some .int) :: ([.fieldLink RX0 30 "AlarmBench" "rungTold" "I"] ++ wsX00)
def wsX0_wasDue : List Cond := .code yX0_wasDue cX0_wasDue 1 (some .int) :: ([.fieldLink RX0 33 "AlarmBench" "rungDue" "I"] ++ wsX00)
def wsX0_next : List Cond := .code yX0_next cX0_next 2 (some .int) :: ([.fieldLink RX0 13 "AlarmBench" "dueAt" "[I", .methodLink RX0 75 yX0_first, .instanceMethod yX0_first, .selects RX0 yX0_first yX0_first, .initialized RX0, .code yX0_first cX0_first 3 (some .int), .fieldLink RX0 9 "AlarmBench" "isSet" "[Z", .methodLink RX0 84 yX0_isBefore, .instanceMethod yX0_isBefore, .selects RX0 yX0_isBefore yX0_isBefore, .code yX0_isBefore cX0_isBefore 3 (some .boolean), .fieldLink RX0 20 "AlarmBench" "rank" "[I"] ++ wsX00)
def wsX0_about : List Cond := .code yX0_about cX0_about 3 (some .int) :: ([.classLink RX0 40 "java/lang/IllegalArgumentException", .initialized "java/lang/IllegalArgumentException", .fieldLink RX0 13 "AlarmBench" "dueAt" "[I", .fieldLink RX0 17 "AlarmBench" "telling" "[I", .methodLink RX0 65 yX0_exists, .instanceMethod yX0_exists, .selects RX0 yX0_exists yX0_exists, .initialized RX0, .code yX0_exists cX0_exists 2 (some .boolean), .fieldLink RX0 9 "AlarmBench" "isSet" "[Z"] ++ wsX00 ++ (vx_atS RX0 44 "java/lang/IllegalArgumentException" ["java/lang/RuntimeException", "java/lang/Exception"]).filter goodWord)
def wsX0_count : List Cond := .code yX0_count cX0_count 4 (some .int) :: ([.fieldLink RX0 9 "AlarmBench" "isSet" "[Z", .methodLink RX0 78 yX0_isReady, .instanceMethod yX0_isReady, .selects RX0 yX0_isReady yX0_isReady, .initialized RX0, .code yX0_isReady cX0_isReady 2 (some .boolean), .fieldLink RX0 13 "AlarmBench" "dueAt" "[I", .fieldLink RX0 23 "AlarmBench" "now" "I"] ++ wsX00)
def wsX0_time : List Cond := .code yX0_time cX0_time 1 (some .int) :: ([.fieldLink RX0 23 "AlarmBench" "now" "I"] ++ wsX00)
def wsL_set_r1 : List Cond := [Cond.classLink RL 13 "java/lang/IllegalArgumentException", Cond.classLink RL 15 "java/lang/IllegalStateException", Cond.methodLink RL 7 yX0_set, Cond.instanceMethod yX0_set, Cond.selects RX0 yX0_set yX0_set, Cond.initialized RX0, Cond.code yX0_set cX0_set 4 (some .int), Cond.classLink RX0 40 "java/lang/IllegalArgumentException", Cond.initialized "java/lang/IllegalArgumentException", Cond.classLink RX0 51 "java/lang/IllegalStateException", Cond.initialized "java/lang/IllegalStateException", Cond.fieldLink RX0 9 "AlarmBench" "isSet" "[Z", Cond.fieldLink RX0 17 "AlarmBench" "telling" "[I", Cond.methodLink RX0 36 yX0_canBeAhead, Cond.static yX0_canBeAhead, Cond.code yX0_canBeAhead cX0_canBeAhead 1 (some .boolean), Cond.constant RX0 83 (1000000000), Cond.methodLink RX0 47 yX0_leastFree, Cond.instanceMethod yX0_leastFree, Cond.selects RX0 yX0_leastFree yX0_leastFree, Cond.code yX0_leastFree cX0_leastFree 2 (some .int), Cond.methodLink RX0 56 yX0_isBehindLastTime, Cond.instanceMethod yX0_isBehindLastTime, Cond.selects RX0 yX0_isBehindLastTime yX0_isBehindLastTime]
def wsL_set_r2 : List Cond := [Cond.code yX0_isBehindLastTime cX0_isBehindLastTime 2 (some .boolean), Cond.fieldLink RX0 23 "AlarmBench" "now" "I", Cond.methodLink RX0 61 yX0_putAhead, Cond.instanceMethod yX0_putAhead, Cond.selects RX0 yX0_putAhead yX0_putAhead, Cond.code yX0_putAhead cX0_putAhead 3 none, Cond.fieldLink RX0 13 "AlarmBench" "dueAt" "[I", Cond.fieldLink RX0 27 "AlarmBench" "lastRank" "I", Cond.fieldLink RX0 20 "AlarmBench" "rank" "[I"]
def wsL_set : List Cond := .codeWith yL_set cL_set 5 (some .int) [(0, 10, 13, 13), (0, 10, 17, 15)] :: ((wsL_set_r1 ++ wsL_set_r2) ++ wsX00 ++ (vx_atS RX0 44 "java/lang/IllegalArgumentException" ["java/lang/RuntimeException", "java/lang/Exception"]).filter goodWord ++ (vx_atS RX0 55 "java/lang/IllegalStateException" ["java/lang/RuntimeException", "java/lang/Exception"]).filter goodWord)
def wsL_shift_r1 : List Cond := [Cond.classLink RL 13 "java/lang/IllegalArgumentException", Cond.classLink RL 15 "java/lang/IllegalStateException", Cond.methodLink RL 17 yX0_shift, Cond.instanceMethod yX0_shift, Cond.selects RX0 yX0_shift yX0_shift, Cond.initialized RX0, Cond.code yX0_shift cX0_shift 4 (some .int), Cond.classLink RX0 40 "java/lang/IllegalArgumentException", Cond.initialized "java/lang/IllegalArgumentException", Cond.classLink RX0 51 "java/lang/IllegalStateException", Cond.initialized "java/lang/IllegalStateException", Cond.fieldLink RX0 13 "AlarmBench" "dueAt" "[I", Cond.fieldLink RX0 23 "AlarmBench" "now" "I", Cond.methodLink RX0 65 yX0_exists, Cond.instanceMethod yX0_exists, Cond.selects RX0 yX0_exists yX0_exists, Cond.code yX0_exists cX0_exists 2 (some .boolean), Cond.fieldLink RX0 9 "AlarmBench" "isSet" "[Z", Cond.methodLink RX0 36 yX0_canBeAhead, Cond.static yX0_canBeAhead, Cond.code yX0_canBeAhead cX0_canBeAhead 1 (some .boolean), Cond.constant RX0 83 (1000000000), Cond.methodLink RX0 56 yX0_isBehindLastTime, Cond.instanceMethod yX0_isBehindLastTime]
def wsL_shift_r2 : List Cond := [Cond.selects RX0 yX0_isBehindLastTime yX0_isBehindLastTime, Cond.code yX0_isBehindLastTime cX0_isBehindLastTime 2 (some .boolean), Cond.methodLink RX0 61 yX0_putAhead, Cond.instanceMethod yX0_putAhead, Cond.selects RX0 yX0_putAhead yX0_putAhead, Cond.code yX0_putAhead cX0_putAhead 3 none, Cond.fieldLink RX0 27 "AlarmBench" "lastRank" "I", Cond.fieldLink RX0 20 "AlarmBench" "rank" "[I"]
def wsL_shift : List Cond := .codeWith yL_shift cL_shift 5 (some .int) [(0, 10, 13, 13), (0, 10, 17, 15)] :: ((wsL_shift_r1 ++ wsL_shift_r2) ++ wsX00 ++ (vx_atS RX0 44 "java/lang/IllegalArgumentException" ["java/lang/RuntimeException", "java/lang/Exception"]).filter goodWord ++ (vx_atS RX0 55 "java/lang/IllegalStateException" ["java/lang/RuntimeException", "java/lang/Exception"]).filter goodWord)
def wsL_stop : List Cond := .codeWith yL_stop cL_stop 4 (some .int) [(0, 9, 12, 13)] :: ([.classLink RL 13 "java/lang/IllegalArgumentException", .methodLink RL 20 yX0_stop, .instanceMethod yX0_stop, .selects RX0 yX0_stop yX0_stop, .initialized RX0, .code yX0_stop cX0_stop 2 (some .int), .classLink RX0 40 "java/lang/IllegalArgumentException", .initialized "java/lang/IllegalArgumentException", .fieldLink RX0 9 "AlarmBench" "isSet" "[Z", .fieldLink RX0 17 "AlarmBench" "telling" "[I", .methodLink RX0 65 yX0_exists, .instanceMethod yX0_exists, .selects RX0 yX0_exists yX0_exists, .code yX0_exists cX0_exists 2 (some .boolean)] ++ wsX00 ++ (vx_atS RX0 44 "java/lang/IllegalArgumentException" ["java/lang/RuntimeException", "java/lang/Exception"]).filter goodWord)
def wsL_pass : List Cond := .codeWith yL_pass cL_pass 4 (some .int) [(0, 9, 12, 13), (0, 9, 15, 15)] :: ([.classLink RL 13 "java/lang/IllegalArgumentException", .classLink RL 15 "java/lang/IllegalStateException", .methodLink RL 24 yX0_pass, .instanceMethod yX0_pass, .selects RX0 yX0_pass yX0_pass, .initialized RX0, .code yX0_pass cX0_pass 2 (some .int), .classLink RX0 40 "java/lang/IllegalArgumentException", .initialized "java/lang/IllegalArgumentException", .classLink RX0 51 "java/lang/IllegalStateException", .initialized "java/lang/IllegalStateException", .constant RX0 70 (200000), .fieldLink RX0 23 "AlarmBench" "now" "I", .methodLink RX0 56 yX0_isBehindLastTime, .instanceMethod yX0_isBehindLastTime, .selects RX0 yX0_isBehindLastTime yX0_isBehindLastTime, .code yX0_isBehindLastTime cX0_isBehindLastTime 2 (some .boolean), .constant RX0 83 (1000000000)] ++ wsX00 ++ (vx_atS RX0 44 "java/lang/IllegalArgumentException" ["java/lang/RuntimeException", "java/lang/Exception"]).filter goodWord ++ (vx_atS RX0 55 "java/lang/IllegalStateException" ["java/lang/RuntimeException", "java/lang/Exception"]).filter goodWord)
def wsL_about : List Cond := .codeWith yL_about cL_about 5 (some .int) [(0, 10, 13, 13)] :: ([.classLink RL 13 "java/lang/IllegalArgumentException", .methodLink RL 27 yX0_about, .instanceMethod yX0_about, .selects RX0 yX0_about yX0_about, .initialized RX0, .code yX0_about cX0_about 3 (some .int), .classLink RX0 40 "java/lang/IllegalArgumentException", .initialized "java/lang/IllegalArgumentException", .fieldLink RX0 13 "AlarmBench" "dueAt" "[I", .fieldLink RX0 17 "AlarmBench" "telling" "[I", .methodLink RX0 65 yX0_exists, .instanceMethod yX0_exists, .selects RX0 yX0_exists yX0_exists, .code yX0_exists cX0_exists 2 (some .boolean), .fieldLink RX0 9 "AlarmBench" "isSet" "[Z"] ++ wsX00 ++ (vx_atS RX0 44 "java/lang/IllegalArgumentException" ["java/lang/RuntimeException", "java/lang/Exception"]).filter goodWord)
set_option maxRecDepth 20000 in
theorem ggX0_set_X0_canBeAhead : GoodIn wsX0_set wsX0_canBeAhead := goodIn_r _ [10, 11] (by decide +kernel) (by decide +kernel)
set_option maxRecDepth 20000 in
theorem gX0_set_X0_canBeAhead : GoodIn wsX0_set (va_wsS RX0 36 yX0_canBeAhead wsX0_canBeAhead) := goodIn_app (goodIn_of _ (by decide +kernel)) ggX0_set_X0_canBeAhead
set_option maxRecDepth 20000 in
theorem ggX0_set_X0_leastFree : GoodIn wsX0_set wsX0_leastFree := goodIn_r _ [15, 5, 28, 29, 30, 31, 32, 33, 34, 35] (by decide +kernel) (by decide +kernel)
set_option maxRecDepth 20000 in
theorem gX0_set_X0_leastFree : GoodIn wsX0_set (wsV RX0 47 RX0 yX0_leastFree wsX0_leastFree) := goodIn_app (goodIn_of _ (by decide +kernel)) ggX0_set_X0_leastFree
set_option maxRecDepth 20000 in
theorem ggX0_set_X0_isBehindLastTime : GoodIn wsX0_set wsX0_isBehindLastTime := goodIn_r _ [19, 11, 20, 28, 29, 30, 31, 32, 33, 34, 35] (by decide +kernel) (by decide +kernel)
set_option maxRecDepth 20000 in
theorem gX0_set_X0_isBehindLastTime : GoodIn wsX0_set (wsV RX0 56 RX0 yX0_isBehindLastTime wsX0_isBehindLastTime) := goodIn_app (goodIn_of _ (by decide +kernel)) ggX0_set_X0_isBehindLastTime
set_option maxRecDepth 20000 in
theorem ggX0_set_X0_putAhead : GoodIn wsX0_set wsX0_putAhead := goodIn_r _ [24, 25, 20, 26, 27, 28, 29, 30, 31, 32, 33, 34, 35] (by decide +kernel) (by decide +kernel)
set_option maxRecDepth 20000 in
theorem gX0_set_X0_putAhead : GoodIn wsX0_set (wsV RX0 61 RX0 yX0_putAhead wsX0_putAhead) := goodIn_app (goodIn_of _ (by decide +kernel)) ggX0_set_X0_putAhead
set_option maxRecDepth 20000 in
theorem ggX0_shift_X0_exists : GoodIn wsX0_shift wsX0_exists := goodIn_r _ [11, 12, 27, 28, 29, 30, 31, 32, 33, 34] (by decide +kernel) (by decide +kernel)
set_option maxRecDepth 20000 in
theorem gX0_shift_X0_exists : GoodIn wsX0_shift (wsV RX0 65 RX0 yX0_exists wsX0_exists) := goodIn_app (goodIn_of _ (by decide +kernel)) ggX0_shift_X0_exists
set_option maxRecDepth 20000 in
theorem ggX0_shift_X0_canBeAhead : GoodIn wsX0_shift wsX0_canBeAhead := goodIn_r _ [15, 16] (by decide +kernel) (by decide +kernel)
set_option maxRecDepth 20000 in
theorem gX0_shift_X0_canBeAhead : GoodIn wsX0_shift (va_wsS RX0 36 yX0_canBeAhead wsX0_canBeAhead) := goodIn_app (goodIn_of _ (by decide +kernel)) ggX0_shift_X0_canBeAhead
set_option maxRecDepth 20000 in
theorem ggX0_shift_X0_isBehindLastTime : GoodIn wsX0_shift wsX0_isBehindLastTime := goodIn_r _ [20, 16, 6, 27, 28, 29, 30, 31, 32, 33, 34] (by decide +kernel) (by decide +kernel)
set_option maxRecDepth 20000 in
theorem gX0_shift_X0_isBehindLastTime : GoodIn wsX0_shift (wsV RX0 56 RX0 yX0_isBehindLastTime wsX0_isBehindLastTime) := goodIn_app (goodIn_of _ (by decide +kernel)) ggX0_shift_X0_isBehindLastTime
set_option maxRecDepth 20000 in
theorem ggX0_shift_X0_putAhead : GoodIn wsX0_shift wsX0_putAhead := goodIn_r _ [24, 5, 6, 25, 26, 27, 28, 29, 30, 31, 32, 33, 34] (by decide +kernel) (by decide +kernel)
set_option maxRecDepth 20000 in
theorem gX0_shift_X0_putAhead : GoodIn wsX0_shift (wsV RX0 61 RX0 yX0_putAhead wsX0_putAhead) := goodIn_app (goodIn_of _ (by decide +kernel)) ggX0_shift_X0_putAhead
set_option maxRecDepth 20000 in
theorem ggX0_stop_X0_exists : GoodIn wsX0_stop wsX0_exists := goodIn_r _ [9, 3, 10, 11, 12, 13, 14, 15, 16, 17] (by decide +kernel) (by decide +kernel)
set_option maxRecDepth 20000 in
theorem gX0_stop_X0_exists : GoodIn wsX0_stop (wsV RX0 65 RX0 yX0_exists wsX0_exists) := goodIn_app (goodIn_of _ (by decide +kernel)) ggX0_stop_X0_exists
set_option maxRecDepth 20000 in
theorem ggX0_pass_X0_isBehindLastTime : GoodIn wsX0_pass wsX0_isBehindLastTime := goodIn_r _ [11, 12, 6, 13, 14, 15, 16, 17, 18, 19, 20] (by decide +kernel) (by decide +kernel)
set_option maxRecDepth 20000 in
theorem gX0_pass_X0_isBehindLastTime : GoodIn wsX0_pass (wsV RX0 56 RX0 yX0_isBehindLastTime wsX0_isBehindLastTime) := goodIn_app (goodIn_of _ (by decide +kernel)) ggX0_pass_X0_isBehindLastTime
set_option maxRecDepth 20000 in
theorem ggX0_ring_X0_first : GoodIn wsX0_ring wsX0_first := goodIn_r _ [10, 1, 11, 12, 13, 9, 14, 4, 15, 21, 22, 23, 24, 25, 26, 27, 28] (by decide +kernel) (by decide +kernel)
set_option maxRecDepth 20000 in
theorem gX0_ring_X0_first : GoodIn wsX0_ring (wsV RX0 75 RX0 yX0_first wsX0_first) := goodIn_app (goodIn_of _ (by decide +kernel)) ggX0_ring_X0_first
set_option maxRecDepth 20000 in
theorem ggX0_ring_X0_isReady : GoodIn wsX0_ring wsX0_isReady := goodIn_r _ [19, 4, 20, 21, 22, 23, 24, 25, 26, 27, 28] (by decide +kernel) (by decide +kernel)
set_option maxRecDepth 20000 in
theorem gX0_ring_X0_isReady : GoodIn wsX0_ring (wsV RX0 78 RX0 yX0_isReady wsX0_isReady) := goodIn_app (goodIn_of _ (by decide +kernel)) ggX0_ring_X0_isReady
set_option maxRecDepth 20000 in
theorem ggX0_next_X0_first : GoodIn wsX0_next wsX0_first := goodIn_r _ [6, 7, 8, 9, 10, 5, 11, 1, 12, 13, 14, 15, 16, 17, 18, 19, 20] (by decide +kernel) (by decide +kernel)
set_option maxRecDepth 20000 in
theorem gX0_next_X0_first : GoodIn wsX0_next (wsV RX0 75 RX0 yX0_first wsX0_first) := goodIn_app (goodIn_of _ (by decide +kernel)) ggX0_next_X0_first
set_option maxRecDepth 20000 in
theorem ggX0_about_X0_exists : GoodIn wsX0_about wsX0_exists := goodIn_r _ [9, 10, 11, 12, 13, 14, 15, 16, 17, 18] (by decide +kernel) (by decide +kernel)
set_option maxRecDepth 20000 in
theorem gX0_about_X0_exists : GoodIn wsX0_about (wsV RX0 65 RX0 yX0_exists wsX0_exists) := goodIn_app (goodIn_of _ (by decide +kernel)) ggX0_about_X0_exists
set_option maxRecDepth 20000 in
theorem ggX0_count_X0_isReady : GoodIn wsX0_count wsX0_isReady := goodIn_r _ [6, 7, 8, 9, 10, 11, 12, 13, 14, 15, 16] (by decide +kernel) (by decide +kernel)
set_option maxRecDepth 20000 in
theorem gX0_count_X0_isReady : GoodIn wsX0_count (wsV RX0 78 RX0 yX0_isReady wsX0_isReady) := goodIn_app (goodIn_of _ (by decide +kernel)) ggX0_count_X0_isReady
set_option maxRecDepth 20000 in
theorem ggX0_first_X0_isBefore : GoodIn wsX0_first wsX0_isBefore := goodIn_r _ [6, 7, 8, 9, 10, 11, 12, 13, 14, 15, 16] (by decide +kernel) (by decide +kernel)
set_option maxRecDepth 20000 in
theorem gX0_first_X0_isBefore : GoodIn wsX0_first (wsV RX0 84 RX0 yX0_isBefore wsX0_isBefore) := goodIn_app (goodIn_of _ (by decide +kernel)) ggX0_first_X0_isBefore
set_option maxRecDepth 20000 in
theorem ggL_set_X0_set : GoodIn wsL_set wsX0_set := goodIn_ca (goodIn_ca (goodIn_r _ [7, 8, 9, 10, 11, 12, 13, 14, 15, 6, 16, 17, 18, 19, 20, 21, 22, 23, 24, 25, 26, 27, 28, 29, 30, 31, 32, 33, 34, 35, 36, 37, 38, 39, 40, 41] (by decide +kernel) (by decide +kernel)) (goodIn_sub (fun _ h => List.mem_cons_of_mem _ (List.mem_append_left _ (List.mem_append_right _ h))) (by decide +kernel))) (goodIn_sub (fun _ h => List.mem_cons_of_mem _ (List.mem_append_right _ h)) (by decide +kernel))
set_option maxRecDepth 20000 in
theorem gL_set_X0_set : GoodIn wsL_set (wsV RL 7 RX0 yX0_set wsX0_set) := goodIn_app (goodIn_of _ (by decide +kernel)) ggL_set_X0_set
set_option maxRecDepth 20000 in
theorem ggL_shift_X0_shift : GoodIn wsL_shift wsX0_shift := goodIn_ca (goodIn_ca (goodIn_r _ [7, 8, 9, 10, 11, 12, 13, 14, 15, 16, 6, 17, 18, 19, 20, 21, 22, 23, 24, 25, 26, 27, 28, 29, 30, 31, 32, 33, 34, 35, 36, 37, 38, 39, 40] (by decide +kernel) (by decide +kernel)) (goodIn_sub (fun _ h => List.mem_cons_of_mem _ (List.mem_append_left _ (List.mem_append_right _ h))) (by decide +kernel))) (goodIn_sub (fun _ h => List.mem_cons_of_mem _ (List.mem_append_right _ h)) (by decide +kernel))
set_option maxRecDepth 20000 in
theorem gL_shift_X0_shift : GoodIn wsL_shift (wsV RL 17 RX0 yX0_shift wsX0_shift) := goodIn_app (goodIn_of _ (by decide +kernel)) ggL_shift_X0_shift
set_option maxRecDepth 20000 in
theorem ggL_stop_X0_stop : GoodIn wsL_stop wsX0_stop := goodIn_ca (goodIn_r _ [6, 7, 8, 9, 10, 11, 12, 13, 5, 14, 15, 16, 17, 18, 19, 20, 21, 22] (by decide +kernel) (by decide +kernel)) (goodIn_sub (fun _ h => List.mem_cons_of_mem _ (List.mem_append_right _ h)) (by decide +kernel))
set_option maxRecDepth 20000 in
theorem gL_stop_X0_stop : GoodIn wsL_stop (wsV RL 20 RX0 yX0_stop wsX0_stop) := goodIn_app (goodIn_of _ (by decide +kernel)) ggL_stop_X0_stop
set_option maxRecDepth 20000 in
theorem ggL_pass_X0_pass : GoodIn wsL_pass wsX0_pass := goodIn_ca (goodIn_ca (goodIn_r _ [7, 8, 9, 10, 11, 12, 13, 14, 15, 16, 6, 17, 18, 19, 20, 21, 22, 23, 24, 25, 26] (by decide +kernel) (by decide +kernel)) (goodIn_sub (fun _ h => List.mem_cons_of_mem _ (List.mem_append_left _ (List.mem_append_right _ h))) (by decide +kernel))) (goodIn_sub (fun _ h => List.mem_cons_of_mem _ (List.mem_append_right _ h)) (by decide +kernel))
set_option maxRecDepth 20000 in
theorem gL_pass_X0_pass : GoodIn wsL_pass (wsV RL 24 RX0 yX0_pass wsX0_pass) := goodIn_app (goodIn_of _ (by decide +kernel)) ggL_pass_X0_pass
set_option maxRecDepth 20000 in
theorem ggL_about_X0_about : GoodIn wsL_about wsX0_about := goodIn_ca (goodIn_r _ [6, 7, 8, 9, 10, 11, 12, 13, 5, 14, 15, 16, 17, 18, 19, 20, 21, 22, 23] (by decide +kernel) (by decide +kernel)) (goodIn_sub (fun _ h => List.mem_cons_of_mem _ (List.mem_append_right _ h)) (by decide +kernel))
set_option maxRecDepth 20000 in
theorem gL_about_X0_about : GoodIn wsL_about (wsV RL 27 RX0 yX0_about wsX0_about) := goodIn_app (goodIn_of _ (by decide +kernel)) ggL_about_X0_about
end
section
theorem dX0_init_0 : decode cX0_init 0 = .ok (.aload_n 0, 1) := by decide +kernel
theorem dX0_init_1 : decode cX0_init 1 = .ok (.invokespecial 1, 3) := by decide +kernel
theorem dX0_init_4 : decode cX0_init 4 = .ok (.aload_n 0, 1) := by decide +kernel
theorem dX0_init_5 : decode cX0_init 5 = .ok (.sipush 512, 3) := by decide +kernel
theorem dX0_init_8 : decode cX0_init 8 = .ok (.newarray .boolean, 2) := by decide +kernel
theorem dX0_init_10 : decode cX0_init 10 = .ok (.putfield 9, 3) := by decide +kernel
theorem dX0_init_13 : decode cX0_init 13 = .ok (.aload_n 0, 1) := by decide +kernel
theorem dX0_init_14 : decode cX0_init 14 = .ok (.sipush 512, 3) := by decide +kernel
theorem dX0_init_17 : decode cX0_init 17 = .ok (.newarray .int, 2) := by decide +kernel
theorem dX0_init_19 : decode cX0_init 19 = .ok (.putfield 13, 3) := by decide +kernel
theorem dX0_init_22 : decode cX0_init 22 = .ok (.aload_n 0, 1) := by decide +kernel
theorem dX0_init_23 : decode cX0_init 23 = .ok (.sipush 512, 3) := by decide +kernel
theorem dX0_init_26 : decode cX0_init 26 = .ok (.newarray .int, 2) := by decide +kernel
theorem dX0_init_28 : decode cX0_init 28 = .ok (.putfield 17, 3) := by decide +kernel
theorem dX0_init_31 : decode cX0_init 31 = .ok (.aload_n 0, 1) := by decide +kernel
theorem dX0_init_32 : decode cX0_init 32 = .ok (.sipush 512, 3) := by decide +kernel
theorem dX0_init_35 : decode cX0_init 35 = .ok (.newarray .int, 2) := by decide +kernel
theorem dX0_init_37 : decode cX0_init 37 = .ok (.putfield 20, 3) := by decide +kernel
theorem dX0_init_40 : decode cX0_init 40 = .ok (.aload_n 0, 1) := by decide +kernel
theorem dX0_init_41 : decode cX0_init 41 = .ok (.iconst 0, 1) := by decide +kernel
theorem dX0_init_42 : decode cX0_init 42 = .ok (.putfield 23, 3) := by decide +kernel
theorem dX0_init_45 : decode cX0_init 45 = .ok (.aload_n 0, 1) := by decide +kernel
theorem dX0_init_46 : decode cX0_init 46 = .ok (.iconst 0, 1) := by decide +kernel
theorem dX0_init_47 : decode cX0_init 47 = .ok (.putfield 27, 3) := by decide +kernel
theorem dX0_init_50 : decode cX0_init 50 = .ok (.aload_n 0, 1) := by decide +kernel
theorem dX0_init_51 : decode cX0_init 51 = .ok (.iconst 0, 1) := by decide +kernel
theorem dX0_init_52 : decode cX0_init 52 = .ok (.putfield 30, 3) := by decide +kernel
theorem dX0_init_55 : decode cX0_init 55 = .ok (.aload_n 0, 1) := by decide +kernel
theorem dX0_init_56 : decode cX0_init 56 = .ok (.iconst (-1), 1) := by decide +kernel
theorem dX0_init_57 : decode cX0_init 57 = .ok (.putfield 33, 3) := by decide +kernel
theorem dX0_init_60 : decode cX0_init 60 = .ok (.return_, 1) := by decide +kernel
theorem dX0_set_0 : decode cX0_set 0 = .ok (.iload_n 1, 1) := by decide +kernel
theorem dX0_set_1 : decode cX0_set 1 = .ok (.invokestatic 36, 3) := by decide +kernel
theorem dX0_set_4 : decode cX0_set 4 = .ok (.ifCond .ne 13, 3) := by decide +kernel
theorem dX0_set_7 : decode cX0_set 7 = .ok (.new 40, 3) := by decide +kernel
theorem dX0_set_10 : decode cX0_set 10 = .ok (.dup, 1) := by decide +kernel
theorem dX0_set_11 : decode cX0_set 11 = .ok (.ldc 42, 2) := by decide +kernel
theorem dX0_set_13 : decode cX0_set 13 = .ok (.invokespecial 44, 3) := by decide +kernel
theorem dX0_set_16 : decode cX0_set 16 = .ok (.athrow, 1) := by decide +kernel
theorem dX0_set_17 : decode cX0_set 17 = .ok (.aload_n 0, 1) := by decide +kernel
theorem dX0_set_18 : decode cX0_set 18 = .ok (.invokevirtual 47, 3) := by decide +kernel
theorem dX0_set_21 : decode cX0_set 21 = .ok (.istore_n 3, 1) := by decide +kernel
theorem dX0_set_22 : decode cX0_set 22 = .ok (.iload_n 3, 1) := by decide +kernel
theorem dX0_set_23 : decode cX0_set 23 = .ok (.iconst (-1), 1) := by decide +kernel
theorem dX0_set_24 : decode cX0_set 24 = .ok (.if_icmp .ne 13, 3) := by decide +kernel
theorem dX0_set_27 : decode cX0_set 27 = .ok (.new 51, 3) := by decide +kernel
theorem dX0_set_30 : decode cX0_set 30 = .ok (.dup, 1) := by decide +kernel
theorem dX0_set_31 : decode cX0_set 31 = .ok (.ldc 53, 2) := by decide +kernel
theorem dX0_set_33 : decode cX0_set 33 = .ok (.invokespecial 55, 3) := by decide +kernel
theorem dX0_set_36 : decode cX0_set 36 = .ok (.athrow, 1) := by decide +kernel
theorem dX0_set_37 : decode cX0_set 37 = .ok (.aload_n 0, 1) := by decide +kernel
theorem dX0_set_38 : decode cX0_set 38 = .ok (.iload_n 1, 1) := by decide +kernel
theorem dX0_set_39 : decode cX0_set 39 = .ok (.invokevirtual 56, 3) := by decide +kernel
theorem dX0_set_42 : decode cX0_set 42 = .ok (.ifCond .eq 13, 3) := by decide +kernel
theorem dX0_set_45 : decode cX0_set 45 = .ok (.new 51, 3) := by decide +kernel
theorem dX0_set_48 : decode cX0_set 48 = .ok (.dup, 1) := by decide +kernel
theorem dX0_set_49 : decode cX0_set 49 = .ok (.ldc 59, 2) := by decide +kernel
theorem dX0_set_51 : decode cX0_set 51 = .ok (.invokespecial 55, 3) := by decide +kernel
theorem dX0_set_54 : decode cX0_set 54 = .ok (.athrow, 1) := by decide +kernel
theorem dX0_set_55 : decode cX0_set 55 = .ok (.aload_n 0, 1) := by decide +kernel
theorem dX0_set_56 : decode cX0_set 56 = .ok (.getfield 9, 3) := by decide +kernel
theorem dX0_set_59 : decode cX0_set 59 = .ok (.iload_n 3, 1) := by decide +kernel
theorem dX0_set_60 : decode cX0_set 60 = .ok (.iconst 1, 1) := by decide +kernel
theorem dX0_set_61 : decode cX0_set 61 = .ok (.bastore, 1) := by decide +kernel
theorem dX0_set_62 : decode cX0_set 62 = .ok (.aload_n 0, 1) := by decide +kernel
theorem dX0_set_63 : decode cX0_set 63 = .ok (.getfield 17, 3) := by decide +kernel
theorem dX0_set_66 : decode cX0_set 66 = .ok (.iload_n 3, 1) := by decide +kernel
theorem dX0_set_67 : decode cX0_set 67 = .ok (.iload_n 2, 1) := by decide +kernel
theorem dX0_set_68 : decode cX0_set 68 = .ok (.iastore, 1) := by decide +kernel
theorem dX0_set_69 : decode cX0_set 69 = .ok (.aload_n 0, 1) := by decide +kernel
theorem dX0_set_70 : decode cX0_set 70 = .ok (.iload_n 3, 1) := by decide +kernel
theorem dX0_set_71 : decode cX0_set 71 = .ok (.iload_n 1, 1) := by decide +kernel
theorem dX0_set_72 : decode cX0_set 72 = .ok (.invokevirtual 61, 3) := by decide +kernel
theorem dX0_set_75 : decode cX0_set 75 = .ok (.iload_n 3, 1) := by decide +kernel
theorem dX0_set_76 : decode cX0_set 76 = .ok (.ireturn, 1) := by decide +kernel
theorem dX0_shift_0 : decode cX0_shift 0 = .ok (.aload_n 0, 1) := by decide +kernel
theorem dX0_shift_1 : decode cX0_shift 1 = .ok (.iload_n 1, 1) := by decide +kernel
theorem dX0_shift_2 : decode cX0_shift 2 = .ok (.invokevirtual 65, 3) := by decide +kernel
theorem dX0_shift_5 : decode cX0_shift 5 = .ok (.ifCond .ne 13, 3) := by decide +kernel
theorem dX0_shift_8 : decode cX0_shift 8 = .ok (.new 40, 3) := by decide +kernel
theorem dX0_shift_11 : decode cX0_shift 11 = .ok (.dup, 1) := by decide +kernel
theorem dX0_shift_12 : decode cX0_shift 12 = .ok (.ldc 68, 2) := by decide +kernel
theorem dX0_shift_14 : decode cX0_shift 14 = .ok (.invokespecial 44, 3) := by decide +kernel
theorem dX0_shift_17 : decode cX0_shift 17 = .ok (.athrow, 1) := by decide +kernel
theorem dX0_shift_18 : decode cX0_shift 18 = .ok (.iload_n 2, 1) := by decide +kernel
theorem dX0_shift_19 : decode cX0_shift 19 = .ok (.invokestatic 36, 3) := by decide +kernel
theorem dX0_shift_22 : decode cX0_shift 22 = .ok (.ifCond .ne 13, 3) := by decide +kernel
theorem dX0_shift_25 : decode cX0_shift 25 = .ok (.new 40, 3) := by decide +kernel
theorem dX0_shift_28 : decode cX0_shift 28 = .ok (.dup, 1) := by decide +kernel
theorem dX0_shift_29 : decode cX0_shift 29 = .ok (.ldc 42, 2) := by decide +kernel
theorem dX0_shift_31 : decode cX0_shift 31 = .ok (.invokespecial 44, 3) := by decide +kernel
theorem dX0_shift_34 : decode cX0_shift 34 = .ok (.athrow, 1) := by decide +kernel
theorem dX0_shift_35 : decode cX0_shift 35 = .ok (.aload_n 0, 1) := by decide +kernel
theorem dX0_shift_36 : decode cX0_shift 36 = .ok (.iload_n 2, 1) := by decide +kernel
theorem dX0_shift_37 : decode cX0_shift 37 = .ok (.invokevirtual 56, 3) := by decide +kernel
theorem dX0_shift_40 : decode cX0_shift 40 = .ok (.ifCond .eq 13, 3) := by decide +kernel
theorem dX0_shift_43 : decode cX0_shift 43 = .ok (.new 51, 3) := by decide +kernel
theorem dX0_shift_46 : decode cX0_shift 46 = .ok (.dup, 1) := by decide +kernel
theorem dX0_shift_47 : decode cX0_shift 47 = .ok (.ldc 59, 2) := by decide +kernel
theorem dX0_shift_49 : decode cX0_shift 49 = .ok (.invokespecial 55, 3) := by decide +kernel
theorem dX0_shift_52 : decode cX0_shift 52 = .ok (.athrow, 1) := by decide +kernel
theorem dX0_shift_53 : decode cX0_shift 53 = .ok (.aload_n 0, 1) := by decide +kernel
theorem dX0_shift_54 : decode cX0_shift 54 = .ok (.getfield 13, 3) := by decide +kernel
theorem dX0_shift_57 : decode cX0_shift 57 = .ok (.iload_n 1, 1) := by decide +kernel
theorem dX0_shift_58 : decode cX0_shift 58 = .ok (.iaload, 1) := by decide +kernel
theorem dX0_shift_59 : decode cX0_shift 59 = .ok (.aload_n 0, 1) := by decide +kernel
theorem dX0_shift_60 : decode cX0_shift 60 = .ok (.getfield 23, 3) := by decide +kernel
theorem dX0_shift_63 : decode cX0_shift 63 = .ok (.isub, 1) := by decide +kernel
theorem dX0_shift_64 : decode cX0_shift 64 = .ok (.istore_n 3, 1) := by decide +kernel
theorem dX0_shift_65 : decode cX0_shift 65 = .ok (.aload_n 0, 1) := by decide +kernel
theorem dX0_shift_66 : decode cX0_shift 66 = .ok (.iload_n 1, 1) := by decide +kernel
theorem dX0_shift_67 : decode cX0_shift 67 = .ok (.iload_n 2, 1) := by decide +kernel
theorem dX0_shift_68 : decode cX0_shift 68 = .ok (.invokevirtual 61, 3) := by decide +kernel
theorem dX0_shift_71 : decode cX0_shift 71 = .ok (.iload_n 3, 1) := by decide +kernel
theorem dX0_shift_72 : decode cX0_shift 72 = .ok (.ireturn, 1) := by decide +kernel
theorem dX0_stop_0 : decode cX0_stop 0 = .ok (.aload_n 0, 1) := by decide +kernel
theorem dX0_stop_1 : decode cX0_stop 1 = .ok (.iload_n 1, 1) := by decide +kernel
theorem dX0_stop_2 : decode cX0_stop 2 = .ok (.invokevirtual 65, 3) := by decide +kernel
theorem dX0_stop_5 : decode cX0_stop 5 = .ok (.ifCond .ne 13, 3) := by decide +kernel
theorem dX0_stop_8 : decode cX0_stop 8 = .ok (.new 40, 3) := by decide +kernel
theorem dX0_stop_11 : decode cX0_stop 11 = .ok (.dup, 1) := by decide +kernel
theorem dX0_stop_12 : decode cX0_stop 12 = .ok (.ldc 68, 2) := by decide +kernel
theorem dX0_stop_14 : decode cX0_stop 14 = .ok (.invokespecial 44, 3) := by decide +kernel
theorem dX0_stop_17 : decode cX0_stop 17 = .ok (.athrow, 1) := by decide +kernel
theorem dX0_stop_18 : decode cX0_stop 18 = .ok (.aload_n 0, 1) := by decide +kernel
theorem dX0_stop_19 : decode cX0_stop 19 = .ok (.getfield 9, 3) := by decide +kernel
theorem dX0_stop_22 : decode cX0_stop 22 = .ok (.iload_n 1, 1) := by decide +kernel
theorem dX0_stop_23 : decode cX0_stop 23 = .ok (.iconst 0, 1) := by decide +kernel
theorem dX0_stop_24 : decode cX0_stop 24 = .ok (.bastore, 1) := by decide +kernel
theorem dX0_stop_25 : decode cX0_stop 25 = .ok (.aload_n 0, 1) := by decide +kernel
theorem dX0_stop_26 : decode cX0_stop 26 = .ok (.getfield 17, 3) := by decide +kernel
theorem dX0_stop_29 : decode cX0_stop 29 = .ok (.iload_n 1, 1) := by decide +kernel
theorem dX0_stop_30 : decode cX0_stop 30 = .ok (.iaload, 1) := by decide +kernel
theorem dX0_stop_31 : decode cX0_stop 31 = .ok (.ireturn, 1) := by decide +kernel
theorem dX0_stopAll_0 : decode cX0_stopAll 0 = .ok (.iconst 0, 1) := by decide +kernel
theorem dX0_stopAll_1 : decode cX0_stopAll 1 = .ok (.istore_n 2, 1) := by decide +kernel
theorem dX0_stopAll_2 : decode cX0_stopAll 2 = .ok (.iconst 0, 1) := by decide +kernel
theorem dX0_stopAll_3 : decode cX0_stopAll 3 = .ok (.istore_n 3, 1) := by decide +kernel
theorem dX0_stopAll_4 : decode cX0_stopAll 4 = .ok (.iload_n 3, 1) := by decide +kernel
theorem dX0_stopAll_5 : decode cX0_stopAll 5 = .ok (.sipush 512, 3) := by decide +kernel
theorem dX0_stopAll_8 : decode cX0_stopAll 8 = .ok (.if_icmp .ge 38, 3) := by decide +kernel
theorem dX0_stopAll_11 : decode cX0_stopAll 11 = .ok (.aload_n 0, 1) := by decide +kernel
theorem dX0_stopAll_12 : decode cX0_stopAll 12 = .ok (.getfield 9, 3) := by decide +kernel
theorem dX0_stopAll_15 : decode cX0_stopAll 15 = .ok (.iload_n 3, 1) := by decide +kernel
theorem dX0_stopAll_16 : decode cX0_stopAll 16 = .ok (.baload, 1) := by decide +kernel
theorem dX0_stopAll_17 : decode cX0_stopAll 17 = .ok (.ifCond .eq 23, 3) := by decide +kernel
theorem dX0_stopAll_20 : decode cX0_stopAll 20 = .ok (.aload_n 0, 1) := by decide +kernel
theorem dX0_stopAll_21 : decode cX0_stopAll 21 = .ok (.getfield 17, 3) := by decide +kernel
theorem dX0_stopAll_24 : decode cX0_stopAll 24 = .ok (.iload_n 3, 1) := by decide +kernel
theorem dX0_stopAll_25 : decode cX0_stopAll 25 = .ok (.iaload, 1) := by decide +kernel
theorem dX0_stopAll_26 : decode cX0_stopAll 26 = .ok (.iload_n 1, 1) := by decide +kernel
theorem dX0_stopAll_27 : decode cX0_stopAll 27 = .ok (.if_icmp .ne 13, 3) := by decide +kernel
theorem dX0_stopAll_30 : decode cX0_stopAll 30 = .ok (.aload_n 0, 1) := by decide +kernel
theorem dX0_stopAll_31 : decode cX0_stopAll 31 = .ok (.getfield 9, 3) := by decide +kernel
theorem dX0_stopAll_34 : decode cX0_stopAll 34 = .ok (.iload_n 3, 1) := by decide +kernel
theorem dX0_stopAll_35 : decode cX0_stopAll 35 = .ok (.iconst 0, 1) := by decide +kernel
theorem dX0_stopAll_36 : decode cX0_stopAll 36 = .ok (.bastore, 1) := by decide +kernel
theorem dX0_stopAll_37 : decode cX0_stopAll 37 = .ok (.iinc 2 1, 3) := by decide +kernel
theorem dX0_stopAll_40 : decode cX0_stopAll 40 = .ok (.iinc 3 1, 3) := by decide +kernel
theorem dX0_stopAll_43 : decode cX0_stopAll 43 = .ok (.goto (-39), 3) := by decide +kernel
theorem dX0_stopAll_46 : decode cX0_stopAll 46 = .ok (.iload_n 2, 1) := by decide +kernel
theorem dX0_stopAll_47 : decode cX0_stopAll 47 = .ok (.ireturn, 1) := by decide +kernel
theorem dX0_pass_0 : decode cX0_pass 0 = .ok (.iload_n 1, 1) := by decide +kernel
theorem dX0_pass_1 : decode cX0_pass 1 = .ok (.ifCond .lt 9, 3) := by decide +kernel
theorem dX0_pass_4 : decode cX0_pass 4 = .ok (.iload_n 1, 1) := by decide +kernel
theorem dX0_pass_5 : decode cX0_pass 5 = .ok (.ldc 70, 2) := by decide +kernel
theorem dX0_pass_7 : decode cX0_pass 7 = .ok (.if_icmp .le 13, 3) := by decide +kernel
theorem dX0_pass_10 : decode cX0_pass 10 = .ok (.new 40, 3) := by decide +kernel
theorem dX0_pass_13 : decode cX0_pass 13 = .ok (.dup, 1) := by decide +kernel
theorem dX0_pass_14 : decode cX0_pass 14 = .ok (.ldc 71, 2) := by decide +kernel
theorem dX0_pass_16 : decode cX0_pass 16 = .ok (.invokespecial 44, 3) := by decide +kernel
theorem dX0_pass_19 : decode cX0_pass 19 = .ok (.athrow, 1) := by decide +kernel
theorem dX0_pass_20 : decode cX0_pass 20 = .ok (.aload_n 0, 1) := by decide +kernel
theorem dX0_pass_21 : decode cX0_pass 21 = .ok (.iload_n 1, 1) := by decide +kernel
theorem dX0_pass_22 : decode cX0_pass 22 = .ok (.invokevirtual 56, 3) := by decide +kernel
theorem dX0_pass_25 : decode cX0_pass 25 = .ok (.ifCond .eq 13, 3) := by decide +kernel
theorem dX0_pass_28 : decode cX0_pass 28 = .ok (.new 51, 3) := by decide +kernel
theorem dX0_pass_31 : decode cX0_pass 31 = .ok (.dup, 1) := by decide +kernel
theorem dX0_pass_32 : decode cX0_pass 32 = .ok (.ldc 73, 2) := by decide +kernel
theorem dX0_pass_34 : decode cX0_pass 34 = .ok (.invokespecial 55, 3) := by decide +kernel
theorem dX0_pass_37 : decode cX0_pass 37 = .ok (.athrow, 1) := by decide +kernel
theorem dX0_pass_38 : decode cX0_pass 38 = .ok (.aload_n 0, 1) := by decide +kernel
theorem dX0_pass_39 : decode cX0_pass 39 = .ok (.dup, 1) := by decide +kernel
theorem dX0_pass_40 : decode cX0_pass 40 = .ok (.getfield 23, 3) := by decide +kernel
theorem dX0_pass_43 : decode cX0_pass 43 = .ok (.iload_n 1, 1) := by decide +kernel
theorem dX0_pass_44 : decode cX0_pass 44 = .ok (.iadd, 1) := by decide +kernel
theorem dX0_pass_45 : decode cX0_pass 45 = .ok (.putfield 23, 3) := by decide +kernel
theorem dX0_pass_48 : decode cX0_pass 48 = .ok (.aload_n 0, 1) := by decide +kernel
theorem dX0_pass_49 : decode cX0_pass 49 = .ok (.getfield 23, 3) := by decide +kernel
theorem dX0_pass_52 : decode cX0_pass 52 = .ok (.ireturn, 1) := by decide +kernel
theorem dX0_ring_0 : decode cX0_ring 0 = .ok (.aload_n 0, 1) := by decide +kernel
theorem dX0_ring_1 : decode cX0_ring 1 = .ok (.invokevirtual 75, 3) := by decide +kernel
theorem dX0_ring_4 : decode cX0_ring 4 = .ok (.istore_n 1, 1) := by decide +kernel
theorem dX0_ring_5 : decode cX0_ring 5 = .ok (.iload_n 1, 1) := by decide +kernel
theorem dX0_ring_6 : decode cX0_ring 6 = .ok (.iconst (-1), 1) := by decide +kernel
theorem dX0_ring_7 : decode cX0_ring 7 = .ok (.if_icmp .eq 11, 3) := by decide +kernel
theorem dX0_ring_10 : decode cX0_ring 10 = .ok (.aload_n 0, 1) := by decide +kernel
theorem dX0_ring_11 : decode cX0_ring 11 = .ok (.iload_n 1, 1) := by decide +kernel
theorem dX0_ring_12 : decode cX0_ring 12 = .ok (.invokevirtual 78, 3) := by decide +kernel
theorem dX0_ring_15 : decode cX0_ring 15 = .ok (.ifCond .ne 5, 3) := by decide +kernel
theorem dX0_ring_18 : decode cX0_ring 18 = .ok (.iconst (-1), 1) := by decide +kernel
theorem dX0_ring_19 : decode cX0_ring 19 = .ok (.ireturn, 1) := by decide +kernel
theorem dX0_ring_20 : decode cX0_ring 20 = .ok (.aload_n 0, 1) := by decide +kernel
theorem dX0_ring_21 : decode cX0_ring 21 = .ok (.getfield 9, 3) := by decide +kernel
theorem dX0_ring_24 : decode cX0_ring 24 = .ok (.iload_n 1, 1) := by decide +kernel
theorem dX0_ring_25 : decode cX0_ring 25 = .ok (.iconst 0, 1) := by decide +kernel
theorem dX0_ring_26 : decode cX0_ring 26 = .ok (.bastore, 1) := by decide +kernel
theorem dX0_ring_27 : decode cX0_ring 27 = .ok (.aload_n 0, 1) := by decide +kernel
theorem dX0_ring_28 : decode cX0_ring 28 = .ok (.aload_n 0, 1) := by decide +kernel
theorem dX0_ring_29 : decode cX0_ring 29 = .ok (.getfield 17, 3) := by decide +kernel
theorem dX0_ring_32 : decode cX0_ring 32 = .ok (.iload_n 1, 1) := by decide +kernel
theorem dX0_ring_33 : decode cX0_ring 33 = .ok (.iaload, 1) := by decide +kernel
theorem dX0_ring_34 : decode cX0_ring 34 = .ok (.putfield 30, 3) := by decide +kernel
theorem dX0_ring_37 : decode cX0_ring 37 = .ok (.aload_n 0, 1) := by decide +kernel
theorem dX0_ring_38 : decode cX0_ring 38 = .ok (.aload_n 0, 1) := by decide +kernel
theorem dX0_ring_39 : decode cX0_ring 39 = .ok (.getfield 13, 3) := by decide +kernel
theorem dX0_ring_42 : decode cX0_ring 42 = .ok (.iload_n 1, 1) := by decide +kernel
theorem dX0_ring_43 : decode cX0_ring 43 = .ok (.iaload, 1) := by decide +kernel
theorem dX0_ring_44 : decode cX0_ring 44 = .ok (.putfield 33, 3) := by decide +kernel
theorem dX0_ring_47 : decode cX0_ring 47 = .ok (.iload_n 1, 1) := by decide +kernel
theorem dX0_ring_48 : decode cX0_ring 48 = .ok (.ireturn, 1) := by decide +kernel
theorem dX0_told_0 : decode cX0_told 0 = .ok (.aload_n 0, 1) := by decide +kernel
theorem dX0_told_1 : decode cX0_told 1 = .ok (.getfield 30, 3) := by decide +kernel
theorem dX0_told_4 : decode cX0_told 4 = .ok (.ireturn, 1) := by decide +kernel
theorem dX0_wasDue_0 : decode cX0_wasDue 0 = .ok (.aload_n 0, 1) := by decide +kernel
theorem dX0_wasDue_1 : decode cX0_wasDue 1 = .ok (.getfield 33, 3) := by decide +kernel
theorem dX0_wasDue_4 : decode cX0_wasDue 4 = .ok (.ireturn, 1) := by decide +kernel
theorem dX0_next_0 : decode cX0_next 0 = .ok (.aload_n 0, 1) := by decide +kernel
theorem dX0_next_1 : decode cX0_next 1 = .ok (.invokevirtual 75, 3) := by decide +kernel
theorem dX0_next_4 : decode cX0_next 4 = .ok (.istore_n 1, 1) := by decide +kernel
theorem dX0_next_5 : decode cX0_next 5 = .ok (.iload_n 1, 1) := by decide +kernel
theorem dX0_next_6 : decode cX0_next 6 = .ok (.iconst (-1), 1) := by decide +kernel
theorem dX0_next_7 : decode cX0_next 7 = .ok (.if_icmp .ne 7, 3) := by decide +kernel
theorem dX0_next_10 : decode cX0_next 10 = .ok (.iconst (-1), 1) := by decide +kernel
theorem dX0_next_11 : decode cX0_next 11 = .ok (.goto 9, 3) := by decide +kernel
theorem dX0_next_14 : decode cX0_next 14 = .ok (.aload_n 0, 1) := by decide +kernel
theorem dX0_next_15 : decode cX0_next 15 = .ok (.getfield 13, 3) := by decide +kernel
theorem dX0_next_18 : decode cX0_next 18 = .ok (.iload_n 1, 1) := by decide +kernel
theorem dX0_next_19 : decode cX0_next 19 = .ok (.iaload, 1) := by decide +kernel
theorem dX0_next_20 : decode cX0_next 20 = .ok (.ireturn, 1) := by decide +kernel
theorem dX0_about_0 : decode cX0_about 0 = .ok (.aload_n 0, 1) := by decide +kernel
theorem dX0_about_1 : decode cX0_about 1 = .ok (.iload_n 1, 1) := by decide +kernel
theorem dX0_about_2 : decode cX0_about 2 = .ok (.invokevirtual 65, 3) := by decide +kernel
theorem dX0_about_5 : decode cX0_about 5 = .ok (.ifCond .ne 13, 3) := by decide +kernel
theorem dX0_about_8 : decode cX0_about 8 = .ok (.new 40, 3) := by decide +kernel
theorem dX0_about_11 : decode cX0_about 11 = .ok (.dup, 1) := by decide +kernel
theorem dX0_about_12 : decode cX0_about 12 = .ok (.ldc 68, 2) := by decide +kernel
theorem dX0_about_14 : decode cX0_about 14 = .ok (.invokespecial 44, 3) := by decide +kernel
theorem dX0_about_17 : decode cX0_about 17 = .ok (.athrow, 1) := by decide +kernel
theorem dX0_about_18 : decode cX0_about 18 = .ok (.iload_n 2, 1) := by decide +kernel
theorem dX0_about_19 : decode cX0_about 19 = .ok (.ifCond .eq 18, 3) := by decide +kernel
theorem dX0_about_22 : decode cX0_about 22 = .ok (.iload_n 2, 1) := by decide +kernel
theorem dX0_about_23 : decode cX0_about 23 = .ok (.iconst 1, 1) := by decide +kernel
theorem dX0_about_24 : decode cX0_about 24 = .ok (.if_icmp .eq 13, 3) := by decide +kernel
theorem dX0_about_27 : decode cX0_about 27 = .ok (.new 40, 3) := by decide +kernel
theorem dX0_about_30 : decode cX0_about 30 = .ok (.dup, 1) := by decide +kernel
theorem dX0_about_31 : decode cX0_about 31 = .ok (.ldc 81, 2) := by decide +kernel
theorem dX0_about_33 : decode cX0_about 33 = .ok (.invokespecial 44, 3) := by decide +kernel
theorem dX0_about_36 : decode cX0_about 36 = .ok (.athrow, 1) := by decide +kernel
theorem dX0_about_37 : decode cX0_about 37 = .ok (.iload_n 2, 1) := by decide +kernel
theorem dX0_about_38 : decode cX0_about 38 = .ok (.ifCond .ne 12, 3) := by decide +kernel
theorem dX0_about_41 : decode cX0_about 41 = .ok (.aload_n 0, 1) := by decide +kernel
theorem dX0_about_42 : decode cX0_about 42 = .ok (.getfield 13, 3) := by decide +kernel
theorem dX0_about_45 : decode cX0_about 45 = .ok (.iload_n 1, 1) := by decide +kernel
theorem dX0_about_46 : decode cX0_about 46 = .ok (.iaload, 1) := by decide +kernel
theorem dX0_about_47 : decode cX0_about 47 = .ok (.goto 9, 3) := by decide +kernel
theorem dX0_about_50 : decode cX0_about 50 = .ok (.aload_n 0, 1) := by decide +kernel
theorem dX0_about_51 : decode cX0_about 51 = .ok (.getfield 17, 3) := by decide +kernel
theorem dX0_about_54 : decode cX0_about 54 = .ok (.iload_n 1, 1) := by decide +kernel
theorem dX0_about_55 : decode cX0_about 55 = .ok (.iaload, 1) := by decide +kernel
theorem dX0_about_56 : decode cX0_about 56 = .ok (.ireturn, 1) := by decide +kernel
theorem dX0_count_0 : decode cX0_count 0 = .ok (.iconst 0, 1) := by decide +kernel
theorem dX0_count_1 : decode cX0_count 1 = .ok (.istore_n 2, 1) := by decide +kernel
theorem dX0_count_2 : decode cX0_count 2 = .ok (.iconst 0, 1) := by decide +kernel
theorem dX0_count_3 : decode cX0_count 3 = .ok (.istore_n 3, 1) := by decide +kernel
theorem dX0_count_4 : decode cX0_count 4 = .ok (.iload_n 3, 1) := by decide +kernel
theorem dX0_count_5 : decode cX0_count 5 = .ok (.sipush 512, 3) := by decide +kernel
theorem dX0_count_8 : decode cX0_count 8 = .ok (.if_icmp .ge 33, 3) := by decide +kernel
theorem dX0_count_11 : decode cX0_count 11 = .ok (.aload_n 0, 1) := by decide +kernel
theorem dX0_count_12 : decode cX0_count 12 = .ok (.getfield 9, 3) := by decide +kernel
theorem dX0_count_15 : decode cX0_count 15 = .ok (.iload_n 3, 1) := by decide +kernel
theorem dX0_count_16 : decode cX0_count 16 = .ok (.baload, 1) := by decide +kernel
theorem dX0_count_17 : decode cX0_count 17 = .ok (.ifCond .eq 18, 3) := by decide +kernel
theorem dX0_count_20 : decode cX0_count 20 = .ok (.iload_n 1, 1) := by decide +kernel
theorem dX0_count_21 : decode cX0_count 21 = .ok (.ifCond .eq 11, 3) := by decide +kernel
theorem dX0_count_24 : decode cX0_count 24 = .ok (.aload_n 0, 1) := by decide +kernel
theorem dX0_count_25 : decode cX0_count 25 = .ok (.iload_n 3, 1) := by decide +kernel
theorem dX0_count_26 : decode cX0_count 26 = .ok (.invokevirtual 78, 3) := by decide +kernel
theorem dX0_count_29 : decode cX0_count 29 = .ok (.ifCond .eq 6, 3) := by decide +kernel
theorem dX0_count_32 : decode cX0_count 32 = .ok (.iinc 2 1, 3) := by decide +kernel
theorem dX0_count_35 : decode cX0_count 35 = .ok (.iinc 3 1, 3) := by decide +kernel
theorem dX0_count_38 : decode cX0_count 38 = .ok (.goto (-34), 3) := by decide +kernel
theorem dX0_count_41 : decode cX0_count 41 = .ok (.iload_n 2, 1) := by decide +kernel
theorem dX0_count_42 : decode cX0_count 42 = .ok (.ireturn, 1) := by decide +kernel
theorem dX0_time_0 : decode cX0_time 0 = .ok (.aload_n 0, 1) := by decide +kernel
theorem dX0_time_1 : decode cX0_time 1 = .ok (.getfield 23, 3) := by decide +kernel
theorem dX0_time_4 : decode cX0_time 4 = .ok (.ireturn, 1) := by decide +kernel
theorem dX0_exists_0 : decode cX0_exists 0 = .ok (.iload_n 1, 1) := by decide +kernel
theorem dX0_exists_1 : decode cX0_exists 1 = .ok (.ifCond .lt 23, 3) := by decide +kernel
theorem dX0_exists_4 : decode cX0_exists 4 = .ok (.iload_n 1, 1) := by decide +kernel
theorem dX0_exists_5 : decode cX0_exists 5 = .ok (.sipush 512, 3) := by decide +kernel
theorem dX0_exists_8 : decode cX0_exists 8 = .ok (.if_icmp .ge 16, 3) := by decide +kernel
theorem dX0_exists_11 : decode cX0_exists 11 = .ok (.aload_n 0, 1) := by decide +kernel
theorem dX0_exists_12 : decode cX0_exists 12 = .ok (.getfield 9, 3) := by decide +kernel
theorem dX0_exists_15 : decode cX0_exists 15 = .ok (.iload_n 1, 1) := by decide +kernel
theorem dX0_exists_16 : decode cX0_exists 16 = .ok (.baload, 1) := by decide +kernel
theorem dX0_exists_17 : decode cX0_exists 17 = .ok (.ifCond .eq 7, 3) := by decide +kernel
theorem dX0_exists_20 : decode cX0_exists 20 = .ok (.iconst 1, 1) := by decide +kernel
theorem dX0_exists_21 : decode cX0_exists 21 = .ok (.goto 4, 3) := by decide +kernel
theorem dX0_exists_24 : decode cX0_exists 24 = .ok (.iconst 0, 1) := by decide +kernel
theorem dX0_exists_25 : decode cX0_exists 25 = .ok (.ireturn, 1) := by decide +kernel
theorem dX0_isReady_0 : decode cX0_isReady 0 = .ok (.aload_n 0, 1) := by decide +kernel
theorem dX0_isReady_1 : decode cX0_isReady 1 = .ok (.getfield 13, 3) := by decide +kernel
theorem dX0_isReady_4 : decode cX0_isReady 4 = .ok (.iload_n 1, 1) := by decide +kernel
theorem dX0_isReady_5 : decode cX0_isReady 5 = .ok (.iaload, 1) := by decide +kernel
theorem dX0_isReady_6 : decode cX0_isReady 6 = .ok (.aload_n 0, 1) := by decide +kernel
theorem dX0_isReady_7 : decode cX0_isReady 7 = .ok (.getfield 23, 3) := by decide +kernel
theorem dX0_isReady_10 : decode cX0_isReady 10 = .ok (.if_icmp .gt 7, 3) := by decide +kernel
theorem dX0_isReady_13 : decode cX0_isReady 13 = .ok (.iconst 1, 1) := by decide +kernel
theorem dX0_isReady_14 : decode cX0_isReady 14 = .ok (.goto 4, 3) := by decide +kernel
theorem dX0_isReady_17 : decode cX0_isReady 17 = .ok (.iconst 0, 1) := by decide +kernel
theorem dX0_isReady_18 : decode cX0_isReady 18 = .ok (.ireturn, 1) := by decide +kernel
theorem dX0_canBeAhead_0 : decode cX0_canBeAhead 0 = .ok (.iload_n 0, 1) := by decide +kernel
theorem dX0_canBeAhead_1 : decode cX0_canBeAhead 1 = .ok (.ifCond .lt 13, 3) := by decide +kernel
theorem dX0_canBeAhead_4 : decode cX0_canBeAhead 4 = .ok (.iload_n 0, 1) := by decide +kernel
theorem dX0_canBeAhead_5 : decode cX0_canBeAhead 5 = .ok (.ldc 83, 2) := by decide +kernel
theorem dX0_canBeAhead_7 : decode cX0_canBeAhead 7 = .ok (.if_icmp .gt 7, 3) := by decide +kernel
theorem dX0_canBeAhead_10 : decode cX0_canBeAhead 10 = .ok (.iconst 1, 1) := by decide +kernel
theorem dX0_canBeAhead_11 : decode cX0_canBeAhead 11 = .ok (.goto 4, 3) := by decide +kernel
theorem dX0_canBeAhead_14 : decode cX0_canBeAhead 14 = .ok (.iconst 0, 1) := by decide +kernel
theorem dX0_canBeAhead_15 : decode cX0_canBeAhead 15 = .ok (.ireturn, 1) := by decide +kernel
theorem dX0_isBehindLastTime_0 : decode cX0_isBehindLastTime 0 = .ok (.iload_n 1, 1) := by decide +kernel
theorem dX0_isBehindLastTime_1 : decode cX0_isBehindLastTime 1 = .ok (.ldc 83, 2) := by decide +kernel
theorem dX0_isBehindLastTime_3 : decode cX0_isBehindLastTime 3 = .ok (.aload_n 0, 1) := by decide +kernel
theorem dX0_isBehindLastTime_4 : decode cX0_isBehindLastTime 4 = .ok (.getfield 23, 3) := by decide +kernel
theorem dX0_isBehindLastTime_7 : decode cX0_isBehindLastTime 7 = .ok (.isub, 1) := by decide +kernel
theorem dX0_isBehindLastTime_8 : decode cX0_isBehindLastTime 8 = .ok (.if_icmp .le 7, 3) := by decide +kernel
theorem dX0_isBehindLastTime_11 : decode cX0_isBehindLastTime 11 = .ok (.iconst 1, 1) := by decide +kernel
theorem dX0_isBehindLastTime_12 : decode cX0_isBehindLastTime 12 = .ok (.goto 4, 3) := by decide +kernel
theorem dX0_isBehindLastTime_15 : decode cX0_isBehindLastTime 15 = .ok (.iconst 0, 1) := by decide +kernel
theorem dX0_isBehindLastTime_16 : decode cX0_isBehindLastTime 16 = .ok (.ireturn, 1) := by decide +kernel
theorem dX0_putAhead_0 : decode cX0_putAhead 0 = .ok (.aload_n 0, 1) := by decide +kernel
theorem dX0_putAhead_1 : decode cX0_putAhead 1 = .ok (.getfield 13, 3) := by decide +kernel
theorem dX0_putAhead_4 : decode cX0_putAhead 4 = .ok (.iload_n 1, 1) := by decide +kernel
theorem dX0_putAhead_5 : decode cX0_putAhead 5 = .ok (.aload_n 0, 1) := by decide +kernel
theorem dX0_putAhead_6 : decode cX0_putAhead 6 = .ok (.getfield 23, 3) := by decide +kernel
theorem dX0_putAhead_9 : decode cX0_putAhead 9 = .ok (.iload_n 2, 1) := by decide +kernel
theorem dX0_putAhead_10 : decode cX0_putAhead 10 = .ok (.iadd, 1) := by decide +kernel
theorem dX0_putAhead_11 : decode cX0_putAhead 11 = .ok (.iastore, 1) := by decide +kernel
theorem dX0_putAhead_12 : decode cX0_putAhead 12 = .ok (.aload_n 0, 1) := by decide +kernel
theorem dX0_putAhead_13 : decode cX0_putAhead 13 = .ok (.dup, 1) := by decide +kernel
theorem dX0_putAhead_14 : decode cX0_putAhead 14 = .ok (.getfield 27, 3) := by decide +kernel
theorem dX0_putAhead_17 : decode cX0_putAhead 17 = .ok (.iconst 1, 1) := by decide +kernel
theorem dX0_putAhead_18 : decode cX0_putAhead 18 = .ok (.iadd, 1) := by decide +kernel
theorem dX0_putAhead_19 : decode cX0_putAhead 19 = .ok (.putfield 27, 3) := by decide +kernel
theorem dX0_putAhead_22 : decode cX0_putAhead 22 = .ok (.aload_n 0, 1) := by decide +kernel
theorem dX0_putAhead_23 : decode cX0_putAhead 23 = .ok (.getfield 20, 3) := by decide +kernel
theorem dX0_putAhead_26 : decode cX0_putAhead 26 = .ok (.iload_n 1, 1) := by decide +kernel
theorem dX0_putAhead_27 : decode cX0_putAhead 27 = .ok (.aload_n 0, 1) := by decide +kernel
theorem dX0_putAhead_28 : decode cX0_putAhead 28 = .ok (.getfield 27, 3) := by decide +kernel
theorem dX0_putAhead_31 : decode cX0_putAhead 31 = .ok (.iastore, 1) := by decide +kernel
theorem dX0_putAhead_32 : decode cX0_putAhead 32 = .ok (.return_, 1) := by decide +kernel
theorem dX0_leastFree_0 : decode cX0_leastFree 0 = .ok (.iconst 0, 1) := by decide +kernel
theorem dX0_leastFree_1 : decode cX0_leastFree 1 = .ok (.istore_n 1, 1) := by decide +kernel
theorem dX0_leastFree_2 : decode cX0_leastFree 2 = .ok (.iload_n 1, 1) := by decide +kernel
theorem dX0_leastFree_3 : decode cX0_leastFree 3 = .ok (.sipush 512, 3) := by decide +kernel
theorem dX0_leastFree_6 : decode cX0_leastFree 6 = .ok (.if_icmp .ge 20, 3) := by decide +kernel
theorem dX0_leastFree_9 : decode cX0_leastFree 9 = .ok (.aload_n 0, 1) := by decide +kernel
theorem dX0_leastFree_10 : decode cX0_leastFree 10 = .ok (.getfield 9, 3) := by decide +kernel
theorem dX0_leastFree_13 : decode cX0_leastFree 13 = .ok (.iload_n 1, 1) := by decide +kernel
theorem dX0_leastFree_14 : decode cX0_leastFree 14 = .ok (.baload, 1) := by decide +kernel
theorem dX0_leastFree_15 : decode cX0_leastFree 15 = .ok (.ifCond .ne 5, 3) := by decide +kernel
theorem dX0_leastFree_18 : decode cX0_leastFree 18 = .ok (.iload_n 1, 1) := by decide +kernel
theorem dX0_leastFree_19 : decode cX0_leastFree 19 = .ok (.ireturn, 1) := by decide +kernel
theorem dX0_leastFree_20 : decode cX0_leastFree 20 = .ok (.iinc 1 1, 3) := by decide +kernel
theorem dX0_leastFree_23 : decode cX0_leastFree 23 = .ok (.goto (-21), 3) := by decide +kernel
theorem dX0_leastFree_26 : decode cX0_leastFree 26 = .ok (.iconst (-1), 1) := by decide +kernel
theorem dX0_leastFree_27 : decode cX0_leastFree 27 = .ok (.ireturn, 1) := by decide +kernel
theorem dX0_first_0 : decode cX0_first 0 = .ok (.iconst (-1), 1) := by decide +kernel
theorem dX0_first_1 : decode cX0_first 1 = .ok (.istore_n 1, 1) := by decide +kernel
theorem dX0_first_2 : decode cX0_first 2 = .ok (.iconst 0, 1) := by decide +kernel
theorem dX0_first_3 : decode cX0_first 3 = .ok (.istore_n 2, 1) := by decide +kernel
theorem dX0_first_4 : decode cX0_first 4 = .ok (.iload_n 2, 1) := by decide +kernel
theorem dX0_first_5 : decode cX0_first 5 = .ok (.sipush 512, 3) := by decide +kernel
theorem dX0_first_8 : decode cX0_first 8 = .ok (.if_icmp .ge 34, 3) := by decide +kernel
theorem dX0_first_11 : decode cX0_first 11 = .ok (.aload_n 0, 1) := by decide +kernel
theorem dX0_first_12 : decode cX0_first 12 = .ok (.getfield 9, 3) := by decide +kernel
theorem dX0_first_15 : decode cX0_first 15 = .ok (.iload_n 2, 1) := by decide +kernel
theorem dX0_first_16 : decode cX0_first 16 = .ok (.baload, 1) := by decide +kernel
theorem dX0_first_17 : decode cX0_first 17 = .ok (.ifCond .eq 19, 3) := by decide +kernel
theorem dX0_first_20 : decode cX0_first 20 = .ok (.iload_n 1, 1) := by decide +kernel
theorem dX0_first_21 : decode cX0_first 21 = .ok (.iconst (-1), 1) := by decide +kernel
theorem dX0_first_22 : decode cX0_first 22 = .ok (.if_icmp .eq 12, 3) := by decide +kernel
theorem dX0_first_25 : decode cX0_first 25 = .ok (.aload_n 0, 1) := by decide +kernel
theorem dX0_first_26 : decode cX0_first 26 = .ok (.iload_n 2, 1) := by decide +kernel
theorem dX0_first_27 : decode cX0_first 27 = .ok (.iload_n 1, 1) := by decide +kernel
theorem dX0_first_28 : decode cX0_first 28 = .ok (.invokevirtual 84, 3) := by decide +kernel
theorem dX0_first_31 : decode cX0_first 31 = .ok (.ifCond .eq 5, 3) := by decide +kernel
theorem dX0_first_34 : decode cX0_first 34 = .ok (.iload_n 2, 1) := by decide +kernel
theorem dX0_first_35 : decode cX0_first 35 = .ok (.istore_n 1, 1) := by decide +kernel
theorem dX0_first_36 : decode cX0_first 36 = .ok (.iinc 2 1, 3) := by decide +kernel
theorem dX0_first_39 : decode cX0_first 39 = .ok (.goto (-35), 3) := by decide +kernel
theorem dX0_first_42 : decode cX0_first 42 = .ok (.iload_n 1, 1) := by decide +kernel
theorem dX0_first_43 : decode cX0_first 43 = .ok (.ireturn, 1) := by decide +kernel
theorem dX0_isBefore_0 : decode cX0_isBefore 0 = .ok (.aload_n 0, 1) := by decide +kernel
theorem dX0_isBefore_1 : decode cX0_isBefore 1 = .ok (.getfield 13, 3) := by decide +kernel
theorem dX0_isBefore_4 : decode cX0_isBefore 4 = .ok (.iload_n 1, 1) := by decide +kernel
theorem dX0_isBefore_5 : decode cX0_isBefore 5 = .ok (.iaload, 1) := by decide +kernel
theorem dX0_isBefore_6 : decode cX0_isBefore 6 = .ok (.aload_n 0, 1) := by decide +kernel
theorem dX0_isBefore_7 : decode cX0_isBefore 7 = .ok (.getfield 13, 3) := by decide +kernel
theorem dX0_isBefore_10 : decode cX0_isBefore 10 = .ok (.iload_n 2, 1) := by decide +kernel
theorem dX0_isBefore_11 : decode cX0_isBefore 11 = .ok (.iaload, 1) := by decide +kernel
theorem dX0_isBefore_12 : decode cX0_isBefore 12 = .ok (.if_icmp .eq 24, 3) := by decide +kernel
theorem dX0_isBefore_15 : decode cX0_isBefore 15 = .ok (.aload_n 0, 1) := by decide +kernel
theorem dX0_isBefore_16 : decode cX0_isBefore 16 = .ok (.getfield 13, 3) := by decide +kernel
theorem dX0_isBefore_19 : decode cX0_isBefore 19 = .ok (.iload_n 1, 1) := by decide +kernel
theorem dX0_isBefore_20 : decode cX0_isBefore 20 = .ok (.iaload, 1) := by decide +kernel
theorem dX0_isBefore_21 : decode cX0_isBefore 21 = .ok (.aload_n 0, 1) := by decide +kernel
theorem dX0_isBefore_22 : decode cX0_isBefore 22 = .ok (.getfield 13, 3) := by decide +kernel
theorem dX0_isBefore_25 : decode cX0_isBefore 25 = .ok (.iload_n 2, 1) := by decide +kernel
theorem dX0_isBefore_26 : decode cX0_isBefore 26 = .ok (.iaload, 1) := by decide +kernel
theorem dX0_isBefore_27 : decode cX0_isBefore 27 = .ok (.if_icmp .ge 7, 3) := by decide +kernel
theorem dX0_isBefore_30 : decode cX0_isBefore 30 = .ok (.iconst 1, 1) := by decide +kernel
theorem dX0_isBefore_31 : decode cX0_isBefore 31 = .ok (.goto 4, 3) := by decide +kernel
theorem dX0_isBefore_34 : decode cX0_isBefore 34 = .ok (.iconst 0, 1) := by decide +kernel
theorem dX0_isBefore_35 : decode cX0_isBefore 35 = .ok (.ireturn, 1) := by decide +kernel
theorem dX0_isBefore_36 : decode cX0_isBefore 36 = .ok (.aload_n 0, 1) := by decide +kernel
theorem dX0_isBefore_37 : decode cX0_isBefore 37 = .ok (.getfield 20, 3) := by decide +kernel
theorem dX0_isBefore_40 : decode cX0_isBefore 40 = .ok (.iload_n 1, 1) := by decide +kernel
theorem dX0_isBefore_41 : decode cX0_isBefore 41 = .ok (.iaload, 1) := by decide +kernel
theorem dX0_isBefore_42 : decode cX0_isBefore 42 = .ok (.aload_n 0, 1) := by decide +kernel
theorem dX0_isBefore_43 : decode cX0_isBefore 43 = .ok (.getfield 20, 3) := by decide +kernel
theorem dX0_isBefore_46 : decode cX0_isBefore 46 = .ok (.iload_n 2, 1) := by decide +kernel
theorem dX0_isBefore_47 : decode cX0_isBefore 47 = .ok (.iaload, 1) := by decide +kernel
theorem dX0_isBefore_48 : decode cX0_isBefore 48 = .ok (.if_icmp .ge 7, 3) := by decide +kernel
theorem dX0_isBefore_51 : decode cX0_isBefore 51 = .ok (.iconst 1, 1) := by decide +kernel
theorem dX0_isBefore_52 : decode cX0_isBefore 52 = .ok (.goto 4, 3) := by decide +kernel
theorem dX0_isBefore_55 : decode cX0_isBefore 55 = .ok (.iconst 0, 1) := by decide +kernel
theorem dX0_isBefore_56 : decode cX0_isBefore 56 = .ok (.ireturn, 1) := by decide +kernel
end
section
theorem dL_set_0 : decode cL_set 0 = .ok (.aload_n 3, 1) := by decide +kernel
theorem dL_set_1 : decode cL_set 1 = .ok (.iconst 0, 1) := by decide +kernel
theorem dL_set_2 : decode cL_set 2 = .ok (.aload_n 0, 1) := by decide +kernel
theorem dL_set_3 : decode cL_set 3 = .ok (.iload_n 1, 1) := by decide +kernel
theorem dL_set_4 : decode cL_set 4 = .ok (.iload_n 2, 1) := by decide +kernel
theorem dL_set_5 : decode cL_set 5 = .ok (.invokevirtual 7, 3) := by decide +kernel
theorem dL_set_8 : decode cL_set 8 = .ok (.i2l, 1) := by decide +kernel
theorem dL_set_9 : decode cL_set 9 = .ok (.lastore, 1) := by decide +kernel
theorem dL_set_10 : decode cL_set 10 = .ok (.goto 11, 3) := by decide +kernel
theorem dL_set_13 : decode cL_set 13 = .ok (.astore 4, 2) := by decide +kernel
theorem dL_set_15 : decode cL_set 15 = .ok (.iconst 1, 1) := by decide +kernel
theorem dL_set_16 : decode cL_set 16 = .ok (.ireturn, 1) := by decide +kernel
theorem dL_set_17 : decode cL_set 17 = .ok (.astore 4, 2) := by decide +kernel
theorem dL_set_19 : decode cL_set 19 = .ok (.iconst 2, 1) := by decide +kernel
theorem dL_set_20 : decode cL_set 20 = .ok (.ireturn, 1) := by decide +kernel
theorem dL_set_21 : decode cL_set 21 = .ok (.iconst 0, 1) := by decide +kernel
theorem dL_set_22 : decode cL_set 22 = .ok (.ireturn, 1) := by decide +kernel
theorem dL_shift_0 : decode cL_shift 0 = .ok (.aload_n 3, 1) := by decide +kernel
theorem dL_shift_1 : decode cL_shift 1 = .ok (.iconst 0, 1) := by decide +kernel
theorem dL_shift_2 : decode cL_shift 2 = .ok (.aload_n 0, 1) := by decide +kernel
theorem dL_shift_3 : decode cL_shift 3 = .ok (.iload_n 1, 1) := by decide +kernel
theorem dL_shift_4 : decode cL_shift 4 = .ok (.iload_n 2, 1) := by decide +kernel
theorem dL_shift_5 : decode cL_shift 5 = .ok (.invokevirtual 17, 3) := by decide +kernel
theorem dL_shift_8 : decode cL_shift 8 = .ok (.i2l, 1) := by decide +kernel
theorem dL_shift_9 : decode cL_shift 9 = .ok (.lastore, 1) := by decide +kernel
theorem dL_shift_10 : decode cL_shift 10 = .ok (.goto 11, 3) := by decide +kernel
theorem dL_shift_13 : decode cL_shift 13 = .ok (.astore 4, 2) := by decide +kernel
theorem dL_shift_15 : decode cL_shift 15 = .ok (.iconst 1, 1) := by decide +kernel
theorem dL_shift_16 : decode cL_shift 16 = .ok (.ireturn, 1) := by decide +kernel
theorem dL_shift_17 : decode cL_shift 17 = .ok (.astore 4, 2) := by decide +kernel
theorem dL_shift_19 : decode cL_shift 19 = .ok (.iconst 2, 1) := by decide +kernel
theorem dL_shift_20 : decode cL_shift 20 = .ok (.ireturn, 1) := by decide +kernel
theorem dL_shift_21 : decode cL_shift 21 = .ok (.iconst 0, 1) := by decide +kernel
theorem dL_shift_22 : decode cL_shift 22 = .ok (.ireturn, 1) := by decide +kernel
theorem dL_stop_0 : decode cL_stop 0 = .ok (.aload_n 2, 1) := by decide +kernel
theorem dL_stop_1 : decode cL_stop 1 = .ok (.iconst 0, 1) := by decide +kernel
theorem dL_stop_2 : decode cL_stop 2 = .ok (.aload_n 0, 1) := by decide +kernel
theorem dL_stop_3 : decode cL_stop 3 = .ok (.iload_n 1, 1) := by decide +kernel
theorem dL_stop_4 : decode cL_stop 4 = .ok (.invokevirtual 20, 3) := by decide +kernel
theorem dL_stop_7 : decode cL_stop 7 = .ok (.i2l, 1) := by decide +kernel
theorem dL_stop_8 : decode cL_stop 8 = .ok (.lastore, 1) := by decide +kernel
theorem dL_stop_9 : decode cL_stop 9 = .ok (.goto 6, 3) := by decide +kernel
theorem dL_stop_12 : decode cL_stop 12 = .ok (.astore_n 3, 1) := by decide +kernel
theorem dL_stop_13 : decode cL_stop 13 = .ok (.iconst 1, 1) := by decide +kernel
theorem dL_stop_14 : decode cL_stop 14 = .ok (.ireturn, 1) := by decide +kernel
theorem dL_stop_15 : decode cL_stop 15 = .ok (.iconst 0, 1) := by decide +kernel
theorem dL_stop_16 : decode cL_stop 16 = .ok (.ireturn, 1) := by decide +kernel
theorem dL_pass_0 : decode cL_pass 0 = .ok (.aload_n 2, 1) := by decide +kernel
theorem dL_pass_1 : decode cL_pass 1 = .ok (.iconst 0, 1) := by decide +kernel
theorem dL_pass_2 : decode cL_pass 2 = .ok (.aload_n 0, 1) := by decide +kernel
theorem dL_pass_3 : decode cL_pass 3 = .ok (.iload_n 1, 1) := by decide +kernel
theorem dL_pass_4 : decode cL_pass 4 = .ok (.invokevirtual 24, 3) := by decide +kernel
theorem dL_pass_7 : decode cL_pass 7 = .ok (.i2l, 1) := by decide +kernel
theorem dL_pass_8 : decode cL_pass 8 = .ok (.lastore, 1) := by decide +kernel
theorem dL_pass_9 : decode cL_pass 9 = .ok (.goto 9, 3) := by decide +kernel
theorem dL_pass_12 : decode cL_pass 12 = .ok (.astore_n 3, 1) := by decide +kernel
theorem dL_pass_13 : decode cL_pass 13 = .ok (.iconst 1, 1) := by decide +kernel
theorem dL_pass_14 : decode cL_pass 14 = .ok (.ireturn, 1) := by decide +kernel
theorem dL_pass_15 : decode cL_pass 15 = .ok (.astore_n 3, 1) := by decide +kernel
theorem dL_pass_16 : decode cL_pass 16 = .ok (.iconst 2, 1) := by decide +kernel
theorem dL_pass_17 : decode cL_pass 17 = .ok (.ireturn, 1) := by decide +kernel
theorem dL_pass_18 : decode cL_pass 18 = .ok (.iconst 0, 1) := by decide +kernel
theorem dL_pass_19 : decode cL_pass 19 = .ok (.ireturn, 1) := by decide +kernel
theorem dL_about_0 : decode cL_about 0 = .ok (.aload_n 3, 1) := by decide +kernel
theorem dL_about_1 : decode cL_about 1 = .ok (.iconst 0, 1) := by decide +kernel
theorem dL_about_2 : decode cL_about 2 = .ok (.aload_n 0, 1) := by decide +kernel
theorem dL_about_3 : decode cL_about 3 = .ok (.iload_n 1, 1) := by decide +kernel
theorem dL_about_4 : decode cL_about 4 = .ok (.iload_n 2, 1) := by decide +kernel
theorem dL_about_5 : decode cL_about 5 = .ok (.invokevirtual 27, 3) := by decide +kernel
theorem dL_about_8 : decode cL_about 8 = .ok (.i2l, 1) := by decide +kernel
theorem dL_about_9 : decode cL_about 9 = .ok (.lastore, 1) := by decide +kernel
theorem dL_about_10 : decode cL_about 10 = .ok (.goto 7, 3) := by decide +kernel
theorem dL_about_13 : decode cL_about 13 = .ok (.astore 4, 2) := by decide +kernel
theorem dL_about_15 : decode cL_about 15 = .ok (.iconst 1, 1) := by decide +kernel
theorem dL_about_16 : decode cL_about 16 = .ok (.ireturn, 1) := by decide +kernel
theorem dL_about_17 : decode cL_about 17 = .ok (.iconst 0, 1) := by decide +kernel
theorem dL_about_18 : decode cL_about 18 = .ok (.ireturn, 1) := by decide +kernel
theorem dL_law_0 : decode cL_law 0 = .ok (.new 8, 3) := by decide +kernel
theorem dL_law_3 : decode cL_law 3 = .ok (.dup, 1) := by decide +kernel
theorem dL_law_4 : decode cL_law 4 = .ok (.invokespecial 30, 3) := by decide +kernel
theorem dL_law_7 : decode cL_law 7 = .ok (.astore_n 1, 1) := by decide +kernel
theorem dL_law_8 : decode cL_law 8 = .ok (.new 31, 3) := by decide +kernel
theorem dL_law_11 : decode cL_law 11 = .ok (.dup, 1) := by decide +kernel
theorem dL_law_12 : decode cL_law 12 = .ok (.invokespecial 33, 3) := by decide +kernel
theorem dL_law_15 : decode cL_law 15 = .ok (.astore_n 2, 1) := by decide +kernel
theorem dL_law_16 : decode cL_law 16 = .ok (.iconst 1, 1) := by decide +kernel
theorem dL_law_17 : decode cL_law 17 = .ok (.newarray .long, 2) := by decide +kernel
theorem dL_law_19 : decode cL_law 19 = .ok (.astore_n 3, 1) := by decide +kernel
theorem dL_law_20 : decode cL_law 20 = .ok (.iconst 0, 1) := by decide +kernel
theorem dL_law_21 : decode cL_law 21 = .ok (.istore 4, 2) := by decide +kernel
theorem dL_law_23 : decode cL_law 23 = .ok (.iload 4, 2) := by decide +kernel
theorem dL_law_25 : decode cL_law 25 = .ok (.aload_n 0, 1) := by decide +kernel
theorem dL_law_26 : decode cL_law 26 = .ok (.arraylength, 1) := by decide +kernel
theorem dL_law_27 : decode cL_law 27 = .ok (.iconst 3, 1) := by decide +kernel
theorem dL_law_28 : decode cL_law 28 = .ok (.isub, 1) := by decide +kernel
theorem dL_law_29 : decode cL_law 29 = .ok (.if_icmp .gt 524, 3) := by decide +kernel
theorem dL_law_32 : decode cL_law 32 = .ok (.aload_n 0, 1) := by decide +kernel
theorem dL_law_33 : decode cL_law 33 = .ok (.iload 4, 2) := by decide +kernel
theorem dL_law_35 : decode cL_law 35 = .ok (.iaload, 1) := by decide +kernel
theorem dL_law_36 : decode cL_law 36 = .ok (.bipush 15, 2) := by decide +kernel
theorem dL_law_38 : decode cL_law 38 = .ok (.iand, 1) := by decide +kernel
theorem dL_law_39 : decode cL_law 39 = .ok (.tableswitch 508 0 11 #[61, 129, 197, 253, 278, 334, 347, 360, 373, 386, 454, 495], 61) := by decide +kernel
theorem dL_law_100 : decode cL_law 100 = .ok (.aload_n 1, 1) := by decide +kernel
theorem dL_law_101 : decode cL_law 101 = .ok (.aload_n 0, 1) := by decide +kernel
theorem dL_law_102 : decode cL_law 102 = .ok (.iload 4, 2) := by decide +kernel
theorem dL_law_104 : decode cL_law 104 = .ok (.iconst 1, 1) := by decide +kernel
theorem dL_law_105 : decode cL_law 105 = .ok (.iadd, 1) := by decide +kernel
theorem dL_law_106 : decode cL_law 106 = .ok (.iaload, 1) := by decide +kernel
theorem dL_law_107 : decode cL_law 107 = .ok (.aload_n 0, 1) := by decide +kernel
theorem dL_law_108 : decode cL_law 108 = .ok (.iload 4, 2) := by decide +kernel
theorem dL_law_110 : decode cL_law 110 = .ok (.iconst 2, 1) := by decide +kernel
theorem dL_law_111 : decode cL_law 111 = .ok (.iadd, 1) := by decide +kernel
theorem dL_law_112 : decode cL_law 112 = .ok (.iaload, 1) := by decide +kernel
theorem dL_law_113 : decode cL_law 113 = .ok (.aload_n 3, 1) := by decide +kernel
theorem dL_law_114 : decode cL_law 114 = .ok (.invokestatic 34, 3) := by decide +kernel
theorem dL_law_117 : decode cL_law 117 = .ok (.istore 5, 2) := by decide +kernel
theorem dL_law_119 : decode cL_law 119 = .ok (.aload_n 2, 1) := by decide +kernel
theorem dL_law_120 : decode cL_law 120 = .ok (.aload_n 0, 1) := by decide +kernel
theorem dL_law_121 : decode cL_law 121 = .ok (.iload 4, 2) := by decide +kernel
theorem dL_law_123 : decode cL_law 123 = .ok (.iconst 1, 1) := by decide +kernel
theorem dL_law_124 : decode cL_law 124 = .ok (.iadd, 1) := by decide +kernel
theorem dL_law_125 : decode cL_law 125 = .ok (.iaload, 1) := by decide +kernel
theorem dL_law_126 : decode cL_law 126 = .ok (.aload_n 0, 1) := by decide +kernel
theorem dL_law_127 : decode cL_law 127 = .ok (.iload 4, 2) := by decide +kernel
theorem dL_law_129 : decode cL_law 129 = .ok (.iconst 2, 1) := by decide +kernel
theorem dL_law_130 : decode cL_law 130 = .ok (.iadd, 1) := by decide +kernel
theorem dL_law_131 : decode cL_law 131 = .ok (.iaload, 1) := by decide +kernel
theorem dL_law_132 : decode cL_law 132 = .ok (.invokevirtual 39, 3) := by decide +kernel
theorem dL_law_135 : decode cL_law 135 = .ok (.istore 6, 2) := by decide +kernel
theorem dL_law_137 : decode cL_law 137 = .ok (.aload_n 2, 1) := by decide +kernel
theorem dL_law_138 : decode cL_law 138 = .ok (.invokevirtual 40, 3) := by decide +kernel
theorem dL_law_141 : decode cL_law 141 = .ok (.iload 5, 2) := by decide +kernel
theorem dL_law_143 : decode cL_law 143 = .ok (.if_icmp .eq 5, 3) := by decide +kernel
theorem dL_law_146 : decode cL_law 146 = .ok (.iconst 0, 1) := by decide +kernel
theorem dL_law_147 : decode cL_law 147 = .ok (.ireturn, 1) := by decide +kernel
theorem dL_law_148 : decode cL_law 148 = .ok (.iload 5, 2) := by decide +kernel
theorem dL_law_150 : decode cL_law 150 = .ok (.ifCond .ne 15, 3) := by decide +kernel
theorem dL_law_153 : decode cL_law 153 = .ok (.aload_n 3, 1) := by decide +kernel
theorem dL_law_154 : decode cL_law 154 = .ok (.iconst 0, 1) := by decide +kernel
theorem dL_law_155 : decode cL_law 155 = .ok (.laload, 1) := by decide +kernel
theorem dL_law_156 : decode cL_law 156 = .ok (.iload 6, 2) := by decide +kernel
theorem dL_law_158 : decode cL_law 158 = .ok (.i2l, 1) := by decide +kernel
theorem dL_law_159 : decode cL_law 159 = .ok (.lcmp, 1) := by decide +kernel
theorem dL_law_160 : decode cL_law 160 = .ok (.ifCond .eq 5, 3) := by decide +kernel
theorem dL_law_163 : decode cL_law 163 = .ok (.iconst 0, 1) := by decide +kernel
theorem dL_law_164 : decode cL_law 164 = .ok (.ireturn, 1) := by decide +kernel
theorem dL_law_165 : decode cL_law 165 = .ok (.goto 382, 3) := by decide +kernel
theorem dL_law_168 : decode cL_law 168 = .ok (.aload_n 1, 1) := by decide +kernel
theorem dL_law_169 : decode cL_law 169 = .ok (.aload_n 0, 1) := by decide +kernel
theorem dL_law_170 : decode cL_law 170 = .ok (.iload 4, 2) := by decide +kernel
theorem dL_law_172 : decode cL_law 172 = .ok (.iconst 1, 1) := by decide +kernel
theorem dL_law_173 : decode cL_law 173 = .ok (.iadd, 1) := by decide +kernel
theorem dL_law_174 : decode cL_law 174 = .ok (.iaload, 1) := by decide +kernel
theorem dL_law_175 : decode cL_law 175 = .ok (.aload_n 0, 1) := by decide +kernel
theorem dL_law_176 : decode cL_law 176 = .ok (.iload 4, 2) := by decide +kernel
theorem dL_law_178 : decode cL_law 178 = .ok (.iconst 2, 1) := by decide +kernel
theorem dL_law_179 : decode cL_law 179 = .ok (.iadd, 1) := by decide +kernel
theorem dL_law_180 : decode cL_law 180 = .ok (.iaload, 1) := by decide +kernel
theorem dL_law_181 : decode cL_law 181 = .ok (.aload_n 3, 1) := by decide +kernel
theorem dL_law_182 : decode cL_law 182 = .ok (.invokestatic 44, 3) := by decide +kernel
theorem dL_law_185 : decode cL_law 185 = .ok (.istore 5, 2) := by decide +kernel
theorem dL_law_187 : decode cL_law 187 = .ok (.aload_n 2, 1) := by decide +kernel
theorem dL_law_188 : decode cL_law 188 = .ok (.aload_n 0, 1) := by decide +kernel
theorem dL_law_189 : decode cL_law 189 = .ok (.iload 4, 2) := by decide +kernel
theorem dL_law_191 : decode cL_law 191 = .ok (.iconst 1, 1) := by decide +kernel
theorem dL_law_192 : decode cL_law 192 = .ok (.iadd, 1) := by decide +kernel
theorem dL_law_193 : decode cL_law 193 = .ok (.iaload, 1) := by decide +kernel
theorem dL_law_194 : decode cL_law 194 = .ok (.aload_n 0, 1) := by decide +kernel
theorem dL_law_195 : decode cL_law 195 = .ok (.iload 4, 2) := by decide +kernel
theorem dL_law_197 : decode cL_law 197 = .ok (.iconst 2, 1) := by decide +kernel
theorem dL_law_198 : decode cL_law 198 = .ok (.iadd, 1) := by decide +kernel
theorem dL_law_199 : decode cL_law 199 = .ok (.iaload, 1) := by decide +kernel
theorem dL_law_200 : decode cL_law 200 = .ok (.invokevirtual 46, 3) := by decide +kernel
theorem dL_law_203 : decode cL_law 203 = .ok (.istore 6, 2) := by decide +kernel
theorem dL_law_205 : decode cL_law 205 = .ok (.aload_n 2, 1) := by decide +kernel
theorem dL_law_206 : decode cL_law 206 = .ok (.invokevirtual 40, 3) := by decide +kernel
theorem dL_law_209 : decode cL_law 209 = .ok (.iload 5, 2) := by decide +kernel
theorem dL_law_211 : decode cL_law 211 = .ok (.if_icmp .eq 5, 3) := by decide +kernel
theorem dL_law_214 : decode cL_law 214 = .ok (.iconst 0, 1) := by decide +kernel
theorem dL_law_215 : decode cL_law 215 = .ok (.ireturn, 1) := by decide +kernel
theorem dL_law_216 : decode cL_law 216 = .ok (.iload 5, 2) := by decide +kernel
theorem dL_law_218 : decode cL_law 218 = .ok (.ifCond .ne 15, 3) := by decide +kernel
theorem dL_law_221 : decode cL_law 221 = .ok (.aload_n 3, 1) := by decide +kernel
theorem dL_law_222 : decode cL_law 222 = .ok (.iconst 0, 1) := by decide +kernel
theorem dL_law_223 : decode cL_law 223 = .ok (.laload, 1) := by decide +kernel
theorem dL_law_224 : decode cL_law 224 = .ok (.iload 6, 2) := by decide +kernel
theorem dL_law_226 : decode cL_law 226 = .ok (.i2l, 1) := by decide +kernel
theorem dL_law_227 : decode cL_law 227 = .ok (.lcmp, 1) := by decide +kernel
theorem dL_law_228 : decode cL_law 228 = .ok (.ifCond .eq 5, 3) := by decide +kernel
theorem dL_law_231 : decode cL_law 231 = .ok (.iconst 0, 1) := by decide +kernel
theorem dL_law_232 : decode cL_law 232 = .ok (.ireturn, 1) := by decide +kernel
theorem dL_law_233 : decode cL_law 233 = .ok (.goto 314, 3) := by decide +kernel
theorem dL_law_236 : decode cL_law 236 = .ok (.aload_n 1, 1) := by decide +kernel
theorem dL_law_237 : decode cL_law 237 = .ok (.aload_n 0, 1) := by decide +kernel
theorem dL_law_238 : decode cL_law 238 = .ok (.iload 4, 2) := by decide +kernel
theorem dL_law_240 : decode cL_law 240 = .ok (.iconst 1, 1) := by decide +kernel
theorem dL_law_241 : decode cL_law 241 = .ok (.iadd, 1) := by decide +kernel
theorem dL_law_242 : decode cL_law 242 = .ok (.iaload, 1) := by decide +kernel
theorem dL_law_243 : decode cL_law 243 = .ok (.aload_n 3, 1) := by decide +kernel
theorem dL_law_244 : decode cL_law 244 = .ok (.invokestatic 47, 3) := by decide +kernel
theorem dL_law_247 : decode cL_law 247 = .ok (.istore 5, 2) := by decide +kernel
theorem dL_law_249 : decode cL_law 249 = .ok (.aload_n 2, 1) := by decide +kernel
theorem dL_law_250 : decode cL_law 250 = .ok (.aload_n 0, 1) := by decide +kernel
theorem dL_law_251 : decode cL_law 251 = .ok (.iload 4, 2) := by decide +kernel
theorem dL_law_253 : decode cL_law 253 = .ok (.iconst 1, 1) := by decide +kernel
theorem dL_law_254 : decode cL_law 254 = .ok (.iadd, 1) := by decide +kernel
theorem dL_law_255 : decode cL_law 255 = .ok (.iaload, 1) := by decide +kernel
theorem dL_law_256 : decode cL_law 256 = .ok (.invokevirtual 50, 3) := by decide +kernel
theorem dL_law_259 : decode cL_law 259 = .ok (.istore 6, 2) := by decide +kernel
theorem dL_law_261 : decode cL_law 261 = .ok (.aload_n 2, 1) := by decide +kernel
theorem dL_law_262 : decode cL_law 262 = .ok (.invokevirtual 40, 3) := by decide +kernel
theorem dL_law_265 : decode cL_law 265 = .ok (.iload 5, 2) := by decide +kernel
theorem dL_law_267 : decode cL_law 267 = .ok (.if_icmp .eq 5, 3) := by decide +kernel
theorem dL_law_270 : decode cL_law 270 = .ok (.iconst 0, 1) := by decide +kernel
theorem dL_law_271 : decode cL_law 271 = .ok (.ireturn, 1) := by decide +kernel
theorem dL_law_272 : decode cL_law 272 = .ok (.iload 5, 2) := by decide +kernel
theorem dL_law_274 : decode cL_law 274 = .ok (.ifCond .ne 15, 3) := by decide +kernel
theorem dL_law_277 : decode cL_law 277 = .ok (.aload_n 3, 1) := by decide +kernel
theorem dL_law_278 : decode cL_law 278 = .ok (.iconst 0, 1) := by decide +kernel
theorem dL_law_279 : decode cL_law 279 = .ok (.laload, 1) := by decide +kernel
theorem dL_law_280 : decode cL_law 280 = .ok (.iload 6, 2) := by decide +kernel
theorem dL_law_282 : decode cL_law 282 = .ok (.i2l, 1) := by decide +kernel
theorem dL_law_283 : decode cL_law 283 = .ok (.lcmp, 1) := by decide +kernel
theorem dL_law_284 : decode cL_law 284 = .ok (.ifCond .eq 5, 3) := by decide +kernel
theorem dL_law_287 : decode cL_law 287 = .ok (.iconst 0, 1) := by decide +kernel
theorem dL_law_288 : decode cL_law 288 = .ok (.ireturn, 1) := by decide +kernel
theorem dL_law_289 : decode cL_law 289 = .ok (.goto 258, 3) := by decide +kernel
theorem dL_law_292 : decode cL_law 292 = .ok (.aload_n 1, 1) := by decide +kernel
theorem dL_law_293 : decode cL_law 293 = .ok (.aload_n 0, 1) := by decide +kernel
theorem dL_law_294 : decode cL_law 294 = .ok (.iload 4, 2) := by decide +kernel
theorem dL_law_296 : decode cL_law 296 = .ok (.iconst 1, 1) := by decide +kernel
theorem dL_law_297 : decode cL_law 297 = .ok (.iadd, 1) := by decide +kernel
theorem dL_law_298 : decode cL_law 298 = .ok (.iaload, 1) := by decide +kernel
theorem dL_law_299 : decode cL_law 299 = .ok (.invokevirtual 51, 3) := by decide +kernel
theorem dL_law_302 : decode cL_law 302 = .ok (.aload_n 2, 1) := by decide +kernel
theorem dL_law_303 : decode cL_law 303 = .ok (.aload_n 0, 1) := by decide +kernel
theorem dL_law_304 : decode cL_law 304 = .ok (.iload 4, 2) := by decide +kernel
theorem dL_law_306 : decode cL_law 306 = .ok (.iconst 1, 1) := by decide +kernel
theorem dL_law_307 : decode cL_law 307 = .ok (.iadd, 1) := by decide +kernel
theorem dL_law_308 : decode cL_law 308 = .ok (.iaload, 1) := by decide +kernel
theorem dL_law_309 : decode cL_law 309 = .ok (.invokevirtual 54, 3) := by decide +kernel
theorem dL_law_312 : decode cL_law 312 = .ok (.if_icmp .eq 235, 3) := by decide +kernel
theorem dL_law_315 : decode cL_law 315 = .ok (.iconst 0, 1) := by decide +kernel
theorem dL_law_316 : decode cL_law 316 = .ok (.ireturn, 1) := by decide +kernel
theorem dL_law_317 : decode cL_law 317 = .ok (.aload_n 1, 1) := by decide +kernel
theorem dL_law_318 : decode cL_law 318 = .ok (.aload_n 0, 1) := by decide +kernel
theorem dL_law_319 : decode cL_law 319 = .ok (.iload 4, 2) := by decide +kernel
theorem dL_law_321 : decode cL_law 321 = .ok (.iconst 1, 1) := by decide +kernel
theorem dL_law_322 : decode cL_law 322 = .ok (.iadd, 1) := by decide +kernel
theorem dL_law_323 : decode cL_law 323 = .ok (.iaload, 1) := by decide +kernel
theorem dL_law_324 : decode cL_law 324 = .ok (.aload_n 3, 1) := by decide +kernel
theorem dL_law_325 : decode cL_law 325 = .ok (.invokestatic 55, 3) := by decide +kernel
theorem dL_law_328 : decode cL_law 328 = .ok (.istore 5, 2) := by decide +kernel
theorem dL_law_330 : decode cL_law 330 = .ok (.aload_n 2, 1) := by decide +kernel
theorem dL_law_331 : decode cL_law 331 = .ok (.aload_n 0, 1) := by decide +kernel
theorem dL_law_332 : decode cL_law 332 = .ok (.iload 4, 2) := by decide +kernel
theorem dL_law_334 : decode cL_law 334 = .ok (.iconst 1, 1) := by decide +kernel
theorem dL_law_335 : decode cL_law 335 = .ok (.iadd, 1) := by decide +kernel
theorem dL_law_336 : decode cL_law 336 = .ok (.iaload, 1) := by decide +kernel
theorem dL_law_337 : decode cL_law 337 = .ok (.invokevirtual 57, 3) := by decide +kernel
theorem dL_law_340 : decode cL_law 340 = .ok (.istore 6, 2) := by decide +kernel
theorem dL_law_342 : decode cL_law 342 = .ok (.aload_n 2, 1) := by decide +kernel
theorem dL_law_343 : decode cL_law 343 = .ok (.invokevirtual 40, 3) := by decide +kernel
theorem dL_law_346 : decode cL_law 346 = .ok (.iload 5, 2) := by decide +kernel
theorem dL_law_348 : decode cL_law 348 = .ok (.if_icmp .eq 5, 3) := by decide +kernel
theorem dL_law_351 : decode cL_law 351 = .ok (.iconst 0, 1) := by decide +kernel
theorem dL_law_352 : decode cL_law 352 = .ok (.ireturn, 1) := by decide +kernel
theorem dL_law_353 : decode cL_law 353 = .ok (.iload 5, 2) := by decide +kernel
theorem dL_law_355 : decode cL_law 355 = .ok (.ifCond .ne 15, 3) := by decide +kernel
theorem dL_law_358 : decode cL_law 358 = .ok (.aload_n 3, 1) := by decide +kernel
theorem dL_law_359 : decode cL_law 359 = .ok (.iconst 0, 1) := by decide +kernel
theorem dL_law_360 : decode cL_law 360 = .ok (.laload, 1) := by decide +kernel
theorem dL_law_361 : decode cL_law 361 = .ok (.iload 6, 2) := by decide +kernel
theorem dL_law_363 : decode cL_law 363 = .ok (.i2l, 1) := by decide +kernel
theorem dL_law_364 : decode cL_law 364 = .ok (.lcmp, 1) := by decide +kernel
theorem dL_law_365 : decode cL_law 365 = .ok (.ifCond .eq 5, 3) := by decide +kernel
theorem dL_law_368 : decode cL_law 368 = .ok (.iconst 0, 1) := by decide +kernel
theorem dL_law_369 : decode cL_law 369 = .ok (.ireturn, 1) := by decide +kernel
theorem dL_law_370 : decode cL_law 370 = .ok (.goto 177, 3) := by decide +kernel
theorem dL_law_373 : decode cL_law 373 = .ok (.aload_n 1, 1) := by decide +kernel
theorem dL_law_374 : decode cL_law 374 = .ok (.invokevirtual 58, 3) := by decide +kernel
theorem dL_law_377 : decode cL_law 377 = .ok (.aload_n 2, 1) := by decide +kernel
theorem dL_law_378 : decode cL_law 378 = .ok (.invokevirtual 61, 3) := by decide +kernel
theorem dL_law_381 : decode cL_law 381 = .ok (.if_icmp .eq 166, 3) := by decide +kernel
theorem dL_law_384 : decode cL_law 384 = .ok (.iconst 0, 1) := by decide +kernel
theorem dL_law_385 : decode cL_law 385 = .ok (.ireturn, 1) := by decide +kernel
theorem dL_law_386 : decode cL_law 386 = .ok (.aload_n 1, 1) := by decide +kernel
theorem dL_law_387 : decode cL_law 387 = .ok (.invokevirtual 62, 3) := by decide +kernel
theorem dL_law_390 : decode cL_law 390 = .ok (.aload_n 2, 1) := by decide +kernel
theorem dL_law_391 : decode cL_law 391 = .ok (.invokevirtual 65, 3) := by decide +kernel
theorem dL_law_394 : decode cL_law 394 = .ok (.if_icmp .eq 153, 3) := by decide +kernel
theorem dL_law_397 : decode cL_law 397 = .ok (.iconst 0, 1) := by decide +kernel
theorem dL_law_398 : decode cL_law 398 = .ok (.ireturn, 1) := by decide +kernel
theorem dL_law_399 : decode cL_law 399 = .ok (.aload_n 1, 1) := by decide +kernel
theorem dL_law_400 : decode cL_law 400 = .ok (.invokevirtual 66, 3) := by decide +kernel
theorem dL_law_403 : decode cL_law 403 = .ok (.aload_n 2, 1) := by decide +kernel
theorem dL_law_404 : decode cL_law 404 = .ok (.invokevirtual 69, 3) := by decide +kernel
theorem dL_law_407 : decode cL_law 407 = .ok (.if_icmp .eq 140, 3) := by decide +kernel
theorem dL_law_410 : decode cL_law 410 = .ok (.iconst 0, 1) := by decide +kernel
theorem dL_law_411 : decode cL_law 411 = .ok (.ireturn, 1) := by decide +kernel
theorem dL_law_412 : decode cL_law 412 = .ok (.aload_n 1, 1) := by decide +kernel
theorem dL_law_413 : decode cL_law 413 = .ok (.invokevirtual 70, 3) := by decide +kernel
theorem dL_law_416 : decode cL_law 416 = .ok (.aload_n 2, 1) := by decide +kernel
theorem dL_law_417 : decode cL_law 417 = .ok (.invokevirtual 73, 3) := by decide +kernel
theorem dL_law_420 : decode cL_law 420 = .ok (.if_icmp .eq 127, 3) := by decide +kernel
theorem dL_law_423 : decode cL_law 423 = .ok (.iconst 0, 1) := by decide +kernel
theorem dL_law_424 : decode cL_law 424 = .ok (.ireturn, 1) := by decide +kernel
theorem dL_law_425 : decode cL_law 425 = .ok (.aload_n 1, 1) := by decide +kernel
theorem dL_law_426 : decode cL_law 426 = .ok (.aload_n 0, 1) := by decide +kernel
theorem dL_law_427 : decode cL_law 427 = .ok (.iload 4, 2) := by decide +kernel
theorem dL_law_429 : decode cL_law 429 = .ok (.iconst 1, 1) := by decide +kernel
theorem dL_law_430 : decode cL_law 430 = .ok (.iadd, 1) := by decide +kernel
theorem dL_law_431 : decode cL_law 431 = .ok (.iaload, 1) := by decide +kernel
theorem dL_law_432 : decode cL_law 432 = .ok (.aload_n 0, 1) := by decide +kernel
theorem dL_law_433 : decode cL_law 433 = .ok (.iload 4, 2) := by decide +kernel
theorem dL_law_435 : decode cL_law 435 = .ok (.iconst 2, 1) := by decide +kernel
theorem dL_law_436 : decode cL_law 436 = .ok (.iadd, 1) := by decide +kernel
theorem dL_law_437 : decode cL_law 437 = .ok (.iaload, 1) := by decide +kernel
theorem dL_law_438 : decode cL_law 438 = .ok (.aload_n 3, 1) := by decide +kernel
theorem dL_law_439 : decode cL_law 439 = .ok (.invokestatic 74, 3) := by decide +kernel
theorem dL_law_442 : decode cL_law 442 = .ok (.istore 5, 2) := by decide +kernel
theorem dL_law_444 : decode cL_law 444 = .ok (.aload_n 2, 1) := by decide +kernel
theorem dL_law_445 : decode cL_law 445 = .ok (.aload_n 0, 1) := by decide +kernel
theorem dL_law_446 : decode cL_law 446 = .ok (.iload 4, 2) := by decide +kernel
theorem dL_law_448 : decode cL_law 448 = .ok (.iconst 1, 1) := by decide +kernel
theorem dL_law_449 : decode cL_law 449 = .ok (.iadd, 1) := by decide +kernel
theorem dL_law_450 : decode cL_law 450 = .ok (.iaload, 1) := by decide +kernel
theorem dL_law_451 : decode cL_law 451 = .ok (.aload_n 0, 1) := by decide +kernel
theorem dL_law_452 : decode cL_law 452 = .ok (.iload 4, 2) := by decide +kernel
theorem dL_law_454 : decode cL_law 454 = .ok (.iconst 2, 1) := by decide +kernel
theorem dL_law_455 : decode cL_law 455 = .ok (.iadd, 1) := by decide +kernel
theorem dL_law_456 : decode cL_law 456 = .ok (.iaload, 1) := by decide +kernel
theorem dL_law_457 : decode cL_law 457 = .ok (.invokevirtual 76, 3) := by decide +kernel
theorem dL_law_460 : decode cL_law 460 = .ok (.istore 6, 2) := by decide +kernel
theorem dL_law_462 : decode cL_law 462 = .ok (.aload_n 2, 1) := by decide +kernel
theorem dL_law_463 : decode cL_law 463 = .ok (.invokevirtual 40, 3) := by decide +kernel
theorem dL_law_466 : decode cL_law 466 = .ok (.iload 5, 2) := by decide +kernel
theorem dL_law_468 : decode cL_law 468 = .ok (.if_icmp .eq 5, 3) := by decide +kernel
theorem dL_law_471 : decode cL_law 471 = .ok (.iconst 0, 1) := by decide +kernel
theorem dL_law_472 : decode cL_law 472 = .ok (.ireturn, 1) := by decide +kernel
theorem dL_law_473 : decode cL_law 473 = .ok (.iload 5, 2) := by decide +kernel
theorem dL_law_475 : decode cL_law 475 = .ok (.ifCond .ne 15, 3) := by decide +kernel
theorem dL_law_478 : decode cL_law 478 = .ok (.aload_n 3, 1) := by decide +kernel
theorem dL_law_479 : decode cL_law 479 = .ok (.iconst 0, 1) := by decide +kernel
theorem dL_law_480 : decode cL_law 480 = .ok (.laload, 1) := by decide +kernel
theorem dL_law_481 : decode cL_law 481 = .ok (.iload 6, 2) := by decide +kernel
theorem dL_law_483 : decode cL_law 483 = .ok (.i2l, 1) := by decide +kernel
theorem dL_law_484 : decode cL_law 484 = .ok (.lcmp, 1) := by decide +kernel
theorem dL_law_485 : decode cL_law 485 = .ok (.ifCond .eq 5, 3) := by decide +kernel
theorem dL_law_488 : decode cL_law 488 = .ok (.iconst 0, 1) := by decide +kernel
theorem dL_law_489 : decode cL_law 489 = .ok (.ireturn, 1) := by decide +kernel
theorem dL_law_490 : decode cL_law 490 = .ok (.goto 57, 3) := by decide +kernel
theorem dL_law_493 : decode cL_law 493 = .ok (.aload_n 1, 1) := by decide +kernel
theorem dL_law_494 : decode cL_law 494 = .ok (.aload_n 0, 1) := by decide +kernel
theorem dL_law_495 : decode cL_law 495 = .ok (.iload 4, 2) := by decide +kernel
theorem dL_law_497 : decode cL_law 497 = .ok (.iconst 1, 1) := by decide +kernel
theorem dL_law_498 : decode cL_law 498 = .ok (.iadd, 1) := by decide +kernel
theorem dL_law_499 : decode cL_law 499 = .ok (.iaload, 1) := by decide +kernel
theorem dL_law_500 : decode cL_law 500 = .ok (.ifCond .eq 7, 3) := by decide +kernel
theorem dL_law_503 : decode cL_law 503 = .ok (.iconst 1, 1) := by decide +kernel
theorem dL_law_504 : decode cL_law 504 = .ok (.goto 4, 3) := by decide +kernel
theorem dL_law_507 : decode cL_law 507 = .ok (.iconst 0, 1) := by decide +kernel
theorem dL_law_508 : decode cL_law 508 = .ok (.invokevirtual 77, 3) := by decide +kernel
theorem dL_law_511 : decode cL_law 511 = .ok (.aload_n 2, 1) := by decide +kernel
theorem dL_law_512 : decode cL_law 512 = .ok (.aload_n 0, 1) := by decide +kernel
theorem dL_law_513 : decode cL_law 513 = .ok (.iload 4, 2) := by decide +kernel
theorem dL_law_515 : decode cL_law 515 = .ok (.iconst 1, 1) := by decide +kernel
theorem dL_law_516 : decode cL_law 516 = .ok (.iadd, 1) := by decide +kernel
theorem dL_law_517 : decode cL_law 517 = .ok (.iaload, 1) := by decide +kernel
theorem dL_law_518 : decode cL_law 518 = .ok (.ifCond .eq 7, 3) := by decide +kernel
theorem dL_law_521 : decode cL_law 521 = .ok (.iconst 1, 1) := by decide +kernel
theorem dL_law_522 : decode cL_law 522 = .ok (.goto 4, 3) := by decide +kernel
theorem dL_law_525 : decode cL_law 525 = .ok (.iconst 0, 1) := by decide +kernel
theorem dL_law_526 : decode cL_law 526 = .ok (.invokevirtual 81, 3) := by decide +kernel
theorem dL_law_529 : decode cL_law 529 = .ok (.if_icmp .eq 18, 3) := by decide +kernel
theorem dL_law_532 : decode cL_law 532 = .ok (.iconst 0, 1) := by decide +kernel
theorem dL_law_533 : decode cL_law 533 = .ok (.ireturn, 1) := by decide +kernel
theorem dL_law_534 : decode cL_law 534 = .ok (.aload_n 1, 1) := by decide +kernel
theorem dL_law_535 : decode cL_law 535 = .ok (.invokevirtual 82, 3) := by decide +kernel
theorem dL_law_538 : decode cL_law 538 = .ok (.aload_n 2, 1) := by decide +kernel
theorem dL_law_539 : decode cL_law 539 = .ok (.invokevirtual 85, 3) := by decide +kernel
theorem dL_law_542 : decode cL_law 542 = .ok (.if_icmp .eq 5, 3) := by decide +kernel
theorem dL_law_545 : decode cL_law 545 = .ok (.iconst 0, 1) := by decide +kernel
theorem dL_law_546 : decode cL_law 546 = .ok (.ireturn, 1) := by decide +kernel
theorem dL_law_547 : decode cL_law 547 = .ok (.iinc 4 3, 3) := by decide +kernel
theorem dL_law_550 : decode cL_law 550 = .ok (.goto (-527), 3) := by decide +kernel
theorem dL_law_553 : decode cL_law 553 = .ok (.iconst 1, 1) := by decide +kernel
theorem dL_law_554 : decode cL_law 554 = .ok (.ireturn, 1) := by decide +kernel
end
section
/-! the reference's names -/
def RX1 : String := "AlarmBenchModel"
def TX1 : u_T := fun k => match k with
  | 0 => ("AlarmBenchModel", "code", "I", false)
  | 1 => ("AlarmBenchModel", "now", "I", false)
  | 2 => ("AlarmBenchModel", "ranks", "I", false)
  | 3 => ("AlarmBenchModel", "rank", "[I", true)
  | 4 => ("AlarmBenchModel", "due", "[I", true)
  | 5 => ("AlarmBenchModel", "tells", "[I", true)
  | 6 => ("AlarmBenchModel", "told", "I", false)
  | _ => ("AlarmBenchModel", "wasDue", "I", false)
def tyX1 : Nat → FieldType := fun k => match k with
  | 0 => .int
  | 1 => .int
  | 2 => .int
  | 3 => .array .int
  | 4 => .array .int
  | 5 => .array .int
  | 6 => .int
  | _ => .int
abbrev wsX10 : List Cond := u_ws RX1 TX1 8
theorem nmX1 : ∀ a, a < 8 → ∀ b, b < 8 → a ≠ b → (TX1 a).2.1 ≠ (TX1 b).2.1 := by decide +kernel
theorem tyX1_ok : ∀ k, k < 8 → parseFieldDescriptor (TX1 k).2.2.1 = some (tyX1 k) := by decide +kernel
abbrev cX1_init : ByteArray := prog_3_method_1_code
def yX1_init : MethodName := ⟨RX1, "<init>", "()V"⟩
abbrev cX1_thrown : ByteArray := prog_3_method_2_code
def yX1_thrown : MethodName := ⟨RX1, "thrown", "()I"⟩
abbrev cX1_isAlarm : ByteArray := prog_3_method_3_code
def yX1_isAlarm : MethodName := ⟨RX1, "isAlarm", "(I)Z"⟩
abbrev cX1_start : ByteArray := prog_3_method_4_code
def yX1_start : MethodName := ⟨RX1, "start", "(III)V"⟩
abbrev cX1_set : ByteArray := prog_3_method_5_code
def yX1_set : MethodName := ⟨RX1, "set", "(II)I"⟩
abbrev cX1_shift : ByteArray := prog_3_method_6_code
def yX1_shift : MethodName := ⟨RX1, "shift", "(II)I"⟩
abbrev cX1_stop : ByteArray := prog_3_method_7_code
def yX1_stop : MethodName := ⟨RX1, "stop", "(I)I"⟩
abbrev cX1_stopAll : ByteArray := prog_3_method_8_code
def yX1_stopAll : MethodName := ⟨RX1, "stopAll", "(I)I"⟩
abbrev cX1_pass : ByteArray := prog_3_method_9_code
def yX1_pass : MethodName := ⟨RX1, "pass", "(I)I"⟩
abbrev cX1_first : ByteArray := prog_3_method_10_code
def yX1_first : MethodName := ⟨RX1, "first", "()I"⟩
abbrev cX1_ring : ByteArray := prog_3_method_11_code
def yX1_ring : MethodName := ⟨RX1, "ring", "()I"⟩
abbrev cX1_told : ByteArray := prog_3_method_12_code
def yX1_told : MethodName := ⟨RX1, "told", "()I"⟩
abbrev cX1_wasDue : ByteArray := prog_3_method_13_code
def yX1_wasDue : MethodName := ⟨RX1, "wasDue", "()I"⟩
abbrev cX1_next : ByteArray := prog_3_method_14_code
def yX1_next : MethodName := ⟨RX1, "next", "()I"⟩
abbrev cX1_about : ByteArray := prog_3_method_15_code
def yX1_about : MethodName := ⟨RX1, "about", "(II)I"⟩
abbrev cX1_count : ByteArray := prog_3_method_16_code
def yX1_count : MethodName := ⟨RX1, "count", "(Z)I"⟩
abbrev cX1_time : ByteArray := prog_3_method_17_code
def yX1_time : MethodName := ⟨RX1, "time", "()I"⟩
def wsX1_init : List Cond := .code yX1_init cX1_init 1 none :: ([.methodLink RX1 1 objectInit, .instanceMethod objectInit, .code objectInit ⟨#[0xb1]⟩ 1 none, .arrayClass .int, .fieldLink RX1 7 "AlarmBenchModel" "rank" "[I", .fieldLink RX1 13 "AlarmBenchModel" "due" "[I", .fieldLink RX1 16 "AlarmBenchModel" "tells" "[I", .fieldLink RX1 19 "AlarmBenchModel" "wasDue" "I"] ++ wsX10)
def wsX1_thrown : List Cond := .code yX1_thrown cX1_thrown 1 (some .int) :: ([.fieldLink RX1 23 "AlarmBenchModel" "code" "I"] ++ wsX10)
def wsX1_isAlarm : List Cond := .code yX1_isAlarm cX1_isAlarm 2 (some .boolean) :: ([.fieldLink RX1 7 "AlarmBenchModel" "rank" "[I"] ++ wsX10)
def wsX1_start : List Cond := .code yX1_start cX1_start 4 none :: ([.fieldLink RX1 26 "AlarmBenchModel" "ranks" "I", .fieldLink RX1 7 "AlarmBenchModel" "rank" "[I", .fieldLink RX1 13 "AlarmBenchModel" "due" "[I", .fieldLink RX1 29 "AlarmBenchModel" "now" "I", .fieldLink RX1 16 "AlarmBenchModel" "tells" "[I"] ++ wsX10)
def wsX1_first : List Cond := .code yX1_first cX1_first 4 (some .int) :: ([.fieldLink RX1 13 "AlarmBenchModel" "due" "[I", .fieldLink RX1 7 "AlarmBenchModel" "rank" "[I"] ++ wsX10)
def wsX1_set : List Cond := .code yX1_set cX1_set 4 (some .int) :: ([.fieldLink RX1 7 "AlarmBenchModel" "rank" "[I", .constant RX1 32 (1000000000), .fieldLink RX1 29 "AlarmBenchModel" "now" "I", .fieldLink RX1 23 "AlarmBenchModel" "code" "I", .methodLink RX1 33 yX1_start, .instanceMethod yX1_start, .selects RX1 yX1_start yX1_start, .initialized RX1, .code yX1_start cX1_start 4 none, .fieldLink RX1 26 "AlarmBenchModel" "ranks" "I", .fieldLink RX1 13 "AlarmBenchModel" "due" "[I", .fieldLink RX1 16 "AlarmBenchModel" "tells" "[I"] ++ wsX10)
set_option maxRecDepth 20000 in
theorem gX1_set_X1_start : GoodIn wsX1_set (wsV RX1 33 RX1 yX1_start wsX1_start) := goodIn_p _ [9] rfl (by decide +kernel)
def wsX1_shift : List Cond := .code yX1_shift cX1_shift 4 (some .int) :: ([.constant RX1 32 (1000000000), .fieldLink RX1 29 "AlarmBenchModel" "now" "I", .fieldLink RX1 23 "AlarmBenchModel" "code" "I", .fieldLink RX1 13 "AlarmBenchModel" "due" "[I", .fieldLink RX1 16 "AlarmBenchModel" "tells" "[I", .methodLink RX1 37 yX1_isAlarm, .instanceMethod yX1_isAlarm, .selects RX1 yX1_isAlarm yX1_isAlarm, .initialized RX1, .code yX1_isAlarm cX1_isAlarm 2 (some .boolean), .fieldLink RX1 7 "AlarmBenchModel" "rank" "[I", .methodLink RX1 33 yX1_start, .instanceMethod yX1_start, .selects RX1 yX1_start yX1_start, .code yX1_start cX1_start 4 none, .fieldLink RX1 26 "AlarmBenchModel" "ranks" "I"] ++ wsX10)
set_option maxRecDepth 20000 in
theorem gX1_shift_X1_isAlarm : GoodIn wsX1_shift (wsV RX1 37 RX1 yX1_isAlarm wsX1_isAlarm) := goodIn_p _ [10] rfl (by decide +kernel)
set_option maxRecDepth 20000 in
theorem gX1_shift_X1_start : GoodIn wsX1_shift (wsV RX1 33 RX1 yX1_start wsX1_start) := goodIn_p _ [15] rfl (by decide +kernel)
def wsX1_stop : List Cond := .code yX1_stop cX1_stop 2 (some .int) :: ([.fieldLink RX1 23 "AlarmBenchModel" "code" "I", .fieldLink RX1 7 "AlarmBenchModel" "rank" "[I", .fieldLink RX1 16 "AlarmBenchModel" "tells" "[I", .methodLink RX1 37 yX1_isAlarm, .instanceMethod yX1_isAlarm, .selects RX1 yX1_isAlarm yX1_isAlarm, .initialized RX1, .code yX1_isAlarm cX1_isAlarm 2 (some .boolean)] ++ wsX10)
set_option maxRecDepth 20000 in
theorem gX1_stop_X1_isAlarm : GoodIn wsX1_stop (wsV RX1 37 RX1 yX1_isAlarm wsX1_isAlarm) := goodIn_p _ [8] rfl (by decide +kernel)
def wsX1_stopAll : List Cond := .code yX1_stopAll cX1_stopAll 4 (some .int) :: ([.fieldLink RX1 23 "AlarmBenchModel" "code" "I", .fieldLink RX1 7 "AlarmBenchModel" "rank" "[I", .fieldLink RX1 16 "AlarmBenchModel" "tells" "[I"] ++ wsX10)
def wsX1_pass : List Cond := .code yX1_pass cX1_pass 2 (some .int) :: ([.constant RX1 41 (200000), .constant RX1 32 (1000000000), .fieldLink RX1 29 "AlarmBenchModel" "now" "I", .fieldLink RX1 23 "AlarmBenchModel" "code" "I"] ++ wsX10)
def wsX1_ring : List Cond := .code yX1_ring cX1_ring 2 (some .int) :: ([.fieldLink RX1 23 "AlarmBenchModel" "code" "I", .fieldLink RX1 13 "AlarmBenchModel" "due" "[I", .fieldLink RX1 29 "AlarmBenchModel" "now" "I", .fieldLink RX1 16 "AlarmBenchModel" "tells" "[I", .fieldLink RX1 46 "AlarmBenchModel" "told" "I", .fieldLink RX1 19 "AlarmBenchModel" "wasDue" "I", .fieldLink RX1 7 "AlarmBenchModel" "rank" "[I", .methodLink RX1 42 yX1_first, .instanceMethod yX1_first, .selects RX1 yX1_first yX1_first, .initialized RX1, .code yX1_first cX1_first 4 (some .int)] ++ wsX10)
set_option maxRecDepth 20000 in
theorem gX1_ring_X1_first : GoodIn wsX1_ring (wsV RX1 42 RX1 yX1_first wsX1_first) := goodIn_p _ [12] rfl (by decide +kernel)
def wsX1_told : List Cond := .code yX1_told cX1_told 1 (some .int) :: ([.fieldLink RX1 23 "AlarmBenchModel" "code" "I", .fieldLink RX1 46 "AlarmBenchModel" "told" "I"] ++ wsX10)
def wsX1_wasDue : List Cond := .code yX1_wasDue cX1_wasDue 1 (some .int) :: ([.fieldLink RX1 23 "AlarmBenchModel" "code" "I", .fieldLink RX1 19 "AlarmBenchModel" "wasDue" "I"] ++ wsX10)
def wsX1_next : List Cond := .code yX1_next cX1_next 2 (some .int) :: ([.fieldLink RX1 23 "AlarmBenchModel" "code" "I", .fieldLink RX1 13 "AlarmBenchModel" "due" "[I", .methodLink RX1 42 yX1_first, .instanceMethod yX1_first, .selects RX1 yX1_first yX1_first, .initialized RX1, .code yX1_first cX1_first 4 (some .int), .fieldLink RX1 7 "AlarmBenchModel" "rank" "[I"] ++ wsX10)
set_option maxRecDepth 20000 in
theorem gX1_next_X1_first : GoodIn wsX1_next (wsV RX1 42 RX1 yX1_first wsX1_first) := goodIn_p _ [7] rfl (by decide +kernel)
def wsX1_about : List Cond := .code yX1_about cX1_about 3 (some .int) :: ([.fieldLink RX1 23 "AlarmBenchModel" "code" "I", .fieldLink RX1 13 "AlarmBenchModel" "due" "[I", .fieldLink RX1 16 "AlarmBenchModel" "tells" "[I", .methodLink RX1 37 yX1_isAlarm, .instanceMethod yX1_isAlarm, .selects RX1 yX1_isAlarm yX1_isAlarm, .initialized RX1, .code yX1_isAlarm cX1_isAlarm 2 (some .boolean), .fieldLink RX1 7 "AlarmBenchModel" "rank" "[I"] ++ wsX10)
set_option maxRecDepth 20000 in
theorem gX1_about_X1_isAlarm : GoodIn wsX1_about (wsV RX1 37 RX1 yX1_isAlarm wsX1_isAlarm) := goodIn_p _ [8] rfl (by decide +kernel)
def wsX1_count : List Cond := .code yX1_count cX1_count 4 (some .int) :: ([.fieldLink RX1 23 "AlarmBenchModel" "code" "I", .fieldLink RX1 7 "AlarmBenchModel" "rank" "[I", .fieldLink RX1 13 "AlarmBenchModel" "due" "[I", .fieldLink RX1 29 "AlarmBenchModel" "now" "I"] ++ wsX10)
def wsX1_time : List Cond := .code yX1_time cX1_time 1 (some .int) :: ([.fieldLink RX1 23 "AlarmBenchModel" "code" "I", .fieldLink RX1 29 "AlarmBenchModel" "now" "I"] ++ wsX10)
abbrev vwCl : List vw_C := [(RX0, TX0, 8), (RX1, TX1, 8)]
theorem dX1_init_0 : decode cX1_init 0 = .ok (.aload_n 0, 1) := by decide +kernel
theorem dX1_init_1 : decode cX1_init 1 = .ok (.invokespecial 1, 3) := by decide +kernel
theorem dX1_init_4 : decode cX1_init 4 = .ok (.aload_n 0, 1) := by decide +kernel
theorem dX1_init_5 : decode cX1_init 5 = .ok (.sipush 512, 3) := by decide +kernel
theorem dX1_init_8 : decode cX1_init 8 = .ok (.newarray .int, 2) := by decide +kernel
theorem dX1_init_10 : decode cX1_init 10 = .ok (.putfield 7, 3) := by decide +kernel
theorem dX1_init_13 : decode cX1_init 13 = .ok (.aload_n 0, 1) := by decide +kernel
theorem dX1_init_14 : decode cX1_init 14 = .ok (.sipush 512, 3) := by decide +kernel
theorem dX1_init_17 : decode cX1_init 17 = .ok (.newarray .int, 2) := by decide +kernel
theorem dX1_init_19 : decode cX1_init 19 = .ok (.putfield 13, 3) := by decide +kernel
theorem dX1_init_22 : decode cX1_init 22 = .ok (.aload_n 0, 1) := by decide +kernel
theorem dX1_init_23 : decode cX1_init 23 = .ok (.sipush 512, 3) := by decide +kernel
theorem dX1_init_26 : decode cX1_init 26 = .ok (.newarray .int, 2) := by decide +kernel
theorem dX1_init_28 : decode cX1_init 28 = .ok (.putfield 16, 3) := by decide +kernel
theorem dX1_init_31 : decode cX1_init 31 = .ok (.aload_n 0, 1) := by decide +kernel
theorem dX1_init_32 : decode cX1_init 32 = .ok (.iconst (-1), 1) := by decide +kernel
theorem dX1_init_33 : decode cX1_init 33 = .ok (.putfield 19, 3) := by decide +kernel
theorem dX1_init_36 : decode cX1_init 36 = .ok (.return_, 1) := by decide +kernel
theorem dX1_thrown_0 : decode cX1_thrown 0 = .ok (.aload_n 0, 1) := by decide +kernel
theorem dX1_thrown_1 : decode cX1_thrown 1 = .ok (.getfield 23, 3) := by decide +kernel
theorem dX1_thrown_4 : decode cX1_thrown 4 = .ok (.ireturn, 1) := by decide +kernel
theorem dX1_isAlarm_0 : decode cX1_isAlarm 0 = .ok (.iload_n 1, 1) := by decide +kernel
theorem dX1_isAlarm_1 : decode cX1_isAlarm 1 = .ok (.ifCond .lt 23, 3) := by decide +kernel
theorem dX1_isAlarm_4 : decode cX1_isAlarm 4 = .ok (.iload_n 1, 1) := by decide +kernel
theorem dX1_isAlarm_5 : decode cX1_isAlarm 5 = .ok (.sipush 512, 3) := by decide +kernel
theorem dX1_isAlarm_8 : decode cX1_isAlarm 8 = .ok (.if_icmp .ge 16, 3) := by decide +kernel
theorem dX1_isAlarm_11 : decode cX1_isAlarm 11 = .ok (.aload_n 0, 1) := by decide +kernel
theorem dX1_isAlarm_12 : decode cX1_isAlarm 12 = .ok (.getfield 7, 3) := by decide +kernel
theorem dX1_isAlarm_15 : decode cX1_isAlarm 15 = .ok (.iload_n 1, 1) := by decide +kernel
theorem dX1_isAlarm_16 : decode cX1_isAlarm 16 = .ok (.iaload, 1) := by decide +kernel
theorem dX1_isAlarm_17 : decode cX1_isAlarm 17 = .ok (.ifCond .le 7, 3) := by decide +kernel
theorem dX1_isAlarm_20 : decode cX1_isAlarm 20 = .ok (.iconst 1, 1) := by decide +kernel
theorem dX1_isAlarm_21 : decode cX1_isAlarm 21 = .ok (.goto 4, 3) := by decide +kernel
theorem dX1_isAlarm_24 : decode cX1_isAlarm 24 = .ok (.iconst 0, 1) := by decide +kernel
theorem dX1_isAlarm_25 : decode cX1_isAlarm 25 = .ok (.ireturn, 1) := by decide +kernel
theorem dX1_start_0 : decode cX1_start 0 = .ok (.aload_n 0, 1) := by decide +kernel
theorem dX1_start_1 : decode cX1_start 1 = .ok (.dup, 1) := by decide +kernel
theorem dX1_start_2 : decode cX1_start 2 = .ok (.getfield 26, 3) := by decide +kernel
theorem dX1_start_5 : decode cX1_start 5 = .ok (.iconst 1, 1) := by decide +kernel
theorem dX1_start_6 : decode cX1_start 6 = .ok (.iadd, 1) := by decide +kernel
theorem dX1_start_7 : decode cX1_start 7 = .ok (.putfield 26, 3) := by decide +kernel
theorem dX1_start_10 : decode cX1_start 10 = .ok (.aload_n 0, 1) := by decide +kernel
theorem dX1_start_11 : decode cX1_start 11 = .ok (.getfield 7, 3) := by decide +kernel
theorem dX1_start_14 : decode cX1_start 14 = .ok (.iload_n 1, 1) := by decide +kernel
theorem dX1_start_15 : decode cX1_start 15 = .ok (.aload_n 0, 1) := by decide +kernel
theorem dX1_start_16 : decode cX1_start 16 = .ok (.getfield 26, 3) := by decide +kernel
theorem dX1_start_19 : decode cX1_start 19 = .ok (.iastore, 1) := by decide +kernel
theorem dX1_start_20 : decode cX1_start 20 = .ok (.aload_n 0, 1) := by decide +kernel
theorem dX1_start_21 : decode cX1_start 21 = .ok (.getfield 13, 3) := by decide +kernel
theorem dX1_start_24 : decode cX1_start 24 = .ok (.iload_n 1, 1) := by decide +kernel
theorem dX1_start_25 : decode cX1_start 25 = .ok (.aload_n 0, 1) := by decide +kernel
theorem dX1_start_26 : decode cX1_start 26 = .ok (.getfield 29, 3) := by decide +kernel
theorem dX1_start_29 : decode cX1_start 29 = .ok (.iload_n 2, 1) := by decide +kernel
theorem dX1_start_30 : decode cX1_start 30 = .ok (.iadd, 1) := by decide +kernel
theorem dX1_start_31 : decode cX1_start 31 = .ok (.iastore, 1) := by decide +kernel
theorem dX1_start_32 : decode cX1_start 32 = .ok (.aload_n 0, 1) := by decide +kernel
theorem dX1_start_33 : decode cX1_start 33 = .ok (.getfield 16, 3) := by decide +kernel
theorem dX1_start_36 : decode cX1_start 36 = .ok (.iload_n 1, 1) := by decide +kernel
theorem dX1_start_37 : decode cX1_start 37 = .ok (.iload_n 3, 1) := by decide +kernel
theorem dX1_start_38 : decode cX1_start 38 = .ok (.iastore, 1) := by decide +kernel
theorem dX1_start_39 : decode cX1_start 39 = .ok (.return_, 1) := by decide +kernel
theorem dX1_set_0 : decode cX1_set 0 = .ok (.iconst 0, 1) := by decide +kernel
theorem dX1_set_1 : decode cX1_set 1 = .ok (.istore_n 3, 1) := by decide +kernel
theorem dX1_set_2 : decode cX1_set 2 = .ok (.iload_n 3, 1) := by decide +kernel
theorem dX1_set_3 : decode cX1_set 3 = .ok (.sipush 512, 3) := by decide +kernel
theorem dX1_set_6 : decode cX1_set 6 = .ok (.if_icmp .ge 18, 3) := by decide +kernel
theorem dX1_set_9 : decode cX1_set 9 = .ok (.aload_n 0, 1) := by decide +kernel
theorem dX1_set_10 : decode cX1_set 10 = .ok (.getfield 7, 3) := by decide +kernel
theorem dX1_set_13 : decode cX1_set 13 = .ok (.iload_n 3, 1) := by decide +kernel
theorem dX1_set_14 : decode cX1_set 14 = .ok (.iaload, 1) := by decide +kernel
theorem dX1_set_15 : decode cX1_set 15 = .ok (.ifCond .le 9, 3) := by decide +kernel
theorem dX1_set_18 : decode cX1_set 18 = .ok (.iinc 3 1, 3) := by decide +kernel
theorem dX1_set_21 : decode cX1_set 21 = .ok (.goto (-19), 3) := by decide +kernel
theorem dX1_set_24 : decode cX1_set 24 = .ok (.aload_n 0, 1) := by decide +kernel
theorem dX1_set_25 : decode cX1_set 25 = .ok (.iload_n 1, 1) := by decide +kernel
theorem dX1_set_26 : decode cX1_set 26 = .ok (.ifCond .lt 9, 3) := by decide +kernel
theorem dX1_set_29 : decode cX1_set 29 = .ok (.iload_n 1, 1) := by decide +kernel
theorem dX1_set_30 : decode cX1_set 30 = .ok (.ldc 32, 2) := by decide +kernel
theorem dX1_set_32 : decode cX1_set 32 = .ok (.if_icmp .le 7, 3) := by decide +kernel
theorem dX1_set_35 : decode cX1_set 35 = .ok (.iconst 1, 1) := by decide +kernel
theorem dX1_set_36 : decode cX1_set 36 = .ok (.goto 26, 3) := by decide +kernel
theorem dX1_set_39 : decode cX1_set 39 = .ok (.iload_n 3, 1) := by decide +kernel
theorem dX1_set_40 : decode cX1_set 40 = .ok (.sipush 512, 3) := by decide +kernel
theorem dX1_set_43 : decode cX1_set 43 = .ok (.if_icmp .eq 14, 3) := by decide +kernel
theorem dX1_set_46 : decode cX1_set 46 = .ok (.iload_n 1, 1) := by decide +kernel
theorem dX1_set_47 : decode cX1_set 47 = .ok (.ldc 32, 2) := by decide +kernel
theorem dX1_set_49 : decode cX1_set 49 = .ok (.aload_n 0, 1) := by decide +kernel
theorem dX1_set_50 : decode cX1_set 50 = .ok (.getfield 29, 3) := by decide +kernel
theorem dX1_set_53 : decode cX1_set 53 = .ok (.isub, 1) := by decide +kernel
theorem dX1_set_54 : decode cX1_set 54 = .ok (.if_icmp .le 7, 3) := by decide +kernel
theorem dX1_set_57 : decode cX1_set 57 = .ok (.iconst 2, 1) := by decide +kernel
theorem dX1_set_58 : decode cX1_set 58 = .ok (.goto 4, 3) := by decide +kernel
theorem dX1_set_61 : decode cX1_set 61 = .ok (.iconst 0, 1) := by decide +kernel
theorem dX1_set_62 : decode cX1_set 62 = .ok (.putfield 23, 3) := by decide +kernel
theorem dX1_set_65 : decode cX1_set 65 = .ok (.aload_n 0, 1) := by decide +kernel
theorem dX1_set_66 : decode cX1_set 66 = .ok (.getfield 23, 3) := by decide +kernel
theorem dX1_set_69 : decode cX1_set 69 = .ok (.ifCond .le 5, 3) := by decide +kernel
theorem dX1_set_72 : decode cX1_set 72 = .ok (.iconst 0, 1) := by decide +kernel
theorem dX1_set_73 : decode cX1_set 73 = .ok (.ireturn, 1) := by decide +kernel
theorem dX1_set_74 : decode cX1_set 74 = .ok (.aload_n 0, 1) := by decide +kernel
theorem dX1_set_75 : decode cX1_set 75 = .ok (.iload_n 3, 1) := by decide +kernel
theorem dX1_set_76 : decode cX1_set 76 = .ok (.iload_n 1, 1) := by decide +kernel
theorem dX1_set_77 : decode cX1_set 77 = .ok (.iload_n 2, 1) := by decide +kernel
theorem dX1_set_78 : decode cX1_set 78 = .ok (.invokevirtual 33, 3) := by decide +kernel
theorem dX1_set_81 : decode cX1_set 81 = .ok (.iload_n 3, 1) := by decide +kernel
theorem dX1_set_82 : decode cX1_set 82 = .ok (.ireturn, 1) := by decide +kernel
theorem dX1_shift_0 : decode cX1_shift 0 = .ok (.aload_n 0, 1) := by decide +kernel
theorem dX1_shift_1 : decode cX1_shift 1 = .ok (.aload_n 0, 1) := by decide +kernel
theorem dX1_shift_2 : decode cX1_shift 2 = .ok (.iload_n 1, 1) := by decide +kernel
theorem dX1_shift_3 : decode cX1_shift 3 = .ok (.invokevirtual 37, 3) := by decide +kernel
theorem dX1_shift_6 : decode cX1_shift 6 = .ok (.ifCond .eq 13, 3) := by decide +kernel
theorem dX1_shift_9 : decode cX1_shift 9 = .ok (.iload_n 2, 1) := by decide +kernel
theorem dX1_shift_10 : decode cX1_shift 10 = .ok (.ifCond .lt 9, 3) := by decide +kernel
theorem dX1_shift_13 : decode cX1_shift 13 = .ok (.iload_n 2, 1) := by decide +kernel
theorem dX1_shift_14 : decode cX1_shift 14 = .ok (.ldc 32, 2) := by decide +kernel
theorem dX1_shift_16 : decode cX1_shift 16 = .ok (.if_icmp .le 7, 3) := by decide +kernel
theorem dX1_shift_19 : decode cX1_shift 19 = .ok (.iconst 1, 1) := by decide +kernel
theorem dX1_shift_20 : decode cX1_shift 20 = .ok (.goto 19, 3) := by decide +kernel
theorem dX1_shift_23 : decode cX1_shift 23 = .ok (.iload_n 2, 1) := by decide +kernel
theorem dX1_shift_24 : decode cX1_shift 24 = .ok (.ldc 32, 2) := by decide +kernel
theorem dX1_shift_26 : decode cX1_shift 26 = .ok (.aload_n 0, 1) := by decide +kernel
theorem dX1_shift_27 : decode cX1_shift 27 = .ok (.getfield 29, 3) := by decide +kernel
theorem dX1_shift_30 : decode cX1_shift 30 = .ok (.isub, 1) := by decide +kernel
theorem dX1_shift_31 : decode cX1_shift 31 = .ok (.if_icmp .le 7, 3) := by decide +kernel
theorem dX1_shift_34 : decode cX1_shift 34 = .ok (.iconst 2, 1) := by decide +kernel
theorem dX1_shift_35 : decode cX1_shift 35 = .ok (.goto 4, 3) := by decide +kernel
theorem dX1_shift_38 : decode cX1_shift 38 = .ok (.iconst 0, 1) := by decide +kernel
theorem dX1_shift_39 : decode cX1_shift 39 = .ok (.putfield 23, 3) := by decide +kernel
theorem dX1_shift_42 : decode cX1_shift 42 = .ok (.aload_n 0, 1) := by decide +kernel
theorem dX1_shift_43 : decode cX1_shift 43 = .ok (.getfield 23, 3) := by decide +kernel
theorem dX1_shift_46 : decode cX1_shift 46 = .ok (.ifCond .le 5, 3) := by decide +kernel
theorem dX1_shift_49 : decode cX1_shift 49 = .ok (.iconst 0, 1) := by decide +kernel
theorem dX1_shift_50 : decode cX1_shift 50 = .ok (.ireturn, 1) := by decide +kernel
theorem dX1_shift_51 : decode cX1_shift 51 = .ok (.aload_n 0, 1) := by decide +kernel
theorem dX1_shift_52 : decode cX1_shift 52 = .ok (.getfield 13, 3) := by decide +kernel
theorem dX1_shift_55 : decode cX1_shift 55 = .ok (.iload_n 1, 1) := by decide +kernel
theorem dX1_shift_56 : decode cX1_shift 56 = .ok (.iaload, 1) := by decide +kernel
theorem dX1_shift_57 : decode cX1_shift 57 = .ok (.aload_n 0, 1) := by decide +kernel
theorem dX1_shift_58 : decode cX1_shift 58 = .ok (.getfield 29, 3) := by decide +kernel
theorem dX1_shift_61 : decode cX1_shift 61 = .ok (.isub, 1) := by decide +kernel
theorem dX1_shift_62 : decode cX1_shift 62 = .ok (.istore_n 3, 1) := by decide +kernel
theorem dX1_shift_63 : decode cX1_shift 63 = .ok (.aload_n 0, 1) := by decide +kernel
theorem dX1_shift_64 : decode cX1_shift 64 = .ok (.iload_n 1, 1) := by decide +kernel
theorem dX1_shift_65 : decode cX1_shift 65 = .ok (.iload_n 2, 1) := by decide +kernel
theorem dX1_shift_66 : decode cX1_shift 66 = .ok (.aload_n 0, 1) := by decide +kernel
theorem dX1_shift_67 : decode cX1_shift 67 = .ok (.getfield 16, 3) := by decide +kernel
theorem dX1_shift_70 : decode cX1_shift 70 = .ok (.iload_n 1, 1) := by decide +kernel
theorem dX1_shift_71 : decode cX1_shift 71 = .ok (.iaload, 1) := by decide +kernel
theorem dX1_shift_72 : decode cX1_shift 72 = .ok (.invokevirtual 33, 3) := by decide +kernel
theorem dX1_shift_75 : decode cX1_shift 75 = .ok (.iload_n 3, 1) := by decide +kernel
theorem dX1_shift_76 : decode cX1_shift 76 = .ok (.ireturn, 1) := by decide +kernel
theorem dX1_stop_0 : decode cX1_stop 0 = .ok (.aload_n 0, 1) := by decide +kernel
theorem dX1_stop_1 : decode cX1_stop 1 = .ok (.aload_n 0, 1) := by decide +kernel
theorem dX1_stop_2 : decode cX1_stop 2 = .ok (.iload_n 1, 1) := by decide +kernel
theorem dX1_stop_3 : decode cX1_stop 3 = .ok (.invokevirtual 37, 3) := by decide +kernel
theorem dX1_stop_6 : decode cX1_stop 6 = .ok (.ifCond .eq 7, 3) := by decide +kernel
theorem dX1_stop_9 : decode cX1_stop 9 = .ok (.iconst 0, 1) := by decide +kernel
theorem dX1_stop_10 : decode cX1_stop 10 = .ok (.goto 4, 3) := by decide +kernel
theorem dX1_stop_13 : decode cX1_stop 13 = .ok (.iconst 1, 1) := by decide +kernel
theorem dX1_stop_14 : decode cX1_stop 14 = .ok (.putfield 23, 3) := by decide +kernel
theorem dX1_stop_17 : decode cX1_stop 17 = .ok (.aload_n 0, 1) := by decide +kernel
theorem dX1_stop_18 : decode cX1_stop 18 = .ok (.getfield 23, 3) := by decide +kernel
theorem dX1_stop_21 : decode cX1_stop 21 = .ok (.ifCond .le 5, 3) := by decide +kernel
theorem dX1_stop_24 : decode cX1_stop 24 = .ok (.iconst 0, 1) := by decide +kernel
theorem dX1_stop_25 : decode cX1_stop 25 = .ok (.ireturn, 1) := by decide +kernel
theorem dX1_stop_26 : decode cX1_stop 26 = .ok (.aload_n 0, 1) := by decide +kernel
theorem dX1_stop_27 : decode cX1_stop 27 = .ok (.getfield 7, 3) := by decide +kernel
theorem dX1_stop_30 : decode cX1_stop 30 = .ok (.iload_n 1, 1) := by decide +kernel
theorem dX1_stop_31 : decode cX1_stop 31 = .ok (.iconst 0, 1) := by decide +kernel
theorem dX1_stop_32 : decode cX1_stop 32 = .ok (.iastore, 1) := by decide +kernel
theorem dX1_stop_33 : decode cX1_stop 33 = .ok (.aload_n 0, 1) := by decide +kernel
theorem dX1_stop_34 : decode cX1_stop 34 = .ok (.getfield 16, 3) := by decide +kernel
theorem dX1_stop_37 : decode cX1_stop 37 = .ok (.iload_n 1, 1) := by decide +kernel
theorem dX1_stop_38 : decode cX1_stop 38 = .ok (.iaload, 1) := by decide +kernel
theorem dX1_stop_39 : decode cX1_stop 39 = .ok (.ireturn, 1) := by decide +kernel
theorem dX1_stopAll_0 : decode cX1_stopAll 0 = .ok (.aload_n 0, 1) := by decide +kernel
theorem dX1_stopAll_1 : decode cX1_stopAll 1 = .ok (.iconst 0, 1) := by decide +kernel
theorem dX1_stopAll_2 : decode cX1_stopAll 2 = .ok (.putfield 23, 3) := by decide +kernel
theorem dX1_stopAll_5 : decode cX1_stopAll 5 = .ok (.iconst 0, 1) := by decide +kernel
theorem dX1_stopAll_6 : decode cX1_stopAll 6 = .ok (.istore_n 2, 1) := by decide +kernel
theorem dX1_stopAll_7 : decode cX1_stopAll 7 = .ok (.iconst 0, 1) := by decide +kernel
theorem dX1_stopAll_8 : decode cX1_stopAll 8 = .ok (.istore_n 3, 1) := by decide +kernel
theorem dX1_stopAll_9 : decode cX1_stopAll 9 = .ok (.iload_n 3, 1) := by decide +kernel
theorem dX1_stopAll_10 : decode cX1_stopAll 10 = .ok (.sipush 512, 3) := by decide +kernel
theorem dX1_stopAll_13 : decode cX1_stopAll 13 = .ok (.if_icmp .ge 38, 3) := by decide +kernel
theorem dX1_stopAll_16 : decode cX1_stopAll 16 = .ok (.aload_n 0, 1) := by decide +kernel
theorem dX1_stopAll_17 : decode cX1_stopAll 17 = .ok (.getfield 7, 3) := by decide +kernel
theorem dX1_stopAll_20 : decode cX1_stopAll 20 = .ok (.iload_n 3, 1) := by decide +kernel
theorem dX1_stopAll_21 : decode cX1_stopAll 21 = .ok (.iaload, 1) := by decide +kernel
theorem dX1_stopAll_22 : decode cX1_stopAll 22 = .ok (.ifCond .le 23, 3) := by decide +kernel
theorem dX1_stopAll_25 : decode cX1_stopAll 25 = .ok (.aload_n 0, 1) := by decide +kernel
theorem dX1_stopAll_26 : decode cX1_stopAll 26 = .ok (.getfield 16, 3) := by decide +kernel
theorem dX1_stopAll_29 : decode cX1_stopAll 29 = .ok (.iload_n 3, 1) := by decide +kernel
theorem dX1_stopAll_30 : decode cX1_stopAll 30 = .ok (.iaload, 1) := by decide +kernel
theorem dX1_stopAll_31 : decode cX1_stopAll 31 = .ok (.iload_n 1, 1) := by decide +kernel
theorem dX1_stopAll_32 : decode cX1_stopAll 32 = .ok (.if_icmp .ne 13, 3) := by decide +kernel
theorem dX1_stopAll_35 : decode cX1_stopAll 35 = .ok (.aload_n 0, 1) := by decide +kernel
theorem dX1_stopAll_36 : decode cX1_stopAll 36 = .ok (.getfield 7, 3) := by decide +kernel
theorem dX1_stopAll_39 : decode cX1_stopAll 39 = .ok (.iload_n 3, 1) := by decide +kernel
theorem dX1_stopAll_40 : decode cX1_stopAll 40 = .ok (.iconst 0, 1) := by decide +kernel
theorem dX1_stopAll_41 : decode cX1_stopAll 41 = .ok (.iastore, 1) := by decide +kernel
theorem dX1_stopAll_42 : decode cX1_stopAll 42 = .ok (.iinc 2 1, 3) := by decide +kernel
theorem dX1_stopAll_45 : decode cX1_stopAll 45 = .ok (.iinc 3 1, 3) := by decide +kernel
theorem dX1_stopAll_48 : decode cX1_stopAll 48 = .ok (.goto (-39), 3) := by decide +kernel
theorem dX1_stopAll_51 : decode cX1_stopAll 51 = .ok (.iload_n 2, 1) := by decide +kernel
theorem dX1_stopAll_52 : decode cX1_stopAll 52 = .ok (.ireturn, 1) := by decide +kernel
theorem dX1_pass_0 : decode cX1_pass 0 = .ok (.aload_n 0, 1) := by decide +kernel
theorem dX1_pass_1 : decode cX1_pass 1 = .ok (.iload_n 1, 1) := by decide +kernel
theorem dX1_pass_2 : decode cX1_pass 2 = .ok (.ifCond .lt 9, 3) := by decide +kernel
theorem dX1_pass_5 : decode cX1_pass 5 = .ok (.iload_n 1, 1) := by decide +kernel
theorem dX1_pass_6 : decode cX1_pass 6 = .ok (.ldc 41, 2) := by decide +kernel
theorem dX1_pass_8 : decode cX1_pass 8 = .ok (.if_icmp .le 7, 3) := by decide +kernel
theorem dX1_pass_11 : decode cX1_pass 11 = .ok (.iconst 1, 1) := by decide +kernel
theorem dX1_pass_12 : decode cX1_pass 12 = .ok (.goto 19, 3) := by decide +kernel
theorem dX1_pass_15 : decode cX1_pass 15 = .ok (.iload_n 1, 1) := by decide +kernel
theorem dX1_pass_16 : decode cX1_pass 16 = .ok (.ldc 32, 2) := by decide +kernel
theorem dX1_pass_18 : decode cX1_pass 18 = .ok (.aload_n 0, 1) := by decide +kernel
theorem dX1_pass_19 : decode cX1_pass 19 = .ok (.getfield 29, 3) := by decide +kernel
theorem dX1_pass_22 : decode cX1_pass 22 = .ok (.isub, 1) := by decide +kernel
theorem dX1_pass_23 : decode cX1_pass 23 = .ok (.if_icmp .le 7, 3) := by decide +kernel
theorem dX1_pass_26 : decode cX1_pass 26 = .ok (.iconst 2, 1) := by decide +kernel
theorem dX1_pass_27 : decode cX1_pass 27 = .ok (.goto 4, 3) := by decide +kernel
theorem dX1_pass_30 : decode cX1_pass 30 = .ok (.iconst 0, 1) := by decide +kernel
theorem dX1_pass_31 : decode cX1_pass 31 = .ok (.putfield 23, 3) := by decide +kernel
theorem dX1_pass_34 : decode cX1_pass 34 = .ok (.aload_n 0, 1) := by decide +kernel
theorem dX1_pass_35 : decode cX1_pass 35 = .ok (.getfield 23, 3) := by decide +kernel
theorem dX1_pass_38 : decode cX1_pass 38 = .ok (.ifCond .le 5, 3) := by decide +kernel
theorem dX1_pass_41 : decode cX1_pass 41 = .ok (.iconst 0, 1) := by decide +kernel
theorem dX1_pass_42 : decode cX1_pass 42 = .ok (.ireturn, 1) := by decide +kernel
theorem dX1_pass_43 : decode cX1_pass 43 = .ok (.aload_n 0, 1) := by decide +kernel
theorem dX1_pass_44 : decode cX1_pass 44 = .ok (.dup, 1) := by decide +kernel
theorem dX1_pass_45 : decode cX1_pass 45 = .ok (.getfield 29, 3) := by decide +kernel
theorem dX1_pass_48 : decode cX1_pass 48 = .ok (.iload_n 1, 1) := by decide +kernel
theorem dX1_pass_49 : decode cX1_pass 49 = .ok (.iadd, 1) := by decide +kernel
theorem dX1_pass_50 : decode cX1_pass 50 = .ok (.putfield 29, 3) := by decide +kernel
theorem dX1_pass_53 : decode cX1_pass 53 = .ok (.aload_n 0, 1) := by decide +kernel
theorem dX1_pass_54 : decode cX1_pass 54 = .ok (.getfield 29, 3) := by decide +kernel
theorem dX1_pass_57 : decode cX1_pass 57 = .ok (.ireturn, 1) := by decide +kernel
theorem dX1_first_0 : decode cX1_first 0 = .ok (.iconst (-1), 1) := by decide +kernel
theorem dX1_first_1 : decode cX1_first 1 = .ok (.istore_n 1, 1) := by decide +kernel
theorem dX1_first_2 : decode cX1_first 2 = .ok (.iconst 0, 1) := by decide +kernel
theorem dX1_first_3 : decode cX1_first 3 = .ok (.istore_n 2, 1) := by decide +kernel
theorem dX1_first_4 : decode cX1_first 4 = .ok (.iload_n 2, 1) := by decide +kernel
theorem dX1_first_5 : decode cX1_first 5 = .ok (.sipush 512, 3) := by decide +kernel
theorem dX1_first_8 : decode cX1_first 8 = .ok (.if_icmp .ge 83, 3) := by decide +kernel
theorem dX1_first_11 : decode cX1_first 11 = .ok (.iload_n 1, 1) := by decide +kernel
theorem dX1_first_12 : decode cX1_first 12 = .ok (.ifCond .lt 48, 3) := by decide +kernel
theorem dX1_first_15 : decode cX1_first 15 = .ok (.aload_n 0, 1) := by decide +kernel
theorem dX1_first_16 : decode cX1_first 16 = .ok (.getfield 13, 3) := by decide +kernel
theorem dX1_first_19 : decode cX1_first 19 = .ok (.iload_n 2, 1) := by decide +kernel
theorem dX1_first_20 : decode cX1_first 20 = .ok (.iaload, 1) := by decide +kernel
theorem dX1_first_21 : decode cX1_first 21 = .ok (.aload_n 0, 1) := by decide +kernel
theorem dX1_first_22 : decode cX1_first 22 = .ok (.getfield 13, 3) := by decide +kernel
theorem dX1_first_25 : decode cX1_first 25 = .ok (.iload_n 1, 1) := by decide +kernel
theorem dX1_first_26 : decode cX1_first 26 = .ok (.iaload, 1) := by decide +kernel
theorem dX1_first_27 : decode cX1_first 27 = .ok (.if_icmp .lt 33, 3) := by decide +kernel
theorem dX1_first_30 : decode cX1_first 30 = .ok (.aload_n 0, 1) := by decide +kernel
theorem dX1_first_31 : decode cX1_first 31 = .ok (.getfield 13, 3) := by decide +kernel
theorem dX1_first_34 : decode cX1_first 34 = .ok (.iload_n 2, 1) := by decide +kernel
theorem dX1_first_35 : decode cX1_first 35 = .ok (.iaload, 1) := by decide +kernel
theorem dX1_first_36 : decode cX1_first 36 = .ok (.aload_n 0, 1) := by decide +kernel
theorem dX1_first_37 : decode cX1_first 37 = .ok (.getfield 13, 3) := by decide +kernel
theorem dX1_first_40 : decode cX1_first 40 = .ok (.iload_n 1, 1) := by decide +kernel
theorem dX1_first_41 : decode cX1_first 41 = .ok (.iaload, 1) := by decide +kernel
theorem dX1_first_42 : decode cX1_first 42 = .ok (.if_icmp .ne 22, 3) := by decide +kernel
theorem dX1_first_45 : decode cX1_first 45 = .ok (.aload_n 0, 1) := by decide +kernel
theorem dX1_first_46 : decode cX1_first 46 = .ok (.getfield 7, 3) := by decide +kernel
theorem dX1_first_49 : decode cX1_first 49 = .ok (.iload_n 2, 1) := by decide +kernel
theorem dX1_first_50 : decode cX1_first 50 = .ok (.iaload, 1) := by decide +kernel
theorem dX1_first_51 : decode cX1_first 51 = .ok (.aload_n 0, 1) := by decide +kernel
theorem dX1_first_52 : decode cX1_first 52 = .ok (.getfield 7, 3) := by decide +kernel
theorem dX1_first_55 : decode cX1_first 55 = .ok (.iload_n 1, 1) := by decide +kernel
theorem dX1_first_56 : decode cX1_first 56 = .ok (.iaload, 1) := by decide +kernel
theorem dX1_first_57 : decode cX1_first 57 = .ok (.if_icmp .ge 7, 3) := by decide +kernel
theorem dX1_first_60 : decode cX1_first 60 = .ok (.iconst 1, 1) := by decide +kernel
theorem dX1_first_61 : decode cX1_first 61 = .ok (.goto 4, 3) := by decide +kernel
theorem dX1_first_64 : decode cX1_first 64 = .ok (.iconst 0, 1) := by decide +kernel
theorem dX1_first_65 : decode cX1_first 65 = .ok (.istore_n 3, 1) := by decide +kernel
theorem dX1_first_66 : decode cX1_first 66 = .ok (.aload_n 0, 1) := by decide +kernel
theorem dX1_first_67 : decode cX1_first 67 = .ok (.getfield 7, 3) := by decide +kernel
theorem dX1_first_70 : decode cX1_first 70 = .ok (.iload_n 2, 1) := by decide +kernel
theorem dX1_first_71 : decode cX1_first 71 = .ok (.iaload, 1) := by decide +kernel
theorem dX1_first_72 : decode cX1_first 72 = .ok (.ifCond .le 11, 3) := by decide +kernel
theorem dX1_first_75 : decode cX1_first 75 = .ok (.iload_n 3, 1) := by decide +kernel
theorem dX1_first_76 : decode cX1_first 76 = .ok (.ifCond .eq 7, 3) := by decide +kernel
theorem dX1_first_79 : decode cX1_first 79 = .ok (.iload_n 2, 1) := by decide +kernel
theorem dX1_first_80 : decode cX1_first 80 = .ok (.goto 4, 3) := by decide +kernel
theorem dX1_first_83 : decode cX1_first 83 = .ok (.iload_n 1, 1) := by decide +kernel
theorem dX1_first_84 : decode cX1_first 84 = .ok (.istore_n 1, 1) := by decide +kernel
theorem dX1_first_85 : decode cX1_first 85 = .ok (.iinc 2 1, 3) := by decide +kernel
theorem dX1_first_88 : decode cX1_first 88 = .ok (.goto (-84), 3) := by decide +kernel
theorem dX1_first_91 : decode cX1_first 91 = .ok (.iload_n 1, 1) := by decide +kernel
theorem dX1_first_92 : decode cX1_first 92 = .ok (.ireturn, 1) := by decide +kernel
theorem dX1_ring_0 : decode cX1_ring 0 = .ok (.aload_n 0, 1) := by decide +kernel
theorem dX1_ring_1 : decode cX1_ring 1 = .ok (.iconst 0, 1) := by decide +kernel
theorem dX1_ring_2 : decode cX1_ring 2 = .ok (.putfield 23, 3) := by decide +kernel
theorem dX1_ring_5 : decode cX1_ring 5 = .ok (.aload_n 0, 1) := by decide +kernel
theorem dX1_ring_6 : decode cX1_ring 6 = .ok (.invokevirtual 42, 3) := by decide +kernel
theorem dX1_ring_9 : decode cX1_ring 9 = .ok (.istore_n 1, 1) := by decide +kernel
theorem dX1_ring_10 : decode cX1_ring 10 = .ok (.iload_n 1, 1) := by decide +kernel
theorem dX1_ring_11 : decode cX1_ring 11 = .ok (.ifCond .lt 16, 3) := by decide +kernel
theorem dX1_ring_14 : decode cX1_ring 14 = .ok (.aload_n 0, 1) := by decide +kernel
theorem dX1_ring_15 : decode cX1_ring 15 = .ok (.getfield 13, 3) := by decide +kernel
theorem dX1_ring_18 : decode cX1_ring 18 = .ok (.iload_n 1, 1) := by decide +kernel
theorem dX1_ring_19 : decode cX1_ring 19 = .ok (.iaload, 1) := by decide +kernel
theorem dX1_ring_20 : decode cX1_ring 20 = .ok (.aload_n 0, 1) := by decide +kernel
theorem dX1_ring_21 : decode cX1_ring 21 = .ok (.getfield 29, 3) := by decide +kernel
theorem dX1_ring_24 : decode cX1_ring 24 = .ok (.if_icmp .le 5, 3) := by decide +kernel
theorem dX1_ring_27 : decode cX1_ring 27 = .ok (.iconst (-1), 1) := by decide +kernel
theorem dX1_ring_28 : decode cX1_ring 28 = .ok (.ireturn, 1) := by decide +kernel
theorem dX1_ring_29 : decode cX1_ring 29 = .ok (.aload_n 0, 1) := by decide +kernel
theorem dX1_ring_30 : decode cX1_ring 30 = .ok (.aload_n 0, 1) := by decide +kernel
theorem dX1_ring_31 : decode cX1_ring 31 = .ok (.getfield 16, 3) := by decide +kernel
theorem dX1_ring_34 : decode cX1_ring 34 = .ok (.iload_n 1, 1) := by decide +kernel
theorem dX1_ring_35 : decode cX1_ring 35 = .ok (.iaload, 1) := by decide +kernel
theorem dX1_ring_36 : decode cX1_ring 36 = .ok (.putfield 46, 3) := by decide +kernel
theorem dX1_ring_39 : decode cX1_ring 39 = .ok (.aload_n 0, 1) := by decide +kernel
theorem dX1_ring_40 : decode cX1_ring 40 = .ok (.aload_n 0, 1) := by decide +kernel
theorem dX1_ring_41 : decode cX1_ring 41 = .ok (.getfield 13, 3) := by decide +kernel
theorem dX1_ring_44 : decode cX1_ring 44 = .ok (.iload_n 1, 1) := by decide +kernel
theorem dX1_ring_45 : decode cX1_ring 45 = .ok (.iaload, 1) := by decide +kernel
theorem dX1_ring_46 : decode cX1_ring 46 = .ok (.putfield 19, 3) := by decide +kernel
theorem dX1_ring_49 : decode cX1_ring 49 = .ok (.aload_n 0, 1) := by decide +kernel
theorem dX1_ring_50 : decode cX1_ring 50 = .ok (.getfield 7, 3) := by decide +kernel
theorem dX1_ring_53 : decode cX1_ring 53 = .ok (.iload_n 1, 1) := by decide +kernel
theorem dX1_ring_54 : decode cX1_ring 54 = .ok (.iconst 0, 1) := by decide +kernel
theorem dX1_ring_55 : decode cX1_ring 55 = .ok (.iastore, 1) := by decide +kernel
theorem dX1_ring_56 : decode cX1_ring 56 = .ok (.iload_n 1, 1) := by decide +kernel
theorem dX1_ring_57 : decode cX1_ring 57 = .ok (.ireturn, 1) := by decide +kernel
theorem dX1_told_0 : decode cX1_told 0 = .ok (.aload_n 0, 1) := by decide +kernel
theorem dX1_told_1 : decode cX1_told 1 = .ok (.iconst 0, 1) := by decide +kernel
theorem dX1_told_2 : decode cX1_told 2 = .ok (.putfield 23, 3) := by decide +kernel
theorem dX1_told_5 : decode cX1_told 5 = .ok (.aload_n 0, 1) := by decide +kernel
theorem dX1_told_6 : decode cX1_told 6 = .ok (.getfield 46, 3) := by decide +kernel
theorem dX1_told_9 : decode cX1_told 9 = .ok (.ireturn, 1) := by decide +kernel
theorem dX1_wasDue_0 : decode cX1_wasDue 0 = .ok (.aload_n 0, 1) := by decide +kernel
theorem dX1_wasDue_1 : decode cX1_wasDue 1 = .ok (.iconst 0, 1) := by decide +kernel
theorem dX1_wasDue_2 : decode cX1_wasDue 2 = .ok (.putfield 23, 3) := by decide +kernel
theorem dX1_wasDue_5 : decode cX1_wasDue 5 = .ok (.aload_n 0, 1) := by decide +kernel
theorem dX1_wasDue_6 : decode cX1_wasDue 6 = .ok (.getfield 19, 3) := by decide +kernel
theorem dX1_wasDue_9 : decode cX1_wasDue 9 = .ok (.ireturn, 1) := by decide +kernel
theorem dX1_next_0 : decode cX1_next 0 = .ok (.aload_n 0, 1) := by decide +kernel
theorem dX1_next_1 : decode cX1_next 1 = .ok (.iconst 0, 1) := by decide +kernel
theorem dX1_next_2 : decode cX1_next 2 = .ok (.putfield 23, 3) := by decide +kernel
theorem dX1_next_5 : decode cX1_next 5 = .ok (.aload_n 0, 1) := by decide +kernel
theorem dX1_next_6 : decode cX1_next 6 = .ok (.invokevirtual 42, 3) := by decide +kernel
theorem dX1_next_9 : decode cX1_next 9 = .ok (.istore_n 1, 1) := by decide +kernel
theorem dX1_next_10 : decode cX1_next 10 = .ok (.iload_n 1, 1) := by decide +kernel
theorem dX1_next_11 : decode cX1_next 11 = .ok (.ifCond .ge 7, 3) := by decide +kernel
theorem dX1_next_14 : decode cX1_next 14 = .ok (.iconst (-1), 1) := by decide +kernel
theorem dX1_next_15 : decode cX1_next 15 = .ok (.goto 9, 3) := by decide +kernel
theorem dX1_next_18 : decode cX1_next 18 = .ok (.aload_n 0, 1) := by decide +kernel
theorem dX1_next_19 : decode cX1_next 19 = .ok (.getfield 13, 3) := by decide +kernel
theorem dX1_next_22 : decode cX1_next 22 = .ok (.iload_n 1, 1) := by decide +kernel
theorem dX1_next_23 : decode cX1_next 23 = .ok (.iaload, 1) := by decide +kernel
theorem dX1_next_24 : decode cX1_next 24 = .ok (.ireturn, 1) := by decide +kernel
theorem dX1_about_0 : decode cX1_about 0 = .ok (.aload_n 0, 1) := by decide +kernel
theorem dX1_about_1 : decode cX1_about 1 = .ok (.aload_n 0, 1) := by decide +kernel
theorem dX1_about_2 : decode cX1_about 2 = .ok (.iload_n 1, 1) := by decide +kernel
theorem dX1_about_3 : decode cX1_about 3 = .ok (.invokevirtual 37, 3) := by decide +kernel
theorem dX1_about_6 : decode cX1_about 6 = .ok (.ifCond .eq 12, 3) := by decide +kernel
theorem dX1_about_9 : decode cX1_about 9 = .ok (.iload_n 2, 1) := by decide +kernel
theorem dX1_about_10 : decode cX1_about 10 = .ok (.ifCond .lt 8, 3) := by decide +kernel
theorem dX1_about_13 : decode cX1_about 13 = .ok (.iload_n 2, 1) := by decide +kernel
theorem dX1_about_14 : decode cX1_about 14 = .ok (.iconst 1, 1) := by decide +kernel
theorem dX1_about_15 : decode cX1_about 15 = .ok (.if_icmp .le 7, 3) := by decide +kernel
theorem dX1_about_18 : decode cX1_about 18 = .ok (.iconst 1, 1) := by decide +kernel
theorem dX1_about_19 : decode cX1_about 19 = .ok (.goto 4, 3) := by decide +kernel
theorem dX1_about_22 : decode cX1_about 22 = .ok (.iconst 0, 1) := by decide +kernel
theorem dX1_about_23 : decode cX1_about 23 = .ok (.putfield 23, 3) := by decide +kernel
theorem dX1_about_26 : decode cX1_about 26 = .ok (.aload_n 0, 1) := by decide +kernel
theorem dX1_about_27 : decode cX1_about 27 = .ok (.getfield 23, 3) := by decide +kernel
theorem dX1_about_30 : decode cX1_about 30 = .ok (.ifCond .le 7, 3) := by decide +kernel
theorem dX1_about_33 : decode cX1_about 33 = .ok (.iconst 0, 1) := by decide +kernel
theorem dX1_about_34 : decode cX1_about 34 = .ok (.goto 22, 3) := by decide +kernel
theorem dX1_about_37 : decode cX1_about 37 = .ok (.iload_n 2, 1) := by decide +kernel
theorem dX1_about_38 : decode cX1_about 38 = .ok (.ifCond .ne 12, 3) := by decide +kernel
theorem dX1_about_41 : decode cX1_about 41 = .ok (.aload_n 0, 1) := by decide +kernel
theorem dX1_about_42 : decode cX1_about 42 = .ok (.getfield 13, 3) := by decide +kernel
theorem dX1_about_45 : decode cX1_about 45 = .ok (.iload_n 1, 1) := by decide +kernel
theorem dX1_about_46 : decode cX1_about 46 = .ok (.iaload, 1) := by decide +kernel
theorem dX1_about_47 : decode cX1_about 47 = .ok (.goto 9, 3) := by decide +kernel
theorem dX1_about_50 : decode cX1_about 50 = .ok (.aload_n 0, 1) := by decide +kernel
theorem dX1_about_51 : decode cX1_about 51 = .ok (.getfield 16, 3) := by decide +kernel
theorem dX1_about_54 : decode cX1_about 54 = .ok (.iload_n 1, 1) := by decide +kernel
theorem dX1_about_55 : decode cX1_about 55 = .ok (.iaload, 1) := by decide +kernel
theorem dX1_about_56 : decode cX1_about 56 = .ok (.ireturn, 1) := by decide +kernel
theorem dX1_count_0 : decode cX1_count 0 = .ok (.aload_n 0, 1) := by decide +kernel
theorem dX1_count_1 : decode cX1_count 1 = .ok (.iconst 0, 1) := by decide +kernel
theorem dX1_count_2 : decode cX1_count 2 = .ok (.putfield 23, 3) := by decide +kernel
theorem dX1_count_5 : decode cX1_count 5 = .ok (.iconst 0, 1) := by decide +kernel
theorem dX1_count_6 : decode cX1_count 6 = .ok (.istore_n 2, 1) := by decide +kernel
theorem dX1_count_7 : decode cX1_count 7 = .ok (.iconst 0, 1) := by decide +kernel
theorem dX1_count_8 : decode cX1_count 8 = .ok (.istore_n 3, 1) := by decide +kernel
theorem dX1_count_9 : decode cX1_count 9 = .ok (.iload_n 3, 1) := by decide +kernel
theorem dX1_count_10 : decode cX1_count 10 = .ok (.sipush 512, 3) := by decide +kernel
theorem dX1_count_13 : decode cX1_count 13 = .ok (.if_icmp .ge 43, 3) := by decide +kernel
theorem dX1_count_16 : decode cX1_count 16 = .ok (.iload_n 2, 1) := by decide +kernel
theorem dX1_count_17 : decode cX1_count 17 = .ok (.aload_n 0, 1) := by decide +kernel
theorem dX1_count_18 : decode cX1_count 18 = .ok (.getfield 7, 3) := by decide +kernel
theorem dX1_count_21 : decode cX1_count 21 = .ok (.iload_n 3, 1) := by decide +kernel
theorem dX1_count_22 : decode cX1_count 22 = .ok (.iaload, 1) := by decide +kernel
theorem dX1_count_23 : decode cX1_count 23 = .ok (.ifCond .le 24, 3) := by decide +kernel
theorem dX1_count_26 : decode cX1_count 26 = .ok (.iload_n 1, 1) := by decide +kernel
theorem dX1_count_27 : decode cX1_count 27 = .ok (.ifCond .eq 16, 3) := by decide +kernel
theorem dX1_count_30 : decode cX1_count 30 = .ok (.aload_n 0, 1) := by decide +kernel
theorem dX1_count_31 : decode cX1_count 31 = .ok (.getfield 13, 3) := by decide +kernel
theorem dX1_count_34 : decode cX1_count 34 = .ok (.iload_n 3, 1) := by decide +kernel
theorem dX1_count_35 : decode cX1_count 35 = .ok (.iaload, 1) := by decide +kernel
theorem dX1_count_36 : decode cX1_count 36 = .ok (.aload_n 0, 1) := by decide +kernel
theorem dX1_count_37 : decode cX1_count 37 = .ok (.getfield 29, 3) := by decide +kernel
theorem dX1_count_40 : decode cX1_count 40 = .ok (.if_icmp .gt 7, 3) := by decide +kernel
theorem dX1_count_43 : decode cX1_count 43 = .ok (.iconst 1, 1) := by decide +kernel
theorem dX1_count_44 : decode cX1_count 44 = .ok (.goto 4, 3) := by decide +kernel
theorem dX1_count_47 : decode cX1_count 47 = .ok (.iconst 0, 1) := by decide +kernel
theorem dX1_count_48 : decode cX1_count 48 = .ok (.iadd, 1) := by decide +kernel
theorem dX1_count_49 : decode cX1_count 49 = .ok (.istore_n 2, 1) := by decide +kernel
theorem dX1_count_50 : decode cX1_count 50 = .ok (.iinc 3 1, 3) := by decide +kernel
theorem dX1_count_53 : decode cX1_count 53 = .ok (.goto (-44), 3) := by decide +kernel
theorem dX1_count_56 : decode cX1_count 56 = .ok (.iload_n 2, 1) := by decide +kernel
theorem dX1_count_57 : decode cX1_count 57 = .ok (.ireturn, 1) := by decide +kernel
theorem dX1_time_0 : decode cX1_time 0 = .ok (.aload_n 0, 1) := by decide +kernel
theorem dX1_time_1 : decode cX1_time 1 = .ok (.iconst 0, 1) := by decide +kernel
theorem dX1_time_2 : decode cX1_time 2 = .ok (.putfield 23, 3) := by decide +kernel
theorem dX1_time_5 : decode cX1_time 5 = .ok (.aload_n 0, 1) := by decide +kernel
theorem dX1_time_6 : decode cX1_time 6 = .ok (.getfield 29, 3) := by decide +kernel
theorem dX1_time_9 : decode cX1_time 9 = .ok (.ireturn, 1) := by decide +kernel
end
section
def wsL_law0_r1 : List Cond := [Cond.classLink RL 8 RX0, Cond.instantiable RX0 8, Cond.initialized RX0, Cond.classLink RL 31 RX1, Cond.instantiable RX1 8, Cond.initialized RX1, Cond.methodLink RL 30 yX0_init, Cond.instanceMethod yX0_init, Cond.code yX0_init cX0_init 1 none, Cond.methodLink RX0 1 objectInit, Cond.instanceMethod objectInit, Cond.code objectInit ⟨#[0xb1]⟩ 1 none, Cond.arrayClass .boolean, Cond.fieldLink RX0 9 "AlarmBench" "isSet" "[Z", Cond.arrayClass .int, Cond.fieldLink RX0 13 "AlarmBench" "dueAt" "[I", Cond.fieldLink RX0 17 "AlarmBench" "telling" "[I", Cond.fieldLink RX0 20 "AlarmBench" "rank" "[I", Cond.fieldLink RX0 23 "AlarmBench" "now" "I", Cond.fieldLink RX0 27 "AlarmBench" "lastRank" "I", Cond.fieldLink RX0 30 "AlarmBench" "rungTold" "I", Cond.fieldLink RX0 33 "AlarmBench" "rungDue" "I", Cond.methodLink RL 33 yX1_init, Cond.instanceMethod yX1_init]
def wsL_law0_r2 : List Cond := [Cond.code yX1_init cX1_init 1 none, Cond.methodLink RX1 1 objectInit, Cond.fieldLink RX1 7 "AlarmBenchModel" "rank" "[I", Cond.fieldLink RX1 13 "AlarmBenchModel" "due" "[I", Cond.methodLink RL 34 yL_set, Cond.static yL_set, Cond.initialized RL, Cond.codeWith yL_set cL_set 5 (some .int) [(0, 10, 13, 13), (0, 10, 17, 15)], Cond.classLink RL 13 "java/lang/IllegalArgumentException", Cond.classLink RL 15 "java/lang/IllegalStateException", Cond.methodLink RL 7 yX0_set, Cond.instanceMethod yX0_set, Cond.selects RX0 yX0_set yX0_set, Cond.code yX0_set cX0_set 4 (some .int), Cond.classLink RX0 40 "java/lang/IllegalArgumentException", Cond.initialized "java/lang/IllegalArgumentException", Cond.classLink RX0 51 "java/lang/IllegalStateException", Cond.initialized "java/lang/IllegalStateException", Cond.methodLink RX0 36 yX0_canBeAhead, Cond.static yX0_canBeAhead, Cond.code yX0_canBeAhead cX0_canBeAhead 1 (some .boolean), Cond.constant RX0 83 (1000000000), Cond.methodLink RX0 47 yX0_leastFree, Cond.instanceMethod yX0_leastFree]
def wsL_law0_r3 : List Cond := [Cond.selects RX0 yX0_leastFree yX0_leastFree, Cond.code yX0_leastFree cX0_leastFree 2 (some .int), Cond.methodLink RX0 56 yX0_isBehindLastTime, Cond.instanceMethod yX0_isBehindLastTime, Cond.selects RX0 yX0_isBehindLastTime yX0_isBehindLastTime, Cond.code yX0_isBehindLastTime cX0_isBehindLastTime 2 (some .boolean), Cond.methodLink RX0 61 yX0_putAhead, Cond.instanceMethod yX0_putAhead, Cond.selects RX0 yX0_putAhead yX0_putAhead, Cond.code yX0_putAhead cX0_putAhead 3 none, Cond.methodLink RL 44 yL_shift, Cond.static yL_shift, Cond.codeWith yL_shift cL_shift 5 (some .int) [(0, 10, 13, 13), (0, 10, 17, 15)], Cond.methodLink RL 17 yX0_shift, Cond.instanceMethod yX0_shift, Cond.selects RX0 yX0_shift yX0_shift, Cond.code yX0_shift cX0_shift 4 (some .int), Cond.methodLink RX0 65 yX0_exists, Cond.instanceMethod yX0_exists, Cond.selects RX0 yX0_exists yX0_exists, Cond.code yX0_exists cX0_exists 2 (some .boolean), Cond.methodLink RL 47 yL_stop, Cond.static yL_stop, Cond.codeWith yL_stop cL_stop 4 (some .int) [(0, 9, 12, 13)]]
def wsL_law0_r4 : List Cond := [Cond.methodLink RL 20 yX0_stop, Cond.instanceMethod yX0_stop, Cond.selects RX0 yX0_stop yX0_stop, Cond.code yX0_stop cX0_stop 2 (some .int), Cond.methodLink RL 51 yX0_stopAll, Cond.instanceMethod yX0_stopAll, Cond.selects RX0 yX0_stopAll yX0_stopAll, Cond.code yX0_stopAll cX0_stopAll 4 (some .int), Cond.methodLink RL 55 yL_pass, Cond.static yL_pass, Cond.codeWith yL_pass cL_pass 4 (some .int) [(0, 9, 12, 13), (0, 9, 15, 15)], Cond.methodLink RL 24 yX0_pass, Cond.instanceMethod yX0_pass, Cond.selects RX0 yX0_pass yX0_pass, Cond.code yX0_pass cX0_pass 2 (some .int), Cond.constant RX0 70 (200000), Cond.methodLink RL 58 yX0_ring, Cond.instanceMethod yX0_ring, Cond.selects RX0 yX0_ring yX0_ring, Cond.code yX0_ring cX0_ring 2 (some .int), Cond.methodLink RX0 75 yX0_first, Cond.instanceMethod yX0_first, Cond.selects RX0 yX0_first yX0_first, Cond.code yX0_first cX0_first 3 (some .int)]
def wsL_law0_r5 : List Cond := [Cond.methodLink RX0 84 yX0_isBefore, Cond.instanceMethod yX0_isBefore, Cond.selects RX0 yX0_isBefore yX0_isBefore, Cond.code yX0_isBefore cX0_isBefore 3 (some .boolean), Cond.methodLink RX0 78 yX0_isReady, Cond.instanceMethod yX0_isReady, Cond.selects RX0 yX0_isReady yX0_isReady, Cond.code yX0_isReady cX0_isReady 2 (some .boolean), Cond.methodLink RL 62 yX0_told, Cond.instanceMethod yX0_told, Cond.selects RX0 yX0_told yX0_told, Cond.code yX0_told cX0_told 1 (some .int), Cond.methodLink RL 66 yX0_wasDue, Cond.instanceMethod yX0_wasDue, Cond.selects RX0 yX0_wasDue yX0_wasDue, Cond.code yX0_wasDue cX0_wasDue 1 (some .int), Cond.methodLink RL 70 yX0_next, Cond.instanceMethod yX0_next, Cond.selects RX0 yX0_next yX0_next, Cond.code yX0_next cX0_next 2 (some .int), Cond.methodLink RL 74 yL_about, Cond.static yL_about, Cond.codeWith yL_about cL_about 5 (some .int) [(0, 10, 13, 13)], Cond.methodLink RL 27 yX0_about]
def wsL_law0_r6 : List Cond := [Cond.instanceMethod yX0_about, Cond.selects RX0 yX0_about yX0_about, Cond.code yX0_about cX0_about 3 (some .int), Cond.methodLink RL 77 yX0_count, Cond.instanceMethod yX0_count, Cond.selects RX0 yX0_count yX0_count, Cond.code yX0_count cX0_count 4 (some .int), Cond.methodLink RL 82 yX0_time, Cond.instanceMethod yX0_time, Cond.selects RX0 yX0_time yX0_time, Cond.code yX0_time cX0_time 1 (some .int)]
def wsL_law0 : List Cond := (wsL_law0_r1 ++ (wsL_law0_r2 ++ (wsL_law0_r3 ++ (wsL_law0_r4 ++ (wsL_law0_r5 ++ wsL_law0_r6))))) ++ wsX00 ++ wsX10 ++ ([] : List Cond)
def wsL_law : List Cond := wsL_law0 ++ (vx_atS RX0 44 "java/lang/IllegalArgumentException" ["java/lang/RuntimeException", "java/lang/Exception"]).filter goodWord ++ (vx_atS RX0 55 "java/lang/IllegalStateException" ["java/lang/RuntimeException", "java/lang/Exception"]).filter goodWord
set_option maxRecDepth 20000 in
theorem wsL_law_in0 : ∀ w ∈ wsL_law0, w ∈ lw_tbl := fun w h => (goodIn_p wsL_law0 [23, 26, 244, 102, 105, 177, 197, 202, 209, 213, 221, 57, 228, 61, 65, 69, 73, 77, 81, 85, 238, 89, 93] (by decide +kernel) (by decide +kernel) w h).1
theorem wsL_law_x0 : ∀ w ∈ (vx_atS RX0 44 "java/lang/IllegalArgumentException" ["java/lang/RuntimeException", "java/lang/Exception"]).filter goodWord, w ∈ lw_tbl := by decide +kernel
theorem wsL_law_x1 : ∀ w ∈ (vx_atS RX0 55 "java/lang/IllegalStateException" ["java/lang/RuntimeException", "java/lang/Exception"]).filter goodWord, w ∈ lw_tbl := by decide +kernel
theorem wsL_law_in : ∀ w ∈ wsL_law, w ∈ lw_tbl := fun w h => (List.mem_append.mp h).elim (fun h => (List.mem_append.mp h).elim (fun h => wsL_law_in0 w h) (fun h => wsL_law_x0 w h)) (fun h => wsL_law_x1 w h)
theorem inlX0 : ∀ w ∈ wsX00, w ∈ wsL_law := fun _ h => List.mem_append_left _ (List.mem_append_left _ (List.mem_append_left _ (List.mem_append_left _ (List.mem_append_right _ h))))
theorem inX0 : ∀ w ∈ wsX00, w ∈ lw_tbl := fun w h => wsL_law_in w (inlX0 w h)
set_option maxRecDepth 20000 in
theorem ggL_law_X0_init : GoodIn wsL_law wsX0_init := goodIn_r _ [8, 9, 10, 11, 12, 13, 14, 15, 16, 17, 18, 19, 20, 21, 131, 132, 133, 134, 135, 136, 137, 138] (by decide +kernel) (by decide +kernel)
set_option maxRecDepth 20000 in
theorem gL_law_X0_init : GoodIn wsL_law (wsX0_init) := ggL_law_X0_init
set_option maxRecDepth 20000 in
theorem ggL_law_L_set : GoodIn wsL_law wsL_set := goodIn_ca (goodIn_ca (goodIn_r _ [31, 32, 33, 34, 35, 36, 2, 37, 38, 39, 40, 41, 13, 16, 42, 43, 44, 45, 46, 47, 48, 49, 50, 51, 52, 53, 18, 54, 55, 56, 57, 15, 19, 17, 131, 132, 133, 134, 135, 136, 137, 138] (by decide +kernel) (by decide +kernel)) (goodIn_sub (fun _ h => List.mem_append_left _ (List.mem_append_right _ h)) (by decide +kernel))) (goodIn_sub (fun _ h => List.mem_append_right _ h) (by decide +kernel))
set_option maxRecDepth 20000 in
theorem gL_law_L_set : GoodIn wsL_law (va_wsS RL 34 yL_set wsL_set) := goodIn_app (goodIn_of _ (by decide +kernel)) ggL_law_L_set
set_option maxRecDepth 20000 in
theorem ggL_law_L_shift : GoodIn wsL_law wsL_shift := goodIn_ca (goodIn_ca (goodIn_r _ [60, 32, 33, 61, 62, 63, 2, 64, 38, 39, 40, 41, 15, 18, 65, 66, 67, 68, 13, 42, 43, 44, 45, 50, 51, 52, 53, 54, 55, 56, 57, 19, 17, 131, 132, 133, 134, 135, 136, 137, 138] (by decide +kernel) (by decide +kernel)) (goodIn_sub (fun _ h => List.mem_append_left _ (List.mem_append_right _ h)) (by decide +kernel))) (goodIn_sub (fun _ h => List.mem_append_right _ h) (by decide +kernel))
set_option maxRecDepth 20000 in
theorem gL_law_L_shift : GoodIn wsL_law (va_wsS RL 44 yL_shift wsL_shift) := goodIn_app (goodIn_of _ (by decide +kernel)) ggL_law_L_shift
set_option maxRecDepth 20000 in
theorem ggL_law_L_stop : GoodIn wsL_law wsL_stop := goodIn_ca (goodIn_r _ [71, 32, 72, 73, 74, 2, 75, 38, 39, 13, 16, 65, 66, 67, 68, 131, 132, 133, 134, 135, 136, 137, 138] (by decide +kernel) (by decide +kernel)) (goodIn_sub (fun _ h => List.mem_append_left _ (List.mem_append_right _ h)) (by decide +kernel))
set_option maxRecDepth 20000 in
theorem gL_law_L_stop : GoodIn wsL_law (va_wsS RL 47 yL_stop wsL_stop) := goodIn_app (goodIn_of _ (by decide +kernel)) ggL_law_L_stop
set_option maxRecDepth 20000 in
theorem ggL_law_X0_stopAll : GoodIn wsL_law wsX0_stopAll := goodIn_r _ [79, 13, 16, 131, 132, 133, 134, 135, 136, 137, 138] (by decide +kernel) (by decide +kernel)
set_option maxRecDepth 20000 in
theorem gL_law_X0_stopAll : GoodIn wsL_law (wsV RL 51 RX0 yX0_stopAll wsX0_stopAll) := goodIn_app (goodIn_of _ (by decide +kernel)) ggL_law_X0_stopAll
set_option maxRecDepth 20000 in
theorem ggL_law_L_pass : GoodIn wsL_law wsL_pass := goodIn_ca (goodIn_ca (goodIn_r _ [82, 32, 33, 83, 84, 85, 2, 86, 38, 39, 40, 41, 87, 18, 50, 51, 52, 53, 45, 131, 132, 133, 134, 135, 136, 137, 138] (by decide +kernel) (by decide +kernel)) (goodIn_sub (fun _ h => List.mem_append_left _ (List.mem_append_right _ h)) (by decide +kernel))) (goodIn_sub (fun _ h => List.mem_append_right _ h) (by decide +kernel))
set_option maxRecDepth 20000 in
theorem gL_law_L_pass : GoodIn wsL_law (va_wsS RL 55 yL_pass wsL_pass) := goodIn_app (goodIn_of _ (by decide +kernel)) ggL_law_L_pass
set_option maxRecDepth 20000 in
theorem ggL_law_X0_ring : GoodIn wsL_law wsX0_ring := goodIn_r _ [91, 13, 16, 20, 15, 21, 92, 93, 94, 2, 95, 96, 97, 98, 99, 17, 100, 101, 102, 103, 18, 131, 132, 133, 134, 135, 136, 137, 138] (by decide +kernel) (by decide +kernel)
set_option maxRecDepth 20000 in
theorem gL_law_X0_ring : GoodIn wsL_law (wsV RL 58 RX0 yX0_ring wsX0_ring) := goodIn_app (goodIn_of _ (by decide +kernel)) ggL_law_X0_ring
set_option maxRecDepth 20000 in
theorem ggL_law_X0_told : GoodIn wsL_law wsX0_told := goodIn_r _ [107, 20, 131, 132, 133, 134, 135, 136, 137, 138] (by decide +kernel) (by decide +kernel)
set_option maxRecDepth 20000 in
theorem gL_law_X0_told : GoodIn wsL_law (wsV RL 62 RX0 yX0_told wsX0_told) := goodIn_app (goodIn_of _ (by decide +kernel)) ggL_law_X0_told
set_option maxRecDepth 20000 in
theorem ggL_law_X0_wasDue : GoodIn wsL_law wsX0_wasDue := goodIn_r _ [111, 21, 131, 132, 133, 134, 135, 136, 137, 138] (by decide +kernel) (by decide +kernel)
set_option maxRecDepth 20000 in
theorem gL_law_X0_wasDue : GoodIn wsL_law (wsV RL 66 RX0 yX0_wasDue wsX0_wasDue) := goodIn_app (goodIn_of _ (by decide +kernel)) ggL_law_X0_wasDue
set_option maxRecDepth 20000 in
theorem ggL_law_X0_next : GoodIn wsL_law wsX0_next := goodIn_r _ [115, 15, 92, 93, 94, 2, 95, 13, 96, 97, 98, 99, 17, 131, 132, 133, 134, 135, 136, 137, 138] (by decide +kernel) (by decide +kernel)
set_option maxRecDepth 20000 in
theorem gL_law_X0_next : GoodIn wsL_law (wsV RL 70 RX0 yX0_next wsX0_next) := goodIn_app (goodIn_of _ (by decide +kernel)) ggL_law_X0_next
set_option maxRecDepth 20000 in
theorem ggL_law_L_about : GoodIn wsL_law wsL_about := goodIn_ca (goodIn_r _ [118, 32, 119, 120, 121, 2, 122, 38, 39, 15, 16, 65, 66, 67, 68, 13, 131, 132, 133, 134, 135, 136, 137, 138] (by decide +kernel) (by decide +kernel)) (goodIn_sub (fun _ h => List.mem_append_left _ (List.mem_append_right _ h)) (by decide +kernel))
set_option maxRecDepth 20000 in
theorem gL_law_L_about : GoodIn wsL_law (va_wsS RL 74 yL_about wsL_about) := goodIn_app (goodIn_of _ (by decide +kernel)) ggL_law_L_about
set_option maxRecDepth 20000 in
theorem ggL_law_X0_count : GoodIn wsL_law wsX0_count := goodIn_r _ [126, 13, 100, 101, 102, 2, 103, 15, 18, 131, 132, 133, 134, 135, 136, 137, 138] (by decide +kernel) (by decide +kernel)
set_option maxRecDepth 20000 in
theorem gL_law_X0_count : GoodIn wsL_law (wsV RL 77 RX0 yX0_count wsX0_count) := goodIn_app (goodIn_of _ (by decide +kernel)) ggL_law_X0_count
set_option maxRecDepth 20000 in
theorem ggL_law_X0_time : GoodIn wsL_law wsX0_time := goodIn_r _ [130, 18, 131, 132, 133, 134, 135, 136, 137, 138] (by decide +kernel) (by decide +kernel)
set_option maxRecDepth 20000 in
theorem gL_law_X0_time : GoodIn wsL_law (wsV RL 82 RX0 yX0_time wsX0_time) := goodIn_app (goodIn_of _ (by decide +kernel)) ggL_law_X0_time
set_option maxRecDepth 20000 in
theorem gW_X1_init : GoodIn lw_tbl wsX1_init := goodIn_p _ [244, 26] (by decide +kernel) (by decide +kernel)
set_option maxRecDepth 20000 in
theorem gW_X1_thrown : GoodIn lw_tbl (wsV RL 40 RX1 yX1_thrown wsX1_thrown) := goodIn_p _ [274] (by decide +kernel) (by decide +kernel)
set_option maxRecDepth 20000 in
theorem gW_X1_set : GoodIn lw_tbl (wsV RL 39 RX1 yX1_set wsX1_set) := goodIn_p _ [278, 283] (by decide +kernel) (by decide +kernel)
set_option maxRecDepth 20000 in
theorem gW_X1_shift : GoodIn lw_tbl (wsV RL 46 RX1 yX1_shift wsX1_shift) := goodIn_p _ [287, 291, 283] (by decide +kernel) (by decide +kernel)
set_option maxRecDepth 20000 in
theorem gW_X1_stop : GoodIn lw_tbl (wsV RL 50 RX1 yX1_stop wsX1_stop) := goodIn_p _ [295, 291] (by decide +kernel) (by decide +kernel)
set_option maxRecDepth 20000 in
theorem gW_X1_stopAll : GoodIn lw_tbl (wsV RL 54 RX1 yX1_stopAll wsX1_stopAll) := goodIn_p _ [299] (by decide +kernel) (by decide +kernel)
set_option maxRecDepth 20000 in
theorem gW_X1_pass : GoodIn lw_tbl (wsV RL 57 RX1 yX1_pass wsX1_pass) := goodIn_p _ [303] (by decide +kernel) (by decide +kernel)
set_option maxRecDepth 20000 in
theorem gW_X1_ring : GoodIn lw_tbl (wsV RL 61 RX1 yX1_ring wsX1_ring) := goodIn_p _ [308, 312] (by decide +kernel) (by decide +kernel)
set_option maxRecDepth 20000 in
theorem gW_X1_told : GoodIn lw_tbl (wsV RL 65 RX1 yX1_told wsX1_told) := goodIn_p _ [316] (by decide +kernel) (by decide +kernel)
set_option maxRecDepth 20000 in
theorem gW_X1_wasDue : GoodIn lw_tbl (wsV RL 69 RX1 yX1_wasDue wsX1_wasDue) := goodIn_p _ [320] (by decide +kernel) (by decide +kernel)
set_option maxRecDepth 20000 in
theorem gW_X1_next : GoodIn lw_tbl (wsV RL 73 RX1 yX1_next wsX1_next) := goodIn_p _ [324, 312] (by decide +kernel) (by decide +kernel)
set_option maxRecDepth 20000 in
theorem gW_X1_about : GoodIn lw_tbl (wsV RL 76 RX1 yX1_about wsX1_about) := goodIn_p _ [328, 291] (by decide +kernel) (by decide +kernel)
set_option maxRecDepth 20000 in
theorem gW_X1_count : GoodIn lw_tbl (wsV RL 81 RX1 yX1_count wsX1_count) := goodIn_p _ [332] (by decide +kernel) (by decide +kernel)
set_option maxRecDepth 20000 in
theorem gW_X1_time : GoodIn lw_tbl (wsV RL 85 RX1 yX1_time wsX1_time) := goodIn_p _ [336] (by decide +kernel) (by decide +kernel)
set_option maxRecDepth 20000 in
theorem inX1 : ∀ w ∈ wsX10, w ∈ lw_tbl := by decide +kernel
end
section
/-! The class's state in numbers, and what its methods compute. -/
section ABP
/-- an answer that is 1 or 0 -/
def kz_b (P : Prop) (r : Int32) : Prop := (r = 1 ∧ P) ∨ (r = 0 ∧ ¬ P)
theorem kz_b.t {P : Prop} {r : Int32} (h : kz_b P r) (c : ¬ r = 0) : P := by
  rcases h with h | h
  · exact h.2
  · exact absurd h.1 c
theorem kz_b.f {P : Prop} {r : Int32} (h : kz_b P r) (c : r = 0) : ¬ P := by
  rcases h with h | h
  · rw [h.1] at c; exact absurd c (by decide)
  · exact h.2
/-- a place, or -1 -/
def oI : Option Nat → Int32
  | none => -1
  | some k => nI k
theorem oI_n {o : Option Nat} (h : oI o = -1) (hb : ∀ k, o = some k → k < 2 ^ 31) : o = none := by
  cases o with
  | none => rfl
  | some k =>
    have h1 : nI k = -1 := h
    have h2 := nI_pos (hb k rfl)
    rw [h1] at h2
    exact absurd (by decide) h2
def ab_bef (D R : Nat → Int32) (a b : Nat) : Bool := if D a = D b then decide (R a < R b) else decide (D a < D b)
/-- the first of those below n, by due time, then rank -/
def ab_fst (S D R : Nat → Int32) : Nat → Option Nat
  | 0 => none
  | n + 1 => if S n = 0 then ab_fst S D R n else match ab_fst S D R n with
    | none => some n
    | some k => if ab_bef D R n k then some n else some k
theorem ab_fst_lt {S D R : Nat → Int32} : ∀ {n k : Nat}, ab_fst S D R n = some k → k < n ∧ S k ≠ 0 := by
  intro n
  induction n with
  | zero => intro k h; cases h
  | succ n ih =>
    intro k h
    unfold ab_fst at h
    by_cases h0 : S n = 0
    · rw [if_pos h0] at h
      exact ⟨Nat.lt_succ_of_lt (ih h).1, (ih h).2⟩
    · rw [if_neg h0] at h
      cases hf : ab_fst S D R n with
      | none => rw [hf] at h; cases h; exact ⟨Nat.lt_succ_self _, h0⟩
      | some j =>
        rw [hf] at h
        dsimp only at h
        split at h
        · cases h; exact ⟨Nat.lt_succ_self _, h0⟩
        · cases h; exact ⟨Nat.lt_succ_of_lt (ih hf).1, (ih hf).2⟩
theorem ab_fst_0 {S D R : Nat → Int32} {n : Nat} (h : S n = 0) : ab_fst S D R (n + 1) = ab_fst S D R n := by
  show (if S n = 0 then _ else _) = _
  rw [if_pos h]
theorem ab_fst_n {S D R : Nat → Int32} {n : Nat} (h : ¬ S n = 0) (h1 : ab_fst S D R n = none) : ab_fst S D R (n + 1) = some n := by
  show (if S n = 0 then _ else _) = _
  rw [if_neg h, h1]
theorem ab_fst_t {S D R : Nat → Int32} {n k : Nat} (h : ¬ S n = 0) (h1 : ab_fst S D R n = some k) (h2 : ab_bef D R n k = true) : ab_fst S D R (n + 1) = some n := by
  show (if S n = 0 then _ else _) = _
  rw [if_neg h, h1]
  show (if ab_bef D R n k then some n else some k) = _
  rw [if_pos h2]
theorem ab_fst_f {S D R : Nat → Int32} {n k : Nat} (h : ¬ S n = 0) (h1 : ab_fst S D R n = some k) (h2 : ¬ ab_bef D R n k = true) : ab_fst S D R (n + 1) = some k := by
  show (if S n = 0 then _ else _) = _
  rw [if_neg h, h1]
  show (if ab_bef D R n k then some n else some k) = _
  rw [if_neg h2]
/-- how many below n -/
def ab_cnt (P : Nat → Bool) : Nat → Nat
  | 0 => 0
  | n + 1 => ab_cnt P n + if P n then 1 else 0
theorem ab_cnt_t {P : Nat → Bool} {n : Nat} (h : P n = true) : ab_cnt P (n + 1) = ab_cnt P n + 1 := by
  show _ + (if P n then 1 else 0) = _
  rw [if_pos h]
theorem ab_cnt_f {P : Nat → Bool} {n : Nat} (h : ¬ P n = true) : ab_cnt P (n + 1) = ab_cnt P n := by
  show _ + (if P n then 1 else 0) = _
  rw [if_neg h]; rfl
/-- stopAll, when the places below k are through -/
def ab_sa (S T : Nat → Int32) (t : Int32) (k : Nat) : Nat → Int32 := fun j => if j < k ∧ S j ≠ 0 ∧ T j = t then 0 else S j
theorem ab_sa_0 (S T : Nat → Int32) (t : Int32) : ab_sa S T t 0 = S := by
  funext j
  unfold ab_sa
  rw [if_neg (fun h => absurd h.1 (Nat.not_lt_zero j))]
theorem ab_sa_at (S T : Nat → Int32) (t : Int32) (k : Nat) : ab_sa S T t k k = S k := by
  unfold ab_sa
  rw [if_neg (fun h => absurd h.1 (Nat.lt_irrefl k))]
theorem ab_sa_t {S T : Nat → Int32} {t : Int32} {k : Nat} (h : S k ≠ 0) (h2 : T k = t) : upd (ab_sa S T t k) k 0 = ab_sa S T t (k + 1) := by
  funext j
  unfold upd ab_sa
  by_cases e : j = k
  · subst e
    rw [if_pos rfl, if_pos ⟨Nat.lt_succ_self _, h, h2⟩]
  · rw [if_neg e]
    by_cases q : j < k ∧ S j ≠ 0 ∧ T j = t
    · rw [if_pos q, if_pos ⟨Nat.lt_succ_of_lt q.1, q.2⟩]
    · rw [if_neg q, if_neg (fun z => q ⟨by have := z.1; omega, z.2⟩)]
theorem ab_sa_f {S T : Nat → Int32} {t : Int32} {k : Nat} (h : ¬ (S k ≠ 0 ∧ T k = t)) : ab_sa S T t k = ab_sa S T t (k + 1) := by
  funext j
  unfold ab_sa
  by_cases e : j = k
  · subst e
    rw [if_neg (fun z => h z.2), if_neg (fun z => h z.2)]
  · by_cases q : j < k ∧ S j ≠ 0 ∧ T j = t
    · rw [if_pos q, if_pos ⟨Nat.lt_succ_of_lt q.1, q.2⟩]
    · rw [if_neg q, if_neg (fun z => q ⟨by have := z.1; omega, z.2⟩)]
end ABP
end
section
/-! My own rows over the kit: loads and stores at nI k, calls with the frame rule in one row, loops. -/
section KZ
variable {p : Program} {l : Launch} {e : Env} {R : Room} {s : State} {m : MethodId} {args : Array Value} {below : List Frame} {meth : Method} {c : Code} {H : Heap} {locs : List Loc} {cells slots : Nat} {Q : State → Prop}
variable {cc : ByteArray} {pc : Nat} {ls : Array Slot} {rest : List Value} {D : va_G} {cl : List vw_C} {A : Nat → Prop} {a : Nat} {tys : List (ClassId × FieldType)} {ws : va_W} {H0 : Heap}
theorem kz_inc (k : Nat) : nI k + Int32.ofInt 1 = nI (k + 1) := by rw [nI_succ]; rfl
theorem kz_loop {σ : Type} {G : σ → Prop} {I : Nat → σ → Prop} (n : Nat) (hs : ∀ (k : Nat) (x : σ), k < n → I k x → (∀ y, I (k + 1) y → G y) → G x) (hx : ∀ x, I n x → G x) : ∀ (k : Nat) (_ : k ≤ n) (x : σ) (_ : I k x), G x := by
  have key : ∀ (j k : Nat), k + j = n → ∀ x, I k x → G x := by
    intro j
    induction j with
    | zero => intro k hk x h; have e : k = n := hk; subst e; exact hx x h
    | succ j ih => intro k hk x h; exact hs k x (by omega) h (fun y hy => ih (k + 1) (by omega) y hy)
  intro k hk x h
  exact key (n - k) k (by omega) x h
theorem kz_enter (vs : List Value) {n : Nat} (h : (lg_sl vs).length ≤ n) (kk : ∀ ls : Array Slot, lv_has ls n (lv_args 0 vs) → W p l e R s m args below meth c H locs cells slots Q (F0 m 0 ls [])) : W p l e R s m args below meth c H locs cells slots Q (entryFrame m vs.toArray n) := by
  rw [lg_entry_eq]
  exact kk _ (lv_entry vs h)
theorem kz_iald (hx : p.tables.exec = Jvm.exec) (hb : c.code = cc) (hK : va_K D cl tys s) (hP : va_P D cl ws H) (q0 t0 : Nat) {cA : ClassId} {n : Nat} {f : Nat → Int32} (ha : ws[q0]? = some (a, .inl (cA, n, .inl f))) (ht : tys[t0]? = some (cA, .int)) {k : Nat} (hk : k < n) (hn : n < 2 ^ 31) (hdg : decode cc pc = .ok (.iaload, 1))
    (kk : W p l e R s m args below meth c H locs cells slots Q (F0 m (pc + 1) ls (.int (f k) :: rest))) : W p l e R s m args below meth c H locs cells slots Q (F0 m pc ls (.int (nI k) :: .ref a :: rest)) :=
  va_iald hx hb hK hP q0 t0 ha ht (vp_in_nI hk hn) hdg (by rw [nI_clamp (Nat.lt_trans hk hn)]; exact kk)
theorem kz_zald (hx : p.tables.exec = Jvm.exec) (hb : c.code = cc) (hK : va_K D cl tys s) (hP : va_P D cl ws H) (q0 t0 : Nat) {cA : ClassId} {n : Nat} {f : Nat → Int32} (ha : ws[q0]? = some (a, .inl (cA, n, .inl f))) (ht : tys[t0]? = some (cA, .boolean)) {k : Nat} (hk : k < n) (hn : n < 2 ^ 31) (hdg : decode cc pc = .ok (.baload, 1))
    (kk : W p l e R s m args below meth c H locs cells slots Q (F0 m (pc + 1) ls (.int (f k) :: rest))) : W p l e R s m args below meth c H locs cells slots Q (F0 m pc ls (.int (nI k) :: .ref a :: rest)) :=
  va_zald hx hb hK hP q0 t0 ha ht (vp_in_nI hk hn) hdg (by rw [nI_clamp (Nat.lt_trans hk hn)]; exact kk)
theorem kz_iast (hx : p.tables.exec = Jvm.exec) (hb : c.code = cc) (hK : va_K D cl tys s) (hP : va_P D cl ws H) (hD : va_D A ws) (hS : va_S A H0 H locs) (q0 t0 : Nat) {cA : ClassId} {n : Nat} {f : Nat → Int32} (ha : ws[q0]? = some (a, .inl (cA, n, .inl f))) (ht : tys[t0]? = some (cA, .int)) {k : Nat} {x : Int32} (hk : k < n) (hn : n < 2 ^ 31) (hdg : decode cc pc = .ok (.iastore, 1))
    (kk : ∀ (H1 : Heap) (locs1 : List Loc), va_P D cl (ws.set q0 (a, .inl (cA, n, .inl (upd f k x)))) H1 → va_D A (ws.set q0 (a, .inl (cA, n, .inl (upd f k x)))) → va_S A H0 H1 locs1 → W p l e R s m args below meth c H1 locs1 cells slots Q (F0 m (pc + 1) ls rest)) : W p l e R s m args below meth c H locs cells slots Q (F0 m pc ls (.int x :: .int (nI k) :: .ref a :: rest)) :=
  va_iast hx hb hK hP hD hS q0 t0 ha ht (vp_in_nI hk hn) hdg (by rw [nI_clamp (Nat.lt_trans hk hn)]; exact kk)
theorem kz_zast (hx : p.tables.exec = Jvm.exec) (hb : c.code = cc) (hK : va_K D cl tys s) (hP : va_P D cl ws H) (hD : va_D A ws) (hS : va_S A H0 H locs) (q0 t0 : Nat) {cA : ClassId} {n : Nat} {f : Nat → Int32} (ha : ws[q0]? = some (a, .inl (cA, n, .inl f))) (ht : tys[t0]? = some (cA, .boolean)) {k : Nat} {x : Int32} (hk : k < n) (hn : n < 2 ^ 31) (hv : vp_nar .boolean x = x) (hdg : decode cc pc = .ok (.bastore, 1))
    (kk : ∀ (H1 : Heap) (locs1 : List Loc), va_P D cl (ws.set q0 (a, .inl (cA, n, .inl (upd f k x)))) H1 → va_D A (ws.set q0 (a, .inl (cA, n, .inl (upd f k x)))) → va_S A H0 H1 locs1 → W p l e R s m args below meth c H1 locs1 cells slots Q (F0 m (pc + 1) ls rest)) : W p l e R s m args below meth c H locs cells slots Q (F0 m pc ls (.int x :: .int (nI k) :: .ref a :: rest)) :=
  va_zast hx hb hK hP hD hS q0 t0 ha ht (vp_in_nI hk hn) hdg (by rw [nI_clamp (Nat.lt_trans hk hn), hv]; exact kk)
/-- a contract that reads alone: its start doesn't speak of frames -/
theorem kz_ro {av : List Value} : FrameBlind (va_Pc av (fun U => va_P D cl ws U.heap ∧ va_K D cl tys U)) := fun a U g mk q => ⟨q.1, q.2.1, va_K.moved (u := U) (U := U.calling g mk a) (Vm.Alike.refl U.vm) q.2.2⟩
theorem kz_wr {av : List Value} {sz : Nat} : FrameBlind (va_Pc av (fun U => U.heap.size = sz ∧ va_P D cl ws U.heap ∧ va_K D cl tys U ∧ va_D (fun _ => True) ws)) := fun a U g mk q => ⟨q.1, q.2.1, q.2.2.1, va_K.moved (u := U) (U := U.calling g mk a) (Vm.Alike.refl U.vm) q.2.2.2.1, q.2.2.2.2⟩
variable {y : MethodName} {bytes : ByteArray} {maxL nL mc ms n index : Nat} {ret : Option FieldType} {wsY : List Cond} {rm : Room} {Ts : List Cond} {own C : String} {b : Addr} {As st0 : List Value} {post : Int32 → Prop} {wc : va_W}
/-- a call of a method that reads alone -/
theorem kz_callR (hc : CallFix p m c cc nL s args Ts own) (hM : Met l y wsY rm (va_Pc (.ref b :: As) (fun U => va_P D cl wc U.heap ∧ va_K D cl tys U)) (vp_Si post) 0 0 (fun _ => False)) (cw : CallW R s args own C index y bytes maxL ret wsY rm 0 0 n) (hP : va_P D cl wc H) (hK : va_K D cl tys s)
    (hrv : ∃ cell : Cell, H[b]? = some cell ∧ cell.vm.isStatics = false ∧ s.vm.findClass C = some cell.cls) (hn : As.length = n) (hsz : ls.size = nL) (hst : st0 = As.reverse ++ .ref b :: rest) (hW : (rest.map fun v => v.category).sum ≤ 8) (hdg : decode cc pc = .ok (.invokevirtual index, 3)) (hf : cells ≤ R.cells ∧ slots ≤ R.slots)
    (kk : ∀ r : Int32, post r → W p l e R s m args below meth c H locs cells slots Q (F0 m (pc + 3) ls (.int r :: rest))) : W p l e R s m args below meth c H locs cells slots Q (F0 m pc ls st0) :=
  vp_callSi (W.runV (g := F0 m pc ls st0) (rest := rest) hc hM cw ⟨kz_ro, hrv, fun U hU hW => ⟨rfl, by rw [hU]; exact hP, va_K.moved hW.alike hK⟩⟩ rfl hn hsz hst (lv_room hW) hdg hf) kk
/-- the same, of a static one that looks at no heap -/
theorem kz_callS (hc : CallFix p m c cc nL s args Ts own) (hM : Met l y wsY rm (va_Pc As (fun _ => True)) (vp_Si post) 0 0 (fun _ => False)) (cw : CallB R s args own index y bytes maxL ret wsY rm 0 0 n ∧ (Cond.static y).before args s = true)
    (hn : As.length = n) (hsz : ls.size = nL) (hst : st0 = As.reverse ++ rest) (hW : (rest.map fun v => v.category).sum ≤ 8) (hdg : decode cc pc = .ok (.invokestatic index, 3)) (hf : cells ≤ R.cells ∧ slots ≤ R.slots)
    (kk : ∀ r : Int32, post r → W p l e R s m args below meth c H locs cells slots Q (F0 m (pc + 3) ls (.int r :: rest))) : W p l e R s m args below meth c H locs cells slots Q (F0 m pc ls st0) :=
  vp_callSi (W.runS (g := F0 m pc ls st0) (rest := rest) hc hM cw ⟨fun _ _ _ _ q => q, fun _ _ _ => ⟨rfl, trivial⟩⟩ rfl hn hsz hst (lv_room hW) hdg hf) kk
/-- what a method that writes has at its start and at its end -/
abbrev kz_Pc (D : va_G) (cl : List vw_C) (tys : List (ClassId × FieldType)) (ws : va_W) (sz : Nat) (av : List Value) : Array Value → State → Prop := va_Pc av (fun U => U.heap.size = sz ∧ va_P D cl ws U.heap ∧ va_K D cl tys U ∧ va_D (fun _ => True) ws)
abbrev kz_B {S : Type} (D : va_G) (cl : List vw_C) (tys : List (ClassId × FieldType)) (w1 : S → va_W) (A : Nat → Prop) : S → State → Prop := fun u t => va_P D cl (w1 u) t.heap ∧ va_K D cl tys t ∧ va_D A (w1 u)
variable {S : Type} {posti : Int32 → S → Prop} {postv : S → Prop} {w1 : S → va_W} {wr : va_W}
/-- a call of a method that writes its cells wc, among the cells ws: an int comes back -/
theorem kz_calli (hc : CallFix p m c cc nL s args Ts own) (hM : Met l y wsY rm (kz_Pc D cl tys wc H.size (.ref b :: As)) (va_Qi posti (kz_B D cl tys w1 (va_A wc H.size)) (va_A wc H.size)) mc ms (va_A wc H.size)) (cw : CallW R s args own C index y bytes maxL ret wsY rm mc ms n)
    (hP : va_P D cl ws H) (hD : va_D A ws) (hS : va_S A H0 H locs) (hA : ∀ q, H0.size ≤ q → A q) (hK : va_K D cl tys s) (isC isR : List Nat) (hC : isC.map (fun i => ws[i]?) = wc.map some) (hCf : isC.filterMap (fun i => ws[i]?) = wc) (hCn : va_nd isC = true) (hR : isR.map (fun i => ws[i]?) = wr.map some) (hRn : va_nd isR = true) (hdis : ∀ i ∈ isR, i ∉ isC)
    (hrv : ∃ cell : Cell, H[b]? = some cell ∧ cell.vm.isStatics = false ∧ s.vm.findClass C = some cell.cls) (hn : As.length = n) (hsz : ls.size = nL) (hst : st0 = As.reverse ++ .ref b :: rest) (hW : (rest.map fun v => v.category).sum ≤ 8) (hdg : decode cc pc = .ok (.invokevirtual index, 3)) (hf : cells + mc ≤ R.cells ∧ slots + ms ≤ R.slots)
    (kk : ∀ (r : Int32) (u : S) (H1 : Heap) (locs1 : List Loc), posti r u → va_P D cl (wr ++ w1 u) H1 → va_D A (wr ++ w1 u) → va_S A H0 H1 locs1 → W p l e R s m args below meth c H1 locs1 (cells + mc) (slots + ms) Q (F0 m (pc + 3) ls (.int r :: rest))) : W p l e R s m args below meth c H locs cells slots Q (F0 m pc ls st0) := by
  have hPc := hP.sub (ws' := wc) isC hCf
  have hDc := hD.sub (ws' := wc) isC hCn hC
  have hF := va_free (wc := wc) hD hS hA isC hC
  exact va_calli (va_runV (g := F0 m pc ls st0) (rest := rest) hc hM cw ⟨kz_wr, hrv, fun U hU hW => ⟨rfl, by rw [hU], by rw [hU]; exact hPc, va_K.moved hW.alike hK, hDc.weaken (fun _ _ _ _ => trivial)⟩⟩ rfl hn hsz hst (lv_room hW) hdg hf) hS (fun q _ h => hF q h) hF (fun r u t H1 locs1 ht hvm hw hB hz hk hS1 => by
    obtain ⟨hP1, -, hD1⟩ := hB
    rw [ht] at hP1
    obtain ⟨p1, d1⟩ := va_join hP hD isC isR hC hR hRn hdis hk hF hP1 hD1
    exact kk r u H1 locs1 hw p1 d1 hS1)
/-- the same, nothing comes back -/
theorem kz_callv (hc : CallFix p m c cc nL s args Ts own) (hM : Met l y wsY rm (kz_Pc D cl tys wc H.size (.ref b :: As)) (va_Qv postv (kz_B D cl tys w1 (va_A wc H.size)) (va_A wc H.size)) mc ms (va_A wc H.size)) (cw : CallW R s args own C index y bytes maxL ret wsY rm mc ms n)
    (hP : va_P D cl ws H) (hD : va_D A ws) (hS : va_S A H0 H locs) (hA : ∀ q, H0.size ≤ q → A q) (hK : va_K D cl tys s) (isC isR : List Nat) (hC : isC.map (fun i => ws[i]?) = wc.map some) (hCf : isC.filterMap (fun i => ws[i]?) = wc) (hCn : va_nd isC = true) (hR : isR.map (fun i => ws[i]?) = wr.map some) (hRn : va_nd isR = true) (hdis : ∀ i ∈ isR, i ∉ isC)
    (hrv : ∃ cell : Cell, H[b]? = some cell ∧ cell.vm.isStatics = false ∧ s.vm.findClass C = some cell.cls) (hn : As.length = n) (hsz : ls.size = nL) (hst : st0 = As.reverse ++ .ref b :: rest) (hW : (rest.map fun v => v.category).sum ≤ 8) (hdg : decode cc pc = .ok (.invokevirtual index, 3)) (hf : cells + mc ≤ R.cells ∧ slots + ms ≤ R.slots)
    (kk : ∀ (u : S) (H1 : Heap) (locs1 : List Loc), postv u → va_P D cl (wr ++ w1 u) H1 → va_D A (wr ++ w1 u) → va_S A H0 H1 locs1 → W p l e R s m args below meth c H1 locs1 (cells + mc) (slots + ms) Q (F0 m (pc + 3) ls rest)) : W p l e R s m args below meth c H locs cells slots Q (F0 m pc ls st0) := by
  have hPc := hP.sub (ws' := wc) isC hCf
  have hDc := hD.sub (ws' := wc) isC hCn hC
  have hF := va_free (wc := wc) hD hS hA isC hC
  exact va_callv (va_runV (g := F0 m pc ls st0) (rest := rest) hc hM cw ⟨kz_wr, hrv, fun U hU hW => ⟨rfl, by rw [hU], by rw [hU]; exact hPc, va_K.moved hW.alike hK, hDc.weaken (fun _ _ _ _ => trivial)⟩⟩ rfl hn hsz hst (lv_room hW) hdg hf) hS (fun q _ h => hF q h) hF (fun u t H1 locs1 ht hvm hw hB hz hk hS1 => by
    obtain ⟨hP1, -, hD1⟩ := hB
    rw [ht] at hP1
    obtain ⟨p1, d1⟩ := va_join hP hD isC isR hC hR hRn hdis hk hF hP1 hD1
    exact kk u H1 locs1 hw p1 d1 hS1)
end KZ
end
section
/-! the texts of the class, by their places -/
def xz_texts : List (Nat × String) := [(42, "ticks is not 0 .. 1000000000"), (53, "there are 512 alarms"), (59, "it would be due behind 1000000000"), (68, "there is no such alarm"), (71, "ticks is not 0 .. 200000"), (73, "the time would be behind 1000000000"), (81, "what is not 0 or 1")]
end
section
/-! Throws: what a method that throws needs beside its words, and a call of such a method in one row. -/
section XZ
abbrev xzA : String := "java/lang/IllegalArgumentException"
abbrev xzI : String := "java/lang/IllegalStateException"
abbrev xzN : List String := ["java/lang/RuntimeException", "java/lang/Exception"]
abbrev xzD (c : String) : Cond := .declares ⟨c, "<init>", "(Ljava/lang/String;)V"⟩
/-- the words that aren't kept in a method's list, and the texts -/
def xz_N (U : State) : Prop := (va_Nw (.castable xzA xzA) U ∧ va_Nw (.castable xzI xzI) U ∧ va_Nw (xzD "java/lang/RuntimeException") U ∧ va_Nw (xzD "java/lang/Exception") U ∧ va_Nw (xzD "java/lang/Throwable") U) ∧ ∀ q ∈ xz_texts, ∃ a : Nat, vk_R RX0 q.1 q.2 a U
theorem xz_N.warm {s U : State} (hW : s.WarmedH U.vm) (h : xz_N s) : xz_N U := by
  obtain ⟨⟨h1, h2, h3, h4, h5⟩, h6⟩ := h
  exact ⟨⟨va_Nw.warmC hW h1, va_Nw.warmC hW h2, va_Nw.warmD hW h3, va_Nw.warmD hW h4, va_Nw.warmD hW h5⟩, fun q hq => by obtain ⟨a, ha⟩ := h6 q hq; exact ⟨a, vk_R.warm hW ha⟩⟩
def xz_E (A : Nat → Prop) (U : State) : Prop := vx_Zq Bundle.tN "UNASSIGNED_STACK" Bundle.steD A U U.heap ∧ vx_Zq Bundle.tN "SUPPRESSED_SENTINEL" Bundle.listD A U U.heap ∧ xz_N U
theorem xz_E.calling {A : Nat → Prop} {U : State} {g : JFrame} {mk : MethodId} {a : Array Value} (h : xz_E A U) : xz_E A (U.calling g mk a) := by
  obtain ⟨h1, h2, h3⟩ := h
  exact ⟨vx_Zq.moved (u := U) (U := U.calling g mk a) (Vm.Alike.refl U.vm) h1, vx_Zq.moved (u := U) (U := U.calling g mk a) (Vm.Alike.refl U.vm) h2, xz_N.warm (s := U) (U := U.calling g mk a) (State.WarmedH.refl U) h3⟩
theorem xz_E.at {A B : Nat → Prop} {s U : State} {H : Heap} {locs : List Loc} (h : xz_E A s) (hS : va_S A s.heap H locs) (hW : s.WarmedH U.vm) (hU : U.heap = H) (hB : ∀ q, B q → A q) : xz_E B U := by
  obtain ⟨h1, h2, h3⟩ := h
  refine ⟨?_, ?_, xz_N.warm hW h3⟩
  · rw [hU]; exact (vx_Zq.moved hW.alike (h1.kept hS.2.1)).narrow hB
  · rw [hU]; exact (vx_Zq.moved hW.alike (h2.kept hS.2.1)).narrow hB
abbrev xz_Pc (D : va_G) (cl : List vw_C) (tys : List (ClassId × FieldType)) (ws : va_W) (sz : Nat) (av : List Value) : Array Value → State → Prop := va_Pc av (fun U => U.heap.size = sz ∧ va_P D cl ws U.heap ∧ va_K D cl tys U ∧ va_D (fun _ => True) ws ∧ xz_E (va_A ws sz) U)
abbrev xz_X (D : va_G) (cl : List vw_C) (tys : List (ClassId × FieldType)) (ws : va_W) (A : Nat → Prop) (PE : String → Prop) : String → State → State → Prop := vx_X (fun _ : Unit => True) (fun E _ t => PE E ∧ va_P D cl ws t.heap ∧ va_K D cl tys t ∧ va_D A ws) A
variable {p : Program} {l : Launch} {e : Env} {R : Room} {s : State} {m : MethodId} {args : Array Value} {below : List Frame} {meth : Method} {c : Code} {H : Heap} {locs : List Loc} {cells slots : Nat} {Q : State → Prop}
variable {cc : ByteArray} {pc : Nat} {ls : Array Slot} {rest : List Value} {D : va_G} {cl : List vw_C} {A : Nat → Prop} {a : Nat} {tys : List (ClassId × FieldType)} {ws : va_W}
variable {y : MethodName} {bytes : ByteArray} {maxL nL mc ms n index : Nat} {ret : Option FieldType} {wsY : List Cond} {rm : Room} {Ts : List Cond} {own C : String} {b : Addr} {As st0 : List Value} {wc wr : va_W} {S : Type} {posti : Int32 → S → Prop} {w1 : S → va_W} {PE : String → Prop}
theorem xz_bl {av : List Value} {sz : Nat} : FrameBlind (xz_Pc D cl tys ws sz av) := fun a U g mk q => ⟨q.1, q.2.1, q.2.2.1, va_K.moved (u := U) (U := U.calling g mk a) (Vm.Alike.refl U.vm) q.2.2.2.1, q.2.2.2.2.1, q.2.2.2.2.2.calling⟩
/-- a call of a method that may throw; thrown, its cells are as they were -/
theorem xz_call (hc : CallFix p m c cc nL s args Ts own) (hM : vx_Met l y wsY rm (xz_Pc D cl tys wc H.size (.ref b :: As)) (va_Qi posti (kz_B D cl tys w1 (va_A wc H.size)) (va_A wc H.size)) (xz_X D cl tys wc (va_A wc H.size) PE) mc ms (va_A wc H.size)) (cw : CallW R s args own C index y bytes maxL ret wsY rm mc ms n)
    (hP : va_P D cl ws H) (hD : va_D A ws) (hS : va_S A s.heap H locs) (hA : ∀ q, s.heap.size ≤ q → A q) (hK : va_K D cl tys s) (hE : xz_E A s) (isC isR : List Nat) (hC : isC.map (fun i => ws[i]?) = wc.map some) (hCf : isC.filterMap (fun i => ws[i]?) = wc) (hCn : va_nd isC = true) (hR : isR.map (fun i => ws[i]?) = wr.map some) (hRn : va_nd isR = true) (hdis : ∀ i ∈ isR, i ∉ isC)
    (hrv : ∃ cell : Cell, H[b]? = some cell ∧ cell.vm.isStatics = false ∧ s.vm.findClass C = some cell.cls) (hn : As.length = n) (hsz : ls.size = nL) (hst : st0 = As.reverse ++ .ref b :: rest) (hW : (rest.map fun v => v.category).sum ≤ 8) (hdg : decode cc pc = .ok (.invokevirtual index, 3)) (hf : cells + mc ≤ R.cells ∧ slots + ms ≤ R.slots)
    (kx : ∀ (E : String) (ce : Cell) (q9 : Addr) (H1 : Heap) (locs1 : List Loc), PE E → va_P D cl (wr ++ wc) H1 → va_D A (wr ++ wc) → va_S A s.heap H1 locs1 → H1[q9]? = some ce → ce.vm = .none → s.vm.findClass E = some ce.cls → vx_W p l e R s m args below meth c H1 locs1 (cells + mc) (slots + ms) Q (F0 m pc ls rest) q9)
    (kk : ∀ (r : Int32) (u : S) (H1 : Heap) (locs1 : List Loc), posti r u → va_P D cl (wr ++ w1 u) H1 → va_D A (wr ++ w1 u) → va_S A s.heap H1 locs1 → W p l e R s m args below meth c H1 locs1 (cells + mc) (slots + ms) Q (F0 m (pc + 3) ls (.int r :: rest))) : W p l e R s m args below meth c H locs cells slots Q (F0 m pc ls st0) := by
  have hPc := hP.sub (ws' := wc) isC hCf
  have hDc := hD.sub (ws' := wc) isC hCn hC
  have hF := va_free (wc := wc) hD hS hA isC hC
  exact vx_calli (vx_runV (g := F0 m pc ls st0) (rest := rest) hc hM cw ⟨xz_bl, hrv, fun U hU hW => ⟨rfl, by rw [hU], by rw [hU]; exact hPc, va_K.moved hW.alike hK, hDc.weaken (fun _ _ _ _ => trivial), hE.at hS hW hU hF⟩⟩ rfl hn hsz hst (lv_room hW) hdg hf) hS (fun q _ h => hF q h) hF (fun q _ h => hF q h)
    (fun E ce q9 u t H1 locs1 ht hvm _ hB hz hk hS1 h1 h2 h3 => by
      obtain ⟨hp, hP1, -, hD1⟩ := hB
      rw [ht] at hP1
      obtain ⟨p1, d1⟩ := va_join hP hD isC isR hC hR hRn hdis hk hF hP1 hD1
      exact kx E ce q9 H1 locs1 hp p1 d1 hS1 h1 h2 h3)
    (fun r u t H1 locs1 ht hvm hw hB hz hk hS1 => by
      obtain ⟨hP1, -, hD1⟩ := hB
      rw [ht] at hP1
      obtain ⟨p1, d1⟩ := va_join hP hD isC isR hC hR hRn hdis hk hF hP1 hD1
      exact kk r u H1 locs1 hw p1 d1 hS1)
end XZ
end
section
/-! AlarmBench: its cells, and its state in numbers. -/
section ABST
abbrev abW (h0 a1 a2 a3 a4 : Nat) (cZ cI : ClassId) (S Du T Rk : Nat → Int32) (now lr rt rd : Int32) : va_W := [(h0, .inr (0, [.ref a1, .ref a2, .ref a3, .ref a4, .int now, .int lr, .int rt, .int rd])), (a1, .inl (cZ, 512, .inl S)), (a2, .inl (cI, 512, .inl Du)), (a3, .inl (cI, 512, .inl T)), (a4, .inl (cI, 512, .inl Rk))]
abbrev abT (cZ cI : ClassId) : List (ClassId × FieldType) := [(cZ, .boolean), (cI, .int)]
abbrev ABs : Type := (Nat → Int32) × (Nat → Int32) × (Nat → Int32) × (Nat → Int32) × Int32 × Int32 × Int32 × Int32
abbrev abU (h0 a1 a2 a3 a4 : Nat) (cZ cI : ClassId) (u : ABs) : va_W := abW h0 a1 a2 a3 a4 cZ cI u.1 u.2.1 u.2.2.1 u.2.2.2.1 u.2.2.2.2.1 u.2.2.2.2.2.1 u.2.2.2.2.2.2.1 u.2.2.2.2.2.2.2
def ab_ok (x : Int32) : Prop := ¬ x < 0 ∧ ¬ 1000000000 < x
def ab_ex (S : Nat → Int32) (x : Int32) : Prop := ∃ k : Nat, k < 512 ∧ x = nI k ∧ ¬ S k = 0
end ABST
end
section
set_option maxHeartbeats 4000000 in
set_option maxRecDepth 100000 in
/-- canBeAhead(x) -/
theorem c_canBeAhead (l : Launch) (x : Int32) : Met l yX0_canBeAhead wsX0_canBeAhead ({ frames := 0, cells := 0, slots := 0, locals := 0 } : Room) (va_Pc [.int x] (fun _ => True)) (vp_Si (fun r => kz_b (ab_ok x) r)) 0 0 (fun _ => False) := by
  refine Met.ofW (cc := cX0_canBeAhead) (maxL := 1) (ret := some .boolean) (by decide) rfl ?_
  intro p e s m args below meth c s₁ B hml hv
  obtain ⟨rfl, -⟩ := hv
  have hx := B.exec
  have hb := B.bytes
  have hr := B.returns
  have hts := atoms_spec (ws := wsX0_canBeAhead) B.pre
  have hown : s.vm.findClass RX0 = some m.cls := findClass_of_methodNamed B.named
  have hlocks := B.notSynchronized
  refine kz_enter [.int x] (Nat.le_of_ble_eq_true rfl) (fun ls hl => ?_)
  have hl : lv_has ls 1 [(0, .int x)] := hl
  refine lv_iload_n hx hb dX0_canBeAhead_0 rfl (lv_at hl 0 rfl) ?_
  refine lv_if_lt (tgt := 14) hx hb dX0_canBeAhead_1 (by decide) (fun c_1 => ?_) (fun c_1 => ?_)
  · refine lv_iconst (v := 0) hx hb dX0_canBeAhead_14 (by decide) ?_
    exact W.zret (ty := .boolean) (v := 0) hx hb hr rfl (fun t9 ht9 hW9 => ⟨_, rfl, Or.inr ⟨rfl, fun h9 => h9.1 c_1⟩, ht9⟩) (fun q h => by cases h) dX0_canBeAhead_15
  · refine lv_iload_n hx hb dX0_canBeAhead_4 rfl (lv_at hl 0 rfl) ?_
    refine lv_ldc (v := 1000000000) hx hb hown (hts (.constant RX0 83 1000000000) (by decide +kernel)) dX0_canBeAhead_5 ?_
    refine lv_icmp_gt (tgt := 14) hx hb dX0_canBeAhead_7 (by decide) (fun c_7 => ?_) (fun c_7 => ?_)
    · refine lv_iconst (v := 0) hx hb dX0_canBeAhead_14 (by decide) ?_
      exact W.zret (ty := .boolean) (v := 0) hx hb hr rfl (fun t9 ht9 hW9 => ⟨_, rfl, Or.inr ⟨rfl, fun h9 => h9.2 c_7⟩, ht9⟩) (fun q h => by cases h) dX0_canBeAhead_15
    · refine lv_iconst (v := 1) hx hb dX0_canBeAhead_10 (by decide) ?_
      refine lv_goto (tgt := 15) hx hb dX0_canBeAhead_11 (by decide) ?_
      exact W.zret (ty := .boolean) (v := 1) hx hb hr rfl (fun t9 ht9 hW9 => ⟨_, rfl, Or.inl ⟨rfl, c_1, c_7⟩, ht9⟩) (fun q h => by cases h) dX0_canBeAhead_15
set_option maxHeartbeats 4000000 in
set_option maxRecDepth 100000 in
/-- exists(x) -/
theorem c_exists (l : Launch) (D : va_G) (h0 a1 a2 a3 a4 : Nat) (cZ cI : ClassId) (S Du T Rk : Nat → Int32) (now lr rt rd : Int32) (x : Int32) : Met l yX0_exists wsX0_exists ({ frames := 0, cells := 0, slots := 0, locals := 0 } : Room) (va_Pc [.ref h0, .int x] (fun U => va_P D vwCl (abW h0 a1 a2 a3 a4 cZ cI S Du T Rk now lr rt rd) U.heap ∧ va_K D vwCl (abT cZ cI) U)) (vp_Si (fun r => kz_b (ab_ex S x) r)) 0 0 (fun _ => False) := by
  refine Met.ofW (cc := cX0_exists) (maxL := 2) (ret := some .boolean) (by decide) rfl ?_
  intro p e s m args below meth c s₁ B hml hv
  obtain ⟨rfl, hP, hK⟩ := hv
  have hx := B.exec
  have hb := B.bytes
  have hr := B.returns
  have hts := atoms_spec (ws := wsX0_exists) B.pre
  have hown : s.vm.findClass RX0 = some m.cls := findClass_of_methodNamed B.named
  have hlocks := B.notSynchronized
  have hinX0 : ∀ w ∈ wsX00, w ∈ wsX0_exists := by decide +kernel
  refine kz_enter [.ref h0, .int x] (Nat.le_of_ble_eq_true rfl) (fun ls hl => ?_)
  have hl : lv_has ls 2 [(0, .ref h0), (1, .int x)] := hl
  refine lv_iload_n hx hb dX0_exists_0 rfl (lv_at hl 1 rfl) ?_
  refine lv_if_lt (tgt := 24) hx hb dX0_exists_1 (by decide) (fun c_1 => ?_) (fun c_1 => ?_)
  · refine lv_iconst (v := 0) hx hb dX0_exists_24 (by decide) ?_
    exact W.zret (ty := .boolean) (v := 0) hx hb hr rfl (fun t9 ht9 hW9 => ⟨_, rfl, Or.inr ⟨rfl, fun ⟨j, hj, e9, _⟩ => nI_pos (n := j) (by omega) (e9 ▸ c_1)⟩, ht9⟩) (fun q h => by cases h) dX0_exists_25
  · refine lv_iload_n hx hb dX0_exists_4 rfl (lv_at hl 1 rfl) ?_
    refine lv_sipush (v := 512) hx hb dX0_exists_5 (by decide) ?_
    refine lv_icmp_ge (tgt := 24) hx hb dX0_exists_8 (by decide) (fun c_8 => ?_) (fun c_8 => ?_)
    · refine lv_iconst (v := 0) hx hb dX0_exists_24 (by decide) ?_
      exact W.zret (ty := .boolean) (v := 0) hx hb hr rfl (fun t9 ht9 hW9 => ⟨_, rfl, Or.inr ⟨rfl, fun ⟨j, hj, e9, _⟩ => nI_ge (a := j) (b := 512) hj (by decide) (e9 ▸ c_8)⟩, ht9⟩) (fun q h => by cases h) dX0_exists_25
    · obtain ⟨k, hk, rfl⟩ : ∃ k : Nat, k < 512 ∧ x = nI k := by
        rcases pk_ix x (n := 512) (by decide) with h9 | h9 | h9
        · exact absurd h9 c_1
        · exact absurd h9 c_8
        · exact h9
      refine lv_aload_n hx hb dX0_exists_11 rfl (lv_at hl 0 rfl) ?_
      refine va_get (ci := 0) (v := .ref a1) (C := RX0) (T := TX0) (N := 8) hx hb hts hinX0 hown hK hP 0 rfl rfl 0 (by decide) (hts (.fieldLink RX0 9 "AlarmBench" "isSet" "[Z") (by decide +kernel)) (fun _ h9 => h9) rfl dX0_exists_12 ?_
      refine lv_iload_n hx hb dX0_exists_15 rfl (lv_at hl 1 rfl) ?_
      refine kz_zald hx hb hK hP 1 0 rfl rfl hk (by decide) dX0_exists_16 ?_
      refine lv_if_eq (tgt := 24) hx hb dX0_exists_17 (by decide) (fun c_17 => ?_) (fun c_17 => ?_)
      · refine lv_iconst (v := 0) hx hb dX0_exists_24 (by decide) ?_
        exact W.zret (ty := .boolean) (v := 0) hx hb hr rfl (fun t9 ht9 hW9 => ⟨_, rfl, Or.inr ⟨rfl, fun ⟨j, hj, e9, h9⟩ => h9 (by rw [← (nI_eq (a := k) (b := j) (by omega) (by omega)).mp e9]; exact c_17)⟩, ht9⟩) (fun q h => by cases h) dX0_exists_25
      · refine lv_iconst (v := 1) hx hb dX0_exists_20 (by decide) ?_
        refine lv_goto (tgt := 25) hx hb dX0_exists_21 (by decide) ?_
        exact W.zret (ty := .boolean) (v := 1) hx hb hr rfl (fun t9 ht9 hW9 => ⟨_, rfl, Or.inl ⟨rfl, k, hk, rfl, c_17⟩, ht9⟩) (fun q h => by cases h) dX0_exists_25
set_option maxHeartbeats 4000000 in
set_option maxRecDepth 100000 in
/-- isReady(k) -/
theorem c_isReady (l : Launch) (D : va_G) (h0 a1 a2 a3 a4 : Nat) (cZ cI : ClassId) (S Du T Rk : Nat → Int32) (now lr rt rd : Int32) (k : Nat) (hk : k < 512) : Met l yX0_isReady wsX0_isReady ({ frames := 0, cells := 0, slots := 0, locals := 0 } : Room) (va_Pc [.ref h0, .int (nI k)] (fun U => va_P D vwCl (abW h0 a1 a2 a3 a4 cZ cI S Du T Rk now lr rt rd) U.heap ∧ va_K D vwCl (abT cZ cI) U)) (vp_Si (fun r => kz_b (Du k ≤ now) r)) 0 0 (fun _ => False) := by
  refine Met.ofW (cc := cX0_isReady) (maxL := 2) (ret := some .boolean) (by decide) rfl ?_
  intro p e s m args below meth c s₁ B hml hv
  obtain ⟨rfl, hP, hK⟩ := hv
  have hx := B.exec
  have hb := B.bytes
  have hr := B.returns
  have hts := atoms_spec (ws := wsX0_isReady) B.pre
  have hown : s.vm.findClass RX0 = some m.cls := findClass_of_methodNamed B.named
  have hlocks := B.notSynchronized
  have hinX0 : ∀ w ∈ wsX00, w ∈ wsX0_isReady := by decide +kernel
  refine kz_enter [.ref h0, .int (nI k)] (Nat.le_of_ble_eq_true rfl) (fun ls hl => ?_)
  have hl : lv_has ls 2 [(0, .ref h0), (1, .int (nI k))] := hl
  refine lv_aload_n hx hb dX0_isReady_0 rfl (lv_at hl 0 rfl) ?_
  refine va_get (ci := 0) (v := .ref a2) (C := RX0) (T := TX0) (N := 8) hx hb hts hinX0 hown hK hP 0 rfl rfl 1 (by decide) (hts (.fieldLink RX0 13 "AlarmBench" "dueAt" "[I") (by decide +kernel)) (fun _ h9 => h9) rfl dX0_isReady_1 ?_
  refine lv_iload_n hx hb dX0_isReady_4 rfl (lv_at hl 1 rfl) ?_
  refine kz_iald hx hb hK hP 2 1 rfl rfl hk (by decide) dX0_isReady_5 ?_
  refine lv_aload_n hx hb dX0_isReady_6 rfl (lv_at hl 0 rfl) ?_
  refine va_get (ci := 0) (v := .int now) (C := RX0) (T := TX0) (N := 8) hx hb hts hinX0 hown hK hP 0 rfl rfl 4 (by decide) (hts (.fieldLink RX0 23 "AlarmBench" "now" "I") (by decide +kernel)) (fun _ h9 => h9) rfl dX0_isReady_7 ?_
  refine lv_icmp_gt (tgt := 17) hx hb dX0_isReady_10 (by decide) (fun c_10 => ?_) (fun c_10 => ?_)
  · refine lv_iconst (v := 0) hx hb dX0_isReady_17 (by decide) ?_
    exact W.zret (ty := .boolean) (v := 0) hx hb hr rfl (fun t9 ht9 hW9 => ⟨_, rfl, Or.inr ⟨rfl, Int32.not_le.mpr c_10⟩, ht9⟩) (fun q h => by cases h) dX0_isReady_18
  · refine lv_iconst (v := 1) hx hb dX0_isReady_13 (by decide) ?_
    refine lv_goto (tgt := 18) hx hb dX0_isReady_14 (by decide) ?_
    exact W.zret (ty := .boolean) (v := 1) hx hb hr rfl (fun t9 ht9 hW9 => ⟨_, rfl, Or.inl ⟨rfl, Int32.not_lt.mp c_10⟩, ht9⟩) (fun q h => by cases h) dX0_isReady_18
set_option maxHeartbeats 4000000 in
set_option maxRecDepth 100000 in
/-- isBehindLastTime(x) -/
theorem c_isBehindLastTime (l : Launch) (D : va_G) (h0 a1 a2 a3 a4 : Nat) (cZ cI : ClassId) (S Du T Rk : Nat → Int32) (now lr rt rd : Int32) (x : Int32) : Met l yX0_isBehindLastTime wsX0_isBehindLastTime ({ frames := 0, cells := 0, slots := 0, locals := 0 } : Room) (va_Pc [.ref h0, .int x] (fun U => va_P D vwCl (abW h0 a1 a2 a3 a4 cZ cI S Du T Rk now lr rt rd) U.heap ∧ va_K D vwCl (abT cZ cI) U)) (vp_Si (fun r => kz_b (1000000000 - now < x) r)) 0 0 (fun _ => False) := by
  refine Met.ofW (cc := cX0_isBehindLastTime) (maxL := 2) (ret := some .boolean) (by decide) rfl ?_
  intro p e s m args below meth c s₁ B hml hv
  obtain ⟨rfl, hP, hK⟩ := hv
  have hx := B.exec
  have hb := B.bytes
  have hr := B.returns
  have hts := atoms_spec (ws := wsX0_isBehindLastTime) B.pre
  have hown : s.vm.findClass RX0 = some m.cls := findClass_of_methodNamed B.named
  have hlocks := B.notSynchronized
  have hinX0 : ∀ w ∈ wsX00, w ∈ wsX0_isBehindLastTime := by decide +kernel
  refine kz_enter [.ref h0, .int x] (Nat.le_of_ble_eq_true rfl) (fun ls hl => ?_)
  have hl : lv_has ls 2 [(0, .ref h0), (1, .int x)] := hl
  refine lv_iload_n hx hb dX0_isBehindLastTime_0 rfl (lv_at hl 1 rfl) ?_
  refine lv_ldc (v := 1000000000) hx hb hown (hts (.constant RX0 83 1000000000) (by decide +kernel)) dX0_isBehindLastTime_1 ?_
  refine lv_aload_n hx hb dX0_isBehindLastTime_3 rfl (lv_at hl 0 rfl) ?_
  refine va_get (ci := 0) (v := .int now) (C := RX0) (T := TX0) (N := 8) hx hb hts hinX0 hown hK hP 0 rfl rfl 4 (by decide) (hts (.fieldLink RX0 23 "AlarmBench" "now" "I") (by decide +kernel)) (fun _ h9 => h9) rfl dX0_isBehindLastTime_4 ?_
  refine lv_isub hx hb dX0_isBehindLastTime_7 ?_
  refine lv_icmp_le (tgt := 15) hx hb dX0_isBehindLastTime_8 (by decide) (fun c_8 => ?_) (fun c_8 => ?_)
  · refine lv_iconst (v := 0) hx hb dX0_isBehindLastTime_15 (by decide) ?_
    exact W.zret (ty := .boolean) (v := 0) hx hb hr rfl (fun t9 ht9 hW9 => ⟨_, rfl, Or.inr ⟨rfl, Int32.not_lt.mpr c_8⟩, ht9⟩) (fun q h => by cases h) dX0_isBehindLastTime_16
  · refine lv_iconst (v := 1) hx hb dX0_isBehindLastTime_11 (by decide) ?_
    refine lv_goto (tgt := 16) hx hb dX0_isBehindLastTime_12 (by decide) ?_
    exact W.zret (ty := .boolean) (v := 1) hx hb hr rfl (fun t9 ht9 hW9 => ⟨_, rfl, Or.inl ⟨rfl, Int32.not_le.mp c_8⟩, ht9⟩) (fun q h => by cases h) dX0_isBehindLastTime_16
set_option maxHeartbeats 4000000 in
set_option maxRecDepth 100000 in
/-- isBefore(i, j) -/
theorem c_isBefore (l : Launch) (D : va_G) (h0 a1 a2 a3 a4 : Nat) (cZ cI : ClassId) (S Du T Rk : Nat → Int32) (now lr rt rd : Int32) (i j : Nat) (hi : i < 512) (hj : j < 512) : Met l yX0_isBefore wsX0_isBefore ({ frames := 0, cells := 0, slots := 0, locals := 0 } : Room) (va_Pc [.ref h0, .int (nI i), .int (nI j)] (fun U => va_P D vwCl (abW h0 a1 a2 a3 a4 cZ cI S Du T Rk now lr rt rd) U.heap ∧ va_K D vwCl (abT cZ cI) U)) (vp_Si (fun r => kz_b (ab_bef Du Rk i j = true) r)) 0 0 (fun _ => False) := by
  refine Met.ofW (cc := cX0_isBefore) (maxL := 3) (ret := some .boolean) (by decide) rfl ?_
  intro p e s m args below meth c s₁ B hml hv
  obtain ⟨rfl, hP, hK⟩ := hv
  have hx := B.exec
  have hb := B.bytes
  have hr := B.returns
  have hts := atoms_spec (ws := wsX0_isBefore) B.pre
  have hown : s.vm.findClass RX0 = some m.cls := findClass_of_methodNamed B.named
  have hlocks := B.notSynchronized
  have hinX0 : ∀ w ∈ wsX00, w ∈ wsX0_isBefore := by decide +kernel
  refine kz_enter [.ref h0, .int (nI i), .int (nI j)] (Nat.le_of_ble_eq_true rfl) (fun ls hl => ?_)
  have hl : lv_has ls 3 [(0, .ref h0), (1, .int (nI i)), (2, .int (nI j))] := hl
  refine lv_aload_n hx hb dX0_isBefore_0 rfl (lv_at hl 0 rfl) ?_
  refine va_get (ci := 0) (v := .ref a2) (C := RX0) (T := TX0) (N := 8) hx hb hts hinX0 hown hK hP 0 rfl rfl 1 (by decide) (hts (.fieldLink RX0 13 "AlarmBench" "dueAt" "[I") (by decide +kernel)) (fun _ h9 => h9) rfl dX0_isBefore_1 ?_
  refine lv_iload_n hx hb dX0_isBefore_4 rfl (lv_at hl 1 rfl) ?_
  refine kz_iald hx hb hK hP 2 1 rfl rfl hi (by decide) dX0_isBefore_5 ?_
  refine lv_aload_n hx hb dX0_isBefore_6 rfl (lv_at hl 0 rfl) ?_
  refine va_get (ci := 0) (v := .ref a2) (C := RX0) (T := TX0) (N := 8) hx hb hts hinX0 hown hK hP 0 rfl rfl 1 (by decide) (hts (.fieldLink RX0 13 "AlarmBench" "dueAt" "[I") (by decide +kernel)) (fun _ h9 => h9) rfl dX0_isBefore_7 ?_
  refine lv_iload_n hx hb dX0_isBefore_10 rfl (lv_at hl 2 rfl) ?_
  refine kz_iald hx hb hK hP 2 1 rfl rfl hj (by decide) dX0_isBefore_11 ?_
  refine lv_icmp_eq (tgt := 36) hx hb dX0_isBefore_12 (by decide) (fun c_12 => ?_) (fun c_12 => ?_)
  · refine lv_aload_n hx hb dX0_isBefore_36 rfl (lv_at hl 0 rfl) ?_
    refine va_get (ci := 0) (v := .ref a4) (C := RX0) (T := TX0) (N := 8) hx hb hts hinX0 hown hK hP 0 rfl rfl 3 (by decide) (hts (.fieldLink RX0 20 "AlarmBench" "rank" "[I") (by decide +kernel)) (fun _ h9 => h9) rfl dX0_isBefore_37 ?_
    refine lv_iload_n hx hb dX0_isBefore_40 rfl (lv_at hl 1 rfl) ?_
    refine kz_iald hx hb hK hP 4 1 rfl rfl hi (by decide) dX0_isBefore_41 ?_
    refine lv_aload_n hx hb dX0_isBefore_42 rfl (lv_at hl 0 rfl) ?_
    refine va_get (ci := 0) (v := .ref a4) (C := RX0) (T := TX0) (N := 8) hx hb hts hinX0 hown hK hP 0 rfl rfl 3 (by decide) (hts (.fieldLink RX0 20 "AlarmBench" "rank" "[I") (by decide +kernel)) (fun _ h9 => h9) rfl dX0_isBefore_43 ?_
    refine lv_iload_n hx hb dX0_isBefore_46 rfl (lv_at hl 2 rfl) ?_
    refine kz_iald hx hb hK hP 4 1 rfl rfl hj (by decide) dX0_isBefore_47 ?_
    refine lv_icmp_ge (tgt := 55) hx hb dX0_isBefore_48 (by decide) (fun c_48 => ?_) (fun c_48 => ?_)
    · refine lv_iconst (v := 0) hx hb dX0_isBefore_55 (by decide) ?_
      exact W.zret (ty := .boolean) (v := 0) hx hb hr rfl (fun t9 ht9 hW9 => ⟨_, rfl, Or.inr ⟨rfl, fun h9 => by unfold ab_bef at h9; rw [if_pos c_12] at h9; exact Int32.not_lt.mpr c_48 (of_decide_eq_true h9)⟩, ht9⟩) (fun q h => by cases h) dX0_isBefore_56
    · refine lv_iconst (v := 1) hx hb dX0_isBefore_51 (by decide) ?_
      refine lv_goto (tgt := 56) hx hb dX0_isBefore_52 (by decide) ?_
      exact W.zret (ty := .boolean) (v := 1) hx hb hr rfl (fun t9 ht9 hW9 => ⟨_, rfl, Or.inl ⟨rfl, by unfold ab_bef; rw [if_pos c_12]; exact decide_eq_true (Int32.not_le.mp c_48)⟩, ht9⟩) (fun q h => by cases h) dX0_isBefore_56
  · refine lv_aload_n hx hb dX0_isBefore_15 rfl (lv_at hl 0 rfl) ?_
    refine va_get (ci := 0) (v := .ref a2) (C := RX0) (T := TX0) (N := 8) hx hb hts hinX0 hown hK hP 0 rfl rfl 1 (by decide) (hts (.fieldLink RX0 13 "AlarmBench" "dueAt" "[I") (by decide +kernel)) (fun _ h9 => h9) rfl dX0_isBefore_16 ?_
    refine lv_iload_n hx hb dX0_isBefore_19 rfl (lv_at hl 1 rfl) ?_
    refine kz_iald hx hb hK hP 2 1 rfl rfl hi (by decide) dX0_isBefore_20 ?_
    refine lv_aload_n hx hb dX0_isBefore_21 rfl (lv_at hl 0 rfl) ?_
    refine va_get (ci := 0) (v := .ref a2) (C := RX0) (T := TX0) (N := 8) hx hb hts hinX0 hown hK hP 0 rfl rfl 1 (by decide) (hts (.fieldLink RX0 13 "AlarmBench" "dueAt" "[I") (by decide +kernel)) (fun _ h9 => h9) rfl dX0_isBefore_22 ?_
    refine lv_iload_n hx hb dX0_isBefore_25 rfl (lv_at hl 2 rfl) ?_
    refine kz_iald hx hb hK hP 2 1 rfl rfl hj (by decide) dX0_isBefore_26 ?_
    refine lv_icmp_ge (tgt := 34) hx hb dX0_isBefore_27 (by decide) (fun c_27 => ?_) (fun c_27 => ?_)
    · refine lv_iconst (v := 0) hx hb dX0_isBefore_34 (by decide) ?_
      exact W.zret (ty := .boolean) (v := 0) hx hb hr rfl (fun t9 ht9 hW9 => ⟨_, rfl, Or.inr ⟨rfl, fun h9 => by unfold ab_bef at h9; rw [if_neg c_12] at h9; exact Int32.not_lt.mpr c_27 (of_decide_eq_true h9)⟩, ht9⟩) (fun q h => by cases h) dX0_isBefore_35
    · refine lv_iconst (v := 1) hx hb dX0_isBefore_30 (by decide) ?_
      refine lv_goto (tgt := 35) hx hb dX0_isBefore_31 (by decide) ?_
      exact W.zret (ty := .boolean) (v := 1) hx hb hr rfl (fun t9 ht9 hW9 => ⟨_, rfl, Or.inl ⟨rfl, by unfold ab_bef; rw [if_neg c_12]; exact decide_eq_true (Int32.not_le.mp c_27)⟩, ht9⟩) (fun q h => by cases h) dX0_isBefore_35
set_option maxHeartbeats 4000000 in
set_option maxRecDepth 100000 in
/-- told() -/
theorem c_told (l : Launch) (D : va_G) (h0 a1 a2 a3 a4 : Nat) (cZ cI : ClassId) (S Du T Rk : Nat → Int32) (now lr rt rd : Int32)  : Met l yX0_told wsX0_told ({ frames := 0, cells := 0, slots := 0, locals := 0 } : Room) (va_Pc [.ref h0] (fun U => va_P D vwCl (abW h0 a1 a2 a3 a4 cZ cI S Du T Rk now lr rt rd) U.heap ∧ va_K D vwCl (abT cZ cI) U)) (vp_Si (fun r => r = rt)) 0 0 (fun _ => False) := by
  refine Met.ofW (cc := cX0_told) (maxL := 1) (ret := some .int) (by decide) rfl ?_
  intro p e s m args below meth c s₁ B hml hv
  obtain ⟨rfl, hP, hK⟩ := hv
  have hx := B.exec
  have hb := B.bytes
  have hr := B.returns
  have hts := atoms_spec (ws := wsX0_told) B.pre
  have hown : s.vm.findClass RX0 = some m.cls := findClass_of_methodNamed B.named
  have hlocks := B.notSynchronized
  have hinX0 : ∀ w ∈ wsX00, w ∈ wsX0_told := by decide +kernel
  refine kz_enter [.ref h0] (Nat.le_of_ble_eq_true rfl) (fun ls hl => ?_)
  have hl : lv_has ls 1 [(0, .ref h0)] := hl
  refine lv_aload_n hx hb dX0_told_0 rfl (lv_at hl 0 rfl) ?_
  refine va_get (ci := 0) (v := .int rt) (C := RX0) (T := TX0) (N := 8) hx hb hts hinX0 hown hK hP 0 rfl rfl 6 (by decide) (hts (.fieldLink RX0 30 "AlarmBench" "rungTold" "I") (by decide +kernel)) (fun _ h9 => h9) rfl dX0_told_1 ?_
  exact W.iret (v := rt) hx hb hr (fun t9 ht9 hW9 => ⟨_, rfl, rfl, ht9⟩) (fun q h => by cases h) dX0_told_4
set_option maxHeartbeats 4000000 in
set_option maxRecDepth 100000 in
/-- wasDue() -/
theorem c_wasDue (l : Launch) (D : va_G) (h0 a1 a2 a3 a4 : Nat) (cZ cI : ClassId) (S Du T Rk : Nat → Int32) (now lr rt rd : Int32)  : Met l yX0_wasDue wsX0_wasDue ({ frames := 0, cells := 0, slots := 0, locals := 0 } : Room) (va_Pc [.ref h0] (fun U => va_P D vwCl (abW h0 a1 a2 a3 a4 cZ cI S Du T Rk now lr rt rd) U.heap ∧ va_K D vwCl (abT cZ cI) U)) (vp_Si (fun r => r = rd)) 0 0 (fun _ => False) := by
  refine Met.ofW (cc := cX0_wasDue) (maxL := 1) (ret := some .int) (by decide) rfl ?_
  intro p e s m args below meth c s₁ B hml hv
  obtain ⟨rfl, hP, hK⟩ := hv
  have hx := B.exec
  have hb := B.bytes
  have hr := B.returns
  have hts := atoms_spec (ws := wsX0_wasDue) B.pre
  have hown : s.vm.findClass RX0 = some m.cls := findClass_of_methodNamed B.named
  have hlocks := B.notSynchronized
  have hinX0 : ∀ w ∈ wsX00, w ∈ wsX0_wasDue := by decide +kernel
  refine kz_enter [.ref h0] (Nat.le_of_ble_eq_true rfl) (fun ls hl => ?_)
  have hl : lv_has ls 1 [(0, .ref h0)] := hl
  refine lv_aload_n hx hb dX0_wasDue_0 rfl (lv_at hl 0 rfl) ?_
  refine va_get (ci := 0) (v := .int rd) (C := RX0) (T := TX0) (N := 8) hx hb hts hinX0 hown hK hP 0 rfl rfl 7 (by decide) (hts (.fieldLink RX0 33 "AlarmBench" "rungDue" "I") (by decide +kernel)) (fun _ h9 => h9) rfl dX0_wasDue_1 ?_
  exact W.iret (v := rd) hx hb hr (fun t9 ht9 hW9 => ⟨_, rfl, rfl, ht9⟩) (fun q h => by cases h) dX0_wasDue_4
set_option maxHeartbeats 4000000 in
set_option maxRecDepth 100000 in
/-- time() -/
theorem c_time (l : Launch) (D : va_G) (h0 a1 a2 a3 a4 : Nat) (cZ cI : ClassId) (S Du T Rk : Nat → Int32) (now lr rt rd : Int32)  : Met l yX0_time wsX0_time ({ frames := 0, cells := 0, slots := 0, locals := 0 } : Room) (va_Pc [.ref h0] (fun U => va_P D vwCl (abW h0 a1 a2 a3 a4 cZ cI S Du T Rk now lr rt rd) U.heap ∧ va_K D vwCl (abT cZ cI) U)) (vp_Si (fun r => r = now)) 0 0 (fun _ => False) := by
  refine Met.ofW (cc := cX0_time) (maxL := 1) (ret := some .int) (by decide) rfl ?_
  intro p e s m args below meth c s₁ B hml hv
  obtain ⟨rfl, hP, hK⟩ := hv
  have hx := B.exec
  have hb := B.bytes
  have hr := B.returns
  have hts := atoms_spec (ws := wsX0_time) B.pre
  have hown : s.vm.findClass RX0 = some m.cls := findClass_of_methodNamed B.named
  have hlocks := B.notSynchronized
  have hinX0 : ∀ w ∈ wsX00, w ∈ wsX0_time := by decide +kernel
  refine kz_enter [.ref h0] (Nat.le_of_ble_eq_true rfl) (fun ls hl => ?_)
  have hl : lv_has ls 1 [(0, .ref h0)] := hl
  refine lv_aload_n hx hb dX0_time_0 rfl (lv_at hl 0 rfl) ?_
  refine va_get (ci := 0) (v := .int now) (C := RX0) (T := TX0) (N := 8) hx hb hts hinX0 hown hK hP 0 rfl rfl 4 (by decide) (hts (.fieldLink RX0 23 "AlarmBench" "now" "I") (by decide +kernel)) (fun _ h9 => h9) rfl dX0_time_1 ?_
  exact W.iret (v := now) hx hb hr (fun t9 ht9 hW9 => ⟨_, rfl, rfl, ht9⟩) (fun q h => by cases h) dX0_time_4
set_option maxHeartbeats 4000000 in
set_option maxRecDepth 100000 in
/-- putAhead(k, x) -/
theorem c_putAhead (l : Launch) (D : va_G) (h0 a1 a2 a3 a4 : Nat) (cZ cI : ClassId) (S Du T Rk : Nat → Int32) (now lr rt rd : Int32) (sz : Nat) (k : Nat) (hk : k < 512) (x : Int32) : Met l yX0_putAhead wsX0_putAhead ({ frames := 0, cells := 0, slots := 0, locals := 0 } : Room) (kz_Pc D vwCl (abT cZ cI) (abW h0 a1 a2 a3 a4 cZ cI S Du T Rk now lr rt rd) sz [.ref h0, .int (nI k), .int x]) (va_Qv (fun u : ABs => u = (S, upd Du k (now + x), T, upd Rk k (lr + 1), now, lr + 1, rt, rd)) (kz_B D vwCl (abT cZ cI) (abU h0 a1 a2 a3 a4 cZ cI) (va_A (abW h0 a1 a2 a3 a4 cZ cI S Du T Rk now lr rt rd) sz)) (va_A (abW h0 a1 a2 a3 a4 cZ cI S Du T Rk now lr rt rd) sz)) 0 0 (va_A (abW h0 a1 a2 a3 a4 cZ cI S Du T Rk now lr rt rd) sz) := by
  refine Met.ofW (cc := cX0_putAhead) (maxL := 3) (ret := none) (by decide) rfl ?_
  intro p e s m args below meth c s₁ B hml hv
  obtain ⟨rfl, hsz, hP, hK, hD0⟩ := hv
  have hx := B.exec
  have hb := B.bytes
  have hr := B.returns
  have hts := atoms_spec (ws := wsX0_putAhead) B.pre
  have hown : s.vm.findClass RX0 = some m.cls := findClass_of_methodNamed B.named
  have hlocks := B.notSynchronized
  have hinX0 : ∀ w ∈ wsX00, w ∈ wsX0_putAhead := by decide +kernel
  subst hsz
  have hD := hD0.self (sz := s.heap.size)
  generalize hAe : va_A (abW h0 a1 a2 a3 a4 cZ cI S Du T Rk now lr rt rd) s.heap.size = A at hD ⊢
  have hA : ∀ q : Nat, s.heap.size ≤ q → A q := fun q h => by rw [← hAe]; exact Or.inr h
  have hS : va_S A s.heap s.heap [] := va_S.rf
  refine kz_enter [.ref h0, .int (nI k), .int x] (Nat.le_of_ble_eq_true rfl) (fun ls hl => ?_)
  have hl : lv_has ls 3 [(0, .ref h0), (1, .int (nI k)), (2, .int x)] := hl
  refine lv_aload_n hx hb dX0_putAhead_0 rfl (lv_at hl 0 rfl) ?_
  refine va_get (ci := 0) (v := .ref a2) (C := RX0) (T := TX0) (N := 8) hx hb hts hinX0 hown hK hP 0 rfl rfl 1 (by decide) (hts (.fieldLink RX0 13 "AlarmBench" "dueAt" "[I") (by decide +kernel)) (fun _ h9 => h9) rfl dX0_putAhead_1 ?_
  refine lv_iload_n hx hb dX0_putAhead_4 rfl (lv_at hl 1 rfl) ?_
  refine lv_aload_n hx hb dX0_putAhead_5 rfl (lv_at hl 0 rfl) ?_
  refine va_get (ci := 0) (v := .int now) (C := RX0) (T := TX0) (N := 8) hx hb hts hinX0 hown hK hP 0 rfl rfl 4 (by decide) (hts (.fieldLink RX0 23 "AlarmBench" "now" "I") (by decide +kernel)) (fun _ h9 => h9) rfl dX0_putAhead_6 ?_
  refine lv_iload_n hx hb dX0_putAhead_9 rfl (lv_at hl 2 rfl) ?_
  refine lv_iadd hx hb dX0_putAhead_10 ?_
  refine kz_iast hx hb hK hP hD hS 2 1 rfl rfl hk (by decide) dX0_putAhead_11 (fun H locs hP hD hS => ?_)
  have hP : va_P D vwCl (abW h0 a1 a2 a3 a4 cZ cI S (upd Du k (now + x)) T Rk now lr rt rd) H := hP
  have hD : va_D A (abW h0 a1 a2 a3 a4 cZ cI S (upd Du k (now + x)) T Rk now lr rt rd) := hD
  refine lv_aload_n hx hb dX0_putAhead_12 rfl (lv_at hl 0 rfl) ?_
  refine lv_dup hx hb dX0_putAhead_13 rfl ?_
  refine va_get (ci := 0) (v := .int lr) (C := RX0) (T := TX0) (N := 8) hx hb hts hinX0 hown hK hP 0 rfl rfl 5 (by decide) (hts (.fieldLink RX0 27 "AlarmBench" "lastRank" "I") (by decide +kernel)) (fun _ h9 => h9) rfl dX0_putAhead_14 ?_
  refine lv_iconst (v := 1) hx hb dX0_putAhead_17 (by decide) ?_
  refine lv_iadd hx hb dX0_putAhead_18 ?_
  refine va_put (ci := 0) (v := .int (lr + 1)) (ty := .int) (C := RX0) (T := TX0) (N := 8) hx hb hts hinX0 tyX0 tyX0_ok nmX0 hown hK hP hD hS 0 rfl rfl 5 (by decide) (hts (.fieldLink RX0 27 "AlarmBench" "lastRank" "I") (by decide +kernel)) (fun _ h9 => h9) rfl (by decide +kernel) rfl rfl (Nat.le_of_ble_eq_true rfl) dX0_putAhead_19 (fun H locs hP hD hS => ?_)
  have hP : va_P D vwCl (abW h0 a1 a2 a3 a4 cZ cI S (upd Du k (now + x)) T Rk now (lr + 1) rt rd) H := hP
  have hD : va_D A (abW h0 a1 a2 a3 a4 cZ cI S (upd Du k (now + x)) T Rk now (lr + 1) rt rd) := hD
  refine lv_aload_n hx hb dX0_putAhead_22 rfl (lv_at hl 0 rfl) ?_
  refine va_get (ci := 0) (v := .ref a4) (C := RX0) (T := TX0) (N := 8) hx hb hts hinX0 hown hK hP 0 rfl rfl 3 (by decide) (hts (.fieldLink RX0 20 "AlarmBench" "rank" "[I") (by decide +kernel)) (fun _ h9 => h9) rfl dX0_putAhead_23 ?_
  refine lv_iload_n hx hb dX0_putAhead_26 rfl (lv_at hl 1 rfl) ?_
  refine lv_aload_n hx hb dX0_putAhead_27 rfl (lv_at hl 0 rfl) ?_
  refine va_get (ci := 0) (v := .int (lr + 1)) (C := RX0) (T := TX0) (N := 8) hx hb hts hinX0 hown hK hP 0 rfl rfl 5 (by decide) (hts (.fieldLink RX0 27 "AlarmBench" "lastRank" "I") (by decide +kernel)) (fun _ h9 => h9) rfl dX0_putAhead_28 ?_
  refine kz_iast hx hb hK hP hD hS 4 1 rfl rfl hk (by decide) dX0_putAhead_31 (fun H locs hP hD hS => ?_)
  have hP : va_P D vwCl (abW h0 a1 a2 a3 a4 cZ cI S (upd Du k (now + x)) T (upd Rk k (lr + 1)) now (lr + 1) rt rd) H := hP
  have hD : va_D A (abW h0 a1 a2 a3 a4 cZ cI S (upd Du k (now + x)) T (upd Rk k (lr + 1)) now (lr + 1) rt rd) := hD
  exact W.vret hx hb hr (fun t9 ht9 hW9 => ⟨⟨(S, upd Du k (now + x), T, upd Rk k (lr + 1), now, lr + 1, rt, rd), rfl, rfl, by rw [ht9]; exact hP, va_K.moved hW9.alike hK, hD⟩, hS.F ht9⟩) hS.2.2 dX0_putAhead_32
end
section
set_option maxHeartbeats 4000000 in
set_option maxRecDepth 100000 in
/-- leastFree() -/
theorem c_leastFree (l : Launch) (D : va_G) (h0 a1 a2 a3 a4 : Nat) (cZ cI : ClassId) (S Du T Rk : Nat → Int32) (now lr rt rd : Int32)  : Met l yX0_leastFree wsX0_leastFree ({ frames := 0, cells := 0, slots := 0, locals := 0 } : Room) (va_Pc [.ref h0] (fun U => va_P D vwCl (abW h0 a1 a2 a3 a4 cZ cI S Du T Rk now lr rt rd) U.heap ∧ va_K D vwCl (abT cZ cI) U)) (vp_Si (fun r => (∃ k : Nat, k < 512 ∧ r = nI k ∧ S k = 0 ∧ ∀ j, j < k → ¬ S j = 0) ∨ (r = -1 ∧ ∀ j, j < 512 → ¬ S j = 0))) 0 0 (fun _ => False) := by
  refine Met.ofW (cc := cX0_leastFree) (maxL := 2) (ret := some .int) (by decide) rfl ?_
  intro p e s m args below meth c s₁ B hml hv
  obtain ⟨rfl, hP, hK⟩ := hv
  have hx := B.exec
  have hb := B.bytes
  have hr := B.returns
  have hts := atoms_spec (ws := wsX0_leastFree) B.pre
  have hown : s.vm.findClass RX0 = some m.cls := findClass_of_methodNamed B.named
  have hlocks := B.notSynchronized
  have hinX0 : ∀ w ∈ wsX00, w ∈ wsX0_leastFree := by decide +kernel
  refine kz_enter [.ref h0] (Nat.le_of_ble_eq_true rfl) (fun ls hl => ?_)
  have hl : lv_has ls 2 [(0, .ref h0)] := hl
  refine lv_iconst (v := 0) hx hb dX0_leastFree_0 (by decide) ?_
  refine lv_istore_n (lv' := [(1, .int 0), (0, .ref h0)]) hx hb dX0_leastFree_1 rfl hl (by decide) rfl (fun ls hl => ?_)
  refine kz_loop (G := fun ls : Array Slot => W p l e _ s m _ below meth c s.heap [] 0 0 _ (F0 m 2 ls [])) (I := fun k ls => (∀ j, j < k → ¬ S j = 0) ∧ lv_has ls 2 [(1, .int (nI k)), (0, .ref h0)]) 512 ?_ ?_ 0 (Nat.zero_le _) ls ⟨fun j hj => absurd hj (Nat.not_lt_zero j), hl⟩
  · intro k ls hk ⟨hlo, hl⟩ ih
    refine lv_iload_n hx hb dX0_leastFree_2 rfl (lv_at hl 0 rfl) ?_
    refine lv_sipush (v := 512) hx hb dX0_leastFree_3 (by decide) ?_
    refine lv_icmp_ge (tgt := 26) hx hb dX0_leastFree_6 (by decide) (fun c_6 => ?_) (fun c_6 => ?_)
    · exact absurd c_6 (nI_ge (a := k) (b := 512) hk (by decide))
    · refine lv_aload_n hx hb dX0_leastFree_9 rfl (lv_at hl 1 rfl) ?_
      refine va_get (ci := 0) (v := .ref a1) (C := RX0) (T := TX0) (N := 8) hx hb hts hinX0 hown hK hP 0 rfl rfl 0 (by decide) (hts (.fieldLink RX0 9 "AlarmBench" "isSet" "[Z") (by decide +kernel)) (fun _ h9 => h9) rfl dX0_leastFree_10 ?_
      refine lv_iload_n hx hb dX0_leastFree_13 rfl (lv_at hl 0 rfl) ?_
      refine kz_zald hx hb hK hP 1 0 rfl rfl hk (by decide) dX0_leastFree_14 ?_
      refine lv_if_ne (tgt := 20) hx hb dX0_leastFree_15 (by decide) (fun c_15 => ?_) (fun c_15 => ?_)
      · refine lv_iinc (v := nI (k + 1)) (lv' := [(1, .int (nI (k + 1))), (0, .ref h0)]) hx hb dX0_leastFree_20 hl (k := 0) rfl (kz_inc k) (by decide) rfl (fun ls hl => ?_)
        refine lv_goto (tgt := 2) hx hb dX0_leastFree_23 (by decide) ?_
        exact ih ls ⟨fun j hj => (Nat.lt_succ_iff_lt_or_eq.mp hj).elim (hlo j) (fun e9 => e9 ▸ c_15), lv_sub hl [0, 1] rfl⟩
      · refine lv_iload_n hx hb dX0_leastFree_18 rfl (lv_at hl 0 rfl) ?_
        exact W.iret (v := nI k) hx hb hr (fun t9 ht9 hW9 => ⟨_, rfl, Or.inl ⟨k, hk, rfl, c_15, hlo⟩, ht9⟩) (fun q h => by cases h) dX0_leastFree_19
  · intro ls ⟨hlo, hl⟩
    refine lv_iload_n hx hb dX0_leastFree_2 rfl (lv_at hl 0 rfl) ?_
    refine lv_sipush (v := 512) hx hb dX0_leastFree_3 (by decide) ?_
    refine lv_icmp_ge (tgt := 26) hx hb dX0_leastFree_6 (by decide) (fun c_6 => ?_) (fun c_6 => ?_)
    · refine lv_iconst (v := -1) hx hb dX0_leastFree_26 (by decide) ?_
      exact W.iret (v := (-1)) hx hb hr (fun t9 ht9 hW9 => ⟨_, rfl, Or.inr ⟨rfl, hlo⟩, ht9⟩) (fun q h => by cases h) dX0_leastFree_27
    · exact absurd (Int32.le_refl _) c_6
set_option maxHeartbeats 4000000 in
set_option maxRecDepth 100000 in
/-- first() -/
theorem c_first (l : Launch) (D : va_G) (h0 a1 a2 a3 a4 : Nat) (cZ cI : ClassId) (S Du T Rk : Nat → Int32) (now lr rt rd : Int32)  : Met l yX0_first wsX0_first ({ frames := 1, cells := 0, slots := 0, locals := 22 } : Room) (va_Pc [.ref h0] (fun U => va_P D vwCl (abW h0 a1 a2 a3 a4 cZ cI S Du T Rk now lr rt rd) U.heap ∧ va_K D vwCl (abT cZ cI) U)) (vp_Si (fun r => r = oI (ab_fst S Du Rk 512))) 0 0 (fun _ => False) := by
  refine Met.ofW (cc := cX0_first) (maxL := 3) (ret := some .int) (by decide) rfl ?_
  intro p e s m args below meth c s₁ B hml hv
  obtain ⟨rfl, hP, hK⟩ := hv
  have hx := B.exec
  have hb := B.bytes
  have hr := B.returns
  have hts := atoms_spec (ws := wsX0_first) B.pre
  have hown : s.vm.findClass RX0 = some m.cls := findClass_of_methodNamed B.named
  have hlocks := B.notSynchronized
  have hinX0 : ∀ w ∈ wsX00, w ∈ wsX0_first := by decide +kernel
  refine kz_enter [.ref h0] (Nat.le_of_ble_eq_true rfl) (fun ls hl => ?_)
  have hl : lv_has ls 3 [(0, .ref h0)] := hl
  refine lv_iconst (v := -1) hx hb dX0_first_0 (by decide) ?_
  refine lv_istore_n (lv' := [(1, .int ((-1))), (0, .ref h0)]) hx hb dX0_first_1 rfl hl (by decide) rfl (fun ls hl => ?_)
  refine lv_iconst (v := 0) hx hb dX0_first_2 (by decide) ?_
  refine lv_istore_n (lv' := [(2, .int 0), (1, .int ((-1))), (0, .ref h0)]) hx hb dX0_first_3 rfl hl (by decide) rfl (fun ls hl => ?_)
  refine kz_loop (G := fun ls : Array Slot => W p l e _ s m _ below meth c s.heap [] 0 0 _ (F0 m 4 ls [])) (I := fun k ls => lv_has ls 3 [(2, .int (nI k)), (1, .int (oI (ab_fst S Du Rk k))), (0, .ref h0)]) 512 ?_ ?_ 0 (Nat.zero_le _) ls (lv_sub hl [0, 1, 2] rfl)
  · intro k ls hk hl ih
    refine lv_iload_n hx hb dX0_first_4 rfl (lv_at hl 0 rfl) ?_
    refine lv_sipush (v := 512) hx hb dX0_first_5 (by decide) ?_
    refine lv_icmp_ge (tgt := 42) hx hb dX0_first_8 (by decide) (fun c_8 => ?_) (fun c_8 => ?_)
    · exact absurd c_8 (nI_ge (a := k) (b := 512) hk (by decide))
    · refine lv_aload_n hx hb dX0_first_11 rfl (lv_at hl 2 rfl) ?_
      refine va_get (ci := 0) (v := .ref a1) (C := RX0) (T := TX0) (N := 8) hx hb hts hinX0 hown hK hP 0 rfl rfl 0 (by decide) (hts (.fieldLink RX0 9 "AlarmBench" "isSet" "[Z") (by decide +kernel)) (fun _ h9 => h9) rfl dX0_first_12 ?_
      refine lv_iload_n hx hb dX0_first_15 rfl (lv_at hl 0 rfl) ?_
      refine kz_zald hx hb hK hP 1 0 rfl rfl hk (by decide) dX0_first_16 ?_
      refine lv_if_eq (tgt := 36) hx hb dX0_first_17 (by decide) (fun c_17 => ?_) (fun c_17 => ?_)
      · refine lv_iinc (v := nI (k + 1)) (lv' := [(2, .int (nI (k + 1))), (1, .int (oI (ab_fst S Du Rk k))), (0, .ref h0)]) hx hb dX0_first_36 hl (k := 0) rfl (kz_inc k) (by decide) rfl (fun ls hl => ?_)
        refine lv_goto (tgt := 4) hx hb dX0_first_39 (by decide) ?_
        exact ih ls (by rw [ab_fst_0 c_17]; exact lv_sub hl [0, 1, 2] rfl)
      · refine lv_iload_n hx hb dX0_first_20 rfl (lv_at hl 1 rfl) ?_
        refine lv_iconst (v := -1) hx hb dX0_first_21 (by decide) ?_
        refine lv_icmp_eq (tgt := 34) hx hb dX0_first_22 (by decide) (fun c_22 => ?_) (fun c_22 => ?_)
        · have hn0 := oI_n c_22 (fun j hj => Nat.lt_trans (ab_fst_lt hj).1 (Nat.lt_trans hk (by decide)))
          refine lv_iload_n hx hb dX0_first_34 rfl (lv_at hl 0 rfl) ?_
          refine lv_istore_n (lv' := [(1, .int (nI k)), (2, .int (nI k)), (0, .ref h0)]) hx hb dX0_first_35 rfl hl (by decide) rfl (fun ls hl => ?_)
          refine lv_iinc (v := nI (k + 1)) (lv' := [(2, .int (nI (k + 1))), (1, .int (nI k)), (0, .ref h0)]) hx hb dX0_first_36 hl (k := 1) rfl (kz_inc k) (by decide) rfl (fun ls hl => ?_)
          refine lv_goto (tgt := 4) hx hb dX0_first_39 (by decide) ?_
          exact ih ls (by rw [ab_fst_n c_17 hn0]; exact lv_sub hl [0, 1, 2] rfl)
        · obtain ⟨j0, hj0⟩ : ∃ j, ab_fst S Du Rk k = some j := by
            cases hq : ab_fst S Du Rk k with
            | none => rw [hq] at c_22; exact absurd rfl c_22
            | some j => exact ⟨j, rfl⟩
          have hjk : j0 < 512 := Nat.lt_trans (ab_fst_lt hj0).1 hk
          rw [hj0] at hl
          have hl : lv_has ls 3 [(2, .int (nI k)), (1, .int (nI j0)), (0, .ref h0)] := hl
          refine lv_aload_n hx hb dX0_first_25 rfl (lv_at hl 2 rfl) ?_
          refine lv_iload_n hx hb dX0_first_26 rfl (lv_at hl 0 rfl) ?_
          refine lv_iload_n hx hb dX0_first_27 rfl (lv_at hl 1 rfl) ?_
          refine kz_callR (As := [.int (nI k), .int (nI j0)]) (rest := []) ⟨hx, hb, hml, hown, hts⟩ (c_isBefore l D h0 a1 a2 a3 a4 cZ cI S Du T Rk now lr rt rd k j0 hk hjk) (cwV 2 hts gX0_first_X0_isBefore rfl rfl rfl (by decide +kernel) ⟨Nat.le_of_ble_eq_true rfl, Nat.le_of_ble_eq_true rfl⟩) hP hK (va_recv hK hP (ci := 0) (q0 := 0) rfl rfl) rfl hl.1 rfl (Nat.le_of_ble_eq_true rfl) dX0_first_28 ⟨Nat.zero_le _, Nat.zero_le _⟩ (fun r_1 hr_2 => ?_)
          refine lv_if_eq (tgt := 36) hx hb dX0_first_31 (by decide) (fun c_31 => ?_) (fun c_31 => ?_)
          · have hb9 := hr_2.f c_31
            refine lv_iinc (v := nI (k + 1)) (lv' := [(2, .int (nI (k + 1))), (1, .int (nI j0)), (0, .ref h0)]) hx hb dX0_first_36 hl (k := 0) rfl (kz_inc k) (by decide) rfl (fun ls hl => ?_)
            refine lv_goto (tgt := 4) hx hb dX0_first_39 (by decide) ?_
            exact ih ls (by rw [ab_fst_f c_17 hj0 hb9]; exact lv_sub hl [0, 1, 2] rfl)
          · have hb9 := hr_2.t c_31
            refine lv_iload_n hx hb dX0_first_34 rfl (lv_at hl 0 rfl) ?_
            refine lv_istore_n (lv' := [(1, .int (nI k)), (2, .int (nI k)), (0, .ref h0)]) hx hb dX0_first_35 rfl hl (by decide) rfl (fun ls hl => ?_)
            refine lv_iinc (v := nI (k + 1)) (lv' := [(2, .int (nI (k + 1))), (1, .int (nI k)), (0, .ref h0)]) hx hb dX0_first_36 hl (k := 1) rfl (kz_inc k) (by decide) rfl (fun ls hl => ?_)
            refine lv_goto (tgt := 4) hx hb dX0_first_39 (by decide) ?_
            exact ih ls (by rw [ab_fst_t c_17 hj0 hb9]; exact lv_sub hl [0, 1, 2] rfl)
  · intro ls hl
    refine lv_iload_n hx hb dX0_first_4 rfl (lv_at hl 0 rfl) ?_
    refine lv_sipush (v := 512) hx hb dX0_first_5 (by decide) ?_
    refine lv_icmp_ge (tgt := 42) hx hb dX0_first_8 (by decide) (fun c_8 => ?_) (fun c_8 => ?_)
    · refine lv_iload_n hx hb dX0_first_42 rfl (lv_at hl 1 rfl) ?_
      exact W.iret (v := oI (ab_fst S Du Rk 512)) hx hb hr (fun t9 ht9 hW9 => ⟨_, rfl, rfl, ht9⟩) (fun q h => by cases h) dX0_first_43
    · exact absurd (Int32.le_refl _) c_8
set_option maxHeartbeats 4000000 in
set_option maxRecDepth 100000 in
/-- count(b) -/
theorem c_count (l : Launch) (D : va_G) (h0 a1 a2 a3 a4 : Nat) (cZ cI : ClassId) (S Du T Rk : Nat → Int32) (now lr rt rd : Int32) (b : Int32) : Met l yX0_count wsX0_count ({ frames := 1, cells := 0, slots := 0, locals := 21 } : Room) (va_Pc [.ref h0, .int b] (fun U => va_P D vwCl (abW h0 a1 a2 a3 a4 cZ cI S Du T Rk now lr rt rd) U.heap ∧ va_K D vwCl (abT cZ cI) U)) (vp_Si (fun r => r = nI (ab_cnt (fun j => !decide (S j = 0) && (decide (b = 0) || decide (Du j ≤ now))) 512))) 0 0 (fun _ => False) := by
  refine Met.ofW (cc := cX0_count) (maxL := 4) (ret := some .int) (by decide) rfl ?_
  intro p e s m args below meth c s₁ B hml hv
  obtain ⟨rfl, hP, hK⟩ := hv
  have hx := B.exec
  have hb := B.bytes
  have hr := B.returns
  have hts := atoms_spec (ws := wsX0_count) B.pre
  have hown : s.vm.findClass RX0 = some m.cls := findClass_of_methodNamed B.named
  have hlocks := B.notSynchronized
  have hinX0 : ∀ w ∈ wsX00, w ∈ wsX0_count := by decide +kernel
  refine kz_enter [.ref h0, .int b] (Nat.le_of_ble_eq_true rfl) (fun ls hl => ?_)
  have hl : lv_has ls 4 [(0, .ref h0), (1, .int b)] := hl
  refine lv_iconst (v := 0) hx hb dX0_count_0 (by decide) ?_
  refine lv_istore_n (lv' := [(2, .int 0), (0, .ref h0), (1, .int b)]) hx hb dX0_count_1 rfl hl (by decide) rfl (fun ls hl => ?_)
  refine lv_iconst (v := 0) hx hb dX0_count_2 (by decide) ?_
  refine lv_istore_n (lv' := [(3, .int 0), (2, .int 0), (0, .ref h0), (1, .int b)]) hx hb dX0_count_3 rfl hl (by decide) rfl (fun ls hl => ?_)
  refine kz_loop (G := fun ls : Array Slot => W p l e _ s m _ below meth c s.heap [] 0 0 _ (F0 m 4 ls [])) (I := fun k ls => lv_has ls 4 [(3, .int (nI k)), (2, .int (nI (ab_cnt (fun j => !decide (S j = 0) && (decide (b = 0) || decide (Du j ≤ now))) k))), (0, .ref h0), (1, .int b)]) 512 ?_ ?_ 0 (Nat.zero_le _) ls (lv_sub hl [0, 1, 2, 3] rfl)
  · intro k ls hk hl ih
    refine lv_iload_n hx hb dX0_count_4 rfl (lv_at hl 0 rfl) ?_
    refine lv_sipush (v := 512) hx hb dX0_count_5 (by decide) ?_
    refine lv_icmp_ge (tgt := 41) hx hb dX0_count_8 (by decide) (fun c_8 => ?_) (fun c_8 => ?_)
    · exact absurd c_8 (nI_ge (a := k) (b := 512) hk (by decide))
    · refine lv_aload_n hx hb dX0_count_11 rfl (lv_at hl 2 rfl) ?_
      refine va_get (ci := 0) (v := .ref a1) (C := RX0) (T := TX0) (N := 8) hx hb hts hinX0 hown hK hP 0 rfl rfl 0 (by decide) (hts (.fieldLink RX0 9 "AlarmBench" "isSet" "[Z") (by decide +kernel)) (fun _ h9 => h9) rfl dX0_count_12 ?_
      refine lv_iload_n hx hb dX0_count_15 rfl (lv_at hl 0 rfl) ?_
      refine kz_zald hx hb hK hP 1 0 rfl rfl hk (by decide) dX0_count_16 ?_
      refine lv_if_eq (tgt := 35) hx hb dX0_count_17 (by decide) (fun c_17 => ?_) (fun c_17 => ?_)
      · refine lv_iinc (v := nI (k + 1)) (lv' := [(3, .int (nI (k + 1))), (2, .int (nI (ab_cnt (fun j => !decide (S j = 0) && (decide (b = 0) || decide (Du j ≤ now))) k))), (0, .ref h0), (1, .int b)]) hx hb dX0_count_35 hl (k := 0) rfl (kz_inc k) (by decide) rfl (fun ls hl => ?_)
        refine lv_goto (tgt := 4) hx hb dX0_count_38 (by decide) ?_
        exact ih ls (by rw [show ab_cnt (fun j => !decide (S j = 0) && (decide (b = 0) || decide (Du j ≤ now))) (k + 1) = _ from ab_cnt_f (by simp [c_17])]; exact lv_sub hl [0, 1, 2, 3] rfl)
      · refine lv_iload_n hx hb dX0_count_20 rfl (lv_at hl 3 rfl) ?_
        refine lv_if_eq (tgt := 32) hx hb dX0_count_21 (by decide) (fun c_21 => ?_) (fun c_21 => ?_)
        · refine lv_iinc (v := nI (ab_cnt (fun j => !decide (S j = 0) && (decide (b = 0) || decide (Du j ≤ now))) k + 1)) (lv' := [(2, .int (nI (ab_cnt (fun j => !decide (S j = 0) && (decide (b = 0) || decide (Du j ≤ now))) k + 1))), (3, .int (nI k)), (0, .ref h0), (1, .int b)]) hx hb dX0_count_32 hl (k := 1) rfl (kz_inc (ab_cnt (fun j => !decide (S j = 0) && (decide (b = 0) || decide (Du j ≤ now))) k)) (by decide) rfl (fun ls hl => ?_)
          refine lv_iinc (v := nI (k + 1)) (lv' := [(3, .int (nI (k + 1))), (2, .int (nI (ab_cnt (fun j => !decide (S j = 0) && (decide (b = 0) || decide (Du j ≤ now))) k + 1))), (0, .ref h0), (1, .int b)]) hx hb dX0_count_35 hl (k := 1) rfl (kz_inc k) (by decide) rfl (fun ls hl => ?_)
          refine lv_goto (tgt := 4) hx hb dX0_count_38 (by decide) ?_
          exact ih ls (by rw [show ab_cnt (fun j => !decide (S j = 0) && (decide (b = 0) || decide (Du j ≤ now))) (k + 1) = _ from ab_cnt_t (by simp [c_17, c_21])]; exact lv_sub hl [0, 1, 2, 3] rfl)
        · refine lv_aload_n hx hb dX0_count_24 rfl (lv_at hl 2 rfl) ?_
          refine lv_iload_n hx hb dX0_count_25 rfl (lv_at hl 0 rfl) ?_
          refine kz_callR (As := [.int (nI k)]) (rest := []) ⟨hx, hb, hml, hown, hts⟩ (c_isReady l D h0 a1 a2 a3 a4 cZ cI S Du T Rk now lr rt rd k hk) (cwV 1 hts gX0_count_X0_isReady rfl rfl rfl (by decide +kernel) ⟨Nat.le_of_ble_eq_true rfl, Nat.le_of_ble_eq_true rfl⟩) hP hK (va_recv hK hP (ci := 0) (q0 := 0) rfl rfl) rfl hl.1 rfl (Nat.le_of_ble_eq_true rfl) dX0_count_26 ⟨Nat.zero_le _, Nat.zero_le _⟩ (fun r_1 hr_2 => ?_)
          refine lv_if_eq (tgt := 35) hx hb dX0_count_29 (by decide) (fun c_29 => ?_) (fun c_29 => ?_)
          · have hd9 := hr_2.f c_29
            refine lv_iinc (v := nI (k + 1)) (lv' := [(3, .int (nI (k + 1))), (2, .int (nI (ab_cnt (fun j => !decide (S j = 0) && (decide (b = 0) || decide (Du j ≤ now))) k))), (0, .ref h0), (1, .int b)]) hx hb dX0_count_35 hl (k := 0) rfl (kz_inc k) (by decide) rfl (fun ls hl => ?_)
            refine lv_goto (tgt := 4) hx hb dX0_count_38 (by decide) ?_
            exact ih ls (by rw [show ab_cnt (fun j => !decide (S j = 0) && (decide (b = 0) || decide (Du j ≤ now))) (k + 1) = _ from ab_cnt_f (by simp [c_17, c_21, hd9])]; exact lv_sub hl [0, 1, 2, 3] rfl)
          · have hd9 := hr_2.t c_29
            refine lv_iinc (v := nI (ab_cnt (fun j => !decide (S j = 0) && (decide (b = 0) || decide (Du j ≤ now))) k + 1)) (lv' := [(2, .int (nI (ab_cnt (fun j => !decide (S j = 0) && (decide (b = 0) || decide (Du j ≤ now))) k + 1))), (3, .int (nI k)), (0, .ref h0), (1, .int b)]) hx hb dX0_count_32 hl (k := 1) rfl (kz_inc (ab_cnt (fun j => !decide (S j = 0) && (decide (b = 0) || decide (Du j ≤ now))) k)) (by decide) rfl (fun ls hl => ?_)
            refine lv_iinc (v := nI (k + 1)) (lv' := [(3, .int (nI (k + 1))), (2, .int (nI (ab_cnt (fun j => !decide (S j = 0) && (decide (b = 0) || decide (Du j ≤ now))) k + 1))), (0, .ref h0), (1, .int b)]) hx hb dX0_count_35 hl (k := 1) rfl (kz_inc k) (by decide) rfl (fun ls hl => ?_)
            refine lv_goto (tgt := 4) hx hb dX0_count_38 (by decide) ?_
            exact ih ls (by rw [show ab_cnt (fun j => !decide (S j = 0) && (decide (b = 0) || decide (Du j ≤ now))) (k + 1) = _ from ab_cnt_t (by simp [c_17, hd9])]; exact lv_sub hl [0, 1, 2, 3] rfl)
  · intro ls hl
    refine lv_iload_n hx hb dX0_count_4 rfl (lv_at hl 0 rfl) ?_
    refine lv_sipush (v := 512) hx hb dX0_count_5 (by decide) ?_
    refine lv_icmp_ge (tgt := 41) hx hb dX0_count_8 (by decide) (fun c_8 => ?_) (fun c_8 => ?_)
    · refine lv_iload_n hx hb dX0_count_41 rfl (lv_at hl 1 rfl) ?_
      exact W.iret (v := nI (ab_cnt (fun j => !decide (S j = 0) && (decide (b = 0) || decide (Du j ≤ now))) 512)) hx hb hr (fun t9 ht9 hW9 => ⟨_, rfl, rfl, ht9⟩) (fun q h => by cases h) dX0_count_42
    · exact absurd (Int32.le_refl _) c_8
set_option maxHeartbeats 4000000 in
set_option maxRecDepth 100000 in
/-- next() -/
theorem c_next (l : Launch) (D : va_G) (h0 a1 a2 a3 a4 : Nat) (cZ cI : ClassId) (S Du T Rk : Nat → Int32) (now lr rt rd : Int32)  : Met l yX0_next wsX0_next ({ frames := 2, cells := 0, slots := 0, locals := 44 } : Room) (va_Pc [.ref h0] (fun U => va_P D vwCl (abW h0 a1 a2 a3 a4 cZ cI S Du T Rk now lr rt rd) U.heap ∧ va_K D vwCl (abT cZ cI) U)) (vp_Si (fun r => r = (match ab_fst S Du Rk 512 with | none => -1 | some k => Du k))) 0 0 (fun _ => False) := by
  refine Met.ofW (cc := cX0_next) (maxL := 2) (ret := some .int) (by decide) rfl ?_
  intro p e s m args below meth c s₁ B hml hv
  obtain ⟨rfl, hP, hK⟩ := hv
  have hx := B.exec
  have hb := B.bytes
  have hr := B.returns
  have hts := atoms_spec (ws := wsX0_next) B.pre
  have hown : s.vm.findClass RX0 = some m.cls := findClass_of_methodNamed B.named
  have hlocks := B.notSynchronized
  have hinX0 : ∀ w ∈ wsX00, w ∈ wsX0_next := by decide +kernel
  refine kz_enter [.ref h0] (Nat.le_of_ble_eq_true rfl) (fun ls hl => ?_)
  have hl : lv_has ls 2 [(0, .ref h0)] := hl
  refine lv_aload_n hx hb dX0_next_0 rfl (lv_at hl 0 rfl) ?_
  refine kz_callR (As := []) (rest := []) ⟨hx, hb, hml, hown, hts⟩ (c_first l D h0 a1 a2 a3 a4 cZ cI S Du T Rk now lr rt rd) (cwV 0 hts gX0_next_X0_first rfl rfl rfl (by decide +kernel) ⟨Nat.le_of_ble_eq_true rfl, Nat.le_of_ble_eq_true rfl⟩) hP hK (va_recv hK hP (ci := 0) (q0 := 0) rfl rfl) rfl hl.1 rfl (Nat.le_of_ble_eq_true rfl) dX0_next_1 ⟨Nat.zero_le _, Nat.zero_le _⟩ (fun r_1 hr_2 => ?_)
  subst hr_2
  refine lv_istore_n (lv' := [(1, .int (oI (ab_fst S Du Rk 512))), (0, .ref h0)]) hx hb dX0_next_4 rfl hl (by decide) rfl (fun ls hl => ?_)
  refine lv_iload_n hx hb dX0_next_5 rfl (lv_at hl 0 rfl) ?_
  refine lv_iconst (v := -1) hx hb dX0_next_6 (by decide) ?_
  refine lv_icmp_ne (tgt := 14) hx hb dX0_next_7 (by decide) (fun c_7 => ?_) (fun c_7 => ?_)
  · obtain ⟨j0, hj0⟩ : ∃ j, ab_fst S Du Rk 512 = some j := by
      cases hq : ab_fst S Du Rk 512 with
      | none => rw [hq] at c_7; exact absurd rfl c_7
      | some j => exact ⟨j, rfl⟩
    have hk : j0 < 512 := (ab_fst_lt hj0).1
    rw [hj0] at hl
    have hl : lv_has ls 2 [(1, .int (nI j0)), (0, .ref h0)] := hl
    refine lv_aload_n hx hb dX0_next_14 rfl (lv_at hl 1 rfl) ?_
    refine va_get (ci := 0) (v := .ref a2) (C := RX0) (T := TX0) (N := 8) hx hb hts hinX0 hown hK hP 0 rfl rfl 1 (by decide) (hts (.fieldLink RX0 13 "AlarmBench" "dueAt" "[I") (by decide +kernel)) (fun _ h9 => h9) rfl dX0_next_15 ?_
    refine lv_iload_n hx hb dX0_next_18 rfl (lv_at hl 0 rfl) ?_
    refine kz_iald hx hb hK hP 2 1 rfl rfl hk (by decide) dX0_next_19 ?_
    exact W.iret (v := Du j0) hx hb hr (fun t9 ht9 hW9 => ⟨_, rfl, by rw [hj0], ht9⟩) (fun q h => by cases h) dX0_next_20
  · have hn0 := oI_n c_7 (fun j hj => Nat.lt_trans (ab_fst_lt hj).1 (by decide))
    refine lv_iconst (v := -1) hx hb dX0_next_10 (by decide) ?_
    refine lv_goto (tgt := 20) hx hb dX0_next_11 (by decide) ?_
    exact W.iret (v := (-1)) hx hb hr (fun t9 ht9 hW9 => ⟨_, rfl, by rw [hn0], ht9⟩) (fun q h => by cases h) dX0_next_20
end
section
set_option maxHeartbeats 4000000 in
set_option maxRecDepth 100000 in
/-- ring() -/
theorem c_ring (l : Launch) (D : va_G) (h0 a1 a2 a3 a4 : Nat) (cZ cI : ClassId) (S Du T Rk : Nat → Int32) (now lr rt rd : Int32) (sz : Nat)  : Met l yX0_ring wsX0_ring ({ frames := 2, cells := 0, slots := 0, locals := 44 } : Room) (kz_Pc D vwCl (abT cZ cI) (abW h0 a1 a2 a3 a4 cZ cI S Du T Rk now lr rt rd) sz [.ref h0]) (va_Qi (fun (r : Int32) (u : ABs) => (match ab_fst S Du Rk 512 with | none => r = -1 ∧ u = (S, Du, T, Rk, now, lr, rt, rd) | some k => (Du k ≤ now → r = nI k ∧ u = (upd S k 0, Du, T, Rk, now, lr, T k, Du k)) ∧ (¬ Du k ≤ now → r = -1 ∧ u = (S, Du, T, Rk, now, lr, rt, rd)))) (kz_B D vwCl (abT cZ cI) (abU h0 a1 a2 a3 a4 cZ cI) (va_A (abW h0 a1 a2 a3 a4 cZ cI S Du T Rk now lr rt rd) sz)) (va_A (abW h0 a1 a2 a3 a4 cZ cI S Du T Rk now lr rt rd) sz)) 0 0 (va_A (abW h0 a1 a2 a3 a4 cZ cI S Du T Rk now lr rt rd) sz) := by
  refine Met.ofW (cc := cX0_ring) (maxL := 2) (ret := some .int) (by decide) rfl ?_
  intro p e s m args below meth c s₁ B hml hv
  obtain ⟨rfl, hsz, hP, hK, hD0⟩ := hv
  have hx := B.exec
  have hb := B.bytes
  have hr := B.returns
  have hts := atoms_spec (ws := wsX0_ring) B.pre
  have hown : s.vm.findClass RX0 = some m.cls := findClass_of_methodNamed B.named
  have hlocks := B.notSynchronized
  have hinX0 : ∀ w ∈ wsX00, w ∈ wsX0_ring := by decide +kernel
  subst hsz
  have hD := hD0.self (sz := s.heap.size)
  generalize hAe : va_A (abW h0 a1 a2 a3 a4 cZ cI S Du T Rk now lr rt rd) s.heap.size = A at hD ⊢
  have hA : ∀ q : Nat, s.heap.size ≤ q → A q := fun q h => by rw [← hAe]; exact Or.inr h
  have hS : va_S A s.heap s.heap [] := va_S.rf
  refine kz_enter [.ref h0] (Nat.le_of_ble_eq_true rfl) (fun ls hl => ?_)
  have hl : lv_has ls 2 [(0, .ref h0)] := hl
  refine lv_aload_n hx hb dX0_ring_0 rfl (lv_at hl 0 rfl) ?_
  refine kz_callR (As := []) (rest := []) ⟨hx, hb, hml, hown, hts⟩ (c_first l D h0 a1 a2 a3 a4 cZ cI S Du T Rk now lr rt rd) (cwV 0 hts gX0_ring_X0_first rfl rfl rfl (by decide +kernel) ⟨Nat.le_of_ble_eq_true rfl, Nat.le_of_ble_eq_true rfl⟩) hP hK (va_recv hK hP (ci := 0) (q0 := 0) rfl rfl) rfl hl.1 rfl (Nat.le_of_ble_eq_true rfl) dX0_ring_1 ⟨Nat.zero_le _, Nat.zero_le _⟩ (fun r_1 hr_2 => ?_)
  subst hr_2
  refine lv_istore_n (lv' := [(1, .int (oI (ab_fst S Du Rk 512))), (0, .ref h0)]) hx hb dX0_ring_4 rfl hl (by decide) rfl (fun ls hl => ?_)
  refine lv_iload_n hx hb dX0_ring_5 rfl (lv_at hl 0 rfl) ?_
  refine lv_iconst (v := -1) hx hb dX0_ring_6 (by decide) ?_
  refine lv_icmp_eq (tgt := 18) hx hb dX0_ring_7 (by decide) (fun c_7 => ?_) (fun c_7 => ?_)
  · have hn0 := oI_n c_7 (fun j hj => Nat.lt_trans (ab_fst_lt hj).1 (by decide))
    refine lv_iconst (v := -1) hx hb dX0_ring_18 (by decide) ?_
    exact W.iret (v := (-1)) hx hb hr (fun t9 ht9 hW9 => ⟨⟨_, (S, Du, T, Rk, now, lr, rt, rd), rfl, by rw [hn0]; exact ⟨rfl, rfl⟩, by rw [ht9]; exact hP, va_K.moved hW9.alike hK, hD⟩, hS.F ht9⟩) hS.2.2 dX0_ring_19
  · obtain ⟨j0, hj0⟩ : ∃ j, ab_fst S Du Rk 512 = some j := by
      cases hq : ab_fst S Du Rk 512 with
      | none => rw [hq] at c_7; exact absurd rfl c_7
      | some j => exact ⟨j, rfl⟩
    have hk : j0 < 512 := (ab_fst_lt hj0).1
    rw [hj0] at hl
    have hl : lv_has ls 2 [(1, .int (nI j0)), (0, .ref h0)] := hl
    refine lv_aload_n hx hb dX0_ring_10 rfl (lv_at hl 1 rfl) ?_
    refine lv_iload_n hx hb dX0_ring_11 rfl (lv_at hl 0 rfl) ?_
    refine kz_callR (As := [.int (nI j0)]) (rest := []) ⟨hx, hb, hml, hown, hts⟩ (c_isReady l D h0 a1 a2 a3 a4 cZ cI S Du T Rk now lr rt rd j0 hk) (cwV 1 hts gX0_ring_X0_isReady rfl rfl rfl (by decide +kernel) ⟨Nat.le_of_ble_eq_true rfl, Nat.le_of_ble_eq_true rfl⟩) hP hK (va_recv hK hP (ci := 0) (q0 := 0) rfl rfl) rfl hl.1 rfl (Nat.le_of_ble_eq_true rfl) dX0_ring_12 ⟨Nat.zero_le _, Nat.zero_le _⟩ (fun r_3 hr_4 => ?_)
    refine lv_if_ne (tgt := 20) hx hb dX0_ring_15 (by decide) (fun c_15 => ?_) (fun c_15 => ?_)
    · have hd9 := hr_4.t c_15
      refine lv_aload_n hx hb dX0_ring_20 rfl (lv_at hl 1 rfl) ?_
      refine va_get (ci := 0) (v := .ref a1) (C := RX0) (T := TX0) (N := 8) hx hb hts hinX0 hown hK hP 0 rfl rfl 0 (by decide) (hts (.fieldLink RX0 9 "AlarmBench" "isSet" "[Z") (by decide +kernel)) (fun _ h9 => h9) rfl dX0_ring_21 ?_
      refine lv_iload_n hx hb dX0_ring_24 rfl (lv_at hl 0 rfl) ?_
      refine lv_iconst (v := 0) hx hb dX0_ring_25 (by decide) ?_
      refine kz_zast hx hb hK hP hD hS 1 0 rfl rfl hk (by decide) rfl dX0_ring_26 (fun H locs hP hD hS => ?_)
      have hP : va_P D vwCl (abW h0 a1 a2 a3 a4 cZ cI (upd S j0 0) Du T Rk now lr rt rd) H := hP
      have hD : va_D A (abW h0 a1 a2 a3 a4 cZ cI (upd S j0 0) Du T Rk now lr rt rd) := hD
      refine lv_aload_n hx hb dX0_ring_27 rfl (lv_at hl 1 rfl) ?_
      refine lv_aload_n hx hb dX0_ring_28 rfl (lv_at hl 1 rfl) ?_
      refine va_get (ci := 0) (v := .ref a3) (C := RX0) (T := TX0) (N := 8) hx hb hts hinX0 hown hK hP 0 rfl rfl 2 (by decide) (hts (.fieldLink RX0 17 "AlarmBench" "telling" "[I") (by decide +kernel)) (fun _ h9 => h9) rfl dX0_ring_29 ?_
      refine lv_iload_n hx hb dX0_ring_32 rfl (lv_at hl 0 rfl) ?_
      refine kz_iald hx hb hK hP 3 1 rfl rfl hk (by decide) dX0_ring_33 ?_
      refine va_put (ci := 0) (v := .int (T j0)) (ty := .int) (C := RX0) (T := TX0) (N := 8) hx hb hts hinX0 tyX0 tyX0_ok nmX0 hown hK hP hD hS 0 rfl rfl 6 (by decide) (hts (.fieldLink RX0 30 "AlarmBench" "rungTold" "I") (by decide +kernel)) (fun _ h9 => h9) rfl (by decide +kernel) rfl rfl (Nat.le_of_ble_eq_true rfl) dX0_ring_34 (fun H locs hP hD hS => ?_)
      have hP : va_P D vwCl (abW h0 a1 a2 a3 a4 cZ cI (upd S j0 0) Du T Rk now lr (T j0) rd) H := hP
      have hD : va_D A (abW h0 a1 a2 a3 a4 cZ cI (upd S j0 0) Du T Rk now lr (T j0) rd) := hD
      refine lv_aload_n hx hb dX0_ring_37 rfl (lv_at hl 1 rfl) ?_
      refine lv_aload_n hx hb dX0_ring_38 rfl (lv_at hl 1 rfl) ?_
      refine va_get (ci := 0) (v := .ref a2) (C := RX0) (T := TX0) (N := 8) hx hb hts hinX0 hown hK hP 0 rfl rfl 1 (by decide) (hts (.fieldLink RX0 13 "AlarmBench" "dueAt" "[I") (by decide +kernel)) (fun _ h9 => h9) rfl dX0_ring_39 ?_
      refine lv_iload_n hx hb dX0_ring_42 rfl (lv_at hl 0 rfl) ?_
      refine kz_iald hx hb hK hP 2 1 rfl rfl hk (by decide) dX0_ring_43 ?_
      refine va_put (ci := 0) (v := .int (Du j0)) (ty := .int) (C := RX0) (T := TX0) (N := 8) hx hb hts hinX0 tyX0 tyX0_ok nmX0 hown hK hP hD hS 0 rfl rfl 7 (by decide) (hts (.fieldLink RX0 33 "AlarmBench" "rungDue" "I") (by decide +kernel)) (fun _ h9 => h9) rfl (by decide +kernel) rfl rfl (Nat.le_of_ble_eq_true rfl) dX0_ring_44 (fun H locs hP hD hS => ?_)
      have hP : va_P D vwCl (abW h0 a1 a2 a3 a4 cZ cI (upd S j0 0) Du T Rk now lr (T j0) (Du j0)) H := hP
      have hD : va_D A (abW h0 a1 a2 a3 a4 cZ cI (upd S j0 0) Du T Rk now lr (T j0) (Du j0)) := hD
      refine lv_iload_n hx hb dX0_ring_47 rfl (lv_at hl 0 rfl) ?_
      exact W.iret (v := nI j0) hx hb hr (fun t9 ht9 hW9 => ⟨⟨_, (upd S j0 0, Du, T, Rk, now, lr, T j0, Du j0), rfl, by rw [hj0]; exact ⟨fun _ => ⟨rfl, rfl⟩, fun h9 => absurd hd9 h9⟩, by rw [ht9]; exact hP, va_K.moved hW9.alike hK, hD⟩, hS.F ht9⟩) hS.2.2 dX0_ring_48
    · have hd9 := hr_4.f c_15
      refine lv_iconst (v := -1) hx hb dX0_ring_18 (by decide) ?_
      exact W.iret (v := (-1)) hx hb hr (fun t9 ht9 hW9 => ⟨⟨_, (S, Du, T, Rk, now, lr, rt, rd), rfl, by rw [hj0]; exact ⟨fun h9 => absurd h9 hd9, fun _ => ⟨rfl, rfl⟩⟩, by rw [ht9]; exact hP, va_K.moved hW9.alike hK, hD⟩, hS.F ht9⟩) hS.2.2 dX0_ring_19
set_option maxHeartbeats 4000000 in
set_option maxRecDepth 100000 in
/-- stopAll(x) -/
theorem c_stopAll (l : Launch) (D : va_G) (h0 a1 a2 a3 a4 : Nat) (cZ cI : ClassId) (S Du T Rk : Nat → Int32) (now lr rt rd : Int32) (sz : Nat) (x : Int32) : Met l yX0_stopAll wsX0_stopAll ({ frames := 0, cells := 0, slots := 0, locals := 0 } : Room) (kz_Pc D vwCl (abT cZ cI) (abW h0 a1 a2 a3 a4 cZ cI S Du T Rk now lr rt rd) sz [.ref h0, .int x]) (va_Qi (fun (r : Int32) (u : ABs) => r = nI (ab_cnt (fun j => !decide (S j = 0) && decide (T j = x)) 512) ∧ u = (ab_sa S T x 512, Du, T, Rk, now, lr, rt, rd)) (kz_B D vwCl (abT cZ cI) (abU h0 a1 a2 a3 a4 cZ cI) (va_A (abW h0 a1 a2 a3 a4 cZ cI S Du T Rk now lr rt rd) sz)) (va_A (abW h0 a1 a2 a3 a4 cZ cI S Du T Rk now lr rt rd) sz)) 0 0 (va_A (abW h0 a1 a2 a3 a4 cZ cI S Du T Rk now lr rt rd) sz) := by
  refine Met.ofW (cc := cX0_stopAll) (maxL := 4) (ret := some .int) (by decide) rfl ?_
  intro p e s m args below meth c s₁ B hml hv
  obtain ⟨rfl, hsz, hP, hK, hD0⟩ := hv
  have hx := B.exec
  have hb := B.bytes
  have hr := B.returns
  have hts := atoms_spec (ws := wsX0_stopAll) B.pre
  have hown : s.vm.findClass RX0 = some m.cls := findClass_of_methodNamed B.named
  have hlocks := B.notSynchronized
  have hinX0 : ∀ w ∈ wsX00, w ∈ wsX0_stopAll := by decide +kernel
  subst hsz
  have hD := hD0.self (sz := s.heap.size)
  generalize hAe : va_A (abW h0 a1 a2 a3 a4 cZ cI S Du T Rk now lr rt rd) s.heap.size = A at hD ⊢
  have hA : ∀ q : Nat, s.heap.size ≤ q → A q := fun q h => by rw [← hAe]; exact Or.inr h
  have hS : va_S A s.heap s.heap [] := va_S.rf
  refine kz_enter [.ref h0, .int x] (Nat.le_of_ble_eq_true rfl) (fun ls hl => ?_)
  have hl : lv_has ls 4 [(0, .ref h0), (1, .int x)] := hl
  refine lv_iconst (v := 0) hx hb dX0_stopAll_0 (by decide) ?_
  refine lv_istore_n (lv' := [(2, .int 0), (0, .ref h0), (1, .int x)]) hx hb dX0_stopAll_1 rfl hl (by decide) rfl (fun ls hl => ?_)
  refine lv_iconst (v := 0) hx hb dX0_stopAll_2 (by decide) ?_
  refine lv_istore_n (lv' := [(3, .int 0), (2, .int 0), (0, .ref h0), (1, .int x)]) hx hb dX0_stopAll_3 rfl hl (by decide) rfl (fun ls hl => ?_)
  refine kz_loop (G := fun y : Heap × List Loc × Array Slot => W p l e _ s m _ below meth c y.1 y.2.1 0 0 _ (F0 m 4 y.2.2 [])) (I := fun k y => va_P D vwCl (abW h0 a1 a2 a3 a4 cZ cI (ab_sa S T x k) Du T Rk now lr rt rd) y.1 ∧ va_D A (abW h0 a1 a2 a3 a4 cZ cI (ab_sa S T x k) Du T Rk now lr rt rd) ∧ va_S A s.heap y.1 y.2.1 ∧ lv_has y.2.2 4 [(3, .int (nI k)), (2, .int (nI (ab_cnt (fun j => !decide (S j = 0) && decide (T j = x)) k))), (0, .ref h0), (1, .int x)]) 512 ?_ ?_ 0 (Nat.zero_le _) (s.heap, [], ls) (by rw [ab_sa_0]; exact ⟨hP, hD, hS, lv_sub hl [0, 1, 2, 3] rfl⟩)
  · intro k y hk hI ih
    obtain ⟨H, locs, ls⟩ := y
    obtain ⟨hP, hD, hS, hl⟩ := hI
    have hP : va_P D vwCl (abW h0 a1 a2 a3 a4 cZ cI (ab_sa S T x k) Du T Rk now lr rt rd) H := hP
    have hS : va_S A s.heap H locs := hS
    have hl : lv_has ls 4 [(3, .int (nI k)), (2, .int (nI (ab_cnt (fun j => !decide (S j = 0) && decide (T j = x)) k))), (0, .ref h0), (1, .int x)] := hl
    show W p l e _ s m _ below meth c H locs 0 0 _ (F0 m 4 ls [])
    refine lv_iload_n hx hb dX0_stopAll_4 rfl (lv_at hl 0 rfl) ?_
    refine lv_sipush (v := 512) hx hb dX0_stopAll_5 (by decide) ?_
    refine lv_icmp_ge (tgt := 46) hx hb dX0_stopAll_8 (by decide) (fun c_8 => ?_) (fun c_8 => ?_)
    · exact absurd c_8 (nI_ge (a := k) (b := 512) hk (by decide))
    · refine lv_aload_n hx hb dX0_stopAll_11 rfl (lv_at hl 2 rfl) ?_
      refine va_get (ci := 0) (v := .ref a1) (C := RX0) (T := TX0) (N := 8) hx hb hts hinX0 hown hK hP 0 rfl rfl 0 (by decide) (hts (.fieldLink RX0 9 "AlarmBench" "isSet" "[Z") (by decide +kernel)) (fun _ h9 => h9) rfl dX0_stopAll_12 ?_
      refine lv_iload_n hx hb dX0_stopAll_15 rfl (lv_at hl 0 rfl) ?_
      refine kz_zald hx hb hK hP 1 0 rfl rfl hk (by decide) dX0_stopAll_16 ?_
      rw [ab_sa_at]
      refine lv_if_eq (tgt := 40) hx hb dX0_stopAll_17 (by decide) (fun c_17 => ?_) (fun c_17 => ?_)
      · refine lv_iinc (v := nI (k + 1)) (lv' := [(3, .int (nI (k + 1))), (2, .int (nI (ab_cnt (fun j => !decide (S j = 0) && decide (T j = x)) k))), (0, .ref h0), (1, .int x)]) hx hb dX0_stopAll_40 hl (k := 0) rfl (kz_inc k) (by decide) rfl (fun ls hl => ?_)
        refine lv_goto (tgt := 4) hx hb dX0_stopAll_43 (by decide) ?_
        exact ih (H, locs, ls) (by rw [ab_sa_f (S := S) (T := T) (t := x) (k := k) (fun h9 => h9.1 c_17)] at hP hD; exact ⟨hP, hD, hS, by rw [show ab_cnt (fun j => !decide (S j = 0) && decide (T j = x)) (k + 1) = _ from ab_cnt_f (by simp [c_17])]; exact lv_sub hl [0, 1, 2, 3] rfl⟩)
      · refine lv_aload_n hx hb dX0_stopAll_20 rfl (lv_at hl 2 rfl) ?_
        refine va_get (ci := 0) (v := .ref a3) (C := RX0) (T := TX0) (N := 8) hx hb hts hinX0 hown hK hP 0 rfl rfl 2 (by decide) (hts (.fieldLink RX0 17 "AlarmBench" "telling" "[I") (by decide +kernel)) (fun _ h9 => h9) rfl dX0_stopAll_21 ?_
        refine lv_iload_n hx hb dX0_stopAll_24 rfl (lv_at hl 0 rfl) ?_
        refine kz_iald hx hb hK hP 3 1 rfl rfl hk (by decide) dX0_stopAll_25 ?_
        refine lv_iload_n hx hb dX0_stopAll_26 rfl (lv_at hl 3 rfl) ?_
        refine lv_icmp_ne (tgt := 40) hx hb dX0_stopAll_27 (by decide) (fun c_27 => ?_) (fun c_27 => ?_)
        · refine lv_iinc (v := nI (k + 1)) (lv' := [(3, .int (nI (k + 1))), (2, .int (nI (ab_cnt (fun j => !decide (S j = 0) && decide (T j = x)) k))), (0, .ref h0), (1, .int x)]) hx hb dX0_stopAll_40 hl (k := 0) rfl (kz_inc k) (by decide) rfl (fun ls hl => ?_)
          refine lv_goto (tgt := 4) hx hb dX0_stopAll_43 (by decide) ?_
          exact ih (H, locs, ls) (by rw [ab_sa_f (S := S) (T := T) (t := x) (k := k) (fun h9 => c_27 h9.2)] at hP hD; exact ⟨hP, hD, hS, by rw [show ab_cnt (fun j => !decide (S j = 0) && decide (T j = x)) (k + 1) = _ from ab_cnt_f (by simp [c_27])]; exact lv_sub hl [0, 1, 2, 3] rfl⟩)
        · refine lv_aload_n hx hb dX0_stopAll_30 rfl (lv_at hl 2 rfl) ?_
          refine va_get (ci := 0) (v := .ref a1) (C := RX0) (T := TX0) (N := 8) hx hb hts hinX0 hown hK hP 0 rfl rfl 0 (by decide) (hts (.fieldLink RX0 9 "AlarmBench" "isSet" "[Z") (by decide +kernel)) (fun _ h9 => h9) rfl dX0_stopAll_31 ?_
          refine lv_iload_n hx hb dX0_stopAll_34 rfl (lv_at hl 0 rfl) ?_
          refine lv_iconst (v := 0) hx hb dX0_stopAll_35 (by decide) ?_
          refine kz_zast hx hb hK hP hD hS 1 0 rfl rfl hk (by decide) rfl dX0_stopAll_36 (fun H locs hP hD hS => ?_)
          rw [ab_sa_t c_17 c_27] at hP hD
          have hP : va_P D vwCl (abW h0 a1 a2 a3 a4 cZ cI (ab_sa S T x (k + 1)) Du T Rk now lr rt rd) H := hP
          have hD : va_D A (abW h0 a1 a2 a3 a4 cZ cI (ab_sa S T x (k + 1)) Du T Rk now lr rt rd) := hD
          refine lv_iinc (v := nI (ab_cnt (fun j => !decide (S j = 0) && decide (T j = x)) k + 1)) (lv' := [(2, .int (nI (ab_cnt (fun j => !decide (S j = 0) && decide (T j = x)) k + 1))), (3, .int (nI k)), (0, .ref h0), (1, .int x)]) hx hb dX0_stopAll_37 hl (k := 1) rfl (kz_inc (ab_cnt (fun j => !decide (S j = 0) && decide (T j = x)) k)) (by decide) rfl (fun ls hl => ?_)
          refine lv_iinc (v := nI (k + 1)) (lv' := [(3, .int (nI (k + 1))), (2, .int (nI (ab_cnt (fun j => !decide (S j = 0) && decide (T j = x)) k + 1))), (0, .ref h0), (1, .int x)]) hx hb dX0_stopAll_40 hl (k := 1) rfl (kz_inc k) (by decide) rfl (fun ls hl => ?_)
          refine lv_goto (tgt := 4) hx hb dX0_stopAll_43 (by decide) ?_
          exact ih (H, locs, ls) (by exact ⟨hP, hD, hS, by rw [show ab_cnt (fun j => !decide (S j = 0) && decide (T j = x)) (k + 1) = _ from ab_cnt_t (by simp [c_17, c_27])]; exact lv_sub hl [0, 1, 2, 3] rfl⟩)
  · intro y hI
    obtain ⟨H, locs, ls⟩ := y
    obtain ⟨hP, hD, hS, hl⟩ := hI
    have hP : va_P D vwCl (abW h0 a1 a2 a3 a4 cZ cI (ab_sa S T x 512) Du T Rk now lr rt rd) H := hP
    have hS : va_S A s.heap H locs := hS
    have hl : lv_has ls 4 [(3, .int (nI 512)), (2, .int (nI (ab_cnt (fun j => !decide (S j = 0) && decide (T j = x)) 512))), (0, .ref h0), (1, .int x)] := hl
    show W p l e _ s m _ below meth c H locs 0 0 _ (F0 m 4 ls [])
    refine lv_iload_n hx hb dX0_stopAll_4 rfl (lv_at hl 0 rfl) ?_
    refine lv_sipush (v := 512) hx hb dX0_stopAll_5 (by decide) ?_
    refine lv_icmp_ge (tgt := 46) hx hb dX0_stopAll_8 (by decide) (fun c_8 => ?_) (fun c_8 => ?_)
    · refine lv_iload_n hx hb dX0_stopAll_46 rfl (lv_at hl 1 rfl) ?_
      exact W.iret (v := nI (ab_cnt (fun j => !decide (S j = 0) && decide (T j = x)) 512)) hx hb hr (fun t9 ht9 hW9 => ⟨⟨_, (ab_sa S T x 512, Du, T, Rk, now, lr, rt, rd), rfl, ⟨rfl, rfl⟩, by rw [ht9]; exact hP, va_K.moved hW9.alike hK, hD⟩, hS.F ht9⟩) hS.2.2 dX0_stopAll_47
    · exact absurd (Int32.le_refl _) c_8
end
section
set_option maxHeartbeats 4000000 in
set_option maxRecDepth 100000 in
/-- set(x, t) -/
theorem c_set (l : Launch) (hl9 : l.stackTraces = false) (D : va_G) (h0 a1 a2 a3 a4 : Nat) (cZ cI : ClassId) (S Du T Rk : Nat → Int32) (now lr rt rd : Int32) (sz : Nat) (x t : Int32) : vx_Met l yX0_set wsX0_set ({ frames := 6, cells := 1, slots := 6, locals := 90 } : Room) (xz_Pc D vwCl (abT cZ cI) (abW h0 a1 a2 a3 a4 cZ cI S Du T Rk now lr rt rd) sz [.ref h0, .int x, .int t]) (va_Qi (fun (r : Int32) (u : ABs) => ∃ k : Nat, k < 512 ∧ r = nI k ∧ S k = 0 ∧ (∀ j, j < k → ¬ S j = 0) ∧ ab_ok x ∧ ¬ 1000000000 - now < x ∧ u = (upd S k 1, upd Du k (now + x), upd T k t, upd Rk k (lr + 1), now, lr + 1, rt, rd)) (kz_B D vwCl (abT cZ cI) (abU h0 a1 a2 a3 a4 cZ cI) (va_A (abW h0 a1 a2 a3 a4 cZ cI S Du T Rk now lr rt rd) sz)) (va_A (abW h0 a1 a2 a3 a4 cZ cI S Du T Rk now lr rt rd) sz)) (xz_X D vwCl (abT cZ cI) (abW h0 a1 a2 a3 a4 cZ cI S Du T Rk now lr rt rd) (va_A (abW h0 a1 a2 a3 a4 cZ cI S Du T Rk now lr rt rd) sz) (fun E => (E = xzA ∧ ¬ ab_ok x) ∨ (E = xzI ∧ ab_ok x ∧ ((∀ j, j < 512 → ¬ S j = 0) ∨ 1000000000 - now < x)))) 1 6 (va_A (abW h0 a1 a2 a3 a4 cZ cI S Du T Rk now lr rt rd) sz) := by
  refine vx_ofW (cc := cX0_set) (maxL := 4) (ret := some .int) (by decide) rfl ?_
  intro p e s m args below meth c s₁ B hml hEx hv
  obtain ⟨rfl, hsz, hP, hK, hD0, hE⟩ := hv
  have hx := B.exec
  have hb := B.bytes
  have hr := B.returns
  have hts := atoms_spec (ws := wsX0_set) B.pre
  have hown : s.vm.findClass RX0 = some m.cls := findClass_of_methodNamed B.named
  have hlocks := B.notSynchronized
  have hinX0 : ∀ w ∈ wsX00, w ∈ wsX0_set := by decide +kernel
  subst hsz
  have hD := hD0.self (sz := s.heap.size)
  generalize hAe : va_A (abW h0 a1 a2 a3 a4 cZ cI S Du T Rk now lr rt rd) s.heap.size = A at hD hE ⊢
  have hA : ∀ q : Nat, s.heap.size ≤ q → A q := fun q h => by rw [← hAe]; exact Or.inr h
  have hS : va_S A s.heap s.heap [] := va_S.rf
  refine kz_enter [.ref h0, .int x, .int t] (Nat.le_of_ble_eq_true rfl) (fun ls hl => ?_)
  have hl : lv_has ls 4 [(0, .ref h0), (1, .int x), (2, .int t)] := hl
  refine lv_iload_n hx hb dX0_set_0 rfl (lv_at hl 1 rfl) ?_
  refine kz_callS (As := [.int x]) (rest := []) ⟨hx, hb, hml, hown, hts⟩ (c_canBeAhead l x) (va_cwS 1 hts gX0_set_X0_canBeAhead rfl rfl rfl (by decide +kernel) ⟨Nat.le_of_ble_eq_true rfl, Nat.le_of_ble_eq_true rfl⟩) rfl hl.1 rfl (Nat.le_of_ble_eq_true rfl) dX0_set_1 ⟨Nat.zero_le _, Nat.zero_le _⟩ (fun r_1 hr_2 => ?_)
  refine lv_if_ne (tgt := 17) hx hb dX0_set_4 (by decide) (fun c_4 => ?_) (fun c_4 => ?_)
  · have hok := hr_2.t c_4
    refine lv_aload_n hx hb dX0_set_17 rfl (lv_at hl 0 rfl) ?_
    refine kz_callR (As := []) (rest := []) ⟨hx, hb, hml, hown, hts⟩ (c_leastFree l D h0 a1 a2 a3 a4 cZ cI S Du T Rk now lr rt rd) (cwV 0 hts gX0_set_X0_leastFree rfl rfl rfl (by decide +kernel) ⟨Nat.le_of_ble_eq_true rfl, Nat.le_of_ble_eq_true rfl⟩) hP hK (va_recv hK hP (ci := 0) (q0 := 0) rfl rfl) rfl hl.1 rfl (Nat.le_of_ble_eq_true rfl) dX0_set_18 ⟨Nat.zero_le _, Nat.zero_le _⟩ (fun r_3 hr_4 => ?_)
    refine lv_istore_n (lv' := [(3, .int r_3), (0, .ref h0), (1, .int x), (2, .int t)]) hx hb dX0_set_21 rfl hl (by decide) rfl (fun ls hl => ?_)
    refine lv_iload_n hx hb dX0_set_22 rfl (lv_at hl 0 rfl) ?_
    refine lv_iconst (v := -1) hx hb dX0_set_23 (by decide) ?_
    refine lv_icmp_ne (tgt := 37) hx hb dX0_set_24 (by decide) (fun c_24 => ?_) (fun c_24 => ?_)
    · obtain ⟨k, hk, rfl, hS0, hlo⟩ := hr_4.resolve_right (fun h9 => c_24 h9.1)
      refine lv_aload_n hx hb dX0_set_37 rfl (lv_at hl 1 rfl) ?_
      refine lv_iload_n hx hb dX0_set_38 rfl (lv_at hl 2 rfl) ?_
      refine kz_callR (As := [.int x]) (rest := []) ⟨hx, hb, hml, hown, hts⟩ (c_isBehindLastTime l D h0 a1 a2 a3 a4 cZ cI S Du T Rk now lr rt rd x) (cwV 1 hts gX0_set_X0_isBehindLastTime rfl rfl rfl (by decide +kernel) ⟨Nat.le_of_ble_eq_true rfl, Nat.le_of_ble_eq_true rfl⟩) hP hK (va_recv hK hP (ci := 0) (q0 := 0) rfl rfl) rfl hl.1 rfl (Nat.le_of_ble_eq_true rfl) dX0_set_39 ⟨Nat.zero_le _, Nat.zero_le _⟩ (fun r_5 hr_6 => ?_)
      refine lv_if_eq (tgt := 55) hx hb dX0_set_42 (by decide) (fun c_42 => ?_) (fun c_42 => ?_)
      · have hbe := hr_6.f c_42
        refine lv_aload_n hx hb dX0_set_55 rfl (lv_at hl 1 rfl) ?_
        refine va_get (ci := 0) (v := .ref a1) (C := RX0) (T := TX0) (N := 8) hx hb hts hinX0 hown hK hP 0 rfl rfl 0 (by decide) (hts (.fieldLink RX0 9 "AlarmBench" "isSet" "[Z") (by decide +kernel)) (fun _ h9 => h9) rfl dX0_set_56 ?_
        refine lv_iload_n hx hb dX0_set_59 rfl (lv_at hl 0 rfl) ?_
        refine lv_iconst (v := 1) hx hb dX0_set_60 (by decide) ?_
        refine kz_zast hx hb hK hP hD hS 1 0 rfl rfl hk (by decide) rfl dX0_set_61 (fun H locs hP hD hS => ?_)
        have hP : va_P D vwCl (abW h0 a1 a2 a3 a4 cZ cI (upd S k 1) Du T Rk now lr rt rd) H := hP
        have hD : va_D A (abW h0 a1 a2 a3 a4 cZ cI (upd S k 1) Du T Rk now lr rt rd) := hD
        refine lv_aload_n hx hb dX0_set_62 rfl (lv_at hl 1 rfl) ?_
        refine va_get (ci := 0) (v := .ref a3) (C := RX0) (T := TX0) (N := 8) hx hb hts hinX0 hown hK hP 0 rfl rfl 2 (by decide) (hts (.fieldLink RX0 17 "AlarmBench" "telling" "[I") (by decide +kernel)) (fun _ h9 => h9) rfl dX0_set_63 ?_
        refine lv_iload_n hx hb dX0_set_66 rfl (lv_at hl 0 rfl) ?_
        refine lv_iload_n hx hb dX0_set_67 rfl (lv_at hl 3 rfl) ?_
        refine kz_iast hx hb hK hP hD hS 3 1 rfl rfl hk (by decide) dX0_set_68 (fun H locs hP hD hS => ?_)
        have hP : va_P D vwCl (abW h0 a1 a2 a3 a4 cZ cI (upd S k 1) Du (upd T k t) Rk now lr rt rd) H := hP
        have hD : va_D A (abW h0 a1 a2 a3 a4 cZ cI (upd S k 1) Du (upd T k t) Rk now lr rt rd) := hD
        refine lv_aload_n hx hb dX0_set_69 rfl (lv_at hl 1 rfl) ?_
        refine lv_iload_n hx hb dX0_set_70 rfl (lv_at hl 0 rfl) ?_
        refine lv_iload_n hx hb dX0_set_71 rfl (lv_at hl 2 rfl) ?_
        refine kz_callv (wc := (abW h0 a1 a2 a3 a4 cZ cI (upd S k 1) Du (upd T k t) Rk now lr rt rd)) (wr := []) (As := [.int (nI k), .int x]) (rest := []) ⟨hx, hb, hml, hown, hts⟩ (c_putAhead l D h0 a1 a2 a3 a4 cZ cI (upd S k 1) Du (upd T k t) Rk now lr rt rd _ k hk x) (cwV 2 hts gX0_set_X0_putAhead rfl rfl rfl (by decide +kernel) ⟨Nat.le_of_ble_eq_true rfl, Nat.le_of_ble_eq_true rfl⟩) hP hD hS hA hK [0, 1, 2, 3, 4] [] rfl rfl rfl rfl rfl (by decide) (va_recv hK hP (ci := 0) (q0 := 0) rfl rfl) rfl hl.1 rfl (Nat.le_of_ble_eq_true rfl) dX0_set_72 ⟨Nat.zero_le _, Nat.zero_le _⟩ (fun u H locs hu hP hD hS => ?_)
        subst hu
        have hP : va_P D vwCl (abW h0 a1 a2 a3 a4 cZ cI (upd S k 1) (upd Du k (now + x)) (upd T k t) (upd Rk k (lr + 1)) now (lr + 1) rt rd) H := hP
        have hD : va_D A (abW h0 a1 a2 a3 a4 cZ cI (upd S k 1) (upd Du k (now + x)) (upd T k t) (upd Rk k (lr + 1)) now (lr + 1) rt rd) := hD
        refine lv_iload_n hx hb dX0_set_75 rfl (lv_at hl 0 rfl) ?_
        refine vx_ret ?_
        refine W.widen (k := 1) (n := 6) (by decide) (by decide) ?_
        exact W.iret (v := nI k) hx hb hr (fun t9 ht9 hW9 => ⟨⟨_, (upd S k 1, upd Du k (now + x), upd T k t, upd Rk k (lr + 1), now, lr + 1, rt, rd), rfl, ⟨k, hk, rfl, hS0, hlo, hok, hbe, rfl⟩, by rw [ht9]; exact hP, va_K.moved hW9.alike hK, hD⟩, hS.F ht9⟩) hS.2.2 dX0_set_76
      · have hbe := hr_6.t c_42
        obtain ⟨sa, hsa⟩ := hE.2.2.2 (59, "it would be due behind 1000000000") (by decide +kernel)
        obtain ⟨⟨w1, w2, w3, w4, w5⟩, -⟩ := hE.2.2
        exact vx_throwS (own := RX0) (cls := xzI) (names := xzN) hx hb hl9 hown (by decide +kernel) (by decide +kernel) (hts (.classLink RX0 51 xzI) (by decide +kernel)) (hts (.initialized xzI) (by decide +kernel)) hsa (vx_hat (L := vx_atS RX0 55 xzI xzN) (B := [.castable xzI xzI, xzD "java/lang/RuntimeException", xzD "java/lang/Exception", xzD "java/lang/Throwable"]) (fun w hw => hts w ((by decide +kernel : ∀ w ∈ (vx_atS RX0 55 xzI xzN).filter goodWord, w ∈ wsX0_set) w hw)) (by decide +kernel) (vx_c (va_Nw.use rfl w2) (vx_c (va_Nw.use rfl w3) (vx_c (va_Nw.use rfl w4) (vx_c (va_Nw.use rfl w5) vx_n))))) (by decide +kernel) hE.1 hE.2.1 hS (hl.1.trans hml.symm) dX0_set_45 dX0_set_48 dX0_set_49 dX0_set_51 dX0_set_54 (fun x hx => (hEx x hx).elim) (Nat.le_of_ble_eq_true rfl) (Nat.le_of_ble_eq_true rfl) (Nat.le_of_ble_eq_true rfl) (Nat.le_of_ble_eq_true rfl) hlocks (fun t9 ha9 hz9 hk9 => ⟨(), trivial, ⟨Or.inr ⟨rfl, hok, Or.inr hbe⟩, hP.kept (fun k9 q9 hq9 => hk9 q9.1 (hP k9 q9 hq9).lt), va_K.moved ha9 hK, hD⟩, Nat.le_trans hS.1 hz9, fun q9 h1 h2 => (hk9 q9 (Nat.lt_of_lt_of_le h1 hS.1)).trans (hS.2.1 q9 h1 h2)⟩) hS.2.2 (Nat.le_of_ble_eq_true rfl) (Nat.le_of_ble_eq_true rfl)
    · have hfull := (hr_4.resolve_left (fun ⟨j, hj, e9, _⟩ => nI_pos (n := j) (by omega) (by rw [← e9, c_24]; decide))).2
      obtain ⟨sa, hsa⟩ := hE.2.2.2 (53, "there are 512 alarms") (by decide +kernel)
      obtain ⟨⟨w1, w2, w3, w4, w5⟩, -⟩ := hE.2.2
      exact vx_throwS (own := RX0) (cls := xzI) (names := xzN) hx hb hl9 hown (by decide +kernel) (by decide +kernel) (hts (.classLink RX0 51 xzI) (by decide +kernel)) (hts (.initialized xzI) (by decide +kernel)) hsa (vx_hat (L := vx_atS RX0 55 xzI xzN) (B := [.castable xzI xzI, xzD "java/lang/RuntimeException", xzD "java/lang/Exception", xzD "java/lang/Throwable"]) (fun w hw => hts w ((by decide +kernel : ∀ w ∈ (vx_atS RX0 55 xzI xzN).filter goodWord, w ∈ wsX0_set) w hw)) (by decide +kernel) (vx_c (va_Nw.use rfl w2) (vx_c (va_Nw.use rfl w3) (vx_c (va_Nw.use rfl w4) (vx_c (va_Nw.use rfl w5) vx_n))))) (by decide +kernel) hE.1 hE.2.1 hS (hl.1.trans hml.symm) dX0_set_27 dX0_set_30 dX0_set_31 dX0_set_33 dX0_set_36 (fun x hx => (hEx x hx).elim) (Nat.le_of_ble_eq_true rfl) (Nat.le_of_ble_eq_true rfl) (Nat.le_of_ble_eq_true rfl) (Nat.le_of_ble_eq_true rfl) hlocks (fun t9 ha9 hz9 hk9 => ⟨(), trivial, ⟨Or.inr ⟨rfl, hok, Or.inl hfull⟩, hP.kept (fun k9 q9 hq9 => hk9 q9.1 (hP k9 q9 hq9).lt), va_K.moved ha9 hK, hD⟩, Nat.le_trans hS.1 hz9, fun q9 h1 h2 => (hk9 q9 (Nat.lt_of_lt_of_le h1 hS.1)).trans (hS.2.1 q9 h1 h2)⟩) hS.2.2 (Nat.le_of_ble_eq_true rfl) (Nat.le_of_ble_eq_true rfl)
  · have hok := hr_2.f c_4
    obtain ⟨sa, hsa⟩ := hE.2.2.2 (42, "ticks is not 0 .. 1000000000") (by decide +kernel)
    obtain ⟨⟨w1, w2, w3, w4, w5⟩, -⟩ := hE.2.2
    exact vx_throwS (own := RX0) (cls := xzA) (names := xzN) hx hb hl9 hown (by decide +kernel) (by decide +kernel) (hts (.classLink RX0 40 xzA) (by decide +kernel)) (hts (.initialized xzA) (by decide +kernel)) hsa (vx_hat (L := vx_atS RX0 44 xzA xzN) (B := [.castable xzA xzA, xzD "java/lang/RuntimeException", xzD "java/lang/Exception", xzD "java/lang/Throwable"]) (fun w hw => hts w ((by decide +kernel : ∀ w ∈ (vx_atS RX0 44 xzA xzN).filter goodWord, w ∈ wsX0_set) w hw)) (by decide +kernel) (vx_c (va_Nw.use rfl w1) (vx_c (va_Nw.use rfl w3) (vx_c (va_Nw.use rfl w4) (vx_c (va_Nw.use rfl w5) vx_n))))) (by decide +kernel) hE.1 hE.2.1 hS (hl.1.trans hml.symm) dX0_set_7 dX0_set_10 dX0_set_11 dX0_set_13 dX0_set_16 (fun x hx => (hEx x hx).elim) (Nat.le_of_ble_eq_true rfl) (Nat.le_of_ble_eq_true rfl) (Nat.le_of_ble_eq_true rfl) (Nat.le_of_ble_eq_true rfl) hlocks (fun t9 ha9 hz9 hk9 => ⟨(), trivial, ⟨Or.inl ⟨rfl, hok⟩, hP.kept (fun k9 q9 hq9 => hk9 q9.1 (hP k9 q9 hq9).lt), va_K.moved ha9 hK, hD⟩, Nat.le_trans hS.1 hz9, fun q9 h1 h2 => (hk9 q9 (Nat.lt_of_lt_of_le h1 hS.1)).trans (hS.2.1 q9 h1 h2)⟩) hS.2.2 (Nat.le_of_ble_eq_true rfl) (Nat.le_of_ble_eq_true rfl)
set_option maxHeartbeats 4000000 in
set_option maxRecDepth 100000 in
/-- shift(x, t) -/
theorem c_shift (l : Launch) (hl9 : l.stackTraces = false) (D : va_G) (h0 a1 a2 a3 a4 : Nat) (cZ cI : ClassId) (S Du T Rk : Nat → Int32) (now lr rt rd : Int32) (sz : Nat) (x t : Int32) : vx_Met l yX0_shift wsX0_shift ({ frames := 6, cells := 1, slots := 6, locals := 90 } : Room) (xz_Pc D vwCl (abT cZ cI) (abW h0 a1 a2 a3 a4 cZ cI S Du T Rk now lr rt rd) sz [.ref h0, .int x, .int t]) (va_Qi (fun (r : Int32) (u : ABs) => ∃ k : Nat, k < 512 ∧ x = nI k ∧ ¬ S k = 0 ∧ ab_ok t ∧ ¬ 1000000000 - now < t ∧ r = Du k - now ∧ u = (S, upd Du k (now + t), T, upd Rk k (lr + 1), now, lr + 1, rt, rd)) (kz_B D vwCl (abT cZ cI) (abU h0 a1 a2 a3 a4 cZ cI) (va_A (abW h0 a1 a2 a3 a4 cZ cI S Du T Rk now lr rt rd) sz)) (va_A (abW h0 a1 a2 a3 a4 cZ cI S Du T Rk now lr rt rd) sz)) (xz_X D vwCl (abT cZ cI) (abW h0 a1 a2 a3 a4 cZ cI S Du T Rk now lr rt rd) (va_A (abW h0 a1 a2 a3 a4 cZ cI S Du T Rk now lr rt rd) sz) (fun E => (E = xzA ∧ (¬ ab_ex S x ∨ ¬ ab_ok t)) ∨ (E = xzI ∧ ab_ex S x ∧ ab_ok t ∧ 1000000000 - now < t))) 1 6 (va_A (abW h0 a1 a2 a3 a4 cZ cI S Du T Rk now lr rt rd) sz) := by
  refine vx_ofW (cc := cX0_shift) (maxL := 4) (ret := some .int) (by decide) rfl ?_
  intro p e s m args below meth c s₁ B hml hEx hv
  obtain ⟨rfl, hsz, hP, hK, hD0, hE⟩ := hv
  have hx := B.exec
  have hb := B.bytes
  have hr := B.returns
  have hts := atoms_spec (ws := wsX0_shift) B.pre
  have hown : s.vm.findClass RX0 = some m.cls := findClass_of_methodNamed B.named
  have hlocks := B.notSynchronized
  have hinX0 : ∀ w ∈ wsX00, w ∈ wsX0_shift := by decide +kernel
  subst hsz
  have hD := hD0.self (sz := s.heap.size)
  generalize hAe : va_A (abW h0 a1 a2 a3 a4 cZ cI S Du T Rk now lr rt rd) s.heap.size = A at hD hE ⊢
  have hA : ∀ q : Nat, s.heap.size ≤ q → A q := fun q h => by rw [← hAe]; exact Or.inr h
  have hS : va_S A s.heap s.heap [] := va_S.rf
  refine kz_enter [.ref h0, .int x, .int t] (Nat.le_of_ble_eq_true rfl) (fun ls hl => ?_)
  have hl : lv_has ls 4 [(0, .ref h0), (1, .int x), (2, .int t)] := hl
  refine lv_aload_n hx hb dX0_shift_0 rfl (lv_at hl 0 rfl) ?_
  refine lv_iload_n hx hb dX0_shift_1 rfl (lv_at hl 1 rfl) ?_
  refine kz_callR (As := [.int x]) (rest := []) ⟨hx, hb, hml, hown, hts⟩ (c_exists l D h0 a1 a2 a3 a4 cZ cI S Du T Rk now lr rt rd x) (cwV 1 hts gX0_shift_X0_exists rfl rfl rfl (by decide +kernel) ⟨Nat.le_of_ble_eq_true rfl, Nat.le_of_ble_eq_true rfl⟩) hP hK (va_recv hK hP (ci := 0) (q0 := 0) rfl rfl) rfl hl.1 rfl (Nat.le_of_ble_eq_true rfl) dX0_shift_2 ⟨Nat.zero_le _, Nat.zero_le _⟩ (fun r_1 hr_2 => ?_)
  refine lv_if_ne (tgt := 18) hx hb dX0_shift_5 (by decide) (fun c_5 => ?_) (fun c_5 => ?_)
  · obtain ⟨k, hk, rfl, hS0⟩ := hr_2.t c_5
    refine lv_iload_n hx hb dX0_shift_18 rfl (lv_at hl 2 rfl) ?_
    refine kz_callS (As := [.int t]) (rest := []) ⟨hx, hb, hml, hown, hts⟩ (c_canBeAhead l t) (va_cwS 1 hts gX0_shift_X0_canBeAhead rfl rfl rfl (by decide +kernel) ⟨Nat.le_of_ble_eq_true rfl, Nat.le_of_ble_eq_true rfl⟩) rfl hl.1 rfl (Nat.le_of_ble_eq_true rfl) dX0_shift_19 ⟨Nat.zero_le _, Nat.zero_le _⟩ (fun r_3 hr_4 => ?_)
    refine lv_if_ne (tgt := 35) hx hb dX0_shift_22 (by decide) (fun c_22 => ?_) (fun c_22 => ?_)
    · have hok := hr_4.t c_22
      refine lv_aload_n hx hb dX0_shift_35 rfl (lv_at hl 0 rfl) ?_
      refine lv_iload_n hx hb dX0_shift_36 rfl (lv_at hl 2 rfl) ?_
      refine kz_callR (As := [.int t]) (rest := []) ⟨hx, hb, hml, hown, hts⟩ (c_isBehindLastTime l D h0 a1 a2 a3 a4 cZ cI S Du T Rk now lr rt rd t) (cwV 1 hts gX0_shift_X0_isBehindLastTime rfl rfl rfl (by decide +kernel) ⟨Nat.le_of_ble_eq_true rfl, Nat.le_of_ble_eq_true rfl⟩) hP hK (va_recv hK hP (ci := 0) (q0 := 0) rfl rfl) rfl hl.1 rfl (Nat.le_of_ble_eq_true rfl) dX0_shift_37 ⟨Nat.zero_le _, Nat.zero_le _⟩ (fun r_5 hr_6 => ?_)
      refine lv_if_eq (tgt := 53) hx hb dX0_shift_40 (by decide) (fun c_40 => ?_) (fun c_40 => ?_)
      · have hbe := hr_6.f c_40
        refine lv_aload_n hx hb dX0_shift_53 rfl (lv_at hl 0 rfl) ?_
        refine va_get (ci := 0) (v := .ref a2) (C := RX0) (T := TX0) (N := 8) hx hb hts hinX0 hown hK hP 0 rfl rfl 1 (by decide) (hts (.fieldLink RX0 13 "AlarmBench" "dueAt" "[I") (by decide +kernel)) (fun _ h9 => h9) rfl dX0_shift_54 ?_
        refine lv_iload_n hx hb dX0_shift_57 rfl (lv_at hl 1 rfl) ?_
        refine kz_iald hx hb hK hP 2 1 rfl rfl hk (by decide) dX0_shift_58 ?_
        refine lv_aload_n hx hb dX0_shift_59 rfl (lv_at hl 0 rfl) ?_
        refine va_get (ci := 0) (v := .int now) (C := RX0) (T := TX0) (N := 8) hx hb hts hinX0 hown hK hP 0 rfl rfl 4 (by decide) (hts (.fieldLink RX0 23 "AlarmBench" "now" "I") (by decide +kernel)) (fun _ h9 => h9) rfl dX0_shift_60 ?_
        refine lv_isub hx hb dX0_shift_63 ?_
        refine lv_istore_n (lv' := [(3, .int ((Du k) - now)), (0, .ref h0), (1, .int (nI k)), (2, .int t)]) hx hb dX0_shift_64 rfl hl (by decide) rfl (fun ls hl => ?_)
        refine lv_aload_n hx hb dX0_shift_65 rfl (lv_at hl 1 rfl) ?_
        refine lv_iload_n hx hb dX0_shift_66 rfl (lv_at hl 2 rfl) ?_
        refine lv_iload_n hx hb dX0_shift_67 rfl (lv_at hl 3 rfl) ?_
        refine kz_callv (wc := (abW h0 a1 a2 a3 a4 cZ cI S Du T Rk now lr rt rd)) (wr := []) (As := [.int (nI k), .int t]) (rest := []) ⟨hx, hb, hml, hown, hts⟩ (c_putAhead l D h0 a1 a2 a3 a4 cZ cI S Du T Rk now lr rt rd _ k hk t) (cwV 2 hts gX0_shift_X0_putAhead rfl rfl rfl (by decide +kernel) ⟨Nat.le_of_ble_eq_true rfl, Nat.le_of_ble_eq_true rfl⟩) hP hD hS hA hK [0, 1, 2, 3, 4] [] rfl rfl rfl rfl rfl (by decide) (va_recv hK hP (ci := 0) (q0 := 0) rfl rfl) rfl hl.1 rfl (Nat.le_of_ble_eq_true rfl) dX0_shift_68 ⟨Nat.zero_le _, Nat.zero_le _⟩ (fun u H locs hu hP hD hS => ?_)
        subst hu
        have hP : va_P D vwCl (abW h0 a1 a2 a3 a4 cZ cI S (upd Du k (now + t)) T (upd Rk k (lr + 1)) now (lr + 1) rt rd) H := hP
        have hD : va_D A (abW h0 a1 a2 a3 a4 cZ cI S (upd Du k (now + t)) T (upd Rk k (lr + 1)) now (lr + 1) rt rd) := hD
        refine lv_iload_n hx hb dX0_shift_71 rfl (lv_at hl 0 rfl) ?_
        refine vx_ret ?_
        refine W.widen (k := 1) (n := 6) (by decide) (by decide) ?_
        exact W.iret (v := (Du k) - now) hx hb hr (fun t9 ht9 hW9 => ⟨⟨_, (S, upd Du k (now + t), T, upd Rk k (lr + 1), now, lr + 1, rt, rd), rfl, ⟨k, hk, rfl, hS0, hok, hbe, rfl, rfl⟩, by rw [ht9]; exact hP, va_K.moved hW9.alike hK, hD⟩, hS.F ht9⟩) hS.2.2 dX0_shift_72
      · have hbe := hr_6.t c_40
        obtain ⟨sa, hsa⟩ := hE.2.2.2 (59, "it would be due behind 1000000000") (by decide +kernel)
        obtain ⟨⟨w1, w2, w3, w4, w5⟩, -⟩ := hE.2.2
        exact vx_throwS (own := RX0) (cls := xzI) (names := xzN) hx hb hl9 hown (by decide +kernel) (by decide +kernel) (hts (.classLink RX0 51 xzI) (by decide +kernel)) (hts (.initialized xzI) (by decide +kernel)) hsa (vx_hat (L := vx_atS RX0 55 xzI xzN) (B := [.castable xzI xzI, xzD "java/lang/RuntimeException", xzD "java/lang/Exception", xzD "java/lang/Throwable"]) (fun w hw => hts w ((by decide +kernel : ∀ w ∈ (vx_atS RX0 55 xzI xzN).filter goodWord, w ∈ wsX0_shift) w hw)) (by decide +kernel) (vx_c (va_Nw.use rfl w2) (vx_c (va_Nw.use rfl w3) (vx_c (va_Nw.use rfl w4) (vx_c (va_Nw.use rfl w5) vx_n))))) (by decide +kernel) hE.1 hE.2.1 hS (hl.1.trans hml.symm) dX0_shift_43 dX0_shift_46 dX0_shift_47 dX0_shift_49 dX0_shift_52 (fun x hx => (hEx x hx).elim) (Nat.le_of_ble_eq_true rfl) (Nat.le_of_ble_eq_true rfl) (Nat.le_of_ble_eq_true rfl) (Nat.le_of_ble_eq_true rfl) hlocks (fun t9 ha9 hz9 hk9 => ⟨(), trivial, ⟨Or.inr ⟨rfl, ⟨k, hk, rfl, hS0⟩, hok, hbe⟩, hP.kept (fun k9 q9 hq9 => hk9 q9.1 (hP k9 q9 hq9).lt), va_K.moved ha9 hK, hD⟩, Nat.le_trans hS.1 hz9, fun q9 h1 h2 => (hk9 q9 (Nat.lt_of_lt_of_le h1 hS.1)).trans (hS.2.1 q9 h1 h2)⟩) hS.2.2 (Nat.le_of_ble_eq_true rfl) (Nat.le_of_ble_eq_true rfl)
    · have hok := hr_4.f c_22
      obtain ⟨sa, hsa⟩ := hE.2.2.2 (42, "ticks is not 0 .. 1000000000") (by decide +kernel)
      obtain ⟨⟨w1, w2, w3, w4, w5⟩, -⟩ := hE.2.2
      exact vx_throwS (own := RX0) (cls := xzA) (names := xzN) hx hb hl9 hown (by decide +kernel) (by decide +kernel) (hts (.classLink RX0 40 xzA) (by decide +kernel)) (hts (.initialized xzA) (by decide +kernel)) hsa (vx_hat (L := vx_atS RX0 44 xzA xzN) (B := [.castable xzA xzA, xzD "java/lang/RuntimeException", xzD "java/lang/Exception", xzD "java/lang/Throwable"]) (fun w hw => hts w ((by decide +kernel : ∀ w ∈ (vx_atS RX0 44 xzA xzN).filter goodWord, w ∈ wsX0_shift) w hw)) (by decide +kernel) (vx_c (va_Nw.use rfl w1) (vx_c (va_Nw.use rfl w3) (vx_c (va_Nw.use rfl w4) (vx_c (va_Nw.use rfl w5) vx_n))))) (by decide +kernel) hE.1 hE.2.1 hS (hl.1.trans hml.symm) dX0_shift_25 dX0_shift_28 dX0_shift_29 dX0_shift_31 dX0_shift_34 (fun x hx => (hEx x hx).elim) (Nat.le_of_ble_eq_true rfl) (Nat.le_of_ble_eq_true rfl) (Nat.le_of_ble_eq_true rfl) (Nat.le_of_ble_eq_true rfl) hlocks (fun t9 ha9 hz9 hk9 => ⟨(), trivial, ⟨Or.inl ⟨rfl, Or.inr hok⟩, hP.kept (fun k9 q9 hq9 => hk9 q9.1 (hP k9 q9 hq9).lt), va_K.moved ha9 hK, hD⟩, Nat.le_trans hS.1 hz9, fun q9 h1 h2 => (hk9 q9 (Nat.lt_of_lt_of_le h1 hS.1)).trans (hS.2.1 q9 h1 h2)⟩) hS.2.2 (Nat.le_of_ble_eq_true rfl) (Nat.le_of_ble_eq_true rfl)
  · have hS0 := hr_2.f c_5
    obtain ⟨sa, hsa⟩ := hE.2.2.2 (68, "there is no such alarm") (by decide +kernel)
    obtain ⟨⟨w1, w2, w3, w4, w5⟩, -⟩ := hE.2.2
    exact vx_throwS (own := RX0) (cls := xzA) (names := xzN) hx hb hl9 hown (by decide +kernel) (by decide +kernel) (hts (.classLink RX0 40 xzA) (by decide +kernel)) (hts (.initialized xzA) (by decide +kernel)) hsa (vx_hat (L := vx_atS RX0 44 xzA xzN) (B := [.castable xzA xzA, xzD "java/lang/RuntimeException", xzD "java/lang/Exception", xzD "java/lang/Throwable"]) (fun w hw => hts w ((by decide +kernel : ∀ w ∈ (vx_atS RX0 44 xzA xzN).filter goodWord, w ∈ wsX0_shift) w hw)) (by decide +kernel) (vx_c (va_Nw.use rfl w1) (vx_c (va_Nw.use rfl w3) (vx_c (va_Nw.use rfl w4) (vx_c (va_Nw.use rfl w5) vx_n))))) (by decide +kernel) hE.1 hE.2.1 hS (hl.1.trans hml.symm) dX0_shift_8 dX0_shift_11 dX0_shift_12 dX0_shift_14 dX0_shift_17 (fun x hx => (hEx x hx).elim) (Nat.le_of_ble_eq_true rfl) (Nat.le_of_ble_eq_true rfl) (Nat.le_of_ble_eq_true rfl) (Nat.le_of_ble_eq_true rfl) hlocks (fun t9 ha9 hz9 hk9 => ⟨(), trivial, ⟨Or.inl ⟨rfl, Or.inl hS0⟩, hP.kept (fun k9 q9 hq9 => hk9 q9.1 (hP k9 q9 hq9).lt), va_K.moved ha9 hK, hD⟩, Nat.le_trans hS.1 hz9, fun q9 h1 h2 => (hk9 q9 (Nat.lt_of_lt_of_le h1 hS.1)).trans (hS.2.1 q9 h1 h2)⟩) hS.2.2 (Nat.le_of_ble_eq_true rfl) (Nat.le_of_ble_eq_true rfl)
set_option maxHeartbeats 4000000 in
set_option maxRecDepth 100000 in
/-- stop(x) -/
theorem c_stop (l : Launch) (hl9 : l.stackTraces = false) (D : va_G) (h0 a1 a2 a3 a4 : Nat) (cZ cI : ClassId) (S Du T Rk : Nat → Int32) (now lr rt rd : Int32) (sz : Nat) (x : Int32) : vx_Met l yX0_stop wsX0_stop ({ frames := 6, cells := 1, slots := 6, locals := 90 } : Room) (xz_Pc D vwCl (abT cZ cI) (abW h0 a1 a2 a3 a4 cZ cI S Du T Rk now lr rt rd) sz [.ref h0, .int x]) (va_Qi (fun (r : Int32) (u : ABs) => ∃ k : Nat, k < 512 ∧ x = nI k ∧ ¬ S k = 0 ∧ r = T k ∧ u = (upd S k 0, Du, T, Rk, now, lr, rt, rd)) (kz_B D vwCl (abT cZ cI) (abU h0 a1 a2 a3 a4 cZ cI) (va_A (abW h0 a1 a2 a3 a4 cZ cI S Du T Rk now lr rt rd) sz)) (va_A (abW h0 a1 a2 a3 a4 cZ cI S Du T Rk now lr rt rd) sz)) (xz_X D vwCl (abT cZ cI) (abW h0 a1 a2 a3 a4 cZ cI S Du T Rk now lr rt rd) (va_A (abW h0 a1 a2 a3 a4 cZ cI S Du T Rk now lr rt rd) sz) (fun E => E = xzA ∧ ¬ ab_ex S x)) 1 6 (va_A (abW h0 a1 a2 a3 a4 cZ cI S Du T Rk now lr rt rd) sz) := by
  refine vx_ofW (cc := cX0_stop) (maxL := 2) (ret := some .int) (by decide) rfl ?_
  intro p e s m args below meth c s₁ B hml hEx hv
  obtain ⟨rfl, hsz, hP, hK, hD0, hE⟩ := hv
  have hx := B.exec
  have hb := B.bytes
  have hr := B.returns
  have hts := atoms_spec (ws := wsX0_stop) B.pre
  have hown : s.vm.findClass RX0 = some m.cls := findClass_of_methodNamed B.named
  have hlocks := B.notSynchronized
  have hinX0 : ∀ w ∈ wsX00, w ∈ wsX0_stop := by decide +kernel
  subst hsz
  have hD := hD0.self (sz := s.heap.size)
  generalize hAe : va_A (abW h0 a1 a2 a3 a4 cZ cI S Du T Rk now lr rt rd) s.heap.size = A at hD hE ⊢
  have hA : ∀ q : Nat, s.heap.size ≤ q → A q := fun q h => by rw [← hAe]; exact Or.inr h
  have hS : va_S A s.heap s.heap [] := va_S.rf
  refine kz_enter [.ref h0, .int x] (Nat.le_of_ble_eq_true rfl) (fun ls hl => ?_)
  have hl : lv_has ls 2 [(0, .ref h0), (1, .int x)] := hl
  refine lv_aload_n hx hb dX0_stop_0 rfl (lv_at hl 0 rfl) ?_
  refine lv_iload_n hx hb dX0_stop_1 rfl (lv_at hl 1 rfl) ?_
  refine kz_callR (As := [.int x]) (rest := []) ⟨hx, hb, hml, hown, hts⟩ (c_exists l D h0 a1 a2 a3 a4 cZ cI S Du T Rk now lr rt rd x) (cwV 1 hts gX0_stop_X0_exists rfl rfl rfl (by decide +kernel) ⟨Nat.le_of_ble_eq_true rfl, Nat.le_of_ble_eq_true rfl⟩) hP hK (va_recv hK hP (ci := 0) (q0 := 0) rfl rfl) rfl hl.1 rfl (Nat.le_of_ble_eq_true rfl) dX0_stop_2 ⟨Nat.zero_le _, Nat.zero_le _⟩ (fun r_1 hr_2 => ?_)
  refine lv_if_ne (tgt := 18) hx hb dX0_stop_5 (by decide) (fun c_5 => ?_) (fun c_5 => ?_)
  · obtain ⟨k, hk, rfl, hS0⟩ := hr_2.t c_5
    refine lv_aload_n hx hb dX0_stop_18 rfl (lv_at hl 0 rfl) ?_
    refine va_get (ci := 0) (v := .ref a1) (C := RX0) (T := TX0) (N := 8) hx hb hts hinX0 hown hK hP 0 rfl rfl 0 (by decide) (hts (.fieldLink RX0 9 "AlarmBench" "isSet" "[Z") (by decide +kernel)) (fun _ h9 => h9) rfl dX0_stop_19 ?_
    refine lv_iload_n hx hb dX0_stop_22 rfl (lv_at hl 1 rfl) ?_
    refine lv_iconst (v := 0) hx hb dX0_stop_23 (by decide) ?_
    refine kz_zast hx hb hK hP hD hS 1 0 rfl rfl hk (by decide) rfl dX0_stop_24 (fun H locs hP hD hS => ?_)
    have hP : va_P D vwCl (abW h0 a1 a2 a3 a4 cZ cI (upd S k 0) Du T Rk now lr rt rd) H := hP
    have hD : va_D A (abW h0 a1 a2 a3 a4 cZ cI (upd S k 0) Du T Rk now lr rt rd) := hD
    refine lv_aload_n hx hb dX0_stop_25 rfl (lv_at hl 0 rfl) ?_
    refine va_get (ci := 0) (v := .ref a3) (C := RX0) (T := TX0) (N := 8) hx hb hts hinX0 hown hK hP 0 rfl rfl 2 (by decide) (hts (.fieldLink RX0 17 "AlarmBench" "telling" "[I") (by decide +kernel)) (fun _ h9 => h9) rfl dX0_stop_26 ?_
    refine lv_iload_n hx hb dX0_stop_29 rfl (lv_at hl 1 rfl) ?_
    refine kz_iald hx hb hK hP 3 1 rfl rfl hk (by decide) dX0_stop_30 ?_
    refine vx_ret ?_
    refine W.widen (k := 1) (n := 6) (by decide) (by decide) ?_
    exact W.iret (v := T k) hx hb hr (fun t9 ht9 hW9 => ⟨⟨_, (upd S k 0, Du, T, Rk, now, lr, rt, rd), rfl, ⟨k, hk, rfl, hS0, rfl, rfl⟩, by rw [ht9]; exact hP, va_K.moved hW9.alike hK, hD⟩, hS.F ht9⟩) hS.2.2 dX0_stop_31
  · have hS0 := hr_2.f c_5
    obtain ⟨sa, hsa⟩ := hE.2.2.2 (68, "there is no such alarm") (by decide +kernel)
    obtain ⟨⟨w1, w2, w3, w4, w5⟩, -⟩ := hE.2.2
    exact vx_throwS (own := RX0) (cls := xzA) (names := xzN) hx hb hl9 hown (by decide +kernel) (by decide +kernel) (hts (.classLink RX0 40 xzA) (by decide +kernel)) (hts (.initialized xzA) (by decide +kernel)) hsa (vx_hat (L := vx_atS RX0 44 xzA xzN) (B := [.castable xzA xzA, xzD "java/lang/RuntimeException", xzD "java/lang/Exception", xzD "java/lang/Throwable"]) (fun w hw => hts w ((by decide +kernel : ∀ w ∈ (vx_atS RX0 44 xzA xzN).filter goodWord, w ∈ wsX0_stop) w hw)) (by decide +kernel) (vx_c (va_Nw.use rfl w1) (vx_c (va_Nw.use rfl w3) (vx_c (va_Nw.use rfl w4) (vx_c (va_Nw.use rfl w5) vx_n))))) (by decide +kernel) hE.1 hE.2.1 hS (hl.1.trans hml.symm) dX0_stop_8 dX0_stop_11 dX0_stop_12 dX0_stop_14 dX0_stop_17 (fun x hx => (hEx x hx).elim) (Nat.le_of_ble_eq_true rfl) (Nat.le_of_ble_eq_true rfl) (Nat.le_of_ble_eq_true rfl) (Nat.le_of_ble_eq_true rfl) hlocks (fun t9 ha9 hz9 hk9 => ⟨(), trivial, ⟨⟨rfl, hS0⟩, hP.kept (fun k9 q9 hq9 => hk9 q9.1 (hP k9 q9 hq9).lt), va_K.moved ha9 hK, hD⟩, Nat.le_trans hS.1 hz9, fun q9 h1 h2 => (hk9 q9 (Nat.lt_of_lt_of_le h1 hS.1)).trans (hS.2.1 q9 h1 h2)⟩) hS.2.2 (Nat.le_of_ble_eq_true rfl) (Nat.le_of_ble_eq_true rfl)
set_option maxHeartbeats 4000000 in
set_option maxRecDepth 100000 in
/-- pass(x) -/
theorem c_pass (l : Launch) (hl9 : l.stackTraces = false) (D : va_G) (h0 a1 a2 a3 a4 : Nat) (cZ cI : ClassId) (S Du T Rk : Nat → Int32) (now lr rt rd : Int32) (sz : Nat) (x : Int32) : vx_Met l yX0_pass wsX0_pass ({ frames := 6, cells := 1, slots := 6, locals := 90 } : Room) (xz_Pc D vwCl (abT cZ cI) (abW h0 a1 a2 a3 a4 cZ cI S Du T Rk now lr rt rd) sz [.ref h0, .int x]) (va_Qi (fun (r : Int32) (u : ABs) => ¬ x < 0 ∧ ¬ 200000 < x ∧ ¬ 1000000000 - now < x ∧ r = now + x ∧ u = (S, Du, T, Rk, now + x, lr, rt, rd)) (kz_B D vwCl (abT cZ cI) (abU h0 a1 a2 a3 a4 cZ cI) (va_A (abW h0 a1 a2 a3 a4 cZ cI S Du T Rk now lr rt rd) sz)) (va_A (abW h0 a1 a2 a3 a4 cZ cI S Du T Rk now lr rt rd) sz)) (xz_X D vwCl (abT cZ cI) (abW h0 a1 a2 a3 a4 cZ cI S Du T Rk now lr rt rd) (va_A (abW h0 a1 a2 a3 a4 cZ cI S Du T Rk now lr rt rd) sz) (fun E => (E = xzA ∧ (x < 0 ∨ 200000 < x)) ∨ (E = xzI ∧ ¬ x < 0 ∧ ¬ 200000 < x ∧ 1000000000 - now < x))) 1 6 (va_A (abW h0 a1 a2 a3 a4 cZ cI S Du T Rk now lr rt rd) sz) := by
  refine vx_ofW (cc := cX0_pass) (maxL := 2) (ret := some .int) (by decide) rfl ?_
  intro p e s m args below meth c s₁ B hml hEx hv
  obtain ⟨rfl, hsz, hP, hK, hD0, hE⟩ := hv
  have hx := B.exec
  have hb := B.bytes
  have hr := B.returns
  have hts := atoms_spec (ws := wsX0_pass) B.pre
  have hown : s.vm.findClass RX0 = some m.cls := findClass_of_methodNamed B.named
  have hlocks := B.notSynchronized
  have hinX0 : ∀ w ∈ wsX00, w ∈ wsX0_pass := by decide +kernel
  subst hsz
  have hD := hD0.self (sz := s.heap.size)
  generalize hAe : va_A (abW h0 a1 a2 a3 a4 cZ cI S Du T Rk now lr rt rd) s.heap.size = A at hD hE ⊢
  have hA : ∀ q : Nat, s.heap.size ≤ q → A q := fun q h => by rw [← hAe]; exact Or.inr h
  have hS : va_S A s.heap s.heap [] := va_S.rf
  refine kz_enter [.ref h0, .int x] (Nat.le_of_ble_eq_true rfl) (fun ls hl => ?_)
  have hl : lv_has ls 2 [(0, .ref h0), (1, .int x)] := hl
  refine lv_iload_n hx hb dX0_pass_0 rfl (lv_at hl 1 rfl) ?_
  refine lv_if_lt (tgt := 10) hx hb dX0_pass_1 (by decide) (fun c_1 => ?_) (fun c_1 => ?_)
  · obtain ⟨sa, hsa⟩ := hE.2.2.2 (71, "ticks is not 0 .. 200000") (by decide +kernel)
    obtain ⟨⟨w1, w2, w3, w4, w5⟩, -⟩ := hE.2.2
    exact vx_throwS (own := RX0) (cls := xzA) (names := xzN) hx hb hl9 hown (by decide +kernel) (by decide +kernel) (hts (.classLink RX0 40 xzA) (by decide +kernel)) (hts (.initialized xzA) (by decide +kernel)) hsa (vx_hat (L := vx_atS RX0 44 xzA xzN) (B := [.castable xzA xzA, xzD "java/lang/RuntimeException", xzD "java/lang/Exception", xzD "java/lang/Throwable"]) (fun w hw => hts w ((by decide +kernel : ∀ w ∈ (vx_atS RX0 44 xzA xzN).filter goodWord, w ∈ wsX0_pass) w hw)) (by decide +kernel) (vx_c (va_Nw.use rfl w1) (vx_c (va_Nw.use rfl w3) (vx_c (va_Nw.use rfl w4) (vx_c (va_Nw.use rfl w5) vx_n))))) (by decide +kernel) hE.1 hE.2.1 hS (hl.1.trans hml.symm) dX0_pass_10 dX0_pass_13 dX0_pass_14 dX0_pass_16 dX0_pass_19 (fun x hx => (hEx x hx).elim) (Nat.le_of_ble_eq_true rfl) (Nat.le_of_ble_eq_true rfl) (Nat.le_of_ble_eq_true rfl) (Nat.le_of_ble_eq_true rfl) hlocks (fun t9 ha9 hz9 hk9 => ⟨(), trivial, ⟨Or.inl ⟨rfl, Or.inl c_1⟩, hP.kept (fun k9 q9 hq9 => hk9 q9.1 (hP k9 q9 hq9).lt), va_K.moved ha9 hK, hD⟩, Nat.le_trans hS.1 hz9, fun q9 h1 h2 => (hk9 q9 (Nat.lt_of_lt_of_le h1 hS.1)).trans (hS.2.1 q9 h1 h2)⟩) hS.2.2 (Nat.le_of_ble_eq_true rfl) (Nat.le_of_ble_eq_true rfl)
  · refine lv_iload_n hx hb dX0_pass_4 rfl (lv_at hl 1 rfl) ?_
    refine lv_ldc (v := 200000) hx hb hown (hts (.constant RX0 70 200000) (by decide +kernel)) dX0_pass_5 ?_
    refine lv_icmp_le (tgt := 20) hx hb dX0_pass_7 (by decide) (fun c_7 => ?_) (fun c_7 => ?_)
    · refine lv_aload_n hx hb dX0_pass_20 rfl (lv_at hl 0 rfl) ?_
      refine lv_iload_n hx hb dX0_pass_21 rfl (lv_at hl 1 rfl) ?_
      refine kz_callR (As := [.int x]) (rest := []) ⟨hx, hb, hml, hown, hts⟩ (c_isBehindLastTime l D h0 a1 a2 a3 a4 cZ cI S Du T Rk now lr rt rd x) (cwV 1 hts gX0_pass_X0_isBehindLastTime rfl rfl rfl (by decide +kernel) ⟨Nat.le_of_ble_eq_true rfl, Nat.le_of_ble_eq_true rfl⟩) hP hK (va_recv hK hP (ci := 0) (q0 := 0) rfl rfl) rfl hl.1 rfl (Nat.le_of_ble_eq_true rfl) dX0_pass_22 ⟨Nat.zero_le _, Nat.zero_le _⟩ (fun r_1 hr_2 => ?_)
      refine lv_if_eq (tgt := 38) hx hb dX0_pass_25 (by decide) (fun c_25 => ?_) (fun c_25 => ?_)
      · have hbe := hr_2.f c_25
        refine lv_aload_n hx hb dX0_pass_38 rfl (lv_at hl 0 rfl) ?_
        refine lv_dup hx hb dX0_pass_39 rfl ?_
        refine va_get (ci := 0) (v := .int now) (C := RX0) (T := TX0) (N := 8) hx hb hts hinX0 hown hK hP 0 rfl rfl 4 (by decide) (hts (.fieldLink RX0 23 "AlarmBench" "now" "I") (by decide +kernel)) (fun _ h9 => h9) rfl dX0_pass_40 ?_
        refine lv_iload_n hx hb dX0_pass_43 rfl (lv_at hl 1 rfl) ?_
        refine lv_iadd hx hb dX0_pass_44 ?_
        refine va_put (ci := 0) (v := .int (now + x)) (ty := .int) (C := RX0) (T := TX0) (N := 8) hx hb hts hinX0 tyX0 tyX0_ok nmX0 hown hK hP hD hS 0 rfl rfl 4 (by decide) (hts (.fieldLink RX0 23 "AlarmBench" "now" "I") (by decide +kernel)) (fun _ h9 => h9) rfl (by decide +kernel) rfl rfl (Nat.le_of_ble_eq_true rfl) dX0_pass_45 (fun H locs hP hD hS => ?_)
        have hP : va_P D vwCl (abW h0 a1 a2 a3 a4 cZ cI S Du T Rk (now + x) lr rt rd) H := hP
        have hD : va_D A (abW h0 a1 a2 a3 a4 cZ cI S Du T Rk (now + x) lr rt rd) := hD
        refine lv_aload_n hx hb dX0_pass_48 rfl (lv_at hl 0 rfl) ?_
        refine va_get (ci := 0) (v := .int (now + x)) (C := RX0) (T := TX0) (N := 8) hx hb hts hinX0 hown hK hP 0 rfl rfl 4 (by decide) (hts (.fieldLink RX0 23 "AlarmBench" "now" "I") (by decide +kernel)) (fun _ h9 => h9) rfl dX0_pass_49 ?_
        refine vx_ret ?_
        refine W.widen (k := 1) (n := 6) (by decide) (by decide) ?_
        exact W.iret (v := now + x) hx hb hr (fun t9 ht9 hW9 => ⟨⟨_, (S, Du, T, Rk, now + x, lr, rt, rd), rfl, ⟨c_1, Int32.not_lt.mpr c_7, hbe, rfl, rfl⟩, by rw [ht9]; exact hP, va_K.moved hW9.alike hK, hD⟩, hS.F ht9⟩) hS.2.2 dX0_pass_52
      · have hbe := hr_2.t c_25
        obtain ⟨sa, hsa⟩ := hE.2.2.2 (73, "the time would be behind 1000000000") (by decide +kernel)
        obtain ⟨⟨w1, w2, w3, w4, w5⟩, -⟩ := hE.2.2
        exact vx_throwS (own := RX0) (cls := xzI) (names := xzN) hx hb hl9 hown (by decide +kernel) (by decide +kernel) (hts (.classLink RX0 51 xzI) (by decide +kernel)) (hts (.initialized xzI) (by decide +kernel)) hsa (vx_hat (L := vx_atS RX0 55 xzI xzN) (B := [.castable xzI xzI, xzD "java/lang/RuntimeException", xzD "java/lang/Exception", xzD "java/lang/Throwable"]) (fun w hw => hts w ((by decide +kernel : ∀ w ∈ (vx_atS RX0 55 xzI xzN).filter goodWord, w ∈ wsX0_pass) w hw)) (by decide +kernel) (vx_c (va_Nw.use rfl w2) (vx_c (va_Nw.use rfl w3) (vx_c (va_Nw.use rfl w4) (vx_c (va_Nw.use rfl w5) vx_n))))) (by decide +kernel) hE.1 hE.2.1 hS (hl.1.trans hml.symm) dX0_pass_28 dX0_pass_31 dX0_pass_32 dX0_pass_34 dX0_pass_37 (fun x hx => (hEx x hx).elim) (Nat.le_of_ble_eq_true rfl) (Nat.le_of_ble_eq_true rfl) (Nat.le_of_ble_eq_true rfl) (Nat.le_of_ble_eq_true rfl) hlocks (fun t9 ha9 hz9 hk9 => ⟨(), trivial, ⟨Or.inr ⟨rfl, c_1, Int32.not_lt.mpr c_7, hbe⟩, hP.kept (fun k9 q9 hq9 => hk9 q9.1 (hP k9 q9 hq9).lt), va_K.moved ha9 hK, hD⟩, Nat.le_trans hS.1 hz9, fun q9 h1 h2 => (hk9 q9 (Nat.lt_of_lt_of_le h1 hS.1)).trans (hS.2.1 q9 h1 h2)⟩) hS.2.2 (Nat.le_of_ble_eq_true rfl) (Nat.le_of_ble_eq_true rfl)
    · obtain ⟨sa, hsa⟩ := hE.2.2.2 (71, "ticks is not 0 .. 200000") (by decide +kernel)
      obtain ⟨⟨w1, w2, w3, w4, w5⟩, -⟩ := hE.2.2
      exact vx_throwS (own := RX0) (cls := xzA) (names := xzN) hx hb hl9 hown (by decide +kernel) (by decide +kernel) (hts (.classLink RX0 40 xzA) (by decide +kernel)) (hts (.initialized xzA) (by decide +kernel)) hsa (vx_hat (L := vx_atS RX0 44 xzA xzN) (B := [.castable xzA xzA, xzD "java/lang/RuntimeException", xzD "java/lang/Exception", xzD "java/lang/Throwable"]) (fun w hw => hts w ((by decide +kernel : ∀ w ∈ (vx_atS RX0 44 xzA xzN).filter goodWord, w ∈ wsX0_pass) w hw)) (by decide +kernel) (vx_c (va_Nw.use rfl w1) (vx_c (va_Nw.use rfl w3) (vx_c (va_Nw.use rfl w4) (vx_c (va_Nw.use rfl w5) vx_n))))) (by decide +kernel) hE.1 hE.2.1 hS (hl.1.trans hml.symm) dX0_pass_10 dX0_pass_13 dX0_pass_14 dX0_pass_16 dX0_pass_19 (fun x hx => (hEx x hx).elim) (Nat.le_of_ble_eq_true rfl) (Nat.le_of_ble_eq_true rfl) (Nat.le_of_ble_eq_true rfl) (Nat.le_of_ble_eq_true rfl) hlocks (fun t9 ha9 hz9 hk9 => ⟨(), trivial, ⟨Or.inl ⟨rfl, Or.inr (Int32.not_le.mp c_7)⟩, hP.kept (fun k9 q9 hq9 => hk9 q9.1 (hP k9 q9 hq9).lt), va_K.moved ha9 hK, hD⟩, Nat.le_trans hS.1 hz9, fun q9 h1 h2 => (hk9 q9 (Nat.lt_of_lt_of_le h1 hS.1)).trans (hS.2.1 q9 h1 h2)⟩) hS.2.2 (Nat.le_of_ble_eq_true rfl) (Nat.le_of_ble_eq_true rfl)
set_option maxHeartbeats 4000000 in
set_option maxRecDepth 100000 in
/-- about(x, w) -/
theorem c_about (l : Launch) (hl9 : l.stackTraces = false) (D : va_G) (h0 a1 a2 a3 a4 : Nat) (cZ cI : ClassId) (S Du T Rk : Nat → Int32) (now lr rt rd : Int32) (sz : Nat) (x w : Int32) : vx_Met l yX0_about wsX0_about ({ frames := 6, cells := 1, slots := 6, locals := 90 } : Room) (xz_Pc D vwCl (abT cZ cI) (abW h0 a1 a2 a3 a4 cZ cI S Du T Rk now lr rt rd) sz [.ref h0, .int x, .int w]) (va_Qi (fun (r : Int32) (u : ABs) => ∃ k : Nat, k < 512 ∧ x = nI k ∧ ¬ S k = 0 ∧ ((w = 0 ∧ r = Du k) ∨ (w = 1 ∧ r = T k)) ∧ u = (S, Du, T, Rk, now, lr, rt, rd)) (kz_B D vwCl (abT cZ cI) (abU h0 a1 a2 a3 a4 cZ cI) (va_A (abW h0 a1 a2 a3 a4 cZ cI S Du T Rk now lr rt rd) sz)) (va_A (abW h0 a1 a2 a3 a4 cZ cI S Du T Rk now lr rt rd) sz)) (xz_X D vwCl (abT cZ cI) (abW h0 a1 a2 a3 a4 cZ cI S Du T Rk now lr rt rd) (va_A (abW h0 a1 a2 a3 a4 cZ cI S Du T Rk now lr rt rd) sz) (fun E => E = xzA ∧ (¬ ab_ex S x ∨ (¬ w = 0 ∧ ¬ w = 1)))) 1 6 (va_A (abW h0 a1 a2 a3 a4 cZ cI S Du T Rk now lr rt rd) sz) := by
  refine vx_ofW (cc := cX0_about) (maxL := 3) (ret := some .int) (by decide) rfl ?_
  intro p e s m args below meth c s₁ B hml hEx hv
  obtain ⟨rfl, hsz, hP, hK, hD0, hE⟩ := hv
  have hx := B.exec
  have hb := B.bytes
  have hr := B.returns
  have hts := atoms_spec (ws := wsX0_about) B.pre
  have hown : s.vm.findClass RX0 = some m.cls := findClass_of_methodNamed B.named
  have hlocks := B.notSynchronized
  have hinX0 : ∀ w ∈ wsX00, w ∈ wsX0_about := by decide +kernel
  subst hsz
  have hD := hD0.self (sz := s.heap.size)
  generalize hAe : va_A (abW h0 a1 a2 a3 a4 cZ cI S Du T Rk now lr rt rd) s.heap.size = A at hD hE ⊢
  have hA : ∀ q : Nat, s.heap.size ≤ q → A q := fun q h => by rw [← hAe]; exact Or.inr h
  have hS : va_S A s.heap s.heap [] := va_S.rf
  refine kz_enter [.ref h0, .int x, .int w] (Nat.le_of_ble_eq_true rfl) (fun ls hl => ?_)
  have hl : lv_has ls 3 [(0, .ref h0), (1, .int x), (2, .int w)] := hl
  refine lv_aload_n hx hb dX0_about_0 rfl (lv_at hl 0 rfl) ?_
  refine lv_iload_n hx hb dX0_about_1 rfl (lv_at hl 1 rfl) ?_
  refine kz_callR (As := [.int x]) (rest := []) ⟨hx, hb, hml, hown, hts⟩ (c_exists l D h0 a1 a2 a3 a4 cZ cI S Du T Rk now lr rt rd x) (cwV 1 hts gX0_about_X0_exists rfl rfl rfl (by decide +kernel) ⟨Nat.le_of_ble_eq_true rfl, Nat.le_of_ble_eq_true rfl⟩) hP hK (va_recv hK hP (ci := 0) (q0 := 0) rfl rfl) rfl hl.1 rfl (Nat.le_of_ble_eq_true rfl) dX0_about_2 ⟨Nat.zero_le _, Nat.zero_le _⟩ (fun r_1 hr_2 => ?_)
  refine lv_if_ne (tgt := 18) hx hb dX0_about_5 (by decide) (fun c_5 => ?_) (fun c_5 => ?_)
  · obtain ⟨k, hk, rfl, hS0⟩ := hr_2.t c_5
    refine lv_iload_n hx hb dX0_about_18 rfl (lv_at hl 2 rfl) ?_
    refine lv_if_eq (tgt := 37) hx hb dX0_about_19 (by decide) (fun c_19 => ?_) (fun c_19 => ?_)
    · refine lv_iload_n hx hb dX0_about_37 rfl (lv_at hl 2 rfl) ?_
      refine lv_if_ne (tgt := 50) hx hb dX0_about_38 (by decide) (fun c_38 => ?_) (fun c_38 => ?_)
      · refine lv_aload_n hx hb dX0_about_50 rfl (lv_at hl 0 rfl) ?_
        refine va_get (ci := 0) (v := .ref a3) (C := RX0) (T := TX0) (N := 8) hx hb hts hinX0 hown hK hP 0 rfl rfl 2 (by decide) (hts (.fieldLink RX0 17 "AlarmBench" "telling" "[I") (by decide +kernel)) (fun _ h9 => h9) rfl dX0_about_51 ?_
        refine lv_iload_n hx hb dX0_about_54 rfl (lv_at hl 1 rfl) ?_
        refine kz_iald hx hb hK hP 3 1 rfl rfl hk (by decide) dX0_about_55 ?_
        refine vx_ret ?_
        refine W.widen (k := 1) (n := 6) (by decide) (by decide) ?_
        exact W.iret (v := T k) hx hb hr (fun t9 ht9 hW9 => ⟨⟨_, (S, Du, T, Rk, now, lr, rt, rd), rfl, absurd c_19 c_38, by rw [ht9]; exact hP, va_K.moved hW9.alike hK, hD⟩, hS.F ht9⟩) hS.2.2 dX0_about_56
      · refine lv_aload_n hx hb dX0_about_41 rfl (lv_at hl 0 rfl) ?_
        refine va_get (ci := 0) (v := .ref a2) (C := RX0) (T := TX0) (N := 8) hx hb hts hinX0 hown hK hP 0 rfl rfl 1 (by decide) (hts (.fieldLink RX0 13 "AlarmBench" "dueAt" "[I") (by decide +kernel)) (fun _ h9 => h9) rfl dX0_about_42 ?_
        refine lv_iload_n hx hb dX0_about_45 rfl (lv_at hl 1 rfl) ?_
        refine kz_iald hx hb hK hP 2 1 rfl rfl hk (by decide) dX0_about_46 ?_
        refine lv_goto (tgt := 56) hx hb dX0_about_47 (by decide) ?_
        refine vx_ret ?_
        refine W.widen (k := 1) (n := 6) (by decide) (by decide) ?_
        exact W.iret (v := Du k) hx hb hr (fun t9 ht9 hW9 => ⟨⟨_, (S, Du, T, Rk, now, lr, rt, rd), rfl, ⟨k, hk, rfl, hS0, Or.inl ⟨c_38, rfl⟩, rfl⟩, by rw [ht9]; exact hP, va_K.moved hW9.alike hK, hD⟩, hS.F ht9⟩) hS.2.2 dX0_about_56
    · refine lv_iload_n hx hb dX0_about_22 rfl (lv_at hl 2 rfl) ?_
      refine lv_iconst (v := 1) hx hb dX0_about_23 (by decide) ?_
      refine lv_icmp_eq (tgt := 37) hx hb dX0_about_24 (by decide) (fun c_24 => ?_) (fun c_24 => ?_)
      · refine lv_iload_n hx hb dX0_about_37 rfl (lv_at hl 2 rfl) ?_
        refine lv_if_ne (tgt := 50) hx hb dX0_about_38 (by decide) (fun c_38 => ?_) (fun c_38 => ?_)
        · refine lv_aload_n hx hb dX0_about_50 rfl (lv_at hl 0 rfl) ?_
          refine va_get (ci := 0) (v := .ref a3) (C := RX0) (T := TX0) (N := 8) hx hb hts hinX0 hown hK hP 0 rfl rfl 2 (by decide) (hts (.fieldLink RX0 17 "AlarmBench" "telling" "[I") (by decide +kernel)) (fun _ h9 => h9) rfl dX0_about_51 ?_
          refine lv_iload_n hx hb dX0_about_54 rfl (lv_at hl 1 rfl) ?_
          refine kz_iald hx hb hK hP 3 1 rfl rfl hk (by decide) dX0_about_55 ?_
          refine vx_ret ?_
          refine W.widen (k := 1) (n := 6) (by decide) (by decide) ?_
          exact W.iret (v := T k) hx hb hr (fun t9 ht9 hW9 => ⟨⟨_, (S, Du, T, Rk, now, lr, rt, rd), rfl, ⟨k, hk, rfl, hS0, Or.inr ⟨c_24, rfl⟩, rfl⟩, by rw [ht9]; exact hP, va_K.moved hW9.alike hK, hD⟩, hS.F ht9⟩) hS.2.2 dX0_about_56
        · refine lv_aload_n hx hb dX0_about_41 rfl (lv_at hl 0 rfl) ?_
          refine va_get (ci := 0) (v := .ref a2) (C := RX0) (T := TX0) (N := 8) hx hb hts hinX0 hown hK hP 0 rfl rfl 1 (by decide) (hts (.fieldLink RX0 13 "AlarmBench" "dueAt" "[I") (by decide +kernel)) (fun _ h9 => h9) rfl dX0_about_42 ?_
          refine lv_iload_n hx hb dX0_about_45 rfl (lv_at hl 1 rfl) ?_
          refine kz_iald hx hb hK hP 2 1 rfl rfl hk (by decide) dX0_about_46 ?_
          refine lv_goto (tgt := 56) hx hb dX0_about_47 (by decide) ?_
          refine vx_ret ?_
          refine W.widen (k := 1) (n := 6) (by decide) (by decide) ?_
          exact W.iret (v := Du k) hx hb hr (fun t9 ht9 hW9 => ⟨⟨_, (S, Du, T, Rk, now, lr, rt, rd), rfl, ⟨k, hk, rfl, hS0, Or.inl ⟨c_38, rfl⟩, rfl⟩, by rw [ht9]; exact hP, va_K.moved hW9.alike hK, hD⟩, hS.F ht9⟩) hS.2.2 dX0_about_56
      · obtain ⟨sa, hsa⟩ := hE.2.2.2 (81, "what is not 0 or 1") (by decide +kernel)
        obtain ⟨⟨w1, w2, w3, w4, w5⟩, -⟩ := hE.2.2
        exact vx_throwS (own := RX0) (cls := xzA) (names := xzN) hx hb hl9 hown (by decide +kernel) (by decide +kernel) (hts (.classLink RX0 40 xzA) (by decide +kernel)) (hts (.initialized xzA) (by decide +kernel)) hsa (vx_hat (L := vx_atS RX0 44 xzA xzN) (B := [.castable xzA xzA, xzD "java/lang/RuntimeException", xzD "java/lang/Exception", xzD "java/lang/Throwable"]) (fun w hw => hts w ((by decide +kernel : ∀ w ∈ (vx_atS RX0 44 xzA xzN).filter goodWord, w ∈ wsX0_about) w hw)) (by decide +kernel) (vx_c (va_Nw.use rfl w1) (vx_c (va_Nw.use rfl w3) (vx_c (va_Nw.use rfl w4) (vx_c (va_Nw.use rfl w5) vx_n))))) (by decide +kernel) hE.1 hE.2.1 hS (hl.1.trans hml.symm) dX0_about_27 dX0_about_30 dX0_about_31 dX0_about_33 dX0_about_36 (fun x hx => (hEx x hx).elim) (Nat.le_of_ble_eq_true rfl) (Nat.le_of_ble_eq_true rfl) (Nat.le_of_ble_eq_true rfl) (Nat.le_of_ble_eq_true rfl) hlocks (fun t9 ha9 hz9 hk9 => ⟨(), trivial, ⟨⟨rfl, Or.inr ⟨c_19, c_24⟩⟩, hP.kept (fun k9 q9 hq9 => hk9 q9.1 (hP k9 q9 hq9).lt), va_K.moved ha9 hK, hD⟩, Nat.le_trans hS.1 hz9, fun q9 h1 h2 => (hk9 q9 (Nat.lt_of_lt_of_le h1 hS.1)).trans (hS.2.1 q9 h1 h2)⟩) hS.2.2 (Nat.le_of_ble_eq_true rfl) (Nat.le_of_ble_eq_true rfl)
  · have hS0 := hr_2.f c_5
    obtain ⟨sa, hsa⟩ := hE.2.2.2 (68, "there is no such alarm") (by decide +kernel)
    obtain ⟨⟨w1, w2, w3, w4, w5⟩, -⟩ := hE.2.2
    exact vx_throwS (own := RX0) (cls := xzA) (names := xzN) hx hb hl9 hown (by decide +kernel) (by decide +kernel) (hts (.classLink RX0 40 xzA) (by decide +kernel)) (hts (.initialized xzA) (by decide +kernel)) hsa (vx_hat (L := vx_atS RX0 44 xzA xzN) (B := [.castable xzA xzA, xzD "java/lang/RuntimeException", xzD "java/lang/Exception", xzD "java/lang/Throwable"]) (fun w hw => hts w ((by decide +kernel : ∀ w ∈ (vx_atS RX0 44 xzA xzN).filter goodWord, w ∈ wsX0_about) w hw)) (by decide +kernel) (vx_c (va_Nw.use rfl w1) (vx_c (va_Nw.use rfl w3) (vx_c (va_Nw.use rfl w4) (vx_c (va_Nw.use rfl w5) vx_n))))) (by decide +kernel) hE.1 hE.2.1 hS (hl.1.trans hml.symm) dX0_about_8 dX0_about_11 dX0_about_12 dX0_about_14 dX0_about_17 (fun x hx => (hEx x hx).elim) (Nat.le_of_ble_eq_true rfl) (Nat.le_of_ble_eq_true rfl) (Nat.le_of_ble_eq_true rfl) (Nat.le_of_ble_eq_true rfl) hlocks (fun t9 ha9 hz9 hk9 => ⟨(), trivial, ⟨⟨rfl, Or.inl hS0⟩, hP.kept (fun k9 q9 hq9 => hk9 q9.1 (hP k9 q9 hq9).lt), va_K.moved ha9 hK, hD⟩, Nat.le_trans hS.1 hz9, fun q9 h1 h2 => (hk9 q9 (Nat.lt_of_lt_of_le h1 hS.1)).trans (hS.2.1 q9 h1 h2)⟩) hS.2.2 (Nat.le_of_ble_eq_true rfl) (Nat.le_of_ble_eq_true rfl)
end
section
abbrev ABg : Type := Nat × Nat × Nat × Nat × ClassId × ClassId
set_option maxHeartbeats 4000000 in
set_option maxRecDepth 100000 in
/-- AlarmBench() -/
theorem c_init (l : Launch) (D : va_G) (h0 sz : Nat) : Met l yX0_init wsX0_init ({ frames := 1, cells := 4, slots := 2048, locals := 12 } : Room) (kz_Pc D vwCl [] [(h0, .inr (0, [.null, .null, .null, .null, .int 0, .int 0, .int 0, .int 0]))] sz [.ref h0]) (va_Qv (fun _ : ABg => True) (fun v t => va_P D vwCl (abW h0 v.1 v.2.1 v.2.2.1 v.2.2.2.1 v.2.2.2.2.1 v.2.2.2.2.2 (fun _ => 0) (fun _ => 0) (fun _ => 0) (fun _ => 0) 0 0 0 (-1)) t.heap ∧ va_K D vwCl (abT v.2.2.2.2.1 v.2.2.2.2.2) t ∧ va_D (va_A [(h0, .inr (0, [.null, .null, .null, .null, .int 0, .int 0, .int 0, .int 0]))] sz) (abW h0 v.1 v.2.1 v.2.2.1 v.2.2.2.1 v.2.2.2.2.1 v.2.2.2.2.2 (fun _ => 0) (fun _ => 0) (fun _ => 0) (fun _ => 0) 0 0 0 (-1))) (va_A [(h0, .inr (0, [.null, .null, .null, .null, .int 0, .int 0, .int 0, .int 0]))] sz)) 4 2048 (va_A [(h0, .inr (0, [.null, .null, .null, .null, .int 0, .int 0, .int 0, .int 0]))] sz) := by
  refine Met.ofW (cc := cX0_init) (maxL := 1) (ret := none) (by decide) rfl ?_
  intro p e s m args below meth c s₁ B hml hv
  obtain ⟨rfl, hsz, hP, hK, hD0⟩ := hv
  have hx := B.exec
  have hb := B.bytes
  have hr := B.returns
  have hts := atoms_spec (ws := wsX0_init) B.pre
  have hown : s.vm.findClass RX0 = some m.cls := findClass_of_methodNamed B.named
  have hlocks := B.notSynchronized
  have hin : meth.name = "<init>" := (name_of_methodNamed B.named B.method).1
  have hinX0 : ∀ w ∈ wsX00, w ∈ wsX0_init := by decide +kernel
  subst hsz
  have hD := hD0.self (sz := s.heap.size)
  generalize hAe : va_A [(h0, .inr (0, [.null, .null, .null, .null, .int 0, .int 0, .int 0, .int 0]))] s.heap.size = A at hD ⊢
  have hA : ∀ q : Nat, s.heap.size ≤ q → A q := fun q h => by rw [← hAe]; exact Or.inr h
  have hS : va_S A s.heap s.heap [] := va_S.rf
  refine kz_enter [.ref h0] (Nat.le_of_ble_eq_true rfl) (fun ls hl => ?_)
  have hl : lv_has ls 1 [(0, .ref h0)] := hl
  refine lv_aload_n hx hb dX0_init_0 rfl (lv_at hl 0 rfl) ?_
  refine W.objInit hx hb hown (hts (.methodLink RX0 1 objectInit) (by decide +kernel)) (hts (.instanceMethod objectInit) (by decide +kernel)) (hts (.code objectInit ⟨#[0xb1]⟩ 1 none) (by decide +kernel)) rfl (by rw [hml]; exact hl.1) rfl dX0_init_1 (Nat.le_of_ble_eq_true rfl) (Nat.le_of_ble_eq_true rfl) ?_
  refine W.eq (g2 := F0 m 4 ls []) rfl ?_
  refine lv_aload_n hx hb dX0_init_4 rfl (lv_at hl 0 rfl) ?_
  refine lv_sipush (v := 512) hx hb dX0_init_5 (by decide) ?_
  refine va_newa (atype := .boolean) (N' := 512) (a0 := (512, .inl (fun _ => 0))) (ty := .boolean) (n := 512) hx hb (hts (.arrayClass .boolean) (by decide +kernel)) rfl hK hP hD hS hA (fun _ => rfl) (by decide) (by decide) (by decide) (Nat.le_of_ble_eq_true rfl) (Nat.le_of_ble_eq_true rfl) dX0_init_8 (fun a1 c1 H hK hP hD hS => ?_)
  have hP : va_P D vwCl [(h0, .inr (0, [.null, .null, .null, .null, .int 0, .int 0, .int 0, .int 0])), (a1, .inl (c1, 512, .inl (fun _ => 0)))] H := hP
  have hD : va_D A [(h0, .inr (0, [.null, .null, .null, .null, .int 0, .int 0, .int 0, .int 0])), (a1, .inl (c1, 512, .inl (fun _ => 0)))] := hD
  have hK : va_K D vwCl [(c1, .boolean)] s := hK
  refine W.widen (k := 1) (n := 512) (by decide) (by decide) ?_
  refine va_putF (ci := 0) (v := .ref a1) (ty := .array .boolean) (C := RX0) (T := TX0) (N := 8) hx hb hts hinX0 tyX0 tyX0_ok nmX0 hown hK hP hD hS 0 rfl rfl 0 (by decide) (hts (.fieldLink RX0 9 "AlarmBench" "isSet" "[Z") (by decide +kernel)) (fun _ h9 => h9) rfl hin rfl (by decide +kernel) rfl rfl (Nat.le_of_ble_eq_true rfl) dX0_init_10 (fun H locs hP hD hS => ?_)
  have hP : va_P D vwCl [(h0, .inr (0, [.ref a1, .null, .null, .null, .int 0, .int 0, .int 0, .int 0])), (a1, .inl (c1, 512, .inl (fun _ => 0)))] H := hP
  have hD : va_D A [(h0, .inr (0, [.ref a1, .null, .null, .null, .int 0, .int 0, .int 0, .int 0])), (a1, .inl (c1, 512, .inl (fun _ => 0)))] := hD
  refine lv_aload_n hx hb dX0_init_13 rfl (lv_at hl 0 rfl) ?_
  refine lv_sipush (v := 512) hx hb dX0_init_14 (by decide) ?_
  refine va_newa (atype := .int) (N' := 512) (a0 := (512, .inl (fun _ => 0))) (ty := .int) (n := 512) hx hb (hts (.arrayClass .int) (by decide +kernel)) rfl hK hP hD hS hA (fun _ => rfl) (by decide) (by decide) (by decide) (Nat.le_of_ble_eq_true rfl) (Nat.le_of_ble_eq_true rfl) dX0_init_17 (fun a2 c2 H hK hP hD hS => ?_)
  have hP : va_P D vwCl [(h0, .inr (0, [.ref a1, .null, .null, .null, .int 0, .int 0, .int 0, .int 0])), (a1, .inl (c1, 512, .inl (fun _ => 0))), (a2, .inl (c2, 512, .inl (fun _ => 0)))] H := hP
  have hD : va_D A [(h0, .inr (0, [.ref a1, .null, .null, .null, .int 0, .int 0, .int 0, .int 0])), (a1, .inl (c1, 512, .inl (fun _ => 0))), (a2, .inl (c2, 512, .inl (fun _ => 0)))] := hD
  have hK : va_K D vwCl [(c1, .boolean), (c2, .int)] s := hK
  refine W.widen (k := 2) (n := 1024) (by decide) (by decide) ?_
  refine va_putF (ci := 0) (v := .ref a2) (ty := .array .int) (C := RX0) (T := TX0) (N := 8) hx hb hts hinX0 tyX0 tyX0_ok nmX0 hown hK hP hD hS 0 rfl rfl 1 (by decide) (hts (.fieldLink RX0 13 "AlarmBench" "dueAt" "[I") (by decide +kernel)) (fun _ h9 => h9) rfl hin rfl (by decide +kernel) rfl rfl (Nat.le_of_ble_eq_true rfl) dX0_init_19 (fun H locs hP hD hS => ?_)
  have hP : va_P D vwCl [(h0, .inr (0, [.ref a1, .ref a2, .null, .null, .int 0, .int 0, .int 0, .int 0])), (a1, .inl (c1, 512, .inl (fun _ => 0))), (a2, .inl (c2, 512, .inl (fun _ => 0)))] H := hP
  have hD : va_D A [(h0, .inr (0, [.ref a1, .ref a2, .null, .null, .int 0, .int 0, .int 0, .int 0])), (a1, .inl (c1, 512, .inl (fun _ => 0))), (a2, .inl (c2, 512, .inl (fun _ => 0)))] := hD
  refine lv_aload_n hx hb dX0_init_22 rfl (lv_at hl 0 rfl) ?_
  refine lv_sipush (v := 512) hx hb dX0_init_23 (by decide) ?_
  refine va_newa (atype := .int) (N' := 512) (a0 := (512, .inl (fun _ => 0))) (ty := .int) (n := 512) hx hb (hts (.arrayClass .int) (by decide +kernel)) rfl hK hP hD hS hA (fun _ => rfl) (by decide) (by decide) (by decide) (Nat.le_of_ble_eq_true rfl) (Nat.le_of_ble_eq_true rfl) dX0_init_26 (fun a3 c3 H hK hP hD hS => ?_)
  have hP : va_P D vwCl [(h0, .inr (0, [.ref a1, .ref a2, .null, .null, .int 0, .int 0, .int 0, .int 0])), (a1, .inl (c1, 512, .inl (fun _ => 0))), (a2, .inl (c2, 512, .inl (fun _ => 0))), (a3, .inl (c3, 512, .inl (fun _ => 0)))] H := hP
  have hD : va_D A [(h0, .inr (0, [.ref a1, .ref a2, .null, .null, .int 0, .int 0, .int 0, .int 0])), (a1, .inl (c1, 512, .inl (fun _ => 0))), (a2, .inl (c2, 512, .inl (fun _ => 0))), (a3, .inl (c3, 512, .inl (fun _ => 0)))] := hD
  have hK : va_K D vwCl [(c1, .boolean), (c2, .int), (c3, .int)] s := hK
  refine W.widen (k := 3) (n := 1536) (by decide) (by decide) ?_
  refine va_putF (ci := 0) (v := .ref a3) (ty := .array .int) (C := RX0) (T := TX0) (N := 8) hx hb hts hinX0 tyX0 tyX0_ok nmX0 hown hK hP hD hS 0 rfl rfl 2 (by decide) (hts (.fieldLink RX0 17 "AlarmBench" "telling" "[I") (by decide +kernel)) (fun _ h9 => h9) rfl hin rfl (by decide +kernel) rfl rfl (Nat.le_of_ble_eq_true rfl) dX0_init_28 (fun H locs hP hD hS => ?_)
  have hP : va_P D vwCl [(h0, .inr (0, [.ref a1, .ref a2, .ref a3, .null, .int 0, .int 0, .int 0, .int 0])), (a1, .inl (c1, 512, .inl (fun _ => 0))), (a2, .inl (c2, 512, .inl (fun _ => 0))), (a3, .inl (c3, 512, .inl (fun _ => 0)))] H := hP
  have hD : va_D A [(h0, .inr (0, [.ref a1, .ref a2, .ref a3, .null, .int 0, .int 0, .int 0, .int 0])), (a1, .inl (c1, 512, .inl (fun _ => 0))), (a2, .inl (c2, 512, .inl (fun _ => 0))), (a3, .inl (c3, 512, .inl (fun _ => 0)))] := hD
  refine lv_aload_n hx hb dX0_init_31 rfl (lv_at hl 0 rfl) ?_
  refine lv_sipush (v := 512) hx hb dX0_init_32 (by decide) ?_
  refine va_newa (atype := .int) (N' := 512) (a0 := (512, .inl (fun _ => 0))) (ty := .int) (n := 512) hx hb (hts (.arrayClass .int) (by decide +kernel)) rfl hK hP hD hS hA (fun _ => rfl) (by decide) (by decide) (by decide) (Nat.le_of_ble_eq_true rfl) (Nat.le_of_ble_eq_true rfl) dX0_init_35 (fun a4 c4 H hK hP hD hS => ?_)
  have hP : va_P D vwCl [(h0, .inr (0, [.ref a1, .ref a2, .ref a3, .null, .int 0, .int 0, .int 0, .int 0])), (a1, .inl (c1, 512, .inl (fun _ => 0))), (a2, .inl (c2, 512, .inl (fun _ => 0))), (a3, .inl (c3, 512, .inl (fun _ => 0))), (a4, .inl (c4, 512, .inl (fun _ => 0)))] H := hP
  have hD : va_D A [(h0, .inr (0, [.ref a1, .ref a2, .ref a3, .null, .int 0, .int 0, .int 0, .int 0])), (a1, .inl (c1, 512, .inl (fun _ => 0))), (a2, .inl (c2, 512, .inl (fun _ => 0))), (a3, .inl (c3, 512, .inl (fun _ => 0))), (a4, .inl (c4, 512, .inl (fun _ => 0)))] := hD
  have hK : va_K D vwCl [(c1, .boolean), (c2, .int), (c3, .int), (c4, .int)] s := hK
  refine W.widen (k := 4) (n := 2048) (by decide) (by decide) ?_
  refine va_putF (ci := 0) (v := .ref a4) (ty := .array .int) (C := RX0) (T := TX0) (N := 8) hx hb hts hinX0 tyX0 tyX0_ok nmX0 hown hK hP hD hS 0 rfl rfl 3 (by decide) (hts (.fieldLink RX0 20 "AlarmBench" "rank" "[I") (by decide +kernel)) (fun _ h9 => h9) rfl hin rfl (by decide +kernel) rfl rfl (Nat.le_of_ble_eq_true rfl) dX0_init_37 (fun H locs hP hD hS => ?_)
  have hP : va_P D vwCl [(h0, .inr (0, [.ref a1, .ref a2, .ref a3, .ref a4, .int 0, .int 0, .int 0, .int 0])), (a1, .inl (c1, 512, .inl (fun _ => 0))), (a2, .inl (c2, 512, .inl (fun _ => 0))), (a3, .inl (c3, 512, .inl (fun _ => 0))), (a4, .inl (c4, 512, .inl (fun _ => 0)))] H := hP
  have hD : va_D A [(h0, .inr (0, [.ref a1, .ref a2, .ref a3, .ref a4, .int 0, .int 0, .int 0, .int 0])), (a1, .inl (c1, 512, .inl (fun _ => 0))), (a2, .inl (c2, 512, .inl (fun _ => 0))), (a3, .inl (c3, 512, .inl (fun _ => 0))), (a4, .inl (c4, 512, .inl (fun _ => 0)))] := hD
  refine lv_aload_n hx hb dX0_init_40 rfl (lv_at hl 0 rfl) ?_
  refine lv_iconst (v := 0) hx hb dX0_init_41 (by decide) ?_
  refine va_put (ci := 0) (v := .int 0) (ty := .int) (C := RX0) (T := TX0) (N := 8) hx hb hts hinX0 tyX0 tyX0_ok nmX0 hown hK hP hD hS 0 rfl rfl 4 (by decide) (hts (.fieldLink RX0 23 "AlarmBench" "now" "I") (by decide +kernel)) (fun _ h9 => h9) rfl (by decide +kernel) rfl rfl (Nat.le_of_ble_eq_true rfl) dX0_init_42 (fun H locs hP hD hS => ?_)
  have hP : va_P D vwCl [(h0, .inr (0, [.ref a1, .ref a2, .ref a3, .ref a4, .int 0, .int 0, .int 0, .int 0])), (a1, .inl (c1, 512, .inl (fun _ => 0))), (a2, .inl (c2, 512, .inl (fun _ => 0))), (a3, .inl (c3, 512, .inl (fun _ => 0))), (a4, .inl (c4, 512, .inl (fun _ => 0)))] H := hP
  have hD : va_D A [(h0, .inr (0, [.ref a1, .ref a2, .ref a3, .ref a4, .int 0, .int 0, .int 0, .int 0])), (a1, .inl (c1, 512, .inl (fun _ => 0))), (a2, .inl (c2, 512, .inl (fun _ => 0))), (a3, .inl (c3, 512, .inl (fun _ => 0))), (a4, .inl (c4, 512, .inl (fun _ => 0)))] := hD
  refine lv_aload_n hx hb dX0_init_45 rfl (lv_at hl 0 rfl) ?_
  refine lv_iconst (v := 0) hx hb dX0_init_46 (by decide) ?_
  refine va_put (ci := 0) (v := .int 0) (ty := .int) (C := RX0) (T := TX0) (N := 8) hx hb hts hinX0 tyX0 tyX0_ok nmX0 hown hK hP hD hS 0 rfl rfl 5 (by decide) (hts (.fieldLink RX0 27 "AlarmBench" "lastRank" "I") (by decide +kernel)) (fun _ h9 => h9) rfl (by decide +kernel) rfl rfl (Nat.le_of_ble_eq_true rfl) dX0_init_47 (fun H locs hP hD hS => ?_)
  have hP : va_P D vwCl [(h0, .inr (0, [.ref a1, .ref a2, .ref a3, .ref a4, .int 0, .int 0, .int 0, .int 0])), (a1, .inl (c1, 512, .inl (fun _ => 0))), (a2, .inl (c2, 512, .inl (fun _ => 0))), (a3, .inl (c3, 512, .inl (fun _ => 0))), (a4, .inl (c4, 512, .inl (fun _ => 0)))] H := hP
  have hD : va_D A [(h0, .inr (0, [.ref a1, .ref a2, .ref a3, .ref a4, .int 0, .int 0, .int 0, .int 0])), (a1, .inl (c1, 512, .inl (fun _ => 0))), (a2, .inl (c2, 512, .inl (fun _ => 0))), (a3, .inl (c3, 512, .inl (fun _ => 0))), (a4, .inl (c4, 512, .inl (fun _ => 0)))] := hD
  refine lv_aload_n hx hb dX0_init_50 rfl (lv_at hl 0 rfl) ?_
  refine lv_iconst (v := 0) hx hb dX0_init_51 (by decide) ?_
  refine va_put (ci := 0) (v := .int 0) (ty := .int) (C := RX0) (T := TX0) (N := 8) hx hb hts hinX0 tyX0 tyX0_ok nmX0 hown hK hP hD hS 0 rfl rfl 6 (by decide) (hts (.fieldLink RX0 30 "AlarmBench" "rungTold" "I") (by decide +kernel)) (fun _ h9 => h9) rfl (by decide +kernel) rfl rfl (Nat.le_of_ble_eq_true rfl) dX0_init_52 (fun H locs hP hD hS => ?_)
  have hP : va_P D vwCl [(h0, .inr (0, [.ref a1, .ref a2, .ref a3, .ref a4, .int 0, .int 0, .int 0, .int 0])), (a1, .inl (c1, 512, .inl (fun _ => 0))), (a2, .inl (c2, 512, .inl (fun _ => 0))), (a3, .inl (c3, 512, .inl (fun _ => 0))), (a4, .inl (c4, 512, .inl (fun _ => 0)))] H := hP
  have hD : va_D A [(h0, .inr (0, [.ref a1, .ref a2, .ref a3, .ref a4, .int 0, .int 0, .int 0, .int 0])), (a1, .inl (c1, 512, .inl (fun _ => 0))), (a2, .inl (c2, 512, .inl (fun _ => 0))), (a3, .inl (c3, 512, .inl (fun _ => 0))), (a4, .inl (c4, 512, .inl (fun _ => 0)))] := hD
  refine lv_aload_n hx hb dX0_init_55 rfl (lv_at hl 0 rfl) ?_
  refine lv_iconst (v := -1) hx hb dX0_init_56 (by decide) ?_
  refine va_put (ci := 0) (v := .int (-1)) (ty := .int) (C := RX0) (T := TX0) (N := 8) hx hb hts hinX0 tyX0 tyX0_ok nmX0 hown hK hP hD hS 0 rfl rfl 7 (by decide) (hts (.fieldLink RX0 33 "AlarmBench" "rungDue" "I") (by decide +kernel)) (fun _ h9 => h9) rfl (by decide +kernel) rfl rfl (Nat.le_of_ble_eq_true rfl) dX0_init_57 (fun H locs hP hD hS => ?_)
  have hP : va_P D vwCl [(h0, .inr (0, [.ref a1, .ref a2, .ref a3, .ref a4, .int 0, .int 0, .int 0, .int (-1)])), (a1, .inl (c1, 512, .inl (fun _ => 0))), (a2, .inl (c2, 512, .inl (fun _ => 0))), (a3, .inl (c3, 512, .inl (fun _ => 0))), (a4, .inl (c4, 512, .inl (fun _ => 0)))] H := hP
  have hD : va_D A [(h0, .inr (0, [.ref a1, .ref a2, .ref a3, .ref a4, .int 0, .int 0, .int 0, .int (-1)])), (a1, .inl (c1, 512, .inl (fun _ => 0))), (a2, .inl (c2, 512, .inl (fun _ => 0))), (a3, .inl (c3, 512, .inl (fun _ => 0))), (a4, .inl (c4, 512, .inl (fun _ => 0)))] := hD
  obtain rfl : c2 = c3 := Option.some.inj ((hK.2 1 _ rfl).2.symm.trans (hK.2 2 _ rfl).2)
  obtain rfl : c2 = c4 := Option.some.inj ((hK.2 1 _ rfl).2.symm.trans (hK.2 3 _ rfl).2)
  have hK := hK.sub (tys' := abT c1 c2) [0, 1] rfl
  exact W.vret hx hb hr (fun t9 ht9 hW9 => ⟨⟨(a1, a2, a3, a4, c1, c2), rfl, trivial, by rw [ht9]; exact hP, va_K.moved hW9.alike hK, hD⟩, hS.F ht9⟩) hS.2.2 dX0_init_60
end
section
/-! The reference: its cells, and its state in numbers. -/
section MDST
abbrev mdW (h1 b1 b2 b3 : Nat) (cJ : ClassId) (cd nw rk : Int32) (K E L : Nat → Int32) (td wd : Int32) : va_W := [(h1, .inr (1, [.int cd, .int nw, .int rk, .ref b1, .ref b2, .ref b3, .int td, .int wd])), (b1, .inl (cJ, 512, .inl K)), (b2, .inl (cJ, 512, .inl E)), (b3, .inl (cJ, 512, .inl L))]
abbrev mdT (cJ : ClassId) : List (ClassId × FieldType) := [(cJ, .int)]
abbrev MDs : Type := Int32 × Int32 × Int32 × (Nat → Int32) × (Nat → Int32) × (Nat → Int32) × Int32 × Int32
abbrev mdU (h1 b1 b2 b3 : Nat) (cJ : ClassId) (u : MDs) : va_W := mdW h1 b1 b2 b3 cJ u.1 u.2.1 u.2.2.1 u.2.2.2.1 u.2.2.2.2.1 u.2.2.2.2.2.1 u.2.2.2.2.2.2.1 u.2.2.2.2.2.2.2
def md_al (K : Nat → Int32) (x : Int32) : Prop := ∃ k : Nat, k < 512 ∧ x = nI k ∧ ¬ K k ≤ 0
/-- where the reference has an alarm, as the class would have it -/
def md_S (K : Nat → Int32) : Nat → Int32 := fun j => if K j ≤ 0 then 0 else 1
theorem md_S0 {K : Nat → Int32} {j : Nat} (h : K j ≤ 0) : md_S K j = 0 := by unfold md_S; rw [if_pos h]
theorem md_S1 {K : Nat → Int32} {j : Nat} (h : ¬ K j ≤ 0) : ¬ md_S K j = 0 := by unfold md_S; rw [if_neg h]; decide
theorem md_Sn {K : Nat → Int32} {j : Nat} (h : ¬ md_S K j = 0) : ¬ K j ≤ 0 := fun q => h (md_S0 q)
theorem md_blt {E K : Nat → Int32} {a b : Nat} (h : E a < E b) : ab_bef E K a b = true := by
  unfold ab_bef
  rw [if_neg (fun e => by rw [e] at h; exact Int32.lt_irrefl h)]
  exact decide_eq_true h
theorem md_bne {E K : Nat → Int32} {a b : Nat} (h : ¬ E a < E b) (h2 : ¬ E a = E b) : ¬ ab_bef E K a b = true := by
  unfold ab_bef
  rw [if_neg h2]
  exact fun q => h (of_decide_eq_true q)
theorem md_bge {E K : Nat → Int32} {a b : Nat} (h2 : E a = E b) (h : K b ≤ K a) : ¬ ab_bef E K a b = true := by
  unfold ab_bef
  rw [if_pos h2]
  exact fun q => Int32.not_lt.mpr h (of_decide_eq_true q)
theorem md_beq {E K : Nat → Int32} {a b : Nat} (h2 : E a = E b) (h : ¬ K b ≤ K a) : ab_bef E K a b = true := by
  unfold ab_bef
  rw [if_pos h2]
  exact decide_eq_true (Int32.not_le.mp h)
theorem oI_neg {o : Option Nat} (h : oI o < 0) (hb : ∀ k, o = some k → k < 2 ^ 31) : o = none := by
  cases o with
  | none => rfl
  | some k => exact absurd h (nI_pos (hb k rfl))
theorem oI_pos {o : Option Nat} (h : ¬ oI o < 0) : ∃ k, o = some k := by
  cases o with
  | none => exact absurd (by decide) h
  | some k => exact ⟨k, rfl⟩
/-- stopAll of the reference, when the places below k are through -/
def md_sa (K L : Nat → Int32) (t : Int32) (k : Nat) : Nat → Int32 := fun j => if j < k ∧ ¬ K j ≤ 0 ∧ L j = t then 0 else K j
theorem md_sa_0 (K L : Nat → Int32) (t : Int32) : md_sa K L t 0 = K := by
  funext j
  unfold md_sa
  rw [if_neg (fun h => absurd h.1 (Nat.not_lt_zero j))]
theorem md_sa_at (K L : Nat → Int32) (t : Int32) (k : Nat) : md_sa K L t k k = K k := by
  unfold md_sa
  rw [if_neg (fun h => absurd h.1 (Nat.lt_irrefl k))]
theorem md_sa_t {K L : Nat → Int32} {t : Int32} {k : Nat} (h : ¬ K k ≤ 0) (h2 : L k = t) : upd (md_sa K L t k) k 0 = md_sa K L t (k + 1) := by
  funext j
  unfold upd md_sa
  by_cases e : j = k
  · subst e
    rw [if_pos rfl, if_pos ⟨Nat.lt_succ_self _, h, h2⟩]
  · rw [if_neg e]
    by_cases q : j < k ∧ ¬ K j ≤ 0 ∧ L j = t
    · rw [if_pos q, if_pos ⟨Nat.lt_succ_of_lt q.1, q.2⟩]
    · rw [if_neg q, if_neg (fun z => q ⟨by have := z.1; omega, z.2⟩)]
theorem md_sa_f {K L : Nat → Int32} {t : Int32} {k : Nat} (h : ¬ (¬ K k ≤ 0 ∧ L k = t)) : md_sa K L t k = md_sa K L t (k + 1) := by
  funext j
  unfold md_sa
  by_cases e : j = k
  · subst e
    rw [if_neg (fun z => h z.2), if_neg (fun z => h z.2)]
  · by_cases q : j < k ∧ ¬ K j ≤ 0 ∧ L j = t
    · rw [if_pos q, if_pos ⟨Nat.lt_succ_of_lt q.1, q.2⟩]
    · rw [if_neg q, if_neg (fun z => q ⟨by have := z.1; omega, z.2⟩)]
end MDST
end
section
set_option maxHeartbeats 4000000 in
set_option maxRecDepth 100000 in
/-- reference: thrown -/
theorem m_thrown (l : Launch) (D : va_G) (h1 b1 b2 b3 : Nat) (cJ : ClassId) (cd nw rk : Int32) (K E L : Nat → Int32) (td wd : Int32)  : Met l yX1_thrown wsX1_thrown ({ frames := 0, cells := 0, slots := 0, locals := 0 } : Room) (va_Pc [.ref h1] (fun U => va_P D vwCl (mdW h1 b1 b2 b3 cJ cd nw rk K E L td wd) U.heap ∧ va_K D vwCl (mdT cJ) U)) (vp_Si (fun r => r = cd)) 0 0 (fun _ => False) := by
  refine Met.ofW (cc := cX1_thrown) (maxL := 1) (ret := some .int) (by decide) rfl ?_
  intro p e s m args below meth c s₁ B hml hv
  obtain ⟨rfl, hP, hK⟩ := hv
  have hx := B.exec
  have hb := B.bytes
  have hr := B.returns
  have hts := atoms_spec (ws := wsX1_thrown) B.pre
  have hown : s.vm.findClass RX1 = some m.cls := findClass_of_methodNamed B.named
  have hlocks := B.notSynchronized
  have hinX1 : ∀ w ∈ wsX10, w ∈ wsX1_thrown := by decide +kernel
  refine kz_enter [.ref h1] (Nat.le_of_ble_eq_true rfl) (fun ls hl => ?_)
  have hl : lv_has ls 1 [(0, .ref h1)] := hl
  refine lv_aload_n hx hb dX1_thrown_0 rfl (lv_at hl 0 rfl) ?_
  refine va_get (ci := 1) (v := .int cd) (C := RX1) (T := TX1) (N := 8) hx hb hts hinX1 hown hK hP 0 rfl rfl 0 (by decide) (hts (.fieldLink RX1 23 "AlarmBenchModel" "code" "I") (by decide +kernel)) (fun _ h9 => h9) rfl dX1_thrown_1 ?_
  exact W.iret (v := cd) hx hb hr (fun t9 ht9 hW9 => ⟨_, rfl, rfl, ht9⟩) (fun q h => by cases h) dX1_thrown_4
set_option maxHeartbeats 4000000 in
set_option maxRecDepth 100000 in
/-- reference: isAlarm -/
theorem m_isAlarm (l : Launch) (D : va_G) (h1 b1 b2 b3 : Nat) (cJ : ClassId) (cd nw rk : Int32) (K E L : Nat → Int32) (td wd : Int32) (x : Int32) : Met l yX1_isAlarm wsX1_isAlarm ({ frames := 0, cells := 0, slots := 0, locals := 0 } : Room) (va_Pc [.ref h1, .int x] (fun U => va_P D vwCl (mdW h1 b1 b2 b3 cJ cd nw rk K E L td wd) U.heap ∧ va_K D vwCl (mdT cJ) U)) (vp_Si (fun r => kz_b (md_al K x) r)) 0 0 (fun _ => False) := by
  refine Met.ofW (cc := cX1_isAlarm) (maxL := 2) (ret := some .boolean) (by decide) rfl ?_
  intro p e s m args below meth c s₁ B hml hv
  obtain ⟨rfl, hP, hK⟩ := hv
  have hx := B.exec
  have hb := B.bytes
  have hr := B.returns
  have hts := atoms_spec (ws := wsX1_isAlarm) B.pre
  have hown : s.vm.findClass RX1 = some m.cls := findClass_of_methodNamed B.named
  have hlocks := B.notSynchronized
  have hinX1 : ∀ w ∈ wsX10, w ∈ wsX1_isAlarm := by decide +kernel
  refine kz_enter [.ref h1, .int x] (Nat.le_of_ble_eq_true rfl) (fun ls hl => ?_)
  have hl : lv_has ls 2 [(0, .ref h1), (1, .int x)] := hl
  refine lv_iload_n hx hb dX1_isAlarm_0 rfl (lv_at hl 1 rfl) ?_
  refine lv_if_lt (tgt := 24) hx hb dX1_isAlarm_1 (by decide) (fun c_1 => ?_) (fun c_1 => ?_)
  · refine lv_iconst (v := 0) hx hb dX1_isAlarm_24 (by decide) ?_
    exact W.zret (ty := .boolean) (v := 0) hx hb hr rfl (fun t9 ht9 hW9 => ⟨_, rfl, Or.inr ⟨rfl, fun ⟨j, hj, e9, _⟩ => nI_pos (n := j) (by omega) (e9 ▸ c_1)⟩, ht9⟩) (fun q h => by cases h) dX1_isAlarm_25
  · refine lv_iload_n hx hb dX1_isAlarm_4 rfl (lv_at hl 1 rfl) ?_
    refine lv_sipush (v := 512) hx hb dX1_isAlarm_5 (by decide) ?_
    refine lv_icmp_ge (tgt := 24) hx hb dX1_isAlarm_8 (by decide) (fun c_8 => ?_) (fun c_8 => ?_)
    · refine lv_iconst (v := 0) hx hb dX1_isAlarm_24 (by decide) ?_
      exact W.zret (ty := .boolean) (v := 0) hx hb hr rfl (fun t9 ht9 hW9 => ⟨_, rfl, Or.inr ⟨rfl, fun ⟨j, hj, e9, _⟩ => nI_ge (a := j) (b := 512) hj (by decide) (e9 ▸ c_8)⟩, ht9⟩) (fun q h => by cases h) dX1_isAlarm_25
    · obtain ⟨k, hk, rfl⟩ : ∃ k : Nat, k < 512 ∧ x = nI k := by
        rcases pk_ix x (n := 512) (by decide) with h9 | h9 | h9
        · exact absurd h9 c_1
        · exact absurd h9 c_8
        · exact h9
      refine lv_aload_n hx hb dX1_isAlarm_11 rfl (lv_at hl 0 rfl) ?_
      refine va_get (ci := 1) (v := .ref b1) (C := RX1) (T := TX1) (N := 8) hx hb hts hinX1 hown hK hP 0 rfl rfl 3 (by decide) (hts (.fieldLink RX1 7 "AlarmBenchModel" "rank" "[I") (by decide +kernel)) (fun _ h9 => h9) rfl dX1_isAlarm_12 ?_
      refine lv_iload_n hx hb dX1_isAlarm_15 rfl (lv_at hl 1 rfl) ?_
      refine kz_iald hx hb hK hP 1 0 rfl rfl hk (by decide) dX1_isAlarm_16 ?_
      refine lv_if_le (tgt := 24) hx hb dX1_isAlarm_17 (by decide) (fun c_17 => ?_) (fun c_17 => ?_)
      · refine lv_iconst (v := 0) hx hb dX1_isAlarm_24 (by decide) ?_
        exact W.zret (ty := .boolean) (v := 0) hx hb hr rfl (fun t9 ht9 hW9 => ⟨_, rfl, Or.inr ⟨rfl, fun ⟨j, hj, e9, h9⟩ => h9 (by rw [← (nI_eq (a := k) (b := j) (by omega) (by omega)).mp e9]; exact c_17)⟩, ht9⟩) (fun q h => by cases h) dX1_isAlarm_25
      · refine lv_iconst (v := 1) hx hb dX1_isAlarm_20 (by decide) ?_
        refine lv_goto (tgt := 25) hx hb dX1_isAlarm_21 (by decide) ?_
        exact W.zret (ty := .boolean) (v := 1) hx hb hr rfl (fun t9 ht9 hW9 => ⟨_, rfl, Or.inl ⟨rfl, k, hk, rfl, c_17⟩, ht9⟩) (fun q h => by cases h) dX1_isAlarm_25
set_option maxHeartbeats 4000000 in
set_option maxRecDepth 100000 in
/-- reference: start -/
theorem m_start (l : Launch) (D : va_G) (h1 b1 b2 b3 : Nat) (cJ : ClassId) (cd nw rk : Int32) (K E L : Nat → Int32) (td wd : Int32) (sz : Nat) (k : Nat) (hk : k < 512) (t w : Int32) : Met l yX1_start wsX1_start ({ frames := 0, cells := 0, slots := 0, locals := 0 } : Room) (kz_Pc D vwCl (mdT cJ) (mdW h1 b1 b2 b3 cJ cd nw rk K E L td wd) sz [.ref h1, .int (nI k), .int t, .int w]) (va_Qv (fun u : MDs => u = (cd, nw, rk + 1, upd K k (rk + 1), upd E k (nw + t), upd L k w, td, wd)) (kz_B D vwCl (mdT cJ) (mdU h1 b1 b2 b3 cJ) (va_A (mdW h1 b1 b2 b3 cJ cd nw rk K E L td wd) sz)) (va_A (mdW h1 b1 b2 b3 cJ cd nw rk K E L td wd) sz)) 0 0 (va_A (mdW h1 b1 b2 b3 cJ cd nw rk K E L td wd) sz) := by
  refine Met.ofW (cc := cX1_start) (maxL := 4) (ret := none) (by decide) rfl ?_
  intro p e s m args below meth c s₁ B hml hv
  obtain ⟨rfl, hsz, hP, hK, hD0⟩ := hv
  have hx := B.exec
  have hb := B.bytes
  have hr := B.returns
  have hts := atoms_spec (ws := wsX1_start) B.pre
  have hown : s.vm.findClass RX1 = some m.cls := findClass_of_methodNamed B.named
  have hlocks := B.notSynchronized
  have hinX1 : ∀ w ∈ wsX10, w ∈ wsX1_start := by decide +kernel
  subst hsz
  have hD := hD0.self (sz := s.heap.size)
  generalize hAe : va_A (mdW h1 b1 b2 b3 cJ cd nw rk K E L td wd) s.heap.size = A at hD ⊢
  have hA : ∀ q : Nat, s.heap.size ≤ q → A q := fun q h => by rw [← hAe]; exact Or.inr h
  have hS : va_S A s.heap s.heap [] := va_S.rf
  refine kz_enter [.ref h1, .int (nI k), .int t, .int w] (Nat.le_of_ble_eq_true rfl) (fun ls hl => ?_)
  have hl : lv_has ls 4 [(0, .ref h1), (1, .int (nI k)), (2, .int t), (3, .int w)] := hl
  refine lv_aload_n hx hb dX1_start_0 rfl (lv_at hl 0 rfl) ?_
  refine lv_dup hx hb dX1_start_1 rfl ?_
  refine va_get (ci := 1) (v := .int rk) (C := RX1) (T := TX1) (N := 8) hx hb hts hinX1 hown hK hP 0 rfl rfl 2 (by decide) (hts (.fieldLink RX1 26 "AlarmBenchModel" "ranks" "I") (by decide +kernel)) (fun _ h9 => h9) rfl dX1_start_2 ?_
  refine lv_iconst (v := 1) hx hb dX1_start_5 (by decide) ?_
  refine lv_iadd hx hb dX1_start_6 ?_
  refine va_put (ci := 1) (v := .int (rk + 1)) (ty := .int) (C := RX1) (T := TX1) (N := 8) hx hb hts hinX1 tyX1 tyX1_ok nmX1 hown hK hP hD hS 0 rfl rfl 2 (by decide) (hts (.fieldLink RX1 26 "AlarmBenchModel" "ranks" "I") (by decide +kernel)) (fun _ h9 => h9) rfl (by decide +kernel) rfl rfl (Nat.le_of_ble_eq_true rfl) dX1_start_7 (fun H locs hP hD hS => ?_)
  have hP : va_P D vwCl (mdW h1 b1 b2 b3 cJ cd nw (rk + 1) K E L td wd) H := hP
  have hD : va_D A (mdW h1 b1 b2 b3 cJ cd nw (rk + 1) K E L td wd) := hD
  refine lv_aload_n hx hb dX1_start_10 rfl (lv_at hl 0 rfl) ?_
  refine va_get (ci := 1) (v := .ref b1) (C := RX1) (T := TX1) (N := 8) hx hb hts hinX1 hown hK hP 0 rfl rfl 3 (by decide) (hts (.fieldLink RX1 7 "AlarmBenchModel" "rank" "[I") (by decide +kernel)) (fun _ h9 => h9) rfl dX1_start_11 ?_
  refine lv_iload_n hx hb dX1_start_14 rfl (lv_at hl 1 rfl) ?_
  refine lv_aload_n hx hb dX1_start_15 rfl (lv_at hl 0 rfl) ?_
  refine va_get (ci := 1) (v := .int (rk + 1)) (C := RX1) (T := TX1) (N := 8) hx hb hts hinX1 hown hK hP 0 rfl rfl 2 (by decide) (hts (.fieldLink RX1 26 "AlarmBenchModel" "ranks" "I") (by decide +kernel)) (fun _ h9 => h9) rfl dX1_start_16 ?_
  refine kz_iast hx hb hK hP hD hS 1 0 rfl rfl hk (by decide) dX1_start_19 (fun H locs hP hD hS => ?_)
  have hP : va_P D vwCl (mdW h1 b1 b2 b3 cJ cd nw (rk + 1) (upd K k (rk + 1)) E L td wd) H := hP
  have hD : va_D A (mdW h1 b1 b2 b3 cJ cd nw (rk + 1) (upd K k (rk + 1)) E L td wd) := hD
  refine lv_aload_n hx hb dX1_start_20 rfl (lv_at hl 0 rfl) ?_
  refine va_get (ci := 1) (v := .ref b2) (C := RX1) (T := TX1) (N := 8) hx hb hts hinX1 hown hK hP 0 rfl rfl 4 (by decide) (hts (.fieldLink RX1 13 "AlarmBenchModel" "due" "[I") (by decide +kernel)) (fun _ h9 => h9) rfl dX1_start_21 ?_
  refine lv_iload_n hx hb dX1_start_24 rfl (lv_at hl 1 rfl) ?_
  refine lv_aload_n hx hb dX1_start_25 rfl (lv_at hl 0 rfl) ?_
  refine va_get (ci := 1) (v := .int nw) (C := RX1) (T := TX1) (N := 8) hx hb hts hinX1 hown hK hP 0 rfl rfl 1 (by decide) (hts (.fieldLink RX1 29 "AlarmBenchModel" "now" "I") (by decide +kernel)) (fun _ h9 => h9) rfl dX1_start_26 ?_
  refine lv_iload_n hx hb dX1_start_29 rfl (lv_at hl 2 rfl) ?_
  refine lv_iadd hx hb dX1_start_30 ?_
  refine kz_iast hx hb hK hP hD hS 2 0 rfl rfl hk (by decide) dX1_start_31 (fun H locs hP hD hS => ?_)
  have hP : va_P D vwCl (mdW h1 b1 b2 b3 cJ cd nw (rk + 1) (upd K k (rk + 1)) (upd E k (nw + t)) L td wd) H := hP
  have hD : va_D A (mdW h1 b1 b2 b3 cJ cd nw (rk + 1) (upd K k (rk + 1)) (upd E k (nw + t)) L td wd) := hD
  refine lv_aload_n hx hb dX1_start_32 rfl (lv_at hl 0 rfl) ?_
  refine va_get (ci := 1) (v := .ref b3) (C := RX1) (T := TX1) (N := 8) hx hb hts hinX1 hown hK hP 0 rfl rfl 5 (by decide) (hts (.fieldLink RX1 16 "AlarmBenchModel" "tells" "[I") (by decide +kernel)) (fun _ h9 => h9) rfl dX1_start_33 ?_
  refine lv_iload_n hx hb dX1_start_36 rfl (lv_at hl 1 rfl) ?_
  refine lv_iload_n hx hb dX1_start_37 rfl (lv_at hl 3 rfl) ?_
  refine kz_iast hx hb hK hP hD hS 3 0 rfl rfl hk (by decide) dX1_start_38 (fun H locs hP hD hS => ?_)
  have hP : va_P D vwCl (mdW h1 b1 b2 b3 cJ cd nw (rk + 1) (upd K k (rk + 1)) (upd E k (nw + t)) (upd L k w) td wd) H := hP
  have hD : va_D A (mdW h1 b1 b2 b3 cJ cd nw (rk + 1) (upd K k (rk + 1)) (upd E k (nw + t)) (upd L k w) td wd) := hD
  exact W.vret hx hb hr (fun t9 ht9 hW9 => ⟨⟨(cd, nw, rk + 1, upd K k (rk + 1), upd E k (nw + t), upd L k w, td, wd), rfl, rfl, by rw [ht9]; exact hP, va_K.moved hW9.alike hK, hD⟩, hS.F ht9⟩) hS.2.2 dX1_start_39
end
section
set_option maxHeartbeats 4000000 in
set_option maxRecDepth 100000 in
/-- reference: first -/
theorem m_first (l : Launch) (D : va_G) (h1 b1 b2 b3 : Nat) (cJ : ClassId) (cd nw rk : Int32) (K E L : Nat → Int32) (td wd : Int32)  : Met l yX1_first wsX1_first ({ frames := 0, cells := 0, slots := 0, locals := 0 } : Room) (va_Pc [.ref h1] (fun U => va_P D vwCl (mdW h1 b1 b2 b3 cJ cd nw rk K E L td wd) U.heap ∧ va_K D vwCl (mdT cJ) U)) (vp_Si (fun r => r = oI (ab_fst (md_S K) E K 512))) 0 0 (fun _ => False) := by
  refine Met.ofW (cc := cX1_first) (maxL := 4) (ret := some .int) (by decide) rfl ?_
  intro p e s m args below meth c s₁ B hml hv
  obtain ⟨rfl, hP, hK⟩ := hv
  have hx := B.exec
  have hb := B.bytes
  have hr := B.returns
  have hts := atoms_spec (ws := wsX1_first) B.pre
  have hown : s.vm.findClass RX1 = some m.cls := findClass_of_methodNamed B.named
  have hlocks := B.notSynchronized
  have hinX1 : ∀ w ∈ wsX10, w ∈ wsX1_first := by decide +kernel
  refine kz_enter [.ref h1] (Nat.le_of_ble_eq_true rfl) (fun ls hl => ?_)
  have hl : lv_has ls 4 [(0, .ref h1)] := hl
  refine lv_iconst (v := -1) hx hb dX1_first_0 (by decide) ?_
  refine lv_istore_n (lv' := [(1, .int ((-1))), (0, .ref h1)]) hx hb dX1_first_1 rfl hl (by decide) rfl (fun ls hl => ?_)
  refine lv_iconst (v := 0) hx hb dX1_first_2 (by decide) ?_
  refine lv_istore_n (lv' := [(2, .int 0), (1, .int ((-1))), (0, .ref h1)]) hx hb dX1_first_3 rfl hl (by decide) rfl (fun ls hl => ?_)
  refine kz_loop (G := fun ls : Array Slot => W p l e _ s m _ below meth c s.heap [] 0 0 _ (F0 m 4 ls [])) (I := fun k ls => lv_has ls 4 [(2, .int (nI k)), (1, .int (oI (ab_fst (md_S K) E K k))), (0, .ref h1)]) 512 ?_ ?_ 0 (Nat.zero_le _) ls (lv_sub hl [0, 1, 2] rfl)
  · intro k ls hk hl ih
    refine lv_iload_n hx hb dX1_first_4 rfl (lv_at hl 0 rfl) ?_
    refine lv_sipush (v := 512) hx hb dX1_first_5 (by decide) ?_
    refine lv_icmp_ge (tgt := 91) hx hb dX1_first_8 (by decide) (fun c_8 => ?_) (fun c_8 => ?_)
    · exact absurd c_8 (nI_ge (a := k) (b := 512) hk (by decide))
    · refine lv_iload_n hx hb dX1_first_11 rfl (lv_at hl 1 rfl) ?_
      refine lv_if_lt (tgt := 60) hx hb dX1_first_12 (by decide) (fun c_12 => ?_) (fun c_12 => ?_)
      · have hn0 := oI_neg c_12 (fun j hj => Nat.lt_trans (ab_fst_lt hj).1 (Nat.lt_trans hk (by decide)))
        refine lv_iconst (v := 1) hx hb dX1_first_60 (by decide) ?_
        refine lv_goto (tgt := 65) hx hb dX1_first_61 (by decide) ?_
        refine lv_istore_n (lv' := [(3, .int 1), (2, .int (nI k)), (1, .int (oI (ab_fst (md_S K) E K k))), (0, .ref h1)]) hx hb dX1_first_65 rfl hl (by decide) rfl (fun ls hl => ?_)
        refine lv_aload_n hx hb dX1_first_66 rfl (lv_at hl 3 rfl) ?_
        refine va_get (ci := 1) (v := .ref b1) (C := RX1) (T := TX1) (N := 8) hx hb hts hinX1 hown hK hP 0 rfl rfl 3 (by decide) (hts (.fieldLink RX1 7 "AlarmBenchModel" "rank" "[I") (by decide +kernel)) (fun _ h9 => h9) rfl dX1_first_67 ?_
        refine lv_iload_n hx hb dX1_first_70 rfl (lv_at hl 1 rfl) ?_
        refine kz_iald hx hb hK hP 1 0 rfl rfl hk (by decide) dX1_first_71 ?_
        refine lv_if_le (tgt := 83) hx hb dX1_first_72 (by decide) (fun c_72 => ?_) (fun c_72 => ?_)
        · refine lv_iload_n hx hb dX1_first_83 rfl (lv_at hl 2 rfl) ?_
          refine lv_istore_n (lv' := [(1, .int (oI (ab_fst (md_S K) E K k))), (3, .int 1), (2, .int (nI k)), (0, .ref h1)]) hx hb dX1_first_84 rfl hl (by decide) rfl (fun ls hl => ?_)
          refine lv_iinc (v := nI (k + 1)) (lv' := [(2, .int (nI (k + 1))), (1, .int (oI (ab_fst (md_S K) E K k))), (3, .int 1), (0, .ref h1)]) hx hb dX1_first_85 hl (k := 2) rfl (kz_inc k) (by decide) rfl (fun ls hl => ?_)
          refine lv_goto (tgt := 4) hx hb dX1_first_88 (by decide) ?_
          exact ih ls (by rw [ab_fst_0 (md_S0 c_72)]; exact lv_sub hl [0, 1, 3] rfl)
        · refine lv_iload_n hx hb dX1_first_75 rfl (lv_at hl 0 rfl) ?_
          refine lv_if_eq (tgt := 83) hx hb dX1_first_76 (by decide) (fun c_76 => ?_) (fun c_76 => ?_)
          · exact absurd c_76 (by decide)
          · refine lv_iload_n hx hb dX1_first_79 rfl (lv_at hl 1 rfl) ?_
            refine lv_goto (tgt := 84) hx hb dX1_first_80 (by decide) ?_
            refine lv_istore_n (lv' := [(1, .int (nI k)), (3, .int 1), (2, .int (nI k)), (0, .ref h1)]) hx hb dX1_first_84 rfl hl (by decide) rfl (fun ls hl => ?_)
            refine lv_iinc (v := nI (k + 1)) (lv' := [(2, .int (nI (k + 1))), (1, .int (nI k)), (3, .int 1), (0, .ref h1)]) hx hb dX1_first_85 hl (k := 2) rfl (kz_inc k) (by decide) rfl (fun ls hl => ?_)
            refine lv_goto (tgt := 4) hx hb dX1_first_88 (by decide) ?_
            exact ih ls (by rw [ab_fst_n (md_S1 c_72) hn0]; exact lv_sub hl [0, 1, 3] rfl)
      · obtain ⟨j0, hj0⟩ := oI_pos c_12
        have hjk : j0 < 512 := Nat.lt_trans (ab_fst_lt hj0).1 hk
        rw [hj0] at hl
        have hl : lv_has ls 4 [(2, .int (nI k)), (1, .int (nI j0)), (0, .ref h1)] := hl
        refine lv_aload_n hx hb dX1_first_15 rfl (lv_at hl 2 rfl) ?_
        refine va_get (ci := 1) (v := .ref b2) (C := RX1) (T := TX1) (N := 8) hx hb hts hinX1 hown hK hP 0 rfl rfl 4 (by decide) (hts (.fieldLink RX1 13 "AlarmBenchModel" "due" "[I") (by decide +kernel)) (fun _ h9 => h9) rfl dX1_first_16 ?_
        refine lv_iload_n hx hb dX1_first_19 rfl (lv_at hl 0 rfl) ?_
        refine kz_iald hx hb hK hP 2 0 rfl rfl hk (by decide) dX1_first_20 ?_
        refine lv_aload_n hx hb dX1_first_21 rfl (lv_at hl 2 rfl) ?_
        refine va_get (ci := 1) (v := .ref b2) (C := RX1) (T := TX1) (N := 8) hx hb hts hinX1 hown hK hP 0 rfl rfl 4 (by decide) (hts (.fieldLink RX1 13 "AlarmBenchModel" "due" "[I") (by decide +kernel)) (fun _ h9 => h9) rfl dX1_first_22 ?_
        refine lv_iload_n hx hb dX1_first_25 rfl (lv_at hl 1 rfl) ?_
        refine kz_iald hx hb hK hP 2 0 rfl rfl hjk (by decide) dX1_first_26 ?_
        refine lv_icmp_lt (tgt := 60) hx hb dX1_first_27 (by decide) (fun c_27 => ?_) (fun c_27 => ?_)
        · refine lv_iconst (v := 1) hx hb dX1_first_60 (by decide) ?_
          refine lv_goto (tgt := 65) hx hb dX1_first_61 (by decide) ?_
          refine lv_istore_n (lv' := [(3, .int 1), (2, .int (nI k)), (1, .int (nI j0)), (0, .ref h1)]) hx hb dX1_first_65 rfl hl (by decide) rfl (fun ls hl => ?_)
          refine lv_aload_n hx hb dX1_first_66 rfl (lv_at hl 3 rfl) ?_
          refine va_get (ci := 1) (v := .ref b1) (C := RX1) (T := TX1) (N := 8) hx hb hts hinX1 hown hK hP 0 rfl rfl 3 (by decide) (hts (.fieldLink RX1 7 "AlarmBenchModel" "rank" "[I") (by decide +kernel)) (fun _ h9 => h9) rfl dX1_first_67 ?_
          refine lv_iload_n hx hb dX1_first_70 rfl (lv_at hl 1 rfl) ?_
          refine kz_iald hx hb hK hP 1 0 rfl rfl hk (by decide) dX1_first_71 ?_
          refine lv_if_le (tgt := 83) hx hb dX1_first_72 (by decide) (fun c_72 => ?_) (fun c_72 => ?_)
          · refine lv_iload_n hx hb dX1_first_83 rfl (lv_at hl 2 rfl) ?_
            refine lv_istore_n (lv' := [(1, .int (nI j0)), (3, .int 1), (2, .int (nI k)), (0, .ref h1)]) hx hb dX1_first_84 rfl hl (by decide) rfl (fun ls hl => ?_)
            refine lv_iinc (v := nI (k + 1)) (lv' := [(2, .int (nI (k + 1))), (1, .int (nI j0)), (3, .int 1), (0, .ref h1)]) hx hb dX1_first_85 hl (k := 2) rfl (kz_inc k) (by decide) rfl (fun ls hl => ?_)
            refine lv_goto (tgt := 4) hx hb dX1_first_88 (by decide) ?_
            exact ih ls (by rw [ab_fst_0 (md_S0 c_72), hj0]; exact lv_sub hl [0, 1, 3] rfl)
          · refine lv_iload_n hx hb dX1_first_75 rfl (lv_at hl 0 rfl) ?_
            refine lv_if_eq (tgt := 83) hx hb dX1_first_76 (by decide) (fun c_76 => ?_) (fun c_76 => ?_)
            · exact absurd c_76 (by decide)
            · refine lv_iload_n hx hb dX1_first_79 rfl (lv_at hl 1 rfl) ?_
              refine lv_goto (tgt := 84) hx hb dX1_first_80 (by decide) ?_
              refine lv_istore_n (lv' := [(1, .int (nI k)), (3, .int 1), (2, .int (nI k)), (0, .ref h1)]) hx hb dX1_first_84 rfl hl (by decide) rfl (fun ls hl => ?_)
              refine lv_iinc (v := nI (k + 1)) (lv' := [(2, .int (nI (k + 1))), (1, .int (nI k)), (3, .int 1), (0, .ref h1)]) hx hb dX1_first_85 hl (k := 2) rfl (kz_inc k) (by decide) rfl (fun ls hl => ?_)
              refine lv_goto (tgt := 4) hx hb dX1_first_88 (by decide) ?_
              exact ih ls (by rw [ab_fst_t (md_S1 c_72) hj0 (md_blt c_27)]; exact lv_sub hl [0, 1, 3] rfl)
        · refine lv_aload_n hx hb dX1_first_30 rfl (lv_at hl 2 rfl) ?_
          refine va_get (ci := 1) (v := .ref b2) (C := RX1) (T := TX1) (N := 8) hx hb hts hinX1 hown hK hP 0 rfl rfl 4 (by decide) (hts (.fieldLink RX1 13 "AlarmBenchModel" "due" "[I") (by decide +kernel)) (fun _ h9 => h9) rfl dX1_first_31 ?_
          refine lv_iload_n hx hb dX1_first_34 rfl (lv_at hl 0 rfl) ?_
          refine kz_iald hx hb hK hP 2 0 rfl rfl hk (by decide) dX1_first_35 ?_
          refine lv_aload_n hx hb dX1_first_36 rfl (lv_at hl 2 rfl) ?_
          refine va_get (ci := 1) (v := .ref b2) (C := RX1) (T := TX1) (N := 8) hx hb hts hinX1 hown hK hP 0 rfl rfl 4 (by decide) (hts (.fieldLink RX1 13 "AlarmBenchModel" "due" "[I") (by decide +kernel)) (fun _ h9 => h9) rfl dX1_first_37 ?_
          refine lv_iload_n hx hb dX1_first_40 rfl (lv_at hl 1 rfl) ?_
          refine kz_iald hx hb hK hP 2 0 rfl rfl hjk (by decide) dX1_first_41 ?_
          refine lv_icmp_ne (tgt := 64) hx hb dX1_first_42 (by decide) (fun c_42 => ?_) (fun c_42 => ?_)
          · refine lv_iconst (v := 0) hx hb dX1_first_64 (by decide) ?_
            refine lv_istore_n (lv' := [(3, .int 0), (2, .int (nI k)), (1, .int (nI j0)), (0, .ref h1)]) hx hb dX1_first_65 rfl hl (by decide) rfl (fun ls hl => ?_)
            refine lv_aload_n hx hb dX1_first_66 rfl (lv_at hl 3 rfl) ?_
            refine va_get (ci := 1) (v := .ref b1) (C := RX1) (T := TX1) (N := 8) hx hb hts hinX1 hown hK hP 0 rfl rfl 3 (by decide) (hts (.fieldLink RX1 7 "AlarmBenchModel" "rank" "[I") (by decide +kernel)) (fun _ h9 => h9) rfl dX1_first_67 ?_
            refine lv_iload_n hx hb dX1_first_70 rfl (lv_at hl 1 rfl) ?_
            refine kz_iald hx hb hK hP 1 0 rfl rfl hk (by decide) dX1_first_71 ?_
            refine lv_if_le (tgt := 83) hx hb dX1_first_72 (by decide) (fun c_72 => ?_) (fun c_72 => ?_)
            · refine lv_iload_n hx hb dX1_first_83 rfl (lv_at hl 2 rfl) ?_
              refine lv_istore_n (lv' := [(1, .int (nI j0)), (3, .int 0), (2, .int (nI k)), (0, .ref h1)]) hx hb dX1_first_84 rfl hl (by decide) rfl (fun ls hl => ?_)
              refine lv_iinc (v := nI (k + 1)) (lv' := [(2, .int (nI (k + 1))), (1, .int (nI j0)), (3, .int 0), (0, .ref h1)]) hx hb dX1_first_85 hl (k := 2) rfl (kz_inc k) (by decide) rfl (fun ls hl => ?_)
              refine lv_goto (tgt := 4) hx hb dX1_first_88 (by decide) ?_
              exact ih ls (by rw [ab_fst_0 (md_S0 c_72), hj0]; exact lv_sub hl [0, 1, 3] rfl)
            · refine lv_iload_n hx hb dX1_first_75 rfl (lv_at hl 0 rfl) ?_
              refine lv_if_eq (tgt := 83) hx hb dX1_first_76 (by decide) (fun c_76 => ?_) (fun c_76 => ?_)
              · refine lv_iload_n hx hb dX1_first_83 rfl (lv_at hl 2 rfl) ?_
                refine lv_istore_n (lv' := [(1, .int (nI j0)), (3, .int 0), (2, .int (nI k)), (0, .ref h1)]) hx hb dX1_first_84 rfl hl (by decide) rfl (fun ls hl => ?_)
                refine lv_iinc (v := nI (k + 1)) (lv' := [(2, .int (nI (k + 1))), (1, .int (nI j0)), (3, .int 0), (0, .ref h1)]) hx hb dX1_first_85 hl (k := 2) rfl (kz_inc k) (by decide) rfl (fun ls hl => ?_)
                refine lv_goto (tgt := 4) hx hb dX1_first_88 (by decide) ?_
                exact ih ls (by rw [ab_fst_f (md_S1 c_72) hj0 (md_bne c_27 c_42)]; exact lv_sub hl [0, 1, 3] rfl)
              · exact absurd rfl c_76
          · refine lv_aload_n hx hb dX1_first_45 rfl (lv_at hl 2 rfl) ?_
            refine va_get (ci := 1) (v := .ref b1) (C := RX1) (T := TX1) (N := 8) hx hb hts hinX1 hown hK hP 0 rfl rfl 3 (by decide) (hts (.fieldLink RX1 7 "AlarmBenchModel" "rank" "[I") (by decide +kernel)) (fun _ h9 => h9) rfl dX1_first_46 ?_
            refine lv_iload_n hx hb dX1_first_49 rfl (lv_at hl 0 rfl) ?_
            refine kz_iald hx hb hK hP 1 0 rfl rfl hk (by decide) dX1_first_50 ?_
            refine lv_aload_n hx hb dX1_first_51 rfl (lv_at hl 2 rfl) ?_
            refine va_get (ci := 1) (v := .ref b1) (C := RX1) (T := TX1) (N := 8) hx hb hts hinX1 hown hK hP 0 rfl rfl 3 (by decide) (hts (.fieldLink RX1 7 "AlarmBenchModel" "rank" "[I") (by decide +kernel)) (fun _ h9 => h9) rfl dX1_first_52 ?_
            refine lv_iload_n hx hb dX1_first_55 rfl (lv_at hl 1 rfl) ?_
            refine kz_iald hx hb hK hP 1 0 rfl rfl hjk (by decide) dX1_first_56 ?_
            refine lv_icmp_ge (tgt := 64) hx hb dX1_first_57 (by decide) (fun c_57 => ?_) (fun c_57 => ?_)
            · refine lv_iconst (v := 0) hx hb dX1_first_64 (by decide) ?_
              refine lv_istore_n (lv' := [(3, .int 0), (2, .int (nI k)), (1, .int (nI j0)), (0, .ref h1)]) hx hb dX1_first_65 rfl hl (by decide) rfl (fun ls hl => ?_)
              refine lv_aload_n hx hb dX1_first_66 rfl (lv_at hl 3 rfl) ?_
              refine va_get (ci := 1) (v := .ref b1) (C := RX1) (T := TX1) (N := 8) hx hb hts hinX1 hown hK hP 0 rfl rfl 3 (by decide) (hts (.fieldLink RX1 7 "AlarmBenchModel" "rank" "[I") (by decide +kernel)) (fun _ h9 => h9) rfl dX1_first_67 ?_
              refine lv_iload_n hx hb dX1_first_70 rfl (lv_at hl 1 rfl) ?_
              refine kz_iald hx hb hK hP 1 0 rfl rfl hk (by decide) dX1_first_71 ?_
              refine lv_if_le (tgt := 83) hx hb dX1_first_72 (by decide) (fun c_72 => ?_) (fun c_72 => ?_)
              · refine lv_iload_n hx hb dX1_first_83 rfl (lv_at hl 2 rfl) ?_
                refine lv_istore_n (lv' := [(1, .int (nI j0)), (3, .int 0), (2, .int (nI k)), (0, .ref h1)]) hx hb dX1_first_84 rfl hl (by decide) rfl (fun ls hl => ?_)
                refine lv_iinc (v := nI (k + 1)) (lv' := [(2, .int (nI (k + 1))), (1, .int (nI j0)), (3, .int 0), (0, .ref h1)]) hx hb dX1_first_85 hl (k := 2) rfl (kz_inc k) (by decide) rfl (fun ls hl => ?_)
                refine lv_goto (tgt := 4) hx hb dX1_first_88 (by decide) ?_
                exact ih ls (by rw [ab_fst_0 (md_S0 c_72), hj0]; exact lv_sub hl [0, 1, 3] rfl)
              · refine lv_iload_n hx hb dX1_first_75 rfl (lv_at hl 0 rfl) ?_
                refine lv_if_eq (tgt := 83) hx hb dX1_first_76 (by decide) (fun c_76 => ?_) (fun c_76 => ?_)
                · refine lv_iload_n hx hb dX1_first_83 rfl (lv_at hl 2 rfl) ?_
                  refine lv_istore_n (lv' := [(1, .int (nI j0)), (3, .int 0), (2, .int (nI k)), (0, .ref h1)]) hx hb dX1_first_84 rfl hl (by decide) rfl (fun ls hl => ?_)
                  refine lv_iinc (v := nI (k + 1)) (lv' := [(2, .int (nI (k + 1))), (1, .int (nI j0)), (3, .int 0), (0, .ref h1)]) hx hb dX1_first_85 hl (k := 2) rfl (kz_inc k) (by decide) rfl (fun ls hl => ?_)
                  refine lv_goto (tgt := 4) hx hb dX1_first_88 (by decide) ?_
                  exact ih ls (by rw [ab_fst_f (md_S1 c_72) hj0 (md_bge c_42 c_57)]; exact lv_sub hl [0, 1, 3] rfl)
                · exact absurd rfl c_76
            · refine lv_iconst (v := 1) hx hb dX1_first_60 (by decide) ?_
              refine lv_goto (tgt := 65) hx hb dX1_first_61 (by decide) ?_
              refine lv_istore_n (lv' := [(3, .int 1), (2, .int (nI k)), (1, .int (nI j0)), (0, .ref h1)]) hx hb dX1_first_65 rfl hl (by decide) rfl (fun ls hl => ?_)
              refine lv_aload_n hx hb dX1_first_66 rfl (lv_at hl 3 rfl) ?_
              refine va_get (ci := 1) (v := .ref b1) (C := RX1) (T := TX1) (N := 8) hx hb hts hinX1 hown hK hP 0 rfl rfl 3 (by decide) (hts (.fieldLink RX1 7 "AlarmBenchModel" "rank" "[I") (by decide +kernel)) (fun _ h9 => h9) rfl dX1_first_67 ?_
              refine lv_iload_n hx hb dX1_first_70 rfl (lv_at hl 1 rfl) ?_
              refine kz_iald hx hb hK hP 1 0 rfl rfl hk (by decide) dX1_first_71 ?_
              refine lv_if_le (tgt := 83) hx hb dX1_first_72 (by decide) (fun c_72 => ?_) (fun c_72 => ?_)
              · refine lv_iload_n hx hb dX1_first_83 rfl (lv_at hl 2 rfl) ?_
                refine lv_istore_n (lv' := [(1, .int (nI j0)), (3, .int 1), (2, .int (nI k)), (0, .ref h1)]) hx hb dX1_first_84 rfl hl (by decide) rfl (fun ls hl => ?_)
                refine lv_iinc (v := nI (k + 1)) (lv' := [(2, .int (nI (k + 1))), (1, .int (nI j0)), (3, .int 1), (0, .ref h1)]) hx hb dX1_first_85 hl (k := 2) rfl (kz_inc k) (by decide) rfl (fun ls hl => ?_)
                refine lv_goto (tgt := 4) hx hb dX1_first_88 (by decide) ?_
                exact ih ls (by rw [ab_fst_0 (md_S0 c_72), hj0]; exact lv_sub hl [0, 1, 3] rfl)
              · refine lv_iload_n hx hb dX1_first_75 rfl (lv_at hl 0 rfl) ?_
                refine lv_if_eq (tgt := 83) hx hb dX1_first_76 (by decide) (fun c_76 => ?_) (fun c_76 => ?_)
                · exact absurd c_76 (by decide)
                · refine lv_iload_n hx hb dX1_first_79 rfl (lv_at hl 1 rfl) ?_
                  refine lv_goto (tgt := 84) hx hb dX1_first_80 (by decide) ?_
                  refine lv_istore_n (lv' := [(1, .int (nI k)), (3, .int 1), (2, .int (nI k)), (0, .ref h1)]) hx hb dX1_first_84 rfl hl (by decide) rfl (fun ls hl => ?_)
                  refine lv_iinc (v := nI (k + 1)) (lv' := [(2, .int (nI (k + 1))), (1, .int (nI k)), (3, .int 1), (0, .ref h1)]) hx hb dX1_first_85 hl (k := 2) rfl (kz_inc k) (by decide) rfl (fun ls hl => ?_)
                  refine lv_goto (tgt := 4) hx hb dX1_first_88 (by decide) ?_
                  exact ih ls (by rw [ab_fst_t (md_S1 c_72) hj0 (md_beq c_42 c_57)]; exact lv_sub hl [0, 1, 3] rfl)
  · intro ls hl
    refine lv_iload_n hx hb dX1_first_4 rfl (lv_at hl 0 rfl) ?_
    refine lv_sipush (v := 512) hx hb dX1_first_5 (by decide) ?_
    refine lv_icmp_ge (tgt := 91) hx hb dX1_first_8 (by decide) (fun c_8 => ?_) (fun c_8 => ?_)
    · refine lv_iload_n hx hb dX1_first_91 rfl (lv_at hl 1 rfl) ?_
      exact W.iret (v := oI (ab_fst (md_S K) E K 512)) hx hb hr (fun t9 ht9 hW9 => ⟨_, rfl, rfl, ht9⟩) (fun q h => by cases h) dX1_first_92
    · exact absurd (Int32.le_refl _) c_8
end
section
set_option maxHeartbeats 4000000 in
set_option maxRecDepth 100000 in
/-- reference: told -/
theorem m_told (l : Launch) (D : va_G) (h1 b1 b2 b3 : Nat) (cJ : ClassId) (cd nw rk : Int32) (K E L : Nat → Int32) (td wd : Int32) (sz : Nat)  : Met l yX1_told wsX1_told ({ frames := 0, cells := 0, slots := 0, locals := 0 } : Room) (kz_Pc D vwCl (mdT cJ) (mdW h1 b1 b2 b3 cJ cd nw rk K E L td wd) sz [.ref h1]) (va_Qi (fun (r : Int32) (u : MDs) => r = td ∧ u = (0, nw, rk, K, E, L, td, wd)) (kz_B D vwCl (mdT cJ) (mdU h1 b1 b2 b3 cJ) (va_A (mdW h1 b1 b2 b3 cJ cd nw rk K E L td wd) sz)) (va_A (mdW h1 b1 b2 b3 cJ cd nw rk K E L td wd) sz)) 0 0 (va_A (mdW h1 b1 b2 b3 cJ cd nw rk K E L td wd) sz) := by
  refine Met.ofW (cc := cX1_told) (maxL := 1) (ret := some .int) (by decide) rfl ?_
  intro p e s m args below meth c s₁ B hml hv
  obtain ⟨rfl, hsz, hP, hK, hD0⟩ := hv
  have hx := B.exec
  have hb := B.bytes
  have hr := B.returns
  have hts := atoms_spec (ws := wsX1_told) B.pre
  have hown : s.vm.findClass RX1 = some m.cls := findClass_of_methodNamed B.named
  have hlocks := B.notSynchronized
  have hinX1 : ∀ w ∈ wsX10, w ∈ wsX1_told := by decide +kernel
  subst hsz
  have hD := hD0.self (sz := s.heap.size)
  generalize hAe : va_A (mdW h1 b1 b2 b3 cJ cd nw rk K E L td wd) s.heap.size = A at hD ⊢
  have hA : ∀ q : Nat, s.heap.size ≤ q → A q := fun q h => by rw [← hAe]; exact Or.inr h
  have hS : va_S A s.heap s.heap [] := va_S.rf
  refine kz_enter [.ref h1] (Nat.le_of_ble_eq_true rfl) (fun ls hl => ?_)
  have hl : lv_has ls 1 [(0, .ref h1)] := hl
  refine lv_aload_n hx hb dX1_told_0 rfl (lv_at hl 0 rfl) ?_
  refine lv_iconst (v := 0) hx hb dX1_told_1 (by decide) ?_
  refine va_put (ci := 1) (v := .int 0) (ty := .int) (C := RX1) (T := TX1) (N := 8) hx hb hts hinX1 tyX1 tyX1_ok nmX1 hown hK hP hD hS 0 rfl rfl 0 (by decide) (hts (.fieldLink RX1 23 "AlarmBenchModel" "code" "I") (by decide +kernel)) (fun _ h9 => h9) rfl (by decide +kernel) rfl rfl (Nat.le_of_ble_eq_true rfl) dX1_told_2 (fun H locs hP hD hS => ?_)
  have hP : va_P D vwCl (mdW h1 b1 b2 b3 cJ 0 nw rk K E L td wd) H := hP
  have hD : va_D A (mdW h1 b1 b2 b3 cJ 0 nw rk K E L td wd) := hD
  refine lv_aload_n hx hb dX1_told_5 rfl (lv_at hl 0 rfl) ?_
  refine va_get (ci := 1) (v := .int td) (C := RX1) (T := TX1) (N := 8) hx hb hts hinX1 hown hK hP 0 rfl rfl 6 (by decide) (hts (.fieldLink RX1 46 "AlarmBenchModel" "told" "I") (by decide +kernel)) (fun _ h9 => h9) rfl dX1_told_6 ?_
  exact W.iret (v := td) hx hb hr (fun t9 ht9 hW9 => ⟨⟨_, (0, nw, rk, K, E, L, td, wd), rfl, ⟨rfl, rfl⟩, by rw [ht9]; exact hP, va_K.moved hW9.alike hK, hD⟩, hS.F ht9⟩) hS.2.2 dX1_told_9
set_option maxHeartbeats 4000000 in
set_option maxRecDepth 100000 in
/-- reference: wasDue -/
theorem m_wasDue (l : Launch) (D : va_G) (h1 b1 b2 b3 : Nat) (cJ : ClassId) (cd nw rk : Int32) (K E L : Nat → Int32) (td wd : Int32) (sz : Nat)  : Met l yX1_wasDue wsX1_wasDue ({ frames := 0, cells := 0, slots := 0, locals := 0 } : Room) (kz_Pc D vwCl (mdT cJ) (mdW h1 b1 b2 b3 cJ cd nw rk K E L td wd) sz [.ref h1]) (va_Qi (fun (r : Int32) (u : MDs) => r = wd ∧ u = (0, nw, rk, K, E, L, td, wd)) (kz_B D vwCl (mdT cJ) (mdU h1 b1 b2 b3 cJ) (va_A (mdW h1 b1 b2 b3 cJ cd nw rk K E L td wd) sz)) (va_A (mdW h1 b1 b2 b3 cJ cd nw rk K E L td wd) sz)) 0 0 (va_A (mdW h1 b1 b2 b3 cJ cd nw rk K E L td wd) sz) := by
  refine Met.ofW (cc := cX1_wasDue) (maxL := 1) (ret := some .int) (by decide) rfl ?_
  intro p e s m args below meth c s₁ B hml hv
  obtain ⟨rfl, hsz, hP, hK, hD0⟩ := hv
  have hx := B.exec
  have hb := B.bytes
  have hr := B.returns
  have hts := atoms_spec (ws := wsX1_wasDue) B.pre
  have hown : s.vm.findClass RX1 = some m.cls := findClass_of_methodNamed B.named
  have hlocks := B.notSynchronized
  have hinX1 : ∀ w ∈ wsX10, w ∈ wsX1_wasDue := by decide +kernel
  subst hsz
  have hD := hD0.self (sz := s.heap.size)
  generalize hAe : va_A (mdW h1 b1 b2 b3 cJ cd nw rk K E L td wd) s.heap.size = A at hD ⊢
  have hA : ∀ q : Nat, s.heap.size ≤ q → A q := fun q h => by rw [← hAe]; exact Or.inr h
  have hS : va_S A s.heap s.heap [] := va_S.rf
  refine kz_enter [.ref h1] (Nat.le_of_ble_eq_true rfl) (fun ls hl => ?_)
  have hl : lv_has ls 1 [(0, .ref h1)] := hl
  refine lv_aload_n hx hb dX1_wasDue_0 rfl (lv_at hl 0 rfl) ?_
  refine lv_iconst (v := 0) hx hb dX1_wasDue_1 (by decide) ?_
  refine va_put (ci := 1) (v := .int 0) (ty := .int) (C := RX1) (T := TX1) (N := 8) hx hb hts hinX1 tyX1 tyX1_ok nmX1 hown hK hP hD hS 0 rfl rfl 0 (by decide) (hts (.fieldLink RX1 23 "AlarmBenchModel" "code" "I") (by decide +kernel)) (fun _ h9 => h9) rfl (by decide +kernel) rfl rfl (Nat.le_of_ble_eq_true rfl) dX1_wasDue_2 (fun H locs hP hD hS => ?_)
  have hP : va_P D vwCl (mdW h1 b1 b2 b3 cJ 0 nw rk K E L td wd) H := hP
  have hD : va_D A (mdW h1 b1 b2 b3 cJ 0 nw rk K E L td wd) := hD
  refine lv_aload_n hx hb dX1_wasDue_5 rfl (lv_at hl 0 rfl) ?_
  refine va_get (ci := 1) (v := .int wd) (C := RX1) (T := TX1) (N := 8) hx hb hts hinX1 hown hK hP 0 rfl rfl 7 (by decide) (hts (.fieldLink RX1 19 "AlarmBenchModel" "wasDue" "I") (by decide +kernel)) (fun _ h9 => h9) rfl dX1_wasDue_6 ?_
  exact W.iret (v := wd) hx hb hr (fun t9 ht9 hW9 => ⟨⟨_, (0, nw, rk, K, E, L, td, wd), rfl, ⟨rfl, rfl⟩, by rw [ht9]; exact hP, va_K.moved hW9.alike hK, hD⟩, hS.F ht9⟩) hS.2.2 dX1_wasDue_9
set_option maxHeartbeats 4000000 in
set_option maxRecDepth 100000 in
/-- reference: time -/
theorem m_time (l : Launch) (D : va_G) (h1 b1 b2 b3 : Nat) (cJ : ClassId) (cd nw rk : Int32) (K E L : Nat → Int32) (td wd : Int32) (sz : Nat)  : Met l yX1_time wsX1_time ({ frames := 0, cells := 0, slots := 0, locals := 0 } : Room) (kz_Pc D vwCl (mdT cJ) (mdW h1 b1 b2 b3 cJ cd nw rk K E L td wd) sz [.ref h1]) (va_Qi (fun (r : Int32) (u : MDs) => r = nw ∧ u = (0, nw, rk, K, E, L, td, wd)) (kz_B D vwCl (mdT cJ) (mdU h1 b1 b2 b3 cJ) (va_A (mdW h1 b1 b2 b3 cJ cd nw rk K E L td wd) sz)) (va_A (mdW h1 b1 b2 b3 cJ cd nw rk K E L td wd) sz)) 0 0 (va_A (mdW h1 b1 b2 b3 cJ cd nw rk K E L td wd) sz) := by
  refine Met.ofW (cc := cX1_time) (maxL := 1) (ret := some .int) (by decide) rfl ?_
  intro p e s m args below meth c s₁ B hml hv
  obtain ⟨rfl, hsz, hP, hK, hD0⟩ := hv
  have hx := B.exec
  have hb := B.bytes
  have hr := B.returns
  have hts := atoms_spec (ws := wsX1_time) B.pre
  have hown : s.vm.findClass RX1 = some m.cls := findClass_of_methodNamed B.named
  have hlocks := B.notSynchronized
  have hinX1 : ∀ w ∈ wsX10, w ∈ wsX1_time := by decide +kernel
  subst hsz
  have hD := hD0.self (sz := s.heap.size)
  generalize hAe : va_A (mdW h1 b1 b2 b3 cJ cd nw rk K E L td wd) s.heap.size = A at hD ⊢
  have hA : ∀ q : Nat, s.heap.size ≤ q → A q := fun q h => by rw [← hAe]; exact Or.inr h
  have hS : va_S A s.heap s.heap [] := va_S.rf
  refine kz_enter [.ref h1] (Nat.le_of_ble_eq_true rfl) (fun ls hl => ?_)
  have hl : lv_has ls 1 [(0, .ref h1)] := hl
  refine lv_aload_n hx hb dX1_time_0 rfl (lv_at hl 0 rfl) ?_
  refine lv_iconst (v := 0) hx hb dX1_time_1 (by decide) ?_
  refine va_put (ci := 1) (v := .int 0) (ty := .int) (C := RX1) (T := TX1) (N := 8) hx hb hts hinX1 tyX1 tyX1_ok nmX1 hown hK hP hD hS 0 rfl rfl 0 (by decide) (hts (.fieldLink RX1 23 "AlarmBenchModel" "code" "I") (by decide +kernel)) (fun _ h9 => h9) rfl (by decide +kernel) rfl rfl (Nat.le_of_ble_eq_true rfl) dX1_time_2 (fun H locs hP hD hS => ?_)
  have hP : va_P D vwCl (mdW h1 b1 b2 b3 cJ 0 nw rk K E L td wd) H := hP
  have hD : va_D A (mdW h1 b1 b2 b3 cJ 0 nw rk K E L td wd) := hD
  refine lv_aload_n hx hb dX1_time_5 rfl (lv_at hl 0 rfl) ?_
  refine va_get (ci := 1) (v := .int nw) (C := RX1) (T := TX1) (N := 8) hx hb hts hinX1 hown hK hP 0 rfl rfl 1 (by decide) (hts (.fieldLink RX1 29 "AlarmBenchModel" "now" "I") (by decide +kernel)) (fun _ h9 => h9) rfl dX1_time_6 ?_
  exact W.iret (v := nw) hx hb hr (fun t9 ht9 hW9 => ⟨⟨_, (0, nw, rk, K, E, L, td, wd), rfl, ⟨rfl, rfl⟩, by rw [ht9]; exact hP, va_K.moved hW9.alike hK, hD⟩, hS.F ht9⟩) hS.2.2 dX1_time_9
set_option maxHeartbeats 4000000 in
set_option maxRecDepth 100000 in
/-- reference: next -/
theorem m_next (l : Launch) (D : va_G) (h1 b1 b2 b3 : Nat) (cJ : ClassId) (cd nw rk : Int32) (K E L : Nat → Int32) (td wd : Int32) (sz : Nat)  : Met l yX1_next wsX1_next ({ frames := 1, cells := 0, slots := 0, locals := 23 } : Room) (kz_Pc D vwCl (mdT cJ) (mdW h1 b1 b2 b3 cJ cd nw rk K E L td wd) sz [.ref h1]) (va_Qi (fun (r : Int32) (u : MDs) => r = (match ab_fst (md_S K) E K 512 with | none => -1 | some k => E k) ∧ u = (0, nw, rk, K, E, L, td, wd)) (kz_B D vwCl (mdT cJ) (mdU h1 b1 b2 b3 cJ) (va_A (mdW h1 b1 b2 b3 cJ cd nw rk K E L td wd) sz)) (va_A (mdW h1 b1 b2 b3 cJ cd nw rk K E L td wd) sz)) 0 0 (va_A (mdW h1 b1 b2 b3 cJ cd nw rk K E L td wd) sz) := by
  refine Met.ofW (cc := cX1_next) (maxL := 2) (ret := some .int) (by decide) rfl ?_
  intro p e s m args below meth c s₁ B hml hv
  obtain ⟨rfl, hsz, hP, hK, hD0⟩ := hv
  have hx := B.exec
  have hb := B.bytes
  have hr := B.returns
  have hts := atoms_spec (ws := wsX1_next) B.pre
  have hown : s.vm.findClass RX1 = some m.cls := findClass_of_methodNamed B.named
  have hlocks := B.notSynchronized
  have hinX1 : ∀ w ∈ wsX10, w ∈ wsX1_next := by decide +kernel
  subst hsz
  have hD := hD0.self (sz := s.heap.size)
  generalize hAe : va_A (mdW h1 b1 b2 b3 cJ cd nw rk K E L td wd) s.heap.size = A at hD ⊢
  have hA : ∀ q : Nat, s.heap.size ≤ q → A q := fun q h => by rw [← hAe]; exact Or.inr h
  have hS : va_S A s.heap s.heap [] := va_S.rf
  refine kz_enter [.ref h1] (Nat.le_of_ble_eq_true rfl) (fun ls hl => ?_)
  have hl : lv_has ls 2 [(0, .ref h1)] := hl
  refine lv_aload_n hx hb dX1_next_0 rfl (lv_at hl 0 rfl) ?_
  refine lv_iconst (v := 0) hx hb dX1_next_1 (by decide) ?_
  refine va_put (ci := 1) (v := .int 0) (ty := .int) (C := RX1) (T := TX1) (N := 8) hx hb hts hinX1 tyX1 tyX1_ok nmX1 hown hK hP hD hS 0 rfl rfl 0 (by decide) (hts (.fieldLink RX1 23 "AlarmBenchModel" "code" "I") (by decide +kernel)) (fun _ h9 => h9) rfl (by decide +kernel) rfl rfl (Nat.le_of_ble_eq_true rfl) dX1_next_2 (fun H locs hP hD hS => ?_)
  have hP : va_P D vwCl (mdW h1 b1 b2 b3 cJ 0 nw rk K E L td wd) H := hP
  have hD : va_D A (mdW h1 b1 b2 b3 cJ 0 nw rk K E L td wd) := hD
  refine lv_aload_n hx hb dX1_next_5 rfl (lv_at hl 0 rfl) ?_
  refine kz_callR (As := []) (rest := []) ⟨hx, hb, hml, hown, hts⟩ (m_first l D h1 b1 b2 b3 cJ 0 nw rk K E L td wd) (cwV 0 hts gX1_next_X1_first rfl rfl rfl (by decide +kernel) ⟨Nat.le_of_ble_eq_true rfl, Nat.le_of_ble_eq_true rfl⟩) hP hK (va_recv hK hP (ci := 1) (q0 := 0) rfl rfl) rfl hl.1 rfl (Nat.le_of_ble_eq_true rfl) dX1_next_6 ⟨Nat.zero_le _, Nat.zero_le _⟩ (fun r_1 hr_2 => ?_)
  subst hr_2
  refine lv_istore_n (lv' := [(1, .int (oI (ab_fst (md_S K) E K 512))), (0, .ref h1)]) hx hb dX1_next_9 rfl hl (by decide) rfl (fun ls hl => ?_)
  refine lv_iload_n hx hb dX1_next_10 rfl (lv_at hl 0 rfl) ?_
  refine lv_if_ge (tgt := 18) hx hb dX1_next_11 (by decide) (fun c_11 => ?_) (fun c_11 => ?_)
  · obtain ⟨j0, hj0⟩ := oI_pos (Int32.not_lt.mpr c_11)
    have hk : j0 < 512 := (ab_fst_lt hj0).1
    rw [hj0] at hl
    have hl : lv_has ls 2 [(1, .int (nI j0)), (0, .ref h1)] := hl
    refine lv_aload_n hx hb dX1_next_18 rfl (lv_at hl 1 rfl) ?_
    refine va_get (ci := 1) (v := .ref b2) (C := RX1) (T := TX1) (N := 8) hx hb hts hinX1 hown hK hP 0 rfl rfl 4 (by decide) (hts (.fieldLink RX1 13 "AlarmBenchModel" "due" "[I") (by decide +kernel)) (fun _ h9 => h9) rfl dX1_next_19 ?_
    refine lv_iload_n hx hb dX1_next_22 rfl (lv_at hl 0 rfl) ?_
    refine kz_iald hx hb hK hP 2 0 rfl rfl hk (by decide) dX1_next_23 ?_
    exact W.iret (v := E j0) hx hb hr (fun t9 ht9 hW9 => ⟨⟨_, (0, nw, rk, K, E, L, td, wd), rfl, ⟨by rw [hj0], rfl⟩, by rw [ht9]; exact hP, va_K.moved hW9.alike hK, hD⟩, hS.F ht9⟩) hS.2.2 dX1_next_24
  · have hn0 := oI_neg (Int32.not_le.mp c_11) (fun j hj => Nat.lt_trans (ab_fst_lt hj).1 (by decide))
    refine lv_iconst (v := -1) hx hb dX1_next_14 (by decide) ?_
    refine lv_goto (tgt := 24) hx hb dX1_next_15 (by decide) ?_
    exact W.iret (v := (-1)) hx hb hr (fun t9 ht9 hW9 => ⟨⟨_, (0, nw, rk, K, E, L, td, wd), rfl, ⟨by rw [hn0], rfl⟩, by rw [ht9]; exact hP, va_K.moved hW9.alike hK, hD⟩, hS.F ht9⟩) hS.2.2 dX1_next_24
set_option maxHeartbeats 4000000 in
set_option maxRecDepth 100000 in
/-- reference: ring -/
theorem m_ring (l : Launch) (D : va_G) (h1 b1 b2 b3 : Nat) (cJ : ClassId) (cd nw rk : Int32) (K E L : Nat → Int32) (td wd : Int32) (sz : Nat)  : Met l yX1_ring wsX1_ring ({ frames := 1, cells := 0, slots := 0, locals := 23 } : Room) (kz_Pc D vwCl (mdT cJ) (mdW h1 b1 b2 b3 cJ cd nw rk K E L td wd) sz [.ref h1]) (va_Qi (fun (r : Int32) (u : MDs) => (match ab_fst (md_S K) E K 512 with | none => r = -1 ∧ u = (0, nw, rk, K, E, L, td, wd) | some k => (E k ≤ nw → r = nI k ∧ u = (0, nw, rk, upd K k 0, E, L, L k, E k)) ∧ (¬ E k ≤ nw → r = -1 ∧ u = (0, nw, rk, K, E, L, td, wd)))) (kz_B D vwCl (mdT cJ) (mdU h1 b1 b2 b3 cJ) (va_A (mdW h1 b1 b2 b3 cJ cd nw rk K E L td wd) sz)) (va_A (mdW h1 b1 b2 b3 cJ cd nw rk K E L td wd) sz)) 0 0 (va_A (mdW h1 b1 b2 b3 cJ cd nw rk K E L td wd) sz) := by
  refine Met.ofW (cc := cX1_ring) (maxL := 2) (ret := some .int) (by decide) rfl ?_
  intro p e s m args below meth c s₁ B hml hv
  obtain ⟨rfl, hsz, hP, hK, hD0⟩ := hv
  have hx := B.exec
  have hb := B.bytes
  have hr := B.returns
  have hts := atoms_spec (ws := wsX1_ring) B.pre
  have hown : s.vm.findClass RX1 = some m.cls := findClass_of_methodNamed B.named
  have hlocks := B.notSynchronized
  have hinX1 : ∀ w ∈ wsX10, w ∈ wsX1_ring := by decide +kernel
  subst hsz
  have hD := hD0.self (sz := s.heap.size)
  generalize hAe : va_A (mdW h1 b1 b2 b3 cJ cd nw rk K E L td wd) s.heap.size = A at hD ⊢
  have hA : ∀ q : Nat, s.heap.size ≤ q → A q := fun q h => by rw [← hAe]; exact Or.inr h
  have hS : va_S A s.heap s.heap [] := va_S.rf
  refine kz_enter [.ref h1] (Nat.le_of_ble_eq_true rfl) (fun ls hl => ?_)
  have hl : lv_has ls 2 [(0, .ref h1)] := hl
  refine lv_aload_n hx hb dX1_ring_0 rfl (lv_at hl 0 rfl) ?_
  refine lv_iconst (v := 0) hx hb dX1_ring_1 (by decide) ?_
  refine va_put (ci := 1) (v := .int 0) (ty := .int) (C := RX1) (T := TX1) (N := 8) hx hb hts hinX1 tyX1 tyX1_ok nmX1 hown hK hP hD hS 0 rfl rfl 0 (by decide) (hts (.fieldLink RX1 23 "AlarmBenchModel" "code" "I") (by decide +kernel)) (fun _ h9 => h9) rfl (by decide +kernel) rfl rfl (Nat.le_of_ble_eq_true rfl) dX1_ring_2 (fun H locs hP hD hS => ?_)
  have hP : va_P D vwCl (mdW h1 b1 b2 b3 cJ 0 nw rk K E L td wd) H := hP
  have hD : va_D A (mdW h1 b1 b2 b3 cJ 0 nw rk K E L td wd) := hD
  refine lv_aload_n hx hb dX1_ring_5 rfl (lv_at hl 0 rfl) ?_
  refine kz_callR (As := []) (rest := []) ⟨hx, hb, hml, hown, hts⟩ (m_first l D h1 b1 b2 b3 cJ 0 nw rk K E L td wd) (cwV 0 hts gX1_ring_X1_first rfl rfl rfl (by decide +kernel) ⟨Nat.le_of_ble_eq_true rfl, Nat.le_of_ble_eq_true rfl⟩) hP hK (va_recv hK hP (ci := 1) (q0 := 0) rfl rfl) rfl hl.1 rfl (Nat.le_of_ble_eq_true rfl) dX1_ring_6 ⟨Nat.zero_le _, Nat.zero_le _⟩ (fun r_1 hr_2 => ?_)
  subst hr_2
  refine lv_istore_n (lv' := [(1, .int (oI (ab_fst (md_S K) E K 512))), (0, .ref h1)]) hx hb dX1_ring_9 rfl hl (by decide) rfl (fun ls hl => ?_)
  refine lv_iload_n hx hb dX1_ring_10 rfl (lv_at hl 0 rfl) ?_
  refine lv_if_lt (tgt := 27) hx hb dX1_ring_11 (by decide) (fun c_11 => ?_) (fun c_11 => ?_)
  · have hn0 := oI_neg c_11 (fun j hj => Nat.lt_trans (ab_fst_lt hj).1 (by decide))
    refine lv_iconst (v := -1) hx hb dX1_ring_27 (by decide) ?_
    exact W.iret (v := (-1)) hx hb hr (fun t9 ht9 hW9 => ⟨⟨_, (0, nw, rk, K, E, L, td, wd), rfl, by rw [hn0]; exact ⟨rfl, rfl⟩, by rw [ht9]; exact hP, va_K.moved hW9.alike hK, hD⟩, hS.F ht9⟩) hS.2.2 dX1_ring_28
  · obtain ⟨j0, hj0⟩ := oI_pos c_11
    have hk : j0 < 512 := (ab_fst_lt hj0).1
    rw [hj0] at hl
    have hl : lv_has ls 2 [(1, .int (nI j0)), (0, .ref h1)] := hl
    refine lv_aload_n hx hb dX1_ring_14 rfl (lv_at hl 1 rfl) ?_
    refine va_get (ci := 1) (v := .ref b2) (C := RX1) (T := TX1) (N := 8) hx hb hts hinX1 hown hK hP 0 rfl rfl 4 (by decide) (hts (.fieldLink RX1 13 "AlarmBenchModel" "due" "[I") (by decide +kernel)) (fun _ h9 => h9) rfl dX1_ring_15 ?_
    refine lv_iload_n hx hb dX1_ring_18 rfl (lv_at hl 0 rfl) ?_
    refine kz_iald hx hb hK hP 2 0 rfl rfl hk (by decide) dX1_ring_19 ?_
    refine lv_aload_n hx hb dX1_ring_20 rfl (lv_at hl 1 rfl) ?_
    refine va_get (ci := 1) (v := .int nw) (C := RX1) (T := TX1) (N := 8) hx hb hts hinX1 hown hK hP 0 rfl rfl 1 (by decide) (hts (.fieldLink RX1 29 "AlarmBenchModel" "now" "I") (by decide +kernel)) (fun _ h9 => h9) rfl dX1_ring_21 ?_
    refine lv_icmp_le (tgt := 29) hx hb dX1_ring_24 (by decide) (fun c_24 => ?_) (fun c_24 => ?_)
    · refine lv_aload_n hx hb dX1_ring_29 rfl (lv_at hl 1 rfl) ?_
      refine lv_aload_n hx hb dX1_ring_30 rfl (lv_at hl 1 rfl) ?_
      refine va_get (ci := 1) (v := .ref b3) (C := RX1) (T := TX1) (N := 8) hx hb hts hinX1 hown hK hP 0 rfl rfl 5 (by decide) (hts (.fieldLink RX1 16 "AlarmBenchModel" "tells" "[I") (by decide +kernel)) (fun _ h9 => h9) rfl dX1_ring_31 ?_
      refine lv_iload_n hx hb dX1_ring_34 rfl (lv_at hl 0 rfl) ?_
      refine kz_iald hx hb hK hP 3 0 rfl rfl hk (by decide) dX1_ring_35 ?_
      refine va_put (ci := 1) (v := .int (L j0)) (ty := .int) (C := RX1) (T := TX1) (N := 8) hx hb hts hinX1 tyX1 tyX1_ok nmX1 hown hK hP hD hS 0 rfl rfl 6 (by decide) (hts (.fieldLink RX1 46 "AlarmBenchModel" "told" "I") (by decide +kernel)) (fun _ h9 => h9) rfl (by decide +kernel) rfl rfl (Nat.le_of_ble_eq_true rfl) dX1_ring_36 (fun H locs hP hD hS => ?_)
      have hP : va_P D vwCl (mdW h1 b1 b2 b3 cJ 0 nw rk K E L (L j0) wd) H := hP
      have hD : va_D A (mdW h1 b1 b2 b3 cJ 0 nw rk K E L (L j0) wd) := hD
      refine lv_aload_n hx hb dX1_ring_39 rfl (lv_at hl 1 rfl) ?_
      refine lv_aload_n hx hb dX1_ring_40 rfl (lv_at hl 1 rfl) ?_
      refine va_get (ci := 1) (v := .ref b2) (C := RX1) (T := TX1) (N := 8) hx hb hts hinX1 hown hK hP 0 rfl rfl 4 (by decide) (hts (.fieldLink RX1 13 "AlarmBenchModel" "due" "[I") (by decide +kernel)) (fun _ h9 => h9) rfl dX1_ring_41 ?_
      refine lv_iload_n hx hb dX1_ring_44 rfl (lv_at hl 0 rfl) ?_
      refine kz_iald hx hb hK hP 2 0 rfl rfl hk (by decide) dX1_ring_45 ?_
      refine va_put (ci := 1) (v := .int (E j0)) (ty := .int) (C := RX1) (T := TX1) (N := 8) hx hb hts hinX1 tyX1 tyX1_ok nmX1 hown hK hP hD hS 0 rfl rfl 7 (by decide) (hts (.fieldLink RX1 19 "AlarmBenchModel" "wasDue" "I") (by decide +kernel)) (fun _ h9 => h9) rfl (by decide +kernel) rfl rfl (Nat.le_of_ble_eq_true rfl) dX1_ring_46 (fun H locs hP hD hS => ?_)
      have hP : va_P D vwCl (mdW h1 b1 b2 b3 cJ 0 nw rk K E L (L j0) (E j0)) H := hP
      have hD : va_D A (mdW h1 b1 b2 b3 cJ 0 nw rk K E L (L j0) (E j0)) := hD
      refine lv_aload_n hx hb dX1_ring_49 rfl (lv_at hl 1 rfl) ?_
      refine va_get (ci := 1) (v := .ref b1) (C := RX1) (T := TX1) (N := 8) hx hb hts hinX1 hown hK hP 0 rfl rfl 3 (by decide) (hts (.fieldLink RX1 7 "AlarmBenchModel" "rank" "[I") (by decide +kernel)) (fun _ h9 => h9) rfl dX1_ring_50 ?_
      refine lv_iload_n hx hb dX1_ring_53 rfl (lv_at hl 0 rfl) ?_
      refine lv_iconst (v := 0) hx hb dX1_ring_54 (by decide) ?_
      refine kz_iast hx hb hK hP hD hS 1 0 rfl rfl hk (by decide) dX1_ring_55 (fun H locs hP hD hS => ?_)
      have hP : va_P D vwCl (mdW h1 b1 b2 b3 cJ 0 nw rk (upd K j0 0) E L (L j0) (E j0)) H := hP
      have hD : va_D A (mdW h1 b1 b2 b3 cJ 0 nw rk (upd K j0 0) E L (L j0) (E j0)) := hD
      refine lv_iload_n hx hb dX1_ring_56 rfl (lv_at hl 0 rfl) ?_
      exact W.iret (v := nI j0) hx hb hr (fun t9 ht9 hW9 => ⟨⟨_, (0, nw, rk, upd K j0 0, E, L, L j0, E j0), rfl, by rw [hj0]; exact ⟨fun _ => ⟨rfl, rfl⟩, fun h9 => absurd c_24 h9⟩, by rw [ht9]; exact hP, va_K.moved hW9.alike hK, hD⟩, hS.F ht9⟩) hS.2.2 dX1_ring_57
    · refine lv_iconst (v := -1) hx hb dX1_ring_27 (by decide) ?_
      exact W.iret (v := (-1)) hx hb hr (fun t9 ht9 hW9 => ⟨⟨_, (0, nw, rk, K, E, L, td, wd), rfl, by rw [hj0]; exact ⟨fun h9 => absurd h9 c_24, fun _ => ⟨rfl, rfl⟩⟩, by rw [ht9]; exact hP, va_K.moved hW9.alike hK, hD⟩, hS.F ht9⟩) hS.2.2 dX1_ring_28
end
section
set_option maxHeartbeats 4000000 in
set_option maxRecDepth 100000 in
/-- reference: count -/
theorem m_count (l : Launch) (D : va_G) (h1 b1 b2 b3 : Nat) (cJ : ClassId) (cd nw rk : Int32) (K E L : Nat → Int32) (td wd : Int32) (sz : Nat) (b : Int32) : Met l yX1_count wsX1_count ({ frames := 0, cells := 0, slots := 0, locals := 0 } : Room) (kz_Pc D vwCl (mdT cJ) (mdW h1 b1 b2 b3 cJ cd nw rk K E L td wd) sz [.ref h1, .int b]) (va_Qi (fun (r : Int32) (u : MDs) => r = nI (ab_cnt (fun j => !decide (K j ≤ 0) && (decide (b = 0) || decide (E j ≤ nw))) 512) ∧ u = (0, nw, rk, K, E, L, td, wd)) (kz_B D vwCl (mdT cJ) (mdU h1 b1 b2 b3 cJ) (va_A (mdW h1 b1 b2 b3 cJ cd nw rk K E L td wd) sz)) (va_A (mdW h1 b1 b2 b3 cJ cd nw rk K E L td wd) sz)) 0 0 (va_A (mdW h1 b1 b2 b3 cJ cd nw rk K E L td wd) sz) := by
  refine Met.ofW (cc := cX1_count) (maxL := 4) (ret := some .int) (by decide) rfl ?_
  intro p e s m args below meth c s₁ B hml hv
  obtain ⟨rfl, hsz, hP, hK, hD0⟩ := hv
  have hx := B.exec
  have hb := B.bytes
  have hr := B.returns
  have hts := atoms_spec (ws := wsX1_count) B.pre
  have hown : s.vm.findClass RX1 = some m.cls := findClass_of_methodNamed B.named
  have hlocks := B.notSynchronized
  have hinX1 : ∀ w ∈ wsX10, w ∈ wsX1_count := by decide +kernel
  subst hsz
  have hD := hD0.self (sz := s.heap.size)
  generalize hAe : va_A (mdW h1 b1 b2 b3 cJ cd nw rk K E L td wd) s.heap.size = A at hD ⊢
  have hA : ∀ q : Nat, s.heap.size ≤ q → A q := fun q h => by rw [← hAe]; exact Or.inr h
  have hS : va_S A s.heap s.heap [] := va_S.rf
  refine kz_enter [.ref h1, .int b] (Nat.le_of_ble_eq_true rfl) (fun ls hl => ?_)
  have hl : lv_has ls 4 [(0, .ref h1), (1, .int b)] := hl
  refine lv_aload_n hx hb dX1_count_0 rfl (lv_at hl 0 rfl) ?_
  refine lv_iconst (v := 0) hx hb dX1_count_1 (by decide) ?_
  refine va_put (ci := 1) (v := .int 0) (ty := .int) (C := RX1) (T := TX1) (N := 8) hx hb hts hinX1 tyX1 tyX1_ok nmX1 hown hK hP hD hS 0 rfl rfl 0 (by decide) (hts (.fieldLink RX1 23 "AlarmBenchModel" "code" "I") (by decide +kernel)) (fun _ h9 => h9) rfl (by decide +kernel) rfl rfl (Nat.le_of_ble_eq_true rfl) dX1_count_2 (fun H locs hP hD hS => ?_)
  have hP : va_P D vwCl (mdW h1 b1 b2 b3 cJ 0 nw rk K E L td wd) H := hP
  have hD : va_D A (mdW h1 b1 b2 b3 cJ 0 nw rk K E L td wd) := hD
  refine lv_iconst (v := 0) hx hb dX1_count_5 (by decide) ?_
  refine lv_istore_n (lv' := [(2, .int 0), (0, .ref h1), (1, .int b)]) hx hb dX1_count_6 rfl hl (by decide) rfl (fun ls hl => ?_)
  refine lv_iconst (v := 0) hx hb dX1_count_7 (by decide) ?_
  refine lv_istore_n (lv' := [(3, .int 0), (2, .int 0), (0, .ref h1), (1, .int b)]) hx hb dX1_count_8 rfl hl (by decide) rfl (fun ls hl => ?_)
  refine kz_loop (G := fun ls : Array Slot => W p l e _ s m _ below meth c H locs 0 0 _ (F0 m 9 ls [])) (I := fun k ls => lv_has ls 4 [(3, .int (nI k)), (2, .int (nI (ab_cnt (fun j => !decide (K j ≤ 0) && (decide (b = 0) || decide (E j ≤ nw))) k))), (0, .ref h1), (1, .int b)]) 512 ?_ ?_ 0 (Nat.zero_le _) ls (lv_sub hl [0, 1, 2, 3] rfl)
  · intro k ls hk hl ih
    refine lv_iload_n hx hb dX1_count_9 rfl (lv_at hl 0 rfl) ?_
    refine lv_sipush (v := 512) hx hb dX1_count_10 (by decide) ?_
    refine lv_icmp_ge (tgt := 56) hx hb dX1_count_13 (by decide) (fun c_13 => ?_) (fun c_13 => ?_)
    · exact absurd c_13 (nI_ge (a := k) (b := 512) hk (by decide))
    · refine lv_iload_n hx hb dX1_count_16 rfl (lv_at hl 1 rfl) ?_
      refine lv_aload_n hx hb dX1_count_17 rfl (lv_at hl 2 rfl) ?_
      refine va_get (ci := 1) (v := .ref b1) (C := RX1) (T := TX1) (N := 8) hx hb hts hinX1 hown hK hP 0 rfl rfl 3 (by decide) (hts (.fieldLink RX1 7 "AlarmBenchModel" "rank" "[I") (by decide +kernel)) (fun _ h9 => h9) rfl dX1_count_18 ?_
      refine lv_iload_n hx hb dX1_count_21 rfl (lv_at hl 0 rfl) ?_
      refine kz_iald hx hb hK hP 1 0 rfl rfl hk (by decide) dX1_count_22 ?_
      refine lv_if_le (tgt := 47) hx hb dX1_count_23 (by decide) (fun c_23 => ?_) (fun c_23 => ?_)
      · refine lv_iconst (v := 0) hx hb dX1_count_47 (by decide) ?_
        refine lv_iadd hx hb dX1_count_48 ?_
        rw [Int32.add_zero]
        refine lv_istore_n (lv' := [(2, .int (nI (ab_cnt (fun j => !decide (K j ≤ 0) && (decide (b = 0) || decide (E j ≤ nw))) k))), (3, .int (nI k)), (0, .ref h1), (1, .int b)]) hx hb dX1_count_49 rfl hl (by decide) rfl (fun ls hl => ?_)
        refine lv_iinc (v := nI (k + 1)) (lv' := [(3, .int (nI (k + 1))), (2, .int (nI (ab_cnt (fun j => !decide (K j ≤ 0) && (decide (b = 0) || decide (E j ≤ nw))) k))), (0, .ref h1), (1, .int b)]) hx hb dX1_count_50 hl (k := 1) rfl (kz_inc k) (by decide) rfl (fun ls hl => ?_)
        refine lv_goto (tgt := 9) hx hb dX1_count_53 (by decide) ?_
        exact ih ls (by rw [show ab_cnt (fun j => !decide (K j ≤ 0) && (decide (b = 0) || decide (E j ≤ nw))) (k + 1) = _ from ab_cnt_f (by simp [c_23])]; exact lv_sub hl [0, 1, 2, 3] rfl)
      · refine lv_iload_n hx hb dX1_count_26 rfl (lv_at hl 3 rfl) ?_
        refine lv_if_eq (tgt := 43) hx hb dX1_count_27 (by decide) (fun c_27 => ?_) (fun c_27 => ?_)
        · refine lv_iconst (v := 1) hx hb dX1_count_43 (by decide) ?_
          refine lv_goto (tgt := 48) hx hb dX1_count_44 (by decide) ?_
          refine lv_iadd hx hb dX1_count_48 ?_
          rw [nI_1]
          refine lv_istore_n (lv' := [(2, .int (nI (ab_cnt (fun j => !decide (K j ≤ 0) && (decide (b = 0) || decide (E j ≤ nw))) k + 1))), (3, .int (nI k)), (0, .ref h1), (1, .int b)]) hx hb dX1_count_49 rfl hl (by decide) rfl (fun ls hl => ?_)
          refine lv_iinc (v := nI (k + 1)) (lv' := [(3, .int (nI (k + 1))), (2, .int (nI (ab_cnt (fun j => !decide (K j ≤ 0) && (decide (b = 0) || decide (E j ≤ nw))) k + 1))), (0, .ref h1), (1, .int b)]) hx hb dX1_count_50 hl (k := 1) rfl (kz_inc k) (by decide) rfl (fun ls hl => ?_)
          refine lv_goto (tgt := 9) hx hb dX1_count_53 (by decide) ?_
          exact ih ls (by rw [show ab_cnt (fun j => !decide (K j ≤ 0) && (decide (b = 0) || decide (E j ≤ nw))) (k + 1) = _ from ab_cnt_t (by simp [c_23, c_27])]; exact lv_sub hl [0, 1, 2, 3] rfl)
        · refine lv_aload_n hx hb dX1_count_30 rfl (lv_at hl 2 rfl) ?_
          refine va_get (ci := 1) (v := .ref b2) (C := RX1) (T := TX1) (N := 8) hx hb hts hinX1 hown hK hP 0 rfl rfl 4 (by decide) (hts (.fieldLink RX1 13 "AlarmBenchModel" "due" "[I") (by decide +kernel)) (fun _ h9 => h9) rfl dX1_count_31 ?_
          refine lv_iload_n hx hb dX1_count_34 rfl (lv_at hl 0 rfl) ?_
          refine kz_iald hx hb hK hP 2 0 rfl rfl hk (by decide) dX1_count_35 ?_
          refine lv_aload_n hx hb dX1_count_36 rfl (lv_at hl 2 rfl) ?_
          refine va_get (ci := 1) (v := .int nw) (C := RX1) (T := TX1) (N := 8) hx hb hts hinX1 hown hK hP 0 rfl rfl 1 (by decide) (hts (.fieldLink RX1 29 "AlarmBenchModel" "now" "I") (by decide +kernel)) (fun _ h9 => h9) rfl dX1_count_37 ?_
          refine lv_icmp_gt (tgt := 47) hx hb dX1_count_40 (by decide) (fun c_40 => ?_) (fun c_40 => ?_)
          · refine lv_iconst (v := 0) hx hb dX1_count_47 (by decide) ?_
            refine lv_iadd hx hb dX1_count_48 ?_
            rw [Int32.add_zero]
            refine lv_istore_n (lv' := [(2, .int (nI (ab_cnt (fun j => !decide (K j ≤ 0) && (decide (b = 0) || decide (E j ≤ nw))) k))), (3, .int (nI k)), (0, .ref h1), (1, .int b)]) hx hb dX1_count_49 rfl hl (by decide) rfl (fun ls hl => ?_)
            refine lv_iinc (v := nI (k + 1)) (lv' := [(3, .int (nI (k + 1))), (2, .int (nI (ab_cnt (fun j => !decide (K j ≤ 0) && (decide (b = 0) || decide (E j ≤ nw))) k))), (0, .ref h1), (1, .int b)]) hx hb dX1_count_50 hl (k := 1) rfl (kz_inc k) (by decide) rfl (fun ls hl => ?_)
            refine lv_goto (tgt := 9) hx hb dX1_count_53 (by decide) ?_
            exact ih ls (by rw [show ab_cnt (fun j => !decide (K j ≤ 0) && (decide (b = 0) || decide (E j ≤ nw))) (k + 1) = _ from ab_cnt_f (by simp [c_27, Int32.not_le.mpr c_40])]; exact lv_sub hl [0, 1, 2, 3] rfl)
          · refine lv_iconst (v := 1) hx hb dX1_count_43 (by decide) ?_
            refine lv_goto (tgt := 48) hx hb dX1_count_44 (by decide) ?_
            refine lv_iadd hx hb dX1_count_48 ?_
            rw [nI_1]
            refine lv_istore_n (lv' := [(2, .int (nI (ab_cnt (fun j => !decide (K j ≤ 0) && (decide (b = 0) || decide (E j ≤ nw))) k + 1))), (3, .int (nI k)), (0, .ref h1), (1, .int b)]) hx hb dX1_count_49 rfl hl (by decide) rfl (fun ls hl => ?_)
            refine lv_iinc (v := nI (k + 1)) (lv' := [(3, .int (nI (k + 1))), (2, .int (nI (ab_cnt (fun j => !decide (K j ≤ 0) && (decide (b = 0) || decide (E j ≤ nw))) k + 1))), (0, .ref h1), (1, .int b)]) hx hb dX1_count_50 hl (k := 1) rfl (kz_inc k) (by decide) rfl (fun ls hl => ?_)
            refine lv_goto (tgt := 9) hx hb dX1_count_53 (by decide) ?_
            exact ih ls (by rw [show ab_cnt (fun j => !decide (K j ≤ 0) && (decide (b = 0) || decide (E j ≤ nw))) (k + 1) = _ from ab_cnt_t (by simp [c_23, Int32.not_lt.mp c_40])]; exact lv_sub hl [0, 1, 2, 3] rfl)
  · intro ls hl
    refine lv_iload_n hx hb dX1_count_9 rfl (lv_at hl 0 rfl) ?_
    refine lv_sipush (v := 512) hx hb dX1_count_10 (by decide) ?_
    refine lv_icmp_ge (tgt := 56) hx hb dX1_count_13 (by decide) (fun c_13 => ?_) (fun c_13 => ?_)
    · refine lv_iload_n hx hb dX1_count_56 rfl (lv_at hl 1 rfl) ?_
      exact W.iret (v := nI (ab_cnt (fun j => !decide (K j ≤ 0) && (decide (b = 0) || decide (E j ≤ nw))) 512)) hx hb hr (fun t9 ht9 hW9 => ⟨⟨_, (0, nw, rk, K, E, L, td, wd), rfl, ⟨rfl, rfl⟩, by rw [ht9]; exact hP, va_K.moved hW9.alike hK, hD⟩, hS.F ht9⟩) hS.2.2 dX1_count_57
    · exact absurd (Int32.le_refl _) c_13
set_option maxHeartbeats 4000000 in
set_option maxRecDepth 100000 in
/-- reference: stopAll -/
theorem m_stopAll (l : Launch) (D : va_G) (h1 b1 b2 b3 : Nat) (cJ : ClassId) (cd nw rk : Int32) (K E L : Nat → Int32) (td wd : Int32) (sz : Nat) (x : Int32) : Met l yX1_stopAll wsX1_stopAll ({ frames := 0, cells := 0, slots := 0, locals := 0 } : Room) (kz_Pc D vwCl (mdT cJ) (mdW h1 b1 b2 b3 cJ cd nw rk K E L td wd) sz [.ref h1, .int x]) (va_Qi (fun (r : Int32) (u : MDs) => r = nI (ab_cnt (fun j => !decide (K j ≤ 0) && decide (L j = x)) 512) ∧ u = (0, nw, rk, md_sa K L x 512, E, L, td, wd)) (kz_B D vwCl (mdT cJ) (mdU h1 b1 b2 b3 cJ) (va_A (mdW h1 b1 b2 b3 cJ cd nw rk K E L td wd) sz)) (va_A (mdW h1 b1 b2 b3 cJ cd nw rk K E L td wd) sz)) 0 0 (va_A (mdW h1 b1 b2 b3 cJ cd nw rk K E L td wd) sz) := by
  refine Met.ofW (cc := cX1_stopAll) (maxL := 4) (ret := some .int) (by decide) rfl ?_
  intro p e s m args below meth c s₁ B hml hv
  obtain ⟨rfl, hsz, hP, hK, hD0⟩ := hv
  have hx := B.exec
  have hb := B.bytes
  have hr := B.returns
  have hts := atoms_spec (ws := wsX1_stopAll) B.pre
  have hown : s.vm.findClass RX1 = some m.cls := findClass_of_methodNamed B.named
  have hlocks := B.notSynchronized
  have hinX1 : ∀ w ∈ wsX10, w ∈ wsX1_stopAll := by decide +kernel
  subst hsz
  have hD := hD0.self (sz := s.heap.size)
  generalize hAe : va_A (mdW h1 b1 b2 b3 cJ cd nw rk K E L td wd) s.heap.size = A at hD ⊢
  have hA : ∀ q : Nat, s.heap.size ≤ q → A q := fun q h => by rw [← hAe]; exact Or.inr h
  have hS : va_S A s.heap s.heap [] := va_S.rf
  refine kz_enter [.ref h1, .int x] (Nat.le_of_ble_eq_true rfl) (fun ls hl => ?_)
  have hl : lv_has ls 4 [(0, .ref h1), (1, .int x)] := hl
  refine lv_aload_n hx hb dX1_stopAll_0 rfl (lv_at hl 0 rfl) ?_
  refine lv_iconst (v := 0) hx hb dX1_stopAll_1 (by decide) ?_
  refine va_put (ci := 1) (v := .int 0) (ty := .int) (C := RX1) (T := TX1) (N := 8) hx hb hts hinX1 tyX1 tyX1_ok nmX1 hown hK hP hD hS 0 rfl rfl 0 (by decide) (hts (.fieldLink RX1 23 "AlarmBenchModel" "code" "I") (by decide +kernel)) (fun _ h9 => h9) rfl (by decide +kernel) rfl rfl (Nat.le_of_ble_eq_true rfl) dX1_stopAll_2 (fun H locs hP hD hS => ?_)
  have hP : va_P D vwCl (mdW h1 b1 b2 b3 cJ 0 nw rk K E L td wd) H := hP
  have hD : va_D A (mdW h1 b1 b2 b3 cJ 0 nw rk K E L td wd) := hD
  refine lv_iconst (v := 0) hx hb dX1_stopAll_5 (by decide) ?_
  refine lv_istore_n (lv' := [(2, .int 0), (0, .ref h1), (1, .int x)]) hx hb dX1_stopAll_6 rfl hl (by decide) rfl (fun ls hl => ?_)
  refine lv_iconst (v := 0) hx hb dX1_stopAll_7 (by decide) ?_
  refine lv_istore_n (lv' := [(3, .int 0), (2, .int 0), (0, .ref h1), (1, .int x)]) hx hb dX1_stopAll_8 rfl hl (by decide) rfl (fun ls hl => ?_)
  refine kz_loop (G := fun y : Heap × List Loc × Array Slot => W p l e _ s m _ below meth c y.1 y.2.1 0 0 _ (F0 m 9 y.2.2 [])) (I := fun k y => va_P D vwCl (mdW h1 b1 b2 b3 cJ 0 nw rk (md_sa K L x k) E L td wd) y.1 ∧ va_D A (mdW h1 b1 b2 b3 cJ 0 nw rk (md_sa K L x k) E L td wd) ∧ va_S A s.heap y.1 y.2.1 ∧ lv_has y.2.2 4 [(3, .int (nI k)), (2, .int (nI (ab_cnt (fun j => !decide (K j ≤ 0) && decide (L j = x)) k))), (0, .ref h1), (1, .int x)]) 512 ?_ ?_ 0 (Nat.zero_le _) (H, locs, ls) (by rw [md_sa_0]; exact ⟨hP, hD, hS, lv_sub hl [0, 1, 2, 3] rfl⟩)
  · intro k y hk hI ih
    obtain ⟨H, locs, ls⟩ := y
    obtain ⟨hP, hD, hS, hl⟩ := hI
    have hP : va_P D vwCl (mdW h1 b1 b2 b3 cJ 0 nw rk (md_sa K L x k) E L td wd) H := hP
    have hS : va_S A s.heap H locs := hS
    have hl : lv_has ls 4 [(3, .int (nI k)), (2, .int (nI (ab_cnt (fun j => !decide (K j ≤ 0) && decide (L j = x)) k))), (0, .ref h1), (1, .int x)] := hl
    show W p l e _ s m _ below meth c H locs 0 0 _ (F0 m 9 ls [])
    refine lv_iload_n hx hb dX1_stopAll_9 rfl (lv_at hl 0 rfl) ?_
    refine lv_sipush (v := 512) hx hb dX1_stopAll_10 (by decide) ?_
    refine lv_icmp_ge (tgt := 51) hx hb dX1_stopAll_13 (by decide) (fun c_13 => ?_) (fun c_13 => ?_)
    · exact absurd c_13 (nI_ge (a := k) (b := 512) hk (by decide))
    · refine lv_aload_n hx hb dX1_stopAll_16 rfl (lv_at hl 2 rfl) ?_
      refine va_get (ci := 1) (v := .ref b1) (C := RX1) (T := TX1) (N := 8) hx hb hts hinX1 hown hK hP 0 rfl rfl 3 (by decide) (hts (.fieldLink RX1 7 "AlarmBenchModel" "rank" "[I") (by decide +kernel)) (fun _ h9 => h9) rfl dX1_stopAll_17 ?_
      refine lv_iload_n hx hb dX1_stopAll_20 rfl (lv_at hl 0 rfl) ?_
      refine kz_iald hx hb hK hP 1 0 rfl rfl hk (by decide) dX1_stopAll_21 ?_
      rw [md_sa_at]
      refine lv_if_le (tgt := 45) hx hb dX1_stopAll_22 (by decide) (fun c_22 => ?_) (fun c_22 => ?_)
      · refine lv_iinc (v := nI (k + 1)) (lv' := [(3, .int (nI (k + 1))), (2, .int (nI (ab_cnt (fun j => !decide (K j ≤ 0) && decide (L j = x)) k))), (0, .ref h1), (1, .int x)]) hx hb dX1_stopAll_45 hl (k := 0) rfl (kz_inc k) (by decide) rfl (fun ls hl => ?_)
        refine lv_goto (tgt := 9) hx hb dX1_stopAll_48 (by decide) ?_
        exact ih (H, locs, ls) (by rw [md_sa_f (K := K) (L := L) (t := x) (k := k) (fun h9 => h9.1 c_22)] at hP hD; exact ⟨hP, hD, hS, by rw [show ab_cnt (fun j => !decide (K j ≤ 0) && decide (L j = x)) (k + 1) = _ from ab_cnt_f (by simp [c_22])]; exact lv_sub hl [0, 1, 2, 3] rfl⟩)
      · refine lv_aload_n hx hb dX1_stopAll_25 rfl (lv_at hl 2 rfl) ?_
        refine va_get (ci := 1) (v := .ref b3) (C := RX1) (T := TX1) (N := 8) hx hb hts hinX1 hown hK hP 0 rfl rfl 5 (by decide) (hts (.fieldLink RX1 16 "AlarmBenchModel" "tells" "[I") (by decide +kernel)) (fun _ h9 => h9) rfl dX1_stopAll_26 ?_
        refine lv_iload_n hx hb dX1_stopAll_29 rfl (lv_at hl 0 rfl) ?_
        refine kz_iald hx hb hK hP 3 0 rfl rfl hk (by decide) dX1_stopAll_30 ?_
        refine lv_iload_n hx hb dX1_stopAll_31 rfl (lv_at hl 3 rfl) ?_
        refine lv_icmp_ne (tgt := 45) hx hb dX1_stopAll_32 (by decide) (fun c_32 => ?_) (fun c_32 => ?_)
        · refine lv_iinc (v := nI (k + 1)) (lv' := [(3, .int (nI (k + 1))), (2, .int (nI (ab_cnt (fun j => !decide (K j ≤ 0) && decide (L j = x)) k))), (0, .ref h1), (1, .int x)]) hx hb dX1_stopAll_45 hl (k := 0) rfl (kz_inc k) (by decide) rfl (fun ls hl => ?_)
          refine lv_goto (tgt := 9) hx hb dX1_stopAll_48 (by decide) ?_
          exact ih (H, locs, ls) (by rw [md_sa_f (K := K) (L := L) (t := x) (k := k) (fun h9 => c_32 h9.2)] at hP hD; exact ⟨hP, hD, hS, by rw [show ab_cnt (fun j => !decide (K j ≤ 0) && decide (L j = x)) (k + 1) = _ from ab_cnt_f (by simp [c_32])]; exact lv_sub hl [0, 1, 2, 3] rfl⟩)
        · refine lv_aload_n hx hb dX1_stopAll_35 rfl (lv_at hl 2 rfl) ?_
          refine va_get (ci := 1) (v := .ref b1) (C := RX1) (T := TX1) (N := 8) hx hb hts hinX1 hown hK hP 0 rfl rfl 3 (by decide) (hts (.fieldLink RX1 7 "AlarmBenchModel" "rank" "[I") (by decide +kernel)) (fun _ h9 => h9) rfl dX1_stopAll_36 ?_
          refine lv_iload_n hx hb dX1_stopAll_39 rfl (lv_at hl 0 rfl) ?_
          refine lv_iconst (v := 0) hx hb dX1_stopAll_40 (by decide) ?_
          refine kz_iast hx hb hK hP hD hS 1 0 rfl rfl hk (by decide) dX1_stopAll_41 (fun H locs hP hD hS => ?_)
          rw [md_sa_t c_22 c_32] at hP hD
          have hP : va_P D vwCl (mdW h1 b1 b2 b3 cJ 0 nw rk (md_sa K L x (k + 1)) E L td wd) H := hP
          have hD : va_D A (mdW h1 b1 b2 b3 cJ 0 nw rk (md_sa K L x (k + 1)) E L td wd) := hD
          refine lv_iinc (v := nI (ab_cnt (fun j => !decide (K j ≤ 0) && decide (L j = x)) k + 1)) (lv' := [(2, .int (nI (ab_cnt (fun j => !decide (K j ≤ 0) && decide (L j = x)) k + 1))), (3, .int (nI k)), (0, .ref h1), (1, .int x)]) hx hb dX1_stopAll_42 hl (k := 1) rfl (kz_inc (ab_cnt (fun j => !decide (K j ≤ 0) && decide (L j = x)) k)) (by decide) rfl (fun ls hl => ?_)
          refine lv_iinc (v := nI (k + 1)) (lv' := [(3, .int (nI (k + 1))), (2, .int (nI (ab_cnt (fun j => !decide (K j ≤ 0) && decide (L j = x)) k + 1))), (0, .ref h1), (1, .int x)]) hx hb dX1_stopAll_45 hl (k := 1) rfl (kz_inc k) (by decide) rfl (fun ls hl => ?_)
          refine lv_goto (tgt := 9) hx hb dX1_stopAll_48 (by decide) ?_
          exact ih (H, locs, ls) (by exact ⟨hP, hD, hS, by rw [show ab_cnt (fun j => !decide (K j ≤ 0) && decide (L j = x)) (k + 1) = _ from ab_cnt_t (by simp [c_22, c_32])]; exact lv_sub hl [0, 1, 2, 3] rfl⟩)
  · intro y hI
    obtain ⟨H, locs, ls⟩ := y
    obtain ⟨hP, hD, hS, hl⟩ := hI
    have hP : va_P D vwCl (mdW h1 b1 b2 b3 cJ 0 nw rk (md_sa K L x 512) E L td wd) H := hP
    have hS : va_S A s.heap H locs := hS
    have hl : lv_has ls 4 [(3, .int (nI 512)), (2, .int (nI (ab_cnt (fun j => !decide (K j ≤ 0) && decide (L j = x)) 512))), (0, .ref h1), (1, .int x)] := hl
    show W p l e _ s m _ below meth c H locs 0 0 _ (F0 m 9 ls [])
    refine lv_iload_n hx hb dX1_stopAll_9 rfl (lv_at hl 0 rfl) ?_
    refine lv_sipush (v := 512) hx hb dX1_stopAll_10 (by decide) ?_
    refine lv_icmp_ge (tgt := 51) hx hb dX1_stopAll_13 (by decide) (fun c_13 => ?_) (fun c_13 => ?_)
    · refine lv_iload_n hx hb dX1_stopAll_51 rfl (lv_at hl 1 rfl) ?_
      exact W.iret (v := nI (ab_cnt (fun j => !decide (K j ≤ 0) && decide (L j = x)) 512)) hx hb hr (fun t9 ht9 hW9 => ⟨⟨_, (0, nw, rk, md_sa K L x 512, E, L, td, wd), rfl, ⟨rfl, rfl⟩, by rw [ht9]; exact hP, va_K.moved hW9.alike hK, hD⟩, hS.F ht9⟩) hS.2.2 dX1_stopAll_52
    · exact absurd (Int32.le_refl _) c_13
end
section
set_option maxHeartbeats 4000000 in
set_option maxRecDepth 100000 in
/-- reference: set -/
theorem m_set (l : Launch) (D : va_G) (h1 b1 b2 b3 : Nat) (cJ : ClassId) (cd nw rk : Int32) (K E L : Nat → Int32) (td wd : Int32) (sz : Nat) (t w : Int32) : Met l yX1_set wsX1_set ({ frames := 1, cells := 0, slots := 0, locals := 23 } : Room) (kz_Pc D vwCl (mdT cJ) (mdW h1 b1 b2 b3 cJ cd nw rk K E L td wd) sz [.ref h1, .int t, .int w]) (va_Qi (fun (r : Int32) (u : MDs) => ∃ k : Nat, k ≤ 512 ∧ (∀ j, j < k → ¬ K j ≤ 0) ∧ (k < 512 → K k ≤ 0) ∧ ((¬ ab_ok t ∧ u = (1, nw, rk, K, E, L, td, wd)) ∨ (ab_ok t ∧ (k = 512 ∨ 1000000000 - nw < t) ∧ u = (2, nw, rk, K, E, L, td, wd)) ∨ (ab_ok t ∧ k < 512 ∧ ¬ 1000000000 - nw < t ∧ r = nI k ∧ u = (0, nw, rk + 1, upd K k (rk + 1), upd E k (nw + t), upd L k w, td, wd)))) (kz_B D vwCl (mdT cJ) (mdU h1 b1 b2 b3 cJ) (va_A (mdW h1 b1 b2 b3 cJ cd nw rk K E L td wd) sz)) (va_A (mdW h1 b1 b2 b3 cJ cd nw rk K E L td wd) sz)) 0 0 (va_A (mdW h1 b1 b2 b3 cJ cd nw rk K E L td wd) sz) := by
  refine Met.ofW (cc := cX1_set) (maxL := 4) (ret := some .int) (by decide) rfl ?_
  intro p e s m args below meth c s₁ B hml hv
  obtain ⟨rfl, hsz, hP, hK, hD0⟩ := hv
  have hx := B.exec
  have hb := B.bytes
  have hr := B.returns
  have hts := atoms_spec (ws := wsX1_set) B.pre
  have hown : s.vm.findClass RX1 = some m.cls := findClass_of_methodNamed B.named
  have hlocks := B.notSynchronized
  have hinX1 : ∀ w ∈ wsX10, w ∈ wsX1_set := by decide +kernel
  subst hsz
  have hD := hD0.self (sz := s.heap.size)
  generalize hAe : va_A (mdW h1 b1 b2 b3 cJ cd nw rk K E L td wd) s.heap.size = A at hD ⊢
  have hA : ∀ q : Nat, s.heap.size ≤ q → A q := fun q h => by rw [← hAe]; exact Or.inr h
  have hS : va_S A s.heap s.heap [] := va_S.rf
  refine kz_enter [.ref h1, .int t, .int w] (Nat.le_of_ble_eq_true rfl) (fun ls hl => ?_)
  have hl : lv_has ls 4 [(0, .ref h1), (1, .int t), (2, .int w)] := hl
  refine lv_iconst (v := 0) hx hb dX1_set_0 (by decide) ?_
  refine lv_istore_n (lv' := [(3, .int 0), (0, .ref h1), (1, .int t), (2, .int w)]) hx hb dX1_set_1 rfl hl (by decide) rfl (fun ls hl => ?_)
  refine kz_loop (G := fun ls : Array Slot => W p l e _ s m _ below meth c s.heap [] 0 0 _ (F0 m 2 ls [])) (I := fun k ls => (∀ j, j < k → ¬ K j ≤ 0) ∧ lv_has ls 4 [(3, .int (nI k)), (0, .ref h1), (1, .int t), (2, .int w)]) 512 ?_ ?_ 0 (Nat.zero_le _) ls ⟨fun j hj => absurd hj (Nat.not_lt_zero j), lv_sub hl [0, 1, 2, 3] rfl⟩
  · intro k ls hk ⟨hlo, hl⟩ ih
    refine lv_iload_n hx hb dX1_set_2 rfl (lv_at hl 0 rfl) ?_
    refine lv_sipush (v := 512) hx hb dX1_set_3 (by decide) ?_
    refine lv_icmp_ge (tgt := 24) hx hb dX1_set_6 (by decide) (fun c_6 => ?_) (fun c_6 => ?_)
    · exact absurd c_6 (nI_ge (a := k) (b := 512) hk (by decide))
    · refine lv_aload_n hx hb dX1_set_9 rfl (lv_at hl 1 rfl) ?_
      refine va_get (ci := 1) (v := .ref b1) (C := RX1) (T := TX1) (N := 8) hx hb hts hinX1 hown hK hP 0 rfl rfl 3 (by decide) (hts (.fieldLink RX1 7 "AlarmBenchModel" "rank" "[I") (by decide +kernel)) (fun _ h9 => h9) rfl dX1_set_10 ?_
      refine lv_iload_n hx hb dX1_set_13 rfl (lv_at hl 0 rfl) ?_
      refine kz_iald hx hb hK hP 1 0 rfl rfl hk (by decide) dX1_set_14 ?_
      refine lv_if_le (tgt := 24) hx hb dX1_set_15 (by decide) (fun c_15 => ?_) (fun c_15 => ?_)
      · refine lv_aload_n hx hb dX1_set_24 rfl (lv_at hl 1 rfl) ?_
        refine lv_iload_n hx hb dX1_set_25 rfl (lv_at hl 2 rfl) ?_
        refine lv_if_lt (tgt := 35) hx hb dX1_set_26 (by decide) (fun c_26 => ?_) (fun c_26 => ?_)
        · refine lv_iconst (v := 1) hx hb dX1_set_35 (by decide) ?_
          refine lv_goto (tgt := 62) hx hb dX1_set_36 (by decide) ?_
          refine va_put (ci := 1) (v := .int 1) (ty := .int) (C := RX1) (T := TX1) (N := 8) hx hb hts hinX1 tyX1 tyX1_ok nmX1 hown hK hP hD hS 0 rfl rfl 0 (by decide) (hts (.fieldLink RX1 23 "AlarmBenchModel" "code" "I") (by decide +kernel)) (fun _ h9 => h9) rfl (by decide +kernel) rfl rfl (Nat.le_of_ble_eq_true rfl) dX1_set_62 (fun H locs hP hD hS => ?_)
          have hP : va_P D vwCl (mdW h1 b1 b2 b3 cJ 1 nw rk K E L td wd) H := hP
          have hD : va_D A (mdW h1 b1 b2 b3 cJ 1 nw rk K E L td wd) := hD
          refine lv_aload_n hx hb dX1_set_65 rfl (lv_at hl 1 rfl) ?_
          refine va_get (ci := 1) (v := .int 1) (C := RX1) (T := TX1) (N := 8) hx hb hts hinX1 hown hK hP 0 rfl rfl 0 (by decide) (hts (.fieldLink RX1 23 "AlarmBenchModel" "code" "I") (by decide +kernel)) (fun _ h9 => h9) rfl dX1_set_66 ?_
          refine lv_if_le (tgt := 74) hx hb dX1_set_69 (by decide) (fun c_69 => ?_) (fun c_69 => ?_)
          · exact absurd c_69 (by decide)
          · refine lv_iconst (v := 0) hx hb dX1_set_72 (by decide) ?_
            exact W.iret (v := 0) hx hb hr (fun t9 ht9 hW9 => ⟨⟨_, (1, nw, rk, K, E, L, td, wd), rfl, ⟨k, Nat.le_of_lt hk, hlo, fun _ => c_15, Or.inl ⟨fun h9 => h9.1 c_26, rfl⟩⟩, by rw [ht9]; exact hP, va_K.moved hW9.alike hK, hD⟩, hS.F ht9⟩) hS.2.2 dX1_set_73
        · refine lv_iload_n hx hb dX1_set_29 rfl (lv_at hl 2 rfl) ?_
          refine lv_ldc (v := 1000000000) hx hb hown (hts (.constant RX1 32 1000000000) (by decide +kernel)) dX1_set_30 ?_
          refine lv_icmp_le (tgt := 39) hx hb dX1_set_32 (by decide) (fun c_32 => ?_) (fun c_32 => ?_)
          · refine lv_iload_n hx hb dX1_set_39 rfl (lv_at hl 0 rfl) ?_
            refine lv_sipush (v := 512) hx hb dX1_set_40 (by decide) ?_
            refine lv_icmp_eq (tgt := 57) hx hb dX1_set_43 (by decide) (fun c_43 => ?_) (fun c_43 => ?_)
            · exact absurd ((nI_eq (a := k) (b := 512) (by omega) (by decide)).mp c_43) (by omega)
            · refine lv_iload_n hx hb dX1_set_46 rfl (lv_at hl 2 rfl) ?_
              refine lv_ldc (v := 1000000000) hx hb hown (hts (.constant RX1 32 1000000000) (by decide +kernel)) dX1_set_47 ?_
              refine lv_aload_n hx hb dX1_set_49 rfl (lv_at hl 1 rfl) ?_
              refine va_get (ci := 1) (v := .int nw) (C := RX1) (T := TX1) (N := 8) hx hb hts hinX1 hown hK hP 0 rfl rfl 1 (by decide) (hts (.fieldLink RX1 29 "AlarmBenchModel" "now" "I") (by decide +kernel)) (fun _ h9 => h9) rfl dX1_set_50 ?_
              refine lv_isub hx hb dX1_set_53 ?_
              refine lv_icmp_le (tgt := 61) hx hb dX1_set_54 (by decide) (fun c_54 => ?_) (fun c_54 => ?_)
              · refine lv_iconst (v := 0) hx hb dX1_set_61 (by decide) ?_
                refine va_put (ci := 1) (v := .int 0) (ty := .int) (C := RX1) (T := TX1) (N := 8) hx hb hts hinX1 tyX1 tyX1_ok nmX1 hown hK hP hD hS 0 rfl rfl 0 (by decide) (hts (.fieldLink RX1 23 "AlarmBenchModel" "code" "I") (by decide +kernel)) (fun _ h9 => h9) rfl (by decide +kernel) rfl rfl (Nat.le_of_ble_eq_true rfl) dX1_set_62 (fun H locs hP hD hS => ?_)
                have hP : va_P D vwCl (mdW h1 b1 b2 b3 cJ 0 nw rk K E L td wd) H := hP
                have hD : va_D A (mdW h1 b1 b2 b3 cJ 0 nw rk K E L td wd) := hD
                refine lv_aload_n hx hb dX1_set_65 rfl (lv_at hl 1 rfl) ?_
                refine va_get (ci := 1) (v := .int 0) (C := RX1) (T := TX1) (N := 8) hx hb hts hinX1 hown hK hP 0 rfl rfl 0 (by decide) (hts (.fieldLink RX1 23 "AlarmBenchModel" "code" "I") (by decide +kernel)) (fun _ h9 => h9) rfl dX1_set_66 ?_
                refine lv_if_le (tgt := 74) hx hb dX1_set_69 (by decide) (fun c_69 => ?_) (fun c_69 => ?_)
                · refine lv_aload_n hx hb dX1_set_74 rfl (lv_at hl 1 rfl) ?_
                  refine lv_iload_n hx hb dX1_set_75 rfl (lv_at hl 0 rfl) ?_
                  refine lv_iload_n hx hb dX1_set_76 rfl (lv_at hl 2 rfl) ?_
                  refine lv_iload_n hx hb dX1_set_77 rfl (lv_at hl 3 rfl) ?_
                  refine kz_callv (wc := (mdW h1 b1 b2 b3 cJ 0 nw rk K E L td wd)) (wr := []) (As := [.int (nI k), .int t, .int w]) (rest := []) ⟨hx, hb, hml, hown, hts⟩ (m_start l D h1 b1 b2 b3 cJ 0 nw rk K E L td wd _ k hk t w) (cwV 3 hts gX1_set_X1_start rfl rfl rfl (by decide +kernel) ⟨Nat.le_of_ble_eq_true rfl, Nat.le_of_ble_eq_true rfl⟩) hP hD hS hA hK [0, 1, 2, 3] [] rfl rfl rfl rfl rfl (by decide) (va_recv hK hP (ci := 1) (q0 := 0) rfl rfl) rfl hl.1 rfl (Nat.le_of_ble_eq_true rfl) dX1_set_78 ⟨Nat.zero_le _, Nat.zero_le _⟩ (fun u H locs hu hP hD hS => ?_)
                  subst hu
                  have hP : va_P D vwCl (mdW h1 b1 b2 b3 cJ 0 nw (rk + 1) (upd K k (rk + 1)) (upd E k (nw + t)) (upd L k w) td wd) H := hP
                  have hD : va_D A (mdW h1 b1 b2 b3 cJ 0 nw (rk + 1) (upd K k (rk + 1)) (upd E k (nw + t)) (upd L k w) td wd) := hD
                  refine lv_iload_n hx hb dX1_set_81 rfl (lv_at hl 0 rfl) ?_
                  exact W.iret (v := nI k) hx hb hr (fun t9 ht9 hW9 => ⟨⟨_, (0, nw, rk + 1, upd K k (rk + 1), upd E k (nw + t), upd L k w, td, wd), rfl, ⟨k, Nat.le_of_lt hk, hlo, fun _ => c_15, Or.inr (Or.inr ⟨⟨c_26, Int32.not_lt.mpr c_32⟩, hk, Int32.not_lt.mpr c_54, rfl, rfl⟩)⟩, by rw [ht9]; exact hP, va_K.moved hW9.alike hK, hD⟩, hS.F ht9⟩) hS.2.2 dX1_set_82
                · exact absurd (by decide) c_69
              · refine lv_iconst (v := 2) hx hb dX1_set_57 (by decide) ?_
                refine lv_goto (tgt := 62) hx hb dX1_set_58 (by decide) ?_
                refine va_put (ci := 1) (v := .int 2) (ty := .int) (C := RX1) (T := TX1) (N := 8) hx hb hts hinX1 tyX1 tyX1_ok nmX1 hown hK hP hD hS 0 rfl rfl 0 (by decide) (hts (.fieldLink RX1 23 "AlarmBenchModel" "code" "I") (by decide +kernel)) (fun _ h9 => h9) rfl (by decide +kernel) rfl rfl (Nat.le_of_ble_eq_true rfl) dX1_set_62 (fun H locs hP hD hS => ?_)
                have hP : va_P D vwCl (mdW h1 b1 b2 b3 cJ 2 nw rk K E L td wd) H := hP
                have hD : va_D A (mdW h1 b1 b2 b3 cJ 2 nw rk K E L td wd) := hD
                refine lv_aload_n hx hb dX1_set_65 rfl (lv_at hl 1 rfl) ?_
                refine va_get (ci := 1) (v := .int 2) (C := RX1) (T := TX1) (N := 8) hx hb hts hinX1 hown hK hP 0 rfl rfl 0 (by decide) (hts (.fieldLink RX1 23 "AlarmBenchModel" "code" "I") (by decide +kernel)) (fun _ h9 => h9) rfl dX1_set_66 ?_
                refine lv_if_le (tgt := 74) hx hb dX1_set_69 (by decide) (fun c_69 => ?_) (fun c_69 => ?_)
                · exact absurd c_69 (by decide)
                · refine lv_iconst (v := 0) hx hb dX1_set_72 (by decide) ?_
                  exact W.iret (v := 0) hx hb hr (fun t9 ht9 hW9 => ⟨⟨_, (2, nw, rk, K, E, L, td, wd), rfl, ⟨k, Nat.le_of_lt hk, hlo, fun _ => c_15, Or.inr (Or.inl ⟨⟨c_26, Int32.not_lt.mpr c_32⟩, Or.inr (Int32.not_le.mp c_54), rfl⟩)⟩, by rw [ht9]; exact hP, va_K.moved hW9.alike hK, hD⟩, hS.F ht9⟩) hS.2.2 dX1_set_73
          · refine lv_iconst (v := 1) hx hb dX1_set_35 (by decide) ?_
            refine lv_goto (tgt := 62) hx hb dX1_set_36 (by decide) ?_
            refine va_put (ci := 1) (v := .int 1) (ty := .int) (C := RX1) (T := TX1) (N := 8) hx hb hts hinX1 tyX1 tyX1_ok nmX1 hown hK hP hD hS 0 rfl rfl 0 (by decide) (hts (.fieldLink RX1 23 "AlarmBenchModel" "code" "I") (by decide +kernel)) (fun _ h9 => h9) rfl (by decide +kernel) rfl rfl (Nat.le_of_ble_eq_true rfl) dX1_set_62 (fun H locs hP hD hS => ?_)
            have hP : va_P D vwCl (mdW h1 b1 b2 b3 cJ 1 nw rk K E L td wd) H := hP
            have hD : va_D A (mdW h1 b1 b2 b3 cJ 1 nw rk K E L td wd) := hD
            refine lv_aload_n hx hb dX1_set_65 rfl (lv_at hl 1 rfl) ?_
            refine va_get (ci := 1) (v := .int 1) (C := RX1) (T := TX1) (N := 8) hx hb hts hinX1 hown hK hP 0 rfl rfl 0 (by decide) (hts (.fieldLink RX1 23 "AlarmBenchModel" "code" "I") (by decide +kernel)) (fun _ h9 => h9) rfl dX1_set_66 ?_
            refine lv_if_le (tgt := 74) hx hb dX1_set_69 (by decide) (fun c_69 => ?_) (fun c_69 => ?_)
            · exact absurd c_69 (by decide)
            · refine lv_iconst (v := 0) hx hb dX1_set_72 (by decide) ?_
              exact W.iret (v := 0) hx hb hr (fun t9 ht9 hW9 => ⟨⟨_, (1, nw, rk, K, E, L, td, wd), rfl, ⟨k, Nat.le_of_lt hk, hlo, fun _ => c_15, Or.inl ⟨fun h9 => h9.2 (Int32.not_le.mp c_32), rfl⟩⟩, by rw [ht9]; exact hP, va_K.moved hW9.alike hK, hD⟩, hS.F ht9⟩) hS.2.2 dX1_set_73
      · refine lv_iinc (v := nI (k + 1)) (lv' := [(3, .int (nI (k + 1))), (0, .ref h1), (1, .int t), (2, .int w)]) hx hb dX1_set_18 hl (k := 0) rfl (kz_inc k) (by decide) rfl (fun ls hl => ?_)
        refine lv_goto (tgt := 2) hx hb dX1_set_21 (by decide) ?_
        exact ih ls ⟨fun j hj => (Nat.lt_succ_iff_lt_or_eq.mp hj).elim (hlo j) (fun e9 => e9 ▸ c_15), lv_sub hl [0, 1, 2, 3] rfl⟩
  · intro ls ⟨hlo, hl⟩
    refine lv_iload_n hx hb dX1_set_2 rfl (lv_at hl 0 rfl) ?_
    refine lv_sipush (v := 512) hx hb dX1_set_3 (by decide) ?_
    refine lv_icmp_ge (tgt := 24) hx hb dX1_set_6 (by decide) (fun c_6 => ?_) (fun c_6 => ?_)
    · refine lv_aload_n hx hb dX1_set_24 rfl (lv_at hl 1 rfl) ?_
      refine lv_iload_n hx hb dX1_set_25 rfl (lv_at hl 2 rfl) ?_
      refine lv_if_lt (tgt := 35) hx hb dX1_set_26 (by decide) (fun c_26 => ?_) (fun c_26 => ?_)
      · refine lv_iconst (v := 1) hx hb dX1_set_35 (by decide) ?_
        refine lv_goto (tgt := 62) hx hb dX1_set_36 (by decide) ?_
        refine va_put (ci := 1) (v := .int 1) (ty := .int) (C := RX1) (T := TX1) (N := 8) hx hb hts hinX1 tyX1 tyX1_ok nmX1 hown hK hP hD hS 0 rfl rfl 0 (by decide) (hts (.fieldLink RX1 23 "AlarmBenchModel" "code" "I") (by decide +kernel)) (fun _ h9 => h9) rfl (by decide +kernel) rfl rfl (Nat.le_of_ble_eq_true rfl) dX1_set_62 (fun H locs hP hD hS => ?_)
        have hP : va_P D vwCl (mdW h1 b1 b2 b3 cJ 1 nw rk K E L td wd) H := hP
        have hD : va_D A (mdW h1 b1 b2 b3 cJ 1 nw rk K E L td wd) := hD
        refine lv_aload_n hx hb dX1_set_65 rfl (lv_at hl 1 rfl) ?_
        refine va_get (ci := 1) (v := .int 1) (C := RX1) (T := TX1) (N := 8) hx hb hts hinX1 hown hK hP 0 rfl rfl 0 (by decide) (hts (.fieldLink RX1 23 "AlarmBenchModel" "code" "I") (by decide +kernel)) (fun _ h9 => h9) rfl dX1_set_66 ?_
        refine lv_if_le (tgt := 74) hx hb dX1_set_69 (by decide) (fun c_69 => ?_) (fun c_69 => ?_)
        · exact absurd c_69 (by decide)
        · refine lv_iconst (v := 0) hx hb dX1_set_72 (by decide) ?_
          exact W.iret (v := 0) hx hb hr (fun t9 ht9 hW9 => ⟨⟨_, (1, nw, rk, K, E, L, td, wd), rfl, ⟨512, Nat.le_refl _, hlo, fun h9 => absurd h9 (Nat.lt_irrefl _), Or.inl ⟨fun h9 => h9.1 c_26, rfl⟩⟩, by rw [ht9]; exact hP, va_K.moved hW9.alike hK, hD⟩, hS.F ht9⟩) hS.2.2 dX1_set_73
      · refine lv_iload_n hx hb dX1_set_29 rfl (lv_at hl 2 rfl) ?_
        refine lv_ldc (v := 1000000000) hx hb hown (hts (.constant RX1 32 1000000000) (by decide +kernel)) dX1_set_30 ?_
        refine lv_icmp_le (tgt := 39) hx hb dX1_set_32 (by decide) (fun c_32 => ?_) (fun c_32 => ?_)
        · refine lv_iload_n hx hb dX1_set_39 rfl (lv_at hl 0 rfl) ?_
          refine lv_sipush (v := 512) hx hb dX1_set_40 (by decide) ?_
          refine lv_icmp_eq (tgt := 57) hx hb dX1_set_43 (by decide) (fun c_43 => ?_) (fun c_43 => ?_)
          · refine lv_iconst (v := 2) hx hb dX1_set_57 (by decide) ?_
            refine lv_goto (tgt := 62) hx hb dX1_set_58 (by decide) ?_
            refine va_put (ci := 1) (v := .int 2) (ty := .int) (C := RX1) (T := TX1) (N := 8) hx hb hts hinX1 tyX1 tyX1_ok nmX1 hown hK hP hD hS 0 rfl rfl 0 (by decide) (hts (.fieldLink RX1 23 "AlarmBenchModel" "code" "I") (by decide +kernel)) (fun _ h9 => h9) rfl (by decide +kernel) rfl rfl (Nat.le_of_ble_eq_true rfl) dX1_set_62 (fun H locs hP hD hS => ?_)
            have hP : va_P D vwCl (mdW h1 b1 b2 b3 cJ 2 nw rk K E L td wd) H := hP
            have hD : va_D A (mdW h1 b1 b2 b3 cJ 2 nw rk K E L td wd) := hD
            refine lv_aload_n hx hb dX1_set_65 rfl (lv_at hl 1 rfl) ?_
            refine va_get (ci := 1) (v := .int 2) (C := RX1) (T := TX1) (N := 8) hx hb hts hinX1 hown hK hP 0 rfl rfl 0 (by decide) (hts (.fieldLink RX1 23 "AlarmBenchModel" "code" "I") (by decide +kernel)) (fun _ h9 => h9) rfl dX1_set_66 ?_
            refine lv_if_le (tgt := 74) hx hb dX1_set_69 (by decide) (fun c_69 => ?_) (fun c_69 => ?_)
            · exact absurd c_69 (by decide)
            · refine lv_iconst (v := 0) hx hb dX1_set_72 (by decide) ?_
              exact W.iret (v := 0) hx hb hr (fun t9 ht9 hW9 => ⟨⟨_, (2, nw, rk, K, E, L, td, wd), rfl, ⟨512, Nat.le_refl _, hlo, fun h9 => absurd h9 (Nat.lt_irrefl _), Or.inr (Or.inl ⟨⟨c_26, Int32.not_lt.mpr c_32⟩, Or.inl rfl, rfl⟩)⟩, by rw [ht9]; exact hP, va_K.moved hW9.alike hK, hD⟩, hS.F ht9⟩) hS.2.2 dX1_set_73
          · exact absurd rfl c_43
        · refine lv_iconst (v := 1) hx hb dX1_set_35 (by decide) ?_
          refine lv_goto (tgt := 62) hx hb dX1_set_36 (by decide) ?_
          refine va_put (ci := 1) (v := .int 1) (ty := .int) (C := RX1) (T := TX1) (N := 8) hx hb hts hinX1 tyX1 tyX1_ok nmX1 hown hK hP hD hS 0 rfl rfl 0 (by decide) (hts (.fieldLink RX1 23 "AlarmBenchModel" "code" "I") (by decide +kernel)) (fun _ h9 => h9) rfl (by decide +kernel) rfl rfl (Nat.le_of_ble_eq_true rfl) dX1_set_62 (fun H locs hP hD hS => ?_)
          have hP : va_P D vwCl (mdW h1 b1 b2 b3 cJ 1 nw rk K E L td wd) H := hP
          have hD : va_D A (mdW h1 b1 b2 b3 cJ 1 nw rk K E L td wd) := hD
          refine lv_aload_n hx hb dX1_set_65 rfl (lv_at hl 1 rfl) ?_
          refine va_get (ci := 1) (v := .int 1) (C := RX1) (T := TX1) (N := 8) hx hb hts hinX1 hown hK hP 0 rfl rfl 0 (by decide) (hts (.fieldLink RX1 23 "AlarmBenchModel" "code" "I") (by decide +kernel)) (fun _ h9 => h9) rfl dX1_set_66 ?_
          refine lv_if_le (tgt := 74) hx hb dX1_set_69 (by decide) (fun c_69 => ?_) (fun c_69 => ?_)
          · exact absurd c_69 (by decide)
          · refine lv_iconst (v := 0) hx hb dX1_set_72 (by decide) ?_
            exact W.iret (v := 0) hx hb hr (fun t9 ht9 hW9 => ⟨⟨_, (1, nw, rk, K, E, L, td, wd), rfl, ⟨512, Nat.le_refl _, hlo, fun h9 => absurd h9 (Nat.lt_irrefl _), Or.inl ⟨fun h9 => h9.2 (Int32.not_le.mp c_32), rfl⟩⟩, by rw [ht9]; exact hP, va_K.moved hW9.alike hK, hD⟩, hS.F ht9⟩) hS.2.2 dX1_set_73
    · exact absurd (Int32.le_refl _) c_6
set_option maxHeartbeats 4000000 in
set_option maxRecDepth 100000 in
/-- reference: shift -/
theorem m_shift (l : Launch) (D : va_G) (h1 b1 b2 b3 : Nat) (cJ : ClassId) (cd nw rk : Int32) (K E L : Nat → Int32) (td wd : Int32) (sz : Nat) (x t : Int32) : Met l yX1_shift wsX1_shift ({ frames := 1, cells := 0, slots := 0, locals := 23 } : Room) (kz_Pc D vwCl (mdT cJ) (mdW h1 b1 b2 b3 cJ cd nw rk K E L td wd) sz [.ref h1, .int x, .int t]) (va_Qi (fun (r : Int32) (u : MDs) => (¬ (md_al K x ∧ ab_ok t) ∧ u = (1, nw, rk, K, E, L, td, wd)) ∨ (md_al K x ∧ ab_ok t ∧ 1000000000 - nw < t ∧ u = (2, nw, rk, K, E, L, td, wd)) ∨ (∃ k : Nat, k < 512 ∧ x = nI k ∧ ¬ K k ≤ 0 ∧ ab_ok t ∧ ¬ 1000000000 - nw < t ∧ r = E k - nw ∧ u = (0, nw, rk + 1, upd K k (rk + 1), upd E k (nw + t), upd L k (L k), td, wd))) (kz_B D vwCl (mdT cJ) (mdU h1 b1 b2 b3 cJ) (va_A (mdW h1 b1 b2 b3 cJ cd nw rk K E L td wd) sz)) (va_A (mdW h1 b1 b2 b3 cJ cd nw rk K E L td wd) sz)) 0 0 (va_A (mdW h1 b1 b2 b3 cJ cd nw rk K E L td wd) sz) := by
  refine Met.ofW (cc := cX1_shift) (maxL := 4) (ret := some .int) (by decide) rfl ?_
  intro p e s m args below meth c s₁ B hml hv
  obtain ⟨rfl, hsz, hP, hK, hD0⟩ := hv
  have hx := B.exec
  have hb := B.bytes
  have hr := B.returns
  have hts := atoms_spec (ws := wsX1_shift) B.pre
  have hown : s.vm.findClass RX1 = some m.cls := findClass_of_methodNamed B.named
  have hlocks := B.notSynchronized
  have hinX1 : ∀ w ∈ wsX10, w ∈ wsX1_shift := by decide +kernel
  subst hsz
  have hD := hD0.self (sz := s.heap.size)
  generalize hAe : va_A (mdW h1 b1 b2 b3 cJ cd nw rk K E L td wd) s.heap.size = A at hD ⊢
  have hA : ∀ q : Nat, s.heap.size ≤ q → A q := fun q h => by rw [← hAe]; exact Or.inr h
  have hS : va_S A s.heap s.heap [] := va_S.rf
  refine kz_enter [.ref h1, .int x, .int t] (Nat.le_of_ble_eq_true rfl) (fun ls hl => ?_)
  have hl : lv_has ls 4 [(0, .ref h1), (1, .int x), (2, .int t)] := hl
  refine lv_aload_n hx hb dX1_shift_0 rfl (lv_at hl 0 rfl) ?_
  refine lv_aload_n hx hb dX1_shift_1 rfl (lv_at hl 0 rfl) ?_
  refine lv_iload_n hx hb dX1_shift_2 rfl (lv_at hl 1 rfl) ?_
  refine kz_callR (As := [.int x]) (rest := [.ref h1]) ⟨hx, hb, hml, hown, hts⟩ (m_isAlarm l D h1 b1 b2 b3 cJ cd nw rk K E L td wd x) (cwV 1 hts gX1_shift_X1_isAlarm rfl rfl rfl (by decide +kernel) ⟨Nat.le_of_ble_eq_true rfl, Nat.le_of_ble_eq_true rfl⟩) hP hK (va_recv hK hP (ci := 1) (q0 := 0) rfl rfl) rfl hl.1 rfl (Nat.le_of_ble_eq_true rfl) dX1_shift_3 ⟨Nat.zero_le _, Nat.zero_le _⟩ (fun r_1 hr_2 => ?_)
  refine lv_if_eq (tgt := 19) hx hb dX1_shift_6 (by decide) (fun c_6 => ?_) (fun c_6 => ?_)
  · have hS0 := hr_2.f c_6
    refine lv_iconst (v := 1) hx hb dX1_shift_19 (by decide) ?_
    refine lv_goto (tgt := 39) hx hb dX1_shift_20 (by decide) ?_
    refine va_put (ci := 1) (v := .int 1) (ty := .int) (C := RX1) (T := TX1) (N := 8) hx hb hts hinX1 tyX1 tyX1_ok nmX1 hown hK hP hD hS 0 rfl rfl 0 (by decide) (hts (.fieldLink RX1 23 "AlarmBenchModel" "code" "I") (by decide +kernel)) (fun _ h9 => h9) rfl (by decide +kernel) rfl rfl (Nat.le_of_ble_eq_true rfl) dX1_shift_39 (fun H locs hP hD hS => ?_)
    have hP : va_P D vwCl (mdW h1 b1 b2 b3 cJ 1 nw rk K E L td wd) H := hP
    have hD : va_D A (mdW h1 b1 b2 b3 cJ 1 nw rk K E L td wd) := hD
    refine lv_aload_n hx hb dX1_shift_42 rfl (lv_at hl 0 rfl) ?_
    refine va_get (ci := 1) (v := .int 1) (C := RX1) (T := TX1) (N := 8) hx hb hts hinX1 hown hK hP 0 rfl rfl 0 (by decide) (hts (.fieldLink RX1 23 "AlarmBenchModel" "code" "I") (by decide +kernel)) (fun _ h9 => h9) rfl dX1_shift_43 ?_
    refine lv_if_le (tgt := 51) hx hb dX1_shift_46 (by decide) (fun c_46 => ?_) (fun c_46 => ?_)
    · exact absurd c_46 (by decide)
    · refine lv_iconst (v := 0) hx hb dX1_shift_49 (by decide) ?_
      exact W.iret (v := 0) hx hb hr (fun t9 ht9 hW9 => ⟨⟨_, (1, nw, rk, K, E, L, td, wd), rfl, Or.inl ⟨fun h9 => hS0 h9.1, rfl⟩, by rw [ht9]; exact hP, va_K.moved hW9.alike hK, hD⟩, hS.F ht9⟩) hS.2.2 dX1_shift_50
  · obtain ⟨k, hk, rfl, hS0⟩ := hr_2.t c_6
    refine lv_iload_n hx hb dX1_shift_9 rfl (lv_at hl 2 rfl) ?_
    refine lv_if_lt (tgt := 19) hx hb dX1_shift_10 (by decide) (fun c_10 => ?_) (fun c_10 => ?_)
    · refine lv_iconst (v := 1) hx hb dX1_shift_19 (by decide) ?_
      refine lv_goto (tgt := 39) hx hb dX1_shift_20 (by decide) ?_
      refine va_put (ci := 1) (v := .int 1) (ty := .int) (C := RX1) (T := TX1) (N := 8) hx hb hts hinX1 tyX1 tyX1_ok nmX1 hown hK hP hD hS 0 rfl rfl 0 (by decide) (hts (.fieldLink RX1 23 "AlarmBenchModel" "code" "I") (by decide +kernel)) (fun _ h9 => h9) rfl (by decide +kernel) rfl rfl (Nat.le_of_ble_eq_true rfl) dX1_shift_39 (fun H locs hP hD hS => ?_)
      have hP : va_P D vwCl (mdW h1 b1 b2 b3 cJ 1 nw rk K E L td wd) H := hP
      have hD : va_D A (mdW h1 b1 b2 b3 cJ 1 nw rk K E L td wd) := hD
      refine lv_aload_n hx hb dX1_shift_42 rfl (lv_at hl 0 rfl) ?_
      refine va_get (ci := 1) (v := .int 1) (C := RX1) (T := TX1) (N := 8) hx hb hts hinX1 hown hK hP 0 rfl rfl 0 (by decide) (hts (.fieldLink RX1 23 "AlarmBenchModel" "code" "I") (by decide +kernel)) (fun _ h9 => h9) rfl dX1_shift_43 ?_
      refine lv_if_le (tgt := 51) hx hb dX1_shift_46 (by decide) (fun c_46 => ?_) (fun c_46 => ?_)
      · exact absurd c_46 (by decide)
      · refine lv_iconst (v := 0) hx hb dX1_shift_49 (by decide) ?_
        exact W.iret (v := 0) hx hb hr (fun t9 ht9 hW9 => ⟨⟨_, (1, nw, rk, K, E, L, td, wd), rfl, Or.inl ⟨fun h9 => h9.2.1 c_10, rfl⟩, by rw [ht9]; exact hP, va_K.moved hW9.alike hK, hD⟩, hS.F ht9⟩) hS.2.2 dX1_shift_50
    · refine lv_iload_n hx hb dX1_shift_13 rfl (lv_at hl 2 rfl) ?_
      refine lv_ldc (v := 1000000000) hx hb hown (hts (.constant RX1 32 1000000000) (by decide +kernel)) dX1_shift_14 ?_
      refine lv_icmp_le (tgt := 23) hx hb dX1_shift_16 (by decide) (fun c_16 => ?_) (fun c_16 => ?_)
      · refine lv_iload_n hx hb dX1_shift_23 rfl (lv_at hl 2 rfl) ?_
        refine lv_ldc (v := 1000000000) hx hb hown (hts (.constant RX1 32 1000000000) (by decide +kernel)) dX1_shift_24 ?_
        refine lv_aload_n hx hb dX1_shift_26 rfl (lv_at hl 0 rfl) ?_
        refine va_get (ci := 1) (v := .int nw) (C := RX1) (T := TX1) (N := 8) hx hb hts hinX1 hown hK hP 0 rfl rfl 1 (by decide) (hts (.fieldLink RX1 29 "AlarmBenchModel" "now" "I") (by decide +kernel)) (fun _ h9 => h9) rfl dX1_shift_27 ?_
        refine lv_isub hx hb dX1_shift_30 ?_
        refine lv_icmp_le (tgt := 38) hx hb dX1_shift_31 (by decide) (fun c_31 => ?_) (fun c_31 => ?_)
        · refine lv_iconst (v := 0) hx hb dX1_shift_38 (by decide) ?_
          refine va_put (ci := 1) (v := .int 0) (ty := .int) (C := RX1) (T := TX1) (N := 8) hx hb hts hinX1 tyX1 tyX1_ok nmX1 hown hK hP hD hS 0 rfl rfl 0 (by decide) (hts (.fieldLink RX1 23 "AlarmBenchModel" "code" "I") (by decide +kernel)) (fun _ h9 => h9) rfl (by decide +kernel) rfl rfl (Nat.le_of_ble_eq_true rfl) dX1_shift_39 (fun H locs hP hD hS => ?_)
          have hP : va_P D vwCl (mdW h1 b1 b2 b3 cJ 0 nw rk K E L td wd) H := hP
          have hD : va_D A (mdW h1 b1 b2 b3 cJ 0 nw rk K E L td wd) := hD
          refine lv_aload_n hx hb dX1_shift_42 rfl (lv_at hl 0 rfl) ?_
          refine va_get (ci := 1) (v := .int 0) (C := RX1) (T := TX1) (N := 8) hx hb hts hinX1 hown hK hP 0 rfl rfl 0 (by decide) (hts (.fieldLink RX1 23 "AlarmBenchModel" "code" "I") (by decide +kernel)) (fun _ h9 => h9) rfl dX1_shift_43 ?_
          refine lv_if_le (tgt := 51) hx hb dX1_shift_46 (by decide) (fun c_46 => ?_) (fun c_46 => ?_)
          · refine lv_aload_n hx hb dX1_shift_51 rfl (lv_at hl 0 rfl) ?_
            refine va_get (ci := 1) (v := .ref b2) (C := RX1) (T := TX1) (N := 8) hx hb hts hinX1 hown hK hP 0 rfl rfl 4 (by decide) (hts (.fieldLink RX1 13 "AlarmBenchModel" "due" "[I") (by decide +kernel)) (fun _ h9 => h9) rfl dX1_shift_52 ?_
            refine lv_iload_n hx hb dX1_shift_55 rfl (lv_at hl 1 rfl) ?_
            refine kz_iald hx hb hK hP 2 0 rfl rfl hk (by decide) dX1_shift_56 ?_
            refine lv_aload_n hx hb dX1_shift_57 rfl (lv_at hl 0 rfl) ?_
            refine va_get (ci := 1) (v := .int nw) (C := RX1) (T := TX1) (N := 8) hx hb hts hinX1 hown hK hP 0 rfl rfl 1 (by decide) (hts (.fieldLink RX1 29 "AlarmBenchModel" "now" "I") (by decide +kernel)) (fun _ h9 => h9) rfl dX1_shift_58 ?_
            refine lv_isub hx hb dX1_shift_61 ?_
            refine lv_istore_n (lv' := [(3, .int ((E k) - nw)), (0, .ref h1), (1, .int (nI k)), (2, .int t)]) hx hb dX1_shift_62 rfl hl (by decide) rfl (fun ls hl => ?_)
            refine lv_aload_n hx hb dX1_shift_63 rfl (lv_at hl 1 rfl) ?_
            refine lv_iload_n hx hb dX1_shift_64 rfl (lv_at hl 2 rfl) ?_
            refine lv_iload_n hx hb dX1_shift_65 rfl (lv_at hl 3 rfl) ?_
            refine lv_aload_n hx hb dX1_shift_66 rfl (lv_at hl 1 rfl) ?_
            refine va_get (ci := 1) (v := .ref b3) (C := RX1) (T := TX1) (N := 8) hx hb hts hinX1 hown hK hP 0 rfl rfl 5 (by decide) (hts (.fieldLink RX1 16 "AlarmBenchModel" "tells" "[I") (by decide +kernel)) (fun _ h9 => h9) rfl dX1_shift_67 ?_
            refine lv_iload_n hx hb dX1_shift_70 rfl (lv_at hl 2 rfl) ?_
            refine kz_iald hx hb hK hP 3 0 rfl rfl hk (by decide) dX1_shift_71 ?_
            refine kz_callv (wc := (mdW h1 b1 b2 b3 cJ 0 nw rk K E L td wd)) (wr := []) (As := [.int (nI k), .int t, .int (L k)]) (rest := []) ⟨hx, hb, hml, hown, hts⟩ (m_start l D h1 b1 b2 b3 cJ 0 nw rk K E L td wd _ k hk t (L k)) (cwV 3 hts gX1_shift_X1_start rfl rfl rfl (by decide +kernel) ⟨Nat.le_of_ble_eq_true rfl, Nat.le_of_ble_eq_true rfl⟩) hP hD hS hA hK [0, 1, 2, 3] [] rfl rfl rfl rfl rfl (by decide) (va_recv hK hP (ci := 1) (q0 := 0) rfl rfl) rfl hl.1 rfl (Nat.le_of_ble_eq_true rfl) dX1_shift_72 ⟨Nat.zero_le _, Nat.zero_le _⟩ (fun u H locs hu hP hD hS => ?_)
            subst hu
            have hP : va_P D vwCl (mdW h1 b1 b2 b3 cJ 0 nw (rk + 1) (upd K k (rk + 1)) (upd E k (nw + t)) (upd L k (L k)) td wd) H := hP
            have hD : va_D A (mdW h1 b1 b2 b3 cJ 0 nw (rk + 1) (upd K k (rk + 1)) (upd E k (nw + t)) (upd L k (L k)) td wd) := hD
            refine lv_iload_n hx hb dX1_shift_75 rfl (lv_at hl 0 rfl) ?_
            exact W.iret (v := (E k) - nw) hx hb hr (fun t9 ht9 hW9 => ⟨⟨_, (0, nw, rk + 1, upd K k (rk + 1), upd E k (nw + t), upd L k (L k), td, wd), rfl, Or.inr (Or.inr ⟨k, hk, rfl, hS0, ⟨c_10, Int32.not_lt.mpr c_16⟩, Int32.not_lt.mpr c_31, rfl, rfl⟩), by rw [ht9]; exact hP, va_K.moved hW9.alike hK, hD⟩, hS.F ht9⟩) hS.2.2 dX1_shift_76
          · exact absurd (by decide) c_46
        · refine lv_iconst (v := 2) hx hb dX1_shift_34 (by decide) ?_
          refine lv_goto (tgt := 39) hx hb dX1_shift_35 (by decide) ?_
          refine va_put (ci := 1) (v := .int 2) (ty := .int) (C := RX1) (T := TX1) (N := 8) hx hb hts hinX1 tyX1 tyX1_ok nmX1 hown hK hP hD hS 0 rfl rfl 0 (by decide) (hts (.fieldLink RX1 23 "AlarmBenchModel" "code" "I") (by decide +kernel)) (fun _ h9 => h9) rfl (by decide +kernel) rfl rfl (Nat.le_of_ble_eq_true rfl) dX1_shift_39 (fun H locs hP hD hS => ?_)
          have hP : va_P D vwCl (mdW h1 b1 b2 b3 cJ 2 nw rk K E L td wd) H := hP
          have hD : va_D A (mdW h1 b1 b2 b3 cJ 2 nw rk K E L td wd) := hD
          refine lv_aload_n hx hb dX1_shift_42 rfl (lv_at hl 0 rfl) ?_
          refine va_get (ci := 1) (v := .int 2) (C := RX1) (T := TX1) (N := 8) hx hb hts hinX1 hown hK hP 0 rfl rfl 0 (by decide) (hts (.fieldLink RX1 23 "AlarmBenchModel" "code" "I") (by decide +kernel)) (fun _ h9 => h9) rfl dX1_shift_43 ?_
          refine lv_if_le (tgt := 51) hx hb dX1_shift_46 (by decide) (fun c_46 => ?_) (fun c_46 => ?_)
          · exact absurd c_46 (by decide)
          · refine lv_iconst (v := 0) hx hb dX1_shift_49 (by decide) ?_
            exact W.iret (v := 0) hx hb hr (fun t9 ht9 hW9 => ⟨⟨_, (2, nw, rk, K, E, L, td, wd), rfl, Or.inr (Or.inl ⟨⟨k, hk, rfl, hS0⟩, ⟨c_10, Int32.not_lt.mpr c_16⟩, Int32.not_le.mp c_31, rfl⟩), by rw [ht9]; exact hP, va_K.moved hW9.alike hK, hD⟩, hS.F ht9⟩) hS.2.2 dX1_shift_50
      · refine lv_iconst (v := 1) hx hb dX1_shift_19 (by decide) ?_
        refine lv_goto (tgt := 39) hx hb dX1_shift_20 (by decide) ?_
        refine va_put (ci := 1) (v := .int 1) (ty := .int) (C := RX1) (T := TX1) (N := 8) hx hb hts hinX1 tyX1 tyX1_ok nmX1 hown hK hP hD hS 0 rfl rfl 0 (by decide) (hts (.fieldLink RX1 23 "AlarmBenchModel" "code" "I") (by decide +kernel)) (fun _ h9 => h9) rfl (by decide +kernel) rfl rfl (Nat.le_of_ble_eq_true rfl) dX1_shift_39 (fun H locs hP hD hS => ?_)
        have hP : va_P D vwCl (mdW h1 b1 b2 b3 cJ 1 nw rk K E L td wd) H := hP
        have hD : va_D A (mdW h1 b1 b2 b3 cJ 1 nw rk K E L td wd) := hD
        refine lv_aload_n hx hb dX1_shift_42 rfl (lv_at hl 0 rfl) ?_
        refine va_get (ci := 1) (v := .int 1) (C := RX1) (T := TX1) (N := 8) hx hb hts hinX1 hown hK hP 0 rfl rfl 0 (by decide) (hts (.fieldLink RX1 23 "AlarmBenchModel" "code" "I") (by decide +kernel)) (fun _ h9 => h9) rfl dX1_shift_43 ?_
        refine lv_if_le (tgt := 51) hx hb dX1_shift_46 (by decide) (fun c_46 => ?_) (fun c_46 => ?_)
        · exact absurd c_46 (by decide)
        · refine lv_iconst (v := 0) hx hb dX1_shift_49 (by decide) ?_
          exact W.iret (v := 0) hx hb hr (fun t9 ht9 hW9 => ⟨⟨_, (1, nw, rk, K, E, L, td, wd), rfl, Or.inl ⟨fun h9 => h9.2.2 (Int32.not_le.mp c_16), rfl⟩, by rw [ht9]; exact hP, va_K.moved hW9.alike hK, hD⟩, hS.F ht9⟩) hS.2.2 dX1_shift_50
set_option maxHeartbeats 4000000 in
set_option maxRecDepth 100000 in
/-- reference: stop -/
theorem m_stop (l : Launch) (D : va_G) (h1 b1 b2 b3 : Nat) (cJ : ClassId) (cd nw rk : Int32) (K E L : Nat → Int32) (td wd : Int32) (sz : Nat) (x : Int32) : Met l yX1_stop wsX1_stop ({ frames := 1, cells := 0, slots := 0, locals := 21 } : Room) (kz_Pc D vwCl (mdT cJ) (mdW h1 b1 b2 b3 cJ cd nw rk K E L td wd) sz [.ref h1, .int x]) (va_Qi (fun (r : Int32) (u : MDs) => (¬ md_al K x ∧ u = (1, nw, rk, K, E, L, td, wd)) ∨ (∃ k : Nat, k < 512 ∧ x = nI k ∧ ¬ K k ≤ 0 ∧ r = L k ∧ u = (0, nw, rk, upd K k 0, E, L, td, wd))) (kz_B D vwCl (mdT cJ) (mdU h1 b1 b2 b3 cJ) (va_A (mdW h1 b1 b2 b3 cJ cd nw rk K E L td wd) sz)) (va_A (mdW h1 b1 b2 b3 cJ cd nw rk K E L td wd) sz)) 0 0 (va_A (mdW h1 b1 b2 b3 cJ cd nw rk K E L td wd) sz) := by
  refine Met.ofW (cc := cX1_stop) (maxL := 2) (ret := some .int) (by decide) rfl ?_
  intro p e s m args below meth c s₁ B hml hv
  obtain ⟨rfl, hsz, hP, hK, hD0⟩ := hv
  have hx := B.exec
  have hb := B.bytes
  have hr := B.returns
  have hts := atoms_spec (ws := wsX1_stop) B.pre
  have hown : s.vm.findClass RX1 = some m.cls := findClass_of_methodNamed B.named
  have hlocks := B.notSynchronized
  have hinX1 : ∀ w ∈ wsX10, w ∈ wsX1_stop := by decide +kernel
  subst hsz
  have hD := hD0.self (sz := s.heap.size)
  generalize hAe : va_A (mdW h1 b1 b2 b3 cJ cd nw rk K E L td wd) s.heap.size = A at hD ⊢
  have hA : ∀ q : Nat, s.heap.size ≤ q → A q := fun q h => by rw [← hAe]; exact Or.inr h
  have hS : va_S A s.heap s.heap [] := va_S.rf
  refine kz_enter [.ref h1, .int x] (Nat.le_of_ble_eq_true rfl) (fun ls hl => ?_)
  have hl : lv_has ls 2 [(0, .ref h1), (1, .int x)] := hl
  refine lv_aload_n hx hb dX1_stop_0 rfl (lv_at hl 0 rfl) ?_
  refine lv_aload_n hx hb dX1_stop_1 rfl (lv_at hl 0 rfl) ?_
  refine lv_iload_n hx hb dX1_stop_2 rfl (lv_at hl 1 rfl) ?_
  refine kz_callR (As := [.int x]) (rest := [.ref h1]) ⟨hx, hb, hml, hown, hts⟩ (m_isAlarm l D h1 b1 b2 b3 cJ cd nw rk K E L td wd x) (cwV 1 hts gX1_stop_X1_isAlarm rfl rfl rfl (by decide +kernel) ⟨Nat.le_of_ble_eq_true rfl, Nat.le_of_ble_eq_true rfl⟩) hP hK (va_recv hK hP (ci := 1) (q0 := 0) rfl rfl) rfl hl.1 rfl (Nat.le_of_ble_eq_true rfl) dX1_stop_3 ⟨Nat.zero_le _, Nat.zero_le _⟩ (fun r_1 hr_2 => ?_)
  refine lv_if_eq (tgt := 13) hx hb dX1_stop_6 (by decide) (fun c_6 => ?_) (fun c_6 => ?_)
  · have hS0 := hr_2.f c_6
    refine lv_iconst (v := 1) hx hb dX1_stop_13 (by decide) ?_
    refine va_put (ci := 1) (v := .int 1) (ty := .int) (C := RX1) (T := TX1) (N := 8) hx hb hts hinX1 tyX1 tyX1_ok nmX1 hown hK hP hD hS 0 rfl rfl 0 (by decide) (hts (.fieldLink RX1 23 "AlarmBenchModel" "code" "I") (by decide +kernel)) (fun _ h9 => h9) rfl (by decide +kernel) rfl rfl (Nat.le_of_ble_eq_true rfl) dX1_stop_14 (fun H locs hP hD hS => ?_)
    have hP : va_P D vwCl (mdW h1 b1 b2 b3 cJ 1 nw rk K E L td wd) H := hP
    have hD : va_D A (mdW h1 b1 b2 b3 cJ 1 nw rk K E L td wd) := hD
    refine lv_aload_n hx hb dX1_stop_17 rfl (lv_at hl 0 rfl) ?_
    refine va_get (ci := 1) (v := .int 1) (C := RX1) (T := TX1) (N := 8) hx hb hts hinX1 hown hK hP 0 rfl rfl 0 (by decide) (hts (.fieldLink RX1 23 "AlarmBenchModel" "code" "I") (by decide +kernel)) (fun _ h9 => h9) rfl dX1_stop_18 ?_
    refine lv_if_le (tgt := 26) hx hb dX1_stop_21 (by decide) (fun c_21 => ?_) (fun c_21 => ?_)
    · exact absurd c_21 (by decide)
    · refine lv_iconst (v := 0) hx hb dX1_stop_24 (by decide) ?_
      exact W.iret (v := 0) hx hb hr (fun t9 ht9 hW9 => ⟨⟨_, (1, nw, rk, K, E, L, td, wd), rfl, Or.inl ⟨hS0, rfl⟩, by rw [ht9]; exact hP, va_K.moved hW9.alike hK, hD⟩, hS.F ht9⟩) hS.2.2 dX1_stop_25
  · obtain ⟨k, hk, rfl, hS0⟩ := hr_2.t c_6
    refine lv_iconst (v := 0) hx hb dX1_stop_9 (by decide) ?_
    refine lv_goto (tgt := 14) hx hb dX1_stop_10 (by decide) ?_
    refine va_put (ci := 1) (v := .int 0) (ty := .int) (C := RX1) (T := TX1) (N := 8) hx hb hts hinX1 tyX1 tyX1_ok nmX1 hown hK hP hD hS 0 rfl rfl 0 (by decide) (hts (.fieldLink RX1 23 "AlarmBenchModel" "code" "I") (by decide +kernel)) (fun _ h9 => h9) rfl (by decide +kernel) rfl rfl (Nat.le_of_ble_eq_true rfl) dX1_stop_14 (fun H locs hP hD hS => ?_)
    have hP : va_P D vwCl (mdW h1 b1 b2 b3 cJ 0 nw rk K E L td wd) H := hP
    have hD : va_D A (mdW h1 b1 b2 b3 cJ 0 nw rk K E L td wd) := hD
    refine lv_aload_n hx hb dX1_stop_17 rfl (lv_at hl 0 rfl) ?_
    refine va_get (ci := 1) (v := .int 0) (C := RX1) (T := TX1) (N := 8) hx hb hts hinX1 hown hK hP 0 rfl rfl 0 (by decide) (hts (.fieldLink RX1 23 "AlarmBenchModel" "code" "I") (by decide +kernel)) (fun _ h9 => h9) rfl dX1_stop_18 ?_
    refine lv_if_le (tgt := 26) hx hb dX1_stop_21 (by decide) (fun c_21 => ?_) (fun c_21 => ?_)
    · refine lv_aload_n hx hb dX1_stop_26 rfl (lv_at hl 0 rfl) ?_
      refine va_get (ci := 1) (v := .ref b1) (C := RX1) (T := TX1) (N := 8) hx hb hts hinX1 hown hK hP 0 rfl rfl 3 (by decide) (hts (.fieldLink RX1 7 "AlarmBenchModel" "rank" "[I") (by decide +kernel)) (fun _ h9 => h9) rfl dX1_stop_27 ?_
      refine lv_iload_n hx hb dX1_stop_30 rfl (lv_at hl 1 rfl) ?_
      refine lv_iconst (v := 0) hx hb dX1_stop_31 (by decide) ?_
      refine kz_iast hx hb hK hP hD hS 1 0 rfl rfl hk (by decide) dX1_stop_32 (fun H locs hP hD hS => ?_)
      have hP : va_P D vwCl (mdW h1 b1 b2 b3 cJ 0 nw rk (upd K k 0) E L td wd) H := hP
      have hD : va_D A (mdW h1 b1 b2 b3 cJ 0 nw rk (upd K k 0) E L td wd) := hD
      refine lv_aload_n hx hb dX1_stop_33 rfl (lv_at hl 0 rfl) ?_
      refine va_get (ci := 1) (v := .ref b3) (C := RX1) (T := TX1) (N := 8) hx hb hts hinX1 hown hK hP 0 rfl rfl 5 (by decide) (hts (.fieldLink RX1 16 "AlarmBenchModel" "tells" "[I") (by decide +kernel)) (fun _ h9 => h9) rfl dX1_stop_34 ?_
      refine lv_iload_n hx hb dX1_stop_37 rfl (lv_at hl 1 rfl) ?_
      refine kz_iald hx hb hK hP 3 0 rfl rfl hk (by decide) dX1_stop_38 ?_
      exact W.iret (v := L k) hx hb hr (fun t9 ht9 hW9 => ⟨⟨_, (0, nw, rk, upd K k 0, E, L, td, wd), rfl, Or.inr ⟨k, hk, rfl, hS0, rfl, rfl⟩, by rw [ht9]; exact hP, va_K.moved hW9.alike hK, hD⟩, hS.F ht9⟩) hS.2.2 dX1_stop_39
    · exact absurd (by decide) c_21
set_option maxHeartbeats 4000000 in
set_option maxRecDepth 100000 in
/-- reference: pass -/
theorem m_pass (l : Launch) (D : va_G) (h1 b1 b2 b3 : Nat) (cJ : ClassId) (cd nw rk : Int32) (K E L : Nat → Int32) (td wd : Int32) (sz : Nat) (x : Int32) : Met l yX1_pass wsX1_pass ({ frames := 0, cells := 0, slots := 0, locals := 0 } : Room) (kz_Pc D vwCl (mdT cJ) (mdW h1 b1 b2 b3 cJ cd nw rk K E L td wd) sz [.ref h1, .int x]) (va_Qi (fun (r : Int32) (u : MDs) => ((x < 0 ∨ 200000 < x) ∧ u = (1, nw, rk, K, E, L, td, wd)) ∨ (¬ x < 0 ∧ ¬ 200000 < x ∧ 1000000000 - nw < x ∧ u = (2, nw, rk, K, E, L, td, wd)) ∨ (¬ x < 0 ∧ ¬ 200000 < x ∧ ¬ 1000000000 - nw < x ∧ r = nw + x ∧ u = (0, nw + x, rk, K, E, L, td, wd))) (kz_B D vwCl (mdT cJ) (mdU h1 b1 b2 b3 cJ) (va_A (mdW h1 b1 b2 b3 cJ cd nw rk K E L td wd) sz)) (va_A (mdW h1 b1 b2 b3 cJ cd nw rk K E L td wd) sz)) 0 0 (va_A (mdW h1 b1 b2 b3 cJ cd nw rk K E L td wd) sz) := by
  refine Met.ofW (cc := cX1_pass) (maxL := 2) (ret := some .int) (by decide) rfl ?_
  intro p e s m args below meth c s₁ B hml hv
  obtain ⟨rfl, hsz, hP, hK, hD0⟩ := hv
  have hx := B.exec
  have hb := B.bytes
  have hr := B.returns
  have hts := atoms_spec (ws := wsX1_pass) B.pre
  have hown : s.vm.findClass RX1 = some m.cls := findClass_of_methodNamed B.named
  have hlocks := B.notSynchronized
  have hinX1 : ∀ w ∈ wsX10, w ∈ wsX1_pass := by decide +kernel
  subst hsz
  have hD := hD0.self (sz := s.heap.size)
  generalize hAe : va_A (mdW h1 b1 b2 b3 cJ cd nw rk K E L td wd) s.heap.size = A at hD ⊢
  have hA : ∀ q : Nat, s.heap.size ≤ q → A q := fun q h => by rw [← hAe]; exact Or.inr h
  have hS : va_S A s.heap s.heap [] := va_S.rf
  refine kz_enter [.ref h1, .int x] (Nat.le_of_ble_eq_true rfl) (fun ls hl => ?_)
  have hl : lv_has ls 2 [(0, .ref h1), (1, .int x)] := hl
  refine lv_aload_n hx hb dX1_pass_0 rfl (lv_at hl 0 rfl) ?_
  refine lv_iload_n hx hb dX1_pass_1 rfl (lv_at hl 1 rfl) ?_
  refine lv_if_lt (tgt := 11) hx hb dX1_pass_2 (by decide) (fun c_2 => ?_) (fun c_2 => ?_)
  · refine lv_iconst (v := 1) hx hb dX1_pass_11 (by decide) ?_
    refine lv_goto (tgt := 31) hx hb dX1_pass_12 (by decide) ?_
    refine va_put (ci := 1) (v := .int 1) (ty := .int) (C := RX1) (T := TX1) (N := 8) hx hb hts hinX1 tyX1 tyX1_ok nmX1 hown hK hP hD hS 0 rfl rfl 0 (by decide) (hts (.fieldLink RX1 23 "AlarmBenchModel" "code" "I") (by decide +kernel)) (fun _ h9 => h9) rfl (by decide +kernel) rfl rfl (Nat.le_of_ble_eq_true rfl) dX1_pass_31 (fun H locs hP hD hS => ?_)
    have hP : va_P D vwCl (mdW h1 b1 b2 b3 cJ 1 nw rk K E L td wd) H := hP
    have hD : va_D A (mdW h1 b1 b2 b3 cJ 1 nw rk K E L td wd) := hD
    refine lv_aload_n hx hb dX1_pass_34 rfl (lv_at hl 0 rfl) ?_
    refine va_get (ci := 1) (v := .int 1) (C := RX1) (T := TX1) (N := 8) hx hb hts hinX1 hown hK hP 0 rfl rfl 0 (by decide) (hts (.fieldLink RX1 23 "AlarmBenchModel" "code" "I") (by decide +kernel)) (fun _ h9 => h9) rfl dX1_pass_35 ?_
    refine lv_if_le (tgt := 43) hx hb dX1_pass_38 (by decide) (fun c_38 => ?_) (fun c_38 => ?_)
    · exact absurd c_38 (by decide)
    · refine lv_iconst (v := 0) hx hb dX1_pass_41 (by decide) ?_
      exact W.iret (v := 0) hx hb hr (fun t9 ht9 hW9 => ⟨⟨_, (1, nw, rk, K, E, L, td, wd), rfl, Or.inl ⟨Or.inl c_2, rfl⟩, by rw [ht9]; exact hP, va_K.moved hW9.alike hK, hD⟩, hS.F ht9⟩) hS.2.2 dX1_pass_42
  · refine lv_iload_n hx hb dX1_pass_5 rfl (lv_at hl 1 rfl) ?_
    refine lv_ldc (v := 200000) hx hb hown (hts (.constant RX1 41 200000) (by decide +kernel)) dX1_pass_6 ?_
    refine lv_icmp_le (tgt := 15) hx hb dX1_pass_8 (by decide) (fun c_8 => ?_) (fun c_8 => ?_)
    · refine lv_iload_n hx hb dX1_pass_15 rfl (lv_at hl 1 rfl) ?_
      refine lv_ldc (v := 1000000000) hx hb hown (hts (.constant RX1 32 1000000000) (by decide +kernel)) dX1_pass_16 ?_
      refine lv_aload_n hx hb dX1_pass_18 rfl (lv_at hl 0 rfl) ?_
      refine va_get (ci := 1) (v := .int nw) (C := RX1) (T := TX1) (N := 8) hx hb hts hinX1 hown hK hP 0 rfl rfl 1 (by decide) (hts (.fieldLink RX1 29 "AlarmBenchModel" "now" "I") (by decide +kernel)) (fun _ h9 => h9) rfl dX1_pass_19 ?_
      refine lv_isub hx hb dX1_pass_22 ?_
      refine lv_icmp_le (tgt := 30) hx hb dX1_pass_23 (by decide) (fun c_23 => ?_) (fun c_23 => ?_)
      · refine lv_iconst (v := 0) hx hb dX1_pass_30 (by decide) ?_
        refine va_put (ci := 1) (v := .int 0) (ty := .int) (C := RX1) (T := TX1) (N := 8) hx hb hts hinX1 tyX1 tyX1_ok nmX1 hown hK hP hD hS 0 rfl rfl 0 (by decide) (hts (.fieldLink RX1 23 "AlarmBenchModel" "code" "I") (by decide +kernel)) (fun _ h9 => h9) rfl (by decide +kernel) rfl rfl (Nat.le_of_ble_eq_true rfl) dX1_pass_31 (fun H locs hP hD hS => ?_)
        have hP : va_P D vwCl (mdW h1 b1 b2 b3 cJ 0 nw rk K E L td wd) H := hP
        have hD : va_D A (mdW h1 b1 b2 b3 cJ 0 nw rk K E L td wd) := hD
        refine lv_aload_n hx hb dX1_pass_34 rfl (lv_at hl 0 rfl) ?_
        refine va_get (ci := 1) (v := .int 0) (C := RX1) (T := TX1) (N := 8) hx hb hts hinX1 hown hK hP 0 rfl rfl 0 (by decide) (hts (.fieldLink RX1 23 "AlarmBenchModel" "code" "I") (by decide +kernel)) (fun _ h9 => h9) rfl dX1_pass_35 ?_
        refine lv_if_le (tgt := 43) hx hb dX1_pass_38 (by decide) (fun c_38 => ?_) (fun c_38 => ?_)
        · refine lv_aload_n hx hb dX1_pass_43 rfl (lv_at hl 0 rfl) ?_
          refine lv_dup hx hb dX1_pass_44 rfl ?_
          refine va_get (ci := 1) (v := .int nw) (C := RX1) (T := TX1) (N := 8) hx hb hts hinX1 hown hK hP 0 rfl rfl 1 (by decide) (hts (.fieldLink RX1 29 "AlarmBenchModel" "now" "I") (by decide +kernel)) (fun _ h9 => h9) rfl dX1_pass_45 ?_
          refine lv_iload_n hx hb dX1_pass_48 rfl (lv_at hl 1 rfl) ?_
          refine lv_iadd hx hb dX1_pass_49 ?_
          refine va_put (ci := 1) (v := .int (nw + x)) (ty := .int) (C := RX1) (T := TX1) (N := 8) hx hb hts hinX1 tyX1 tyX1_ok nmX1 hown hK hP hD hS 0 rfl rfl 1 (by decide) (hts (.fieldLink RX1 29 "AlarmBenchModel" "now" "I") (by decide +kernel)) (fun _ h9 => h9) rfl (by decide +kernel) rfl rfl (Nat.le_of_ble_eq_true rfl) dX1_pass_50 (fun H locs hP hD hS => ?_)
          have hP : va_P D vwCl (mdW h1 b1 b2 b3 cJ 0 (nw + x) rk K E L td wd) H := hP
          have hD : va_D A (mdW h1 b1 b2 b3 cJ 0 (nw + x) rk K E L td wd) := hD
          refine lv_aload_n hx hb dX1_pass_53 rfl (lv_at hl 0 rfl) ?_
          refine va_get (ci := 1) (v := .int (nw + x)) (C := RX1) (T := TX1) (N := 8) hx hb hts hinX1 hown hK hP 0 rfl rfl 1 (by decide) (hts (.fieldLink RX1 29 "AlarmBenchModel" "now" "I") (by decide +kernel)) (fun _ h9 => h9) rfl dX1_pass_54 ?_
          exact W.iret (v := nw + x) hx hb hr (fun t9 ht9 hW9 => ⟨⟨_, (0, nw + x, rk, K, E, L, td, wd), rfl, Or.inr (Or.inr ⟨c_2, Int32.not_lt.mpr c_8, Int32.not_lt.mpr c_23, rfl, rfl⟩), by rw [ht9]; exact hP, va_K.moved hW9.alike hK, hD⟩, hS.F ht9⟩) hS.2.2 dX1_pass_57
        · exact absurd (by decide) c_38
      · refine lv_iconst (v := 2) hx hb dX1_pass_26 (by decide) ?_
        refine lv_goto (tgt := 31) hx hb dX1_pass_27 (by decide) ?_
        refine va_put (ci := 1) (v := .int 2) (ty := .int) (C := RX1) (T := TX1) (N := 8) hx hb hts hinX1 tyX1 tyX1_ok nmX1 hown hK hP hD hS 0 rfl rfl 0 (by decide) (hts (.fieldLink RX1 23 "AlarmBenchModel" "code" "I") (by decide +kernel)) (fun _ h9 => h9) rfl (by decide +kernel) rfl rfl (Nat.le_of_ble_eq_true rfl) dX1_pass_31 (fun H locs hP hD hS => ?_)
        have hP : va_P D vwCl (mdW h1 b1 b2 b3 cJ 2 nw rk K E L td wd) H := hP
        have hD : va_D A (mdW h1 b1 b2 b3 cJ 2 nw rk K E L td wd) := hD
        refine lv_aload_n hx hb dX1_pass_34 rfl (lv_at hl 0 rfl) ?_
        refine va_get (ci := 1) (v := .int 2) (C := RX1) (T := TX1) (N := 8) hx hb hts hinX1 hown hK hP 0 rfl rfl 0 (by decide) (hts (.fieldLink RX1 23 "AlarmBenchModel" "code" "I") (by decide +kernel)) (fun _ h9 => h9) rfl dX1_pass_35 ?_
        refine lv_if_le (tgt := 43) hx hb dX1_pass_38 (by decide) (fun c_38 => ?_) (fun c_38 => ?_)
        · exact absurd c_38 (by decide)
        · refine lv_iconst (v := 0) hx hb dX1_pass_41 (by decide) ?_
          exact W.iret (v := 0) hx hb hr (fun t9 ht9 hW9 => ⟨⟨_, (2, nw, rk, K, E, L, td, wd), rfl, Or.inr (Or.inl ⟨c_2, Int32.not_lt.mpr c_8, Int32.not_le.mp c_23, rfl⟩), by rw [ht9]; exact hP, va_K.moved hW9.alike hK, hD⟩, hS.F ht9⟩) hS.2.2 dX1_pass_42
    · refine lv_iconst (v := 1) hx hb dX1_pass_11 (by decide) ?_
      refine lv_goto (tgt := 31) hx hb dX1_pass_12 (by decide) ?_
      refine va_put (ci := 1) (v := .int 1) (ty := .int) (C := RX1) (T := TX1) (N := 8) hx hb hts hinX1 tyX1 tyX1_ok nmX1 hown hK hP hD hS 0 rfl rfl 0 (by decide) (hts (.fieldLink RX1 23 "AlarmBenchModel" "code" "I") (by decide +kernel)) (fun _ h9 => h9) rfl (by decide +kernel) rfl rfl (Nat.le_of_ble_eq_true rfl) dX1_pass_31 (fun H locs hP hD hS => ?_)
      have hP : va_P D vwCl (mdW h1 b1 b2 b3 cJ 1 nw rk K E L td wd) H := hP
      have hD : va_D A (mdW h1 b1 b2 b3 cJ 1 nw rk K E L td wd) := hD
      refine lv_aload_n hx hb dX1_pass_34 rfl (lv_at hl 0 rfl) ?_
      refine va_get (ci := 1) (v := .int 1) (C := RX1) (T := TX1) (N := 8) hx hb hts hinX1 hown hK hP 0 rfl rfl 0 (by decide) (hts (.fieldLink RX1 23 "AlarmBenchModel" "code" "I") (by decide +kernel)) (fun _ h9 => h9) rfl dX1_pass_35 ?_
      refine lv_if_le (tgt := 43) hx hb dX1_pass_38 (by decide) (fun c_38 => ?_) (fun c_38 => ?_)
      · exact absurd c_38 (by decide)
      · refine lv_iconst (v := 0) hx hb dX1_pass_41 (by decide) ?_
        exact W.iret (v := 0) hx hb hr (fun t9 ht9 hW9 => ⟨⟨_, (1, nw, rk, K, E, L, td, wd), rfl, Or.inl ⟨Or.inr (Int32.not_le.mp c_8), rfl⟩, by rw [ht9]; exact hP, va_K.moved hW9.alike hK, hD⟩, hS.F ht9⟩) hS.2.2 dX1_pass_42
set_option maxHeartbeats 4000000 in
set_option maxRecDepth 100000 in
/-- reference: about -/
theorem m_about (l : Launch) (D : va_G) (h1 b1 b2 b3 : Nat) (cJ : ClassId) (cd nw rk : Int32) (K E L : Nat → Int32) (td wd : Int32) (sz : Nat) (x w : Int32) : Met l yX1_about wsX1_about ({ frames := 1, cells := 0, slots := 0, locals := 21 } : Room) (kz_Pc D vwCl (mdT cJ) (mdW h1 b1 b2 b3 cJ cd nw rk K E L td wd) sz [.ref h1, .int x, .int w]) (va_Qi (fun (r : Int32) (u : MDs) => (¬ (md_al K x ∧ ¬ w < 0 ∧ ¬ 1 < w) ∧ u = (1, nw, rk, K, E, L, td, wd)) ∨ (∃ k : Nat, k < 512 ∧ x = nI k ∧ ¬ K k ≤ 0 ∧ ¬ w < 0 ∧ ¬ 1 < w ∧ ((w = 0 ∧ r = E k) ∨ (¬ w = 0 ∧ r = L k)) ∧ u = (0, nw, rk, K, E, L, td, wd))) (kz_B D vwCl (mdT cJ) (mdU h1 b1 b2 b3 cJ) (va_A (mdW h1 b1 b2 b3 cJ cd nw rk K E L td wd) sz)) (va_A (mdW h1 b1 b2 b3 cJ cd nw rk K E L td wd) sz)) 0 0 (va_A (mdW h1 b1 b2 b3 cJ cd nw rk K E L td wd) sz) := by
  refine Met.ofW (cc := cX1_about) (maxL := 3) (ret := some .int) (by decide) rfl ?_
  intro p e s m args below meth c s₁ B hml hv
  obtain ⟨rfl, hsz, hP, hK, hD0⟩ := hv
  have hx := B.exec
  have hb := B.bytes
  have hr := B.returns
  have hts := atoms_spec (ws := wsX1_about) B.pre
  have hown : s.vm.findClass RX1 = some m.cls := findClass_of_methodNamed B.named
  have hlocks := B.notSynchronized
  have hinX1 : ∀ w ∈ wsX10, w ∈ wsX1_about := by decide +kernel
  subst hsz
  have hD := hD0.self (sz := s.heap.size)
  generalize hAe : va_A (mdW h1 b1 b2 b3 cJ cd nw rk K E L td wd) s.heap.size = A at hD ⊢
  have hA : ∀ q : Nat, s.heap.size ≤ q → A q := fun q h => by rw [← hAe]; exact Or.inr h
  have hS : va_S A s.heap s.heap [] := va_S.rf
  refine kz_enter [.ref h1, .int x, .int w] (Nat.le_of_ble_eq_true rfl) (fun ls hl => ?_)
  have hl : lv_has ls 3 [(0, .ref h1), (1, .int x), (2, .int w)] := hl
  refine lv_aload_n hx hb dX1_about_0 rfl (lv_at hl 0 rfl) ?_
  refine lv_aload_n hx hb dX1_about_1 rfl (lv_at hl 0 rfl) ?_
  refine lv_iload_n hx hb dX1_about_2 rfl (lv_at hl 1 rfl) ?_
  refine kz_callR (As := [.int x]) (rest := [.ref h1]) ⟨hx, hb, hml, hown, hts⟩ (m_isAlarm l D h1 b1 b2 b3 cJ cd nw rk K E L td wd x) (cwV 1 hts gX1_about_X1_isAlarm rfl rfl rfl (by decide +kernel) ⟨Nat.le_of_ble_eq_true rfl, Nat.le_of_ble_eq_true rfl⟩) hP hK (va_recv hK hP (ci := 1) (q0 := 0) rfl rfl) rfl hl.1 rfl (Nat.le_of_ble_eq_true rfl) dX1_about_3 ⟨Nat.zero_le _, Nat.zero_le _⟩ (fun r_1 hr_2 => ?_)
  refine lv_if_eq (tgt := 18) hx hb dX1_about_6 (by decide) (fun c_6 => ?_) (fun c_6 => ?_)
  · have hS0 := hr_2.f c_6
    refine lv_iconst (v := 1) hx hb dX1_about_18 (by decide) ?_
    refine lv_goto (tgt := 23) hx hb dX1_about_19 (by decide) ?_
    refine va_put (ci := 1) (v := .int 1) (ty := .int) (C := RX1) (T := TX1) (N := 8) hx hb hts hinX1 tyX1 tyX1_ok nmX1 hown hK hP hD hS 0 rfl rfl 0 (by decide) (hts (.fieldLink RX1 23 "AlarmBenchModel" "code" "I") (by decide +kernel)) (fun _ h9 => h9) rfl (by decide +kernel) rfl rfl (Nat.le_of_ble_eq_true rfl) dX1_about_23 (fun H locs hP hD hS => ?_)
    have hP : va_P D vwCl (mdW h1 b1 b2 b3 cJ 1 nw rk K E L td wd) H := hP
    have hD : va_D A (mdW h1 b1 b2 b3 cJ 1 nw rk K E L td wd) := hD
    refine lv_aload_n hx hb dX1_about_26 rfl (lv_at hl 0 rfl) ?_
    refine va_get (ci := 1) (v := .int 1) (C := RX1) (T := TX1) (N := 8) hx hb hts hinX1 hown hK hP 0 rfl rfl 0 (by decide) (hts (.fieldLink RX1 23 "AlarmBenchModel" "code" "I") (by decide +kernel)) (fun _ h9 => h9) rfl dX1_about_27 ?_
    refine lv_if_le (tgt := 37) hx hb dX1_about_30 (by decide) (fun c_30 => ?_) (fun c_30 => ?_)
    · exact absurd c_30 (by decide)
    · refine lv_iconst (v := 0) hx hb dX1_about_33 (by decide) ?_
      refine lv_goto (tgt := 56) hx hb dX1_about_34 (by decide) ?_
      exact W.iret (v := 0) hx hb hr (fun t9 ht9 hW9 => ⟨⟨_, (1, nw, rk, K, E, L, td, wd), rfl, Or.inl ⟨fun h9 => hS0 h9.1, rfl⟩, by rw [ht9]; exact hP, va_K.moved hW9.alike hK, hD⟩, hS.F ht9⟩) hS.2.2 dX1_about_56
  · obtain ⟨k, hk, rfl, hS0⟩ := hr_2.t c_6
    refine lv_iload_n hx hb dX1_about_9 rfl (lv_at hl 2 rfl) ?_
    refine lv_if_lt (tgt := 18) hx hb dX1_about_10 (by decide) (fun c_10 => ?_) (fun c_10 => ?_)
    · refine lv_iconst (v := 1) hx hb dX1_about_18 (by decide) ?_
      refine lv_goto (tgt := 23) hx hb dX1_about_19 (by decide) ?_
      refine va_put (ci := 1) (v := .int 1) (ty := .int) (C := RX1) (T := TX1) (N := 8) hx hb hts hinX1 tyX1 tyX1_ok nmX1 hown hK hP hD hS 0 rfl rfl 0 (by decide) (hts (.fieldLink RX1 23 "AlarmBenchModel" "code" "I") (by decide +kernel)) (fun _ h9 => h9) rfl (by decide +kernel) rfl rfl (Nat.le_of_ble_eq_true rfl) dX1_about_23 (fun H locs hP hD hS => ?_)
      have hP : va_P D vwCl (mdW h1 b1 b2 b3 cJ 1 nw rk K E L td wd) H := hP
      have hD : va_D A (mdW h1 b1 b2 b3 cJ 1 nw rk K E L td wd) := hD
      refine lv_aload_n hx hb dX1_about_26 rfl (lv_at hl 0 rfl) ?_
      refine va_get (ci := 1) (v := .int 1) (C := RX1) (T := TX1) (N := 8) hx hb hts hinX1 hown hK hP 0 rfl rfl 0 (by decide) (hts (.fieldLink RX1 23 "AlarmBenchModel" "code" "I") (by decide +kernel)) (fun _ h9 => h9) rfl dX1_about_27 ?_
      refine lv_if_le (tgt := 37) hx hb dX1_about_30 (by decide) (fun c_30 => ?_) (fun c_30 => ?_)
      · exact absurd c_30 (by decide)
      · refine lv_iconst (v := 0) hx hb dX1_about_33 (by decide) ?_
        refine lv_goto (tgt := 56) hx hb dX1_about_34 (by decide) ?_
        exact W.iret (v := 0) hx hb hr (fun t9 ht9 hW9 => ⟨⟨_, (1, nw, rk, K, E, L, td, wd), rfl, Or.inl ⟨fun h9 => h9.2.1 c_10, rfl⟩, by rw [ht9]; exact hP, va_K.moved hW9.alike hK, hD⟩, hS.F ht9⟩) hS.2.2 dX1_about_56
    · refine lv_iload_n hx hb dX1_about_13 rfl (lv_at hl 2 rfl) ?_
      refine lv_iconst (v := 1) hx hb dX1_about_14 (by decide) ?_
      refine lv_icmp_le (tgt := 22) hx hb dX1_about_15 (by decide) (fun c_15 => ?_) (fun c_15 => ?_)
      · refine lv_iconst (v := 0) hx hb dX1_about_22 (by decide) ?_
        refine va_put (ci := 1) (v := .int 0) (ty := .int) (C := RX1) (T := TX1) (N := 8) hx hb hts hinX1 tyX1 tyX1_ok nmX1 hown hK hP hD hS 0 rfl rfl 0 (by decide) (hts (.fieldLink RX1 23 "AlarmBenchModel" "code" "I") (by decide +kernel)) (fun _ h9 => h9) rfl (by decide +kernel) rfl rfl (Nat.le_of_ble_eq_true rfl) dX1_about_23 (fun H locs hP hD hS => ?_)
        have hP : va_P D vwCl (mdW h1 b1 b2 b3 cJ 0 nw rk K E L td wd) H := hP
        have hD : va_D A (mdW h1 b1 b2 b3 cJ 0 nw rk K E L td wd) := hD
        refine lv_aload_n hx hb dX1_about_26 rfl (lv_at hl 0 rfl) ?_
        refine va_get (ci := 1) (v := .int 0) (C := RX1) (T := TX1) (N := 8) hx hb hts hinX1 hown hK hP 0 rfl rfl 0 (by decide) (hts (.fieldLink RX1 23 "AlarmBenchModel" "code" "I") (by decide +kernel)) (fun _ h9 => h9) rfl dX1_about_27 ?_
        refine lv_if_le (tgt := 37) hx hb dX1_about_30 (by decide) (fun c_30 => ?_) (fun c_30 => ?_)
        · refine lv_iload_n hx hb dX1_about_37 rfl (lv_at hl 2 rfl) ?_
          refine lv_if_ne (tgt := 50) hx hb dX1_about_38 (by decide) (fun c_38 => ?_) (fun c_38 => ?_)
          · refine lv_aload_n hx hb dX1_about_50 rfl (lv_at hl 0 rfl) ?_
            refine va_get (ci := 1) (v := .ref b3) (C := RX1) (T := TX1) (N := 8) hx hb hts hinX1 hown hK hP 0 rfl rfl 5 (by decide) (hts (.fieldLink RX1 16 "AlarmBenchModel" "tells" "[I") (by decide +kernel)) (fun _ h9 => h9) rfl dX1_about_51 ?_
            refine lv_iload_n hx hb dX1_about_54 rfl (lv_at hl 1 rfl) ?_
            refine kz_iald hx hb hK hP 3 0 rfl rfl hk (by decide) dX1_about_55 ?_
            exact W.iret (v := L k) hx hb hr (fun t9 ht9 hW9 => ⟨⟨_, (0, nw, rk, K, E, L, td, wd), rfl, Or.inr ⟨k, hk, rfl, hS0, c_10, Int32.not_lt.mpr c_15, Or.inr ⟨c_38, rfl⟩, rfl⟩, by rw [ht9]; exact hP, va_K.moved hW9.alike hK, hD⟩, hS.F ht9⟩) hS.2.2 dX1_about_56
          · refine lv_aload_n hx hb dX1_about_41 rfl (lv_at hl 0 rfl) ?_
            refine va_get (ci := 1) (v := .ref b2) (C := RX1) (T := TX1) (N := 8) hx hb hts hinX1 hown hK hP 0 rfl rfl 4 (by decide) (hts (.fieldLink RX1 13 "AlarmBenchModel" "due" "[I") (by decide +kernel)) (fun _ h9 => h9) rfl dX1_about_42 ?_
            refine lv_iload_n hx hb dX1_about_45 rfl (lv_at hl 1 rfl) ?_
            refine kz_iald hx hb hK hP 2 0 rfl rfl hk (by decide) dX1_about_46 ?_
            refine lv_goto (tgt := 56) hx hb dX1_about_47 (by decide) ?_
            exact W.iret (v := E k) hx hb hr (fun t9 ht9 hW9 => ⟨⟨_, (0, nw, rk, K, E, L, td, wd), rfl, Or.inr ⟨k, hk, rfl, hS0, c_10, Int32.not_lt.mpr c_15, Or.inl ⟨c_38, rfl⟩, rfl⟩, by rw [ht9]; exact hP, va_K.moved hW9.alike hK, hD⟩, hS.F ht9⟩) hS.2.2 dX1_about_56
        · exact absurd (by decide) c_30
      · refine lv_iconst (v := 1) hx hb dX1_about_18 (by decide) ?_
        refine lv_goto (tgt := 23) hx hb dX1_about_19 (by decide) ?_
        refine va_put (ci := 1) (v := .int 1) (ty := .int) (C := RX1) (T := TX1) (N := 8) hx hb hts hinX1 tyX1 tyX1_ok nmX1 hown hK hP hD hS 0 rfl rfl 0 (by decide) (hts (.fieldLink RX1 23 "AlarmBenchModel" "code" "I") (by decide +kernel)) (fun _ h9 => h9) rfl (by decide +kernel) rfl rfl (Nat.le_of_ble_eq_true rfl) dX1_about_23 (fun H locs hP hD hS => ?_)
        have hP : va_P D vwCl (mdW h1 b1 b2 b3 cJ 1 nw rk K E L td wd) H := hP
        have hD : va_D A (mdW h1 b1 b2 b3 cJ 1 nw rk K E L td wd) := hD
        refine lv_aload_n hx hb dX1_about_26 rfl (lv_at hl 0 rfl) ?_
        refine va_get (ci := 1) (v := .int 1) (C := RX1) (T := TX1) (N := 8) hx hb hts hinX1 hown hK hP 0 rfl rfl 0 (by decide) (hts (.fieldLink RX1 23 "AlarmBenchModel" "code" "I") (by decide +kernel)) (fun _ h9 => h9) rfl dX1_about_27 ?_
        refine lv_if_le (tgt := 37) hx hb dX1_about_30 (by decide) (fun c_30 => ?_) (fun c_30 => ?_)
        · exact absurd c_30 (by decide)
        · refine lv_iconst (v := 0) hx hb dX1_about_33 (by decide) ?_
          refine lv_goto (tgt := 56) hx hb dX1_about_34 (by decide) ?_
          exact W.iret (v := 0) hx hb hr (fun t9 ht9 hW9 => ⟨⟨_, (1, nw, rk, K, E, L, td, wd), rfl, Or.inl ⟨fun h9 => h9.2.2 (Int32.not_le.mp c_15), rfl⟩, by rw [ht9]; exact hP, va_K.moved hW9.alike hK, hD⟩, hS.F ht9⟩) hS.2.2 dX1_about_56
end
section
abbrev MDg : Type := Nat × Nat × Nat × ClassId
set_option maxHeartbeats 4000000 in
set_option maxRecDepth 100000 in
/-- reference: constructor -/
theorem m_init (l : Launch) (D : va_G) (h1 sz : Nat) : Met l yX1_init wsX1_init ({ frames := 1, cells := 3, slots := 1536, locals := 12 } : Room) (kz_Pc D vwCl [] [(h1, .inr (1, [.int 0, .int 0, .int 0, .null, .null, .null, .int 0, .int 0]))] sz [.ref h1]) (va_Qv (fun _ : MDg => True) (fun v t => va_P D vwCl (mdW h1 v.1 v.2.1 v.2.2.1 v.2.2.2 0 0 0 (fun _ => 0) (fun _ => 0) (fun _ => 0) 0 (-1)) t.heap ∧ va_K D vwCl (mdT v.2.2.2) t ∧ va_D (va_A [(h1, .inr (1, [.int 0, .int 0, .int 0, .null, .null, .null, .int 0, .int 0]))] sz) (mdW h1 v.1 v.2.1 v.2.2.1 v.2.2.2 0 0 0 (fun _ => 0) (fun _ => 0) (fun _ => 0) 0 (-1))) (va_A [(h1, .inr (1, [.int 0, .int 0, .int 0, .null, .null, .null, .int 0, .int 0]))] sz)) 3 1536 (va_A [(h1, .inr (1, [.int 0, .int 0, .int 0, .null, .null, .null, .int 0, .int 0]))] sz) := by
  refine Met.ofW (cc := cX1_init) (maxL := 1) (ret := none) (by decide) rfl ?_
  intro p e s m args below meth c s₁ B hml hv
  obtain ⟨rfl, hsz, hP, hK, hD0⟩ := hv
  have hx := B.exec
  have hb := B.bytes
  have hr := B.returns
  have hts := atoms_spec (ws := wsX1_init) B.pre
  have hown : s.vm.findClass RX1 = some m.cls := findClass_of_methodNamed B.named
  have hlocks := B.notSynchronized
  have hin : meth.name = "<init>" := (name_of_methodNamed B.named B.method).1
  have hinX1 : ∀ w ∈ wsX10, w ∈ wsX1_init := by decide +kernel
  subst hsz
  have hD := hD0.self (sz := s.heap.size)
  generalize hAe : va_A [(h1, .inr (1, [.int 0, .int 0, .int 0, .null, .null, .null, .int 0, .int 0]))] s.heap.size = A at hD ⊢
  have hA : ∀ q : Nat, s.heap.size ≤ q → A q := fun q h => by rw [← hAe]; exact Or.inr h
  have hS : va_S A s.heap s.heap [] := va_S.rf
  refine kz_enter [.ref h1] (Nat.le_of_ble_eq_true rfl) (fun ls hl => ?_)
  have hl : lv_has ls 1 [(0, .ref h1)] := hl
  refine lv_aload_n hx hb dX1_init_0 rfl (lv_at hl 0 rfl) ?_
  refine W.objInit hx hb hown (hts (.methodLink RX1 1 objectInit) (by decide +kernel)) (hts (.instanceMethod objectInit) (by decide +kernel)) (hts (.code objectInit ⟨#[0xb1]⟩ 1 none) (by decide +kernel)) rfl (by rw [hml]; exact hl.1) rfl dX1_init_1 (Nat.le_of_ble_eq_true rfl) (Nat.le_of_ble_eq_true rfl) ?_
  refine W.eq (g2 := F0 m 4 ls []) rfl ?_
  refine lv_aload_n hx hb dX1_init_4 rfl (lv_at hl 0 rfl) ?_
  refine lv_sipush (v := 512) hx hb dX1_init_5 (by decide) ?_
  refine va_newa (atype := .int) (N' := 512) (a0 := (512, .inl (fun _ => 0))) (ty := .int) (n := 512) hx hb (hts (.arrayClass .int) (by decide +kernel)) rfl hK hP hD hS hA (fun _ => rfl) (by decide) (by decide) (by decide) (Nat.le_of_ble_eq_true rfl) (Nat.le_of_ble_eq_true rfl) dX1_init_8 (fun b1 c1 H hK hP hD hS => ?_)
  have hP : va_P D vwCl [(h1, .inr (1, [.int 0, .int 0, .int 0, .null, .null, .null, .int 0, .int 0])), (b1, .inl (c1, 512, .inl (fun _ => 0)))] H := hP
  have hD : va_D A [(h1, .inr (1, [.int 0, .int 0, .int 0, .null, .null, .null, .int 0, .int 0])), (b1, .inl (c1, 512, .inl (fun _ => 0)))] := hD
  have hK : va_K D vwCl [(c1, .int)] s := hK
  refine W.widen (k := 1) (n := 512) (by decide) (by decide) ?_
  refine va_putF (ci := 1) (v := .ref b1) (ty := .array .int) (C := RX1) (T := TX1) (N := 8) hx hb hts hinX1 tyX1 tyX1_ok nmX1 hown hK hP hD hS 0 rfl rfl 3 (by decide) (hts (.fieldLink RX1 7 "AlarmBenchModel" "rank" "[I") (by decide +kernel)) (fun _ h9 => h9) rfl hin rfl (by decide +kernel) rfl rfl (Nat.le_of_ble_eq_true rfl) dX1_init_10 (fun H locs hP hD hS => ?_)
  have hP : va_P D vwCl [(h1, .inr (1, [.int 0, .int 0, .int 0, .ref b1, .null, .null, .int 0, .int 0])), (b1, .inl (c1, 512, .inl (fun _ => 0)))] H := hP
  have hD : va_D A [(h1, .inr (1, [.int 0, .int 0, .int 0, .ref b1, .null, .null, .int 0, .int 0])), (b1, .inl (c1, 512, .inl (fun _ => 0)))] := hD
  refine lv_aload_n hx hb dX1_init_13 rfl (lv_at hl 0 rfl) ?_
  refine lv_sipush (v := 512) hx hb dX1_init_14 (by decide) ?_
  refine va_newa (atype := .int) (N' := 512) (a0 := (512, .inl (fun _ => 0))) (ty := .int) (n := 512) hx hb (hts (.arrayClass .int) (by decide +kernel)) rfl hK hP hD hS hA (fun _ => rfl) (by decide) (by decide) (by decide) (Nat.le_of_ble_eq_true rfl) (Nat.le_of_ble_eq_true rfl) dX1_init_17 (fun b2 c2 H hK hP hD hS => ?_)
  have hP : va_P D vwCl [(h1, .inr (1, [.int 0, .int 0, .int 0, .ref b1, .null, .null, .int 0, .int 0])), (b1, .inl (c1, 512, .inl (fun _ => 0))), (b2, .inl (c2, 512, .inl (fun _ => 0)))] H := hP
  have hD : va_D A [(h1, .inr (1, [.int 0, .int 0, .int 0, .ref b1, .null, .null, .int 0, .int 0])), (b1, .inl (c1, 512, .inl (fun _ => 0))), (b2, .inl (c2, 512, .inl (fun _ => 0)))] := hD
  have hK : va_K D vwCl [(c1, .int), (c2, .int)] s := hK
  refine W.widen (k := 2) (n := 1024) (by decide) (by decide) ?_
  refine va_putF (ci := 1) (v := .ref b2) (ty := .array .int) (C := RX1) (T := TX1) (N := 8) hx hb hts hinX1 tyX1 tyX1_ok nmX1 hown hK hP hD hS 0 rfl rfl 4 (by decide) (hts (.fieldLink RX1 13 "AlarmBenchModel" "due" "[I") (by decide +kernel)) (fun _ h9 => h9) rfl hin rfl (by decide +kernel) rfl rfl (Nat.le_of_ble_eq_true rfl) dX1_init_19 (fun H locs hP hD hS => ?_)
  have hP : va_P D vwCl [(h1, .inr (1, [.int 0, .int 0, .int 0, .ref b1, .ref b2, .null, .int 0, .int 0])), (b1, .inl (c1, 512, .inl (fun _ => 0))), (b2, .inl (c2, 512, .inl (fun _ => 0)))] H := hP
  have hD : va_D A [(h1, .inr (1, [.int 0, .int 0, .int 0, .ref b1, .ref b2, .null, .int 0, .int 0])), (b1, .inl (c1, 512, .inl (fun _ => 0))), (b2, .inl (c2, 512, .inl (fun _ => 0)))] := hD
  refine lv_aload_n hx hb dX1_init_22 rfl (lv_at hl 0 rfl) ?_
  refine lv_sipush (v := 512) hx hb dX1_init_23 (by decide) ?_
  refine va_newa (atype := .int) (N' := 512) (a0 := (512, .inl (fun _ => 0))) (ty := .int) (n := 512) hx hb (hts (.arrayClass .int) (by decide +kernel)) rfl hK hP hD hS hA (fun _ => rfl) (by decide) (by decide) (by decide) (Nat.le_of_ble_eq_true rfl) (Nat.le_of_ble_eq_true rfl) dX1_init_26 (fun b3 c3 H hK hP hD hS => ?_)
  have hP : va_P D vwCl [(h1, .inr (1, [.int 0, .int 0, .int 0, .ref b1, .ref b2, .null, .int 0, .int 0])), (b1, .inl (c1, 512, .inl (fun _ => 0))), (b2, .inl (c2, 512, .inl (fun _ => 0))), (b3, .inl (c3, 512, .inl (fun _ => 0)))] H := hP
  have hD : va_D A [(h1, .inr (1, [.int 0, .int 0, .int 0, .ref b1, .ref b2, .null, .int 0, .int 0])), (b1, .inl (c1, 512, .inl (fun _ => 0))), (b2, .inl (c2, 512, .inl (fun _ => 0))), (b3, .inl (c3, 512, .inl (fun _ => 0)))] := hD
  have hK : va_K D vwCl [(c1, .int), (c2, .int), (c3, .int)] s := hK
  refine W.widen (k := 3) (n := 1536) (by decide) (by decide) ?_
  refine va_putF (ci := 1) (v := .ref b3) (ty := .array .int) (C := RX1) (T := TX1) (N := 8) hx hb hts hinX1 tyX1 tyX1_ok nmX1 hown hK hP hD hS 0 rfl rfl 5 (by decide) (hts (.fieldLink RX1 16 "AlarmBenchModel" "tells" "[I") (by decide +kernel)) (fun _ h9 => h9) rfl hin rfl (by decide +kernel) rfl rfl (Nat.le_of_ble_eq_true rfl) dX1_init_28 (fun H locs hP hD hS => ?_)
  have hP : va_P D vwCl [(h1, .inr (1, [.int 0, .int 0, .int 0, .ref b1, .ref b2, .ref b3, .int 0, .int 0])), (b1, .inl (c1, 512, .inl (fun _ => 0))), (b2, .inl (c2, 512, .inl (fun _ => 0))), (b3, .inl (c3, 512, .inl (fun _ => 0)))] H := hP
  have hD : va_D A [(h1, .inr (1, [.int 0, .int 0, .int 0, .ref b1, .ref b2, .ref b3, .int 0, .int 0])), (b1, .inl (c1, 512, .inl (fun _ => 0))), (b2, .inl (c2, 512, .inl (fun _ => 0))), (b3, .inl (c3, 512, .inl (fun _ => 0)))] := hD
  refine lv_aload_n hx hb dX1_init_31 rfl (lv_at hl 0 rfl) ?_
  refine lv_iconst (v := -1) hx hb dX1_init_32 (by decide) ?_
  refine va_put (ci := 1) (v := .int (-1)) (ty := .int) (C := RX1) (T := TX1) (N := 8) hx hb hts hinX1 tyX1 tyX1_ok nmX1 hown hK hP hD hS 0 rfl rfl 7 (by decide) (hts (.fieldLink RX1 19 "AlarmBenchModel" "wasDue" "I") (by decide +kernel)) (fun _ h9 => h9) rfl (by decide +kernel) rfl rfl (Nat.le_of_ble_eq_true rfl) dX1_init_33 (fun H locs hP hD hS => ?_)
  have hP : va_P D vwCl [(h1, .inr (1, [.int 0, .int 0, .int 0, .ref b1, .ref b2, .ref b3, .int 0, .int (-1)])), (b1, .inl (c1, 512, .inl (fun _ => 0))), (b2, .inl (c2, 512, .inl (fun _ => 0))), (b3, .inl (c3, 512, .inl (fun _ => 0)))] H := hP
  have hD : va_D A [(h1, .inr (1, [.int 0, .int 0, .int 0, .ref b1, .ref b2, .ref b3, .int 0, .int (-1)])), (b1, .inl (c1, 512, .inl (fun _ => 0))), (b2, .inl (c2, 512, .inl (fun _ => 0))), (b3, .inl (c3, 512, .inl (fun _ => 0)))] := hD
  obtain rfl : c1 = c2 := Option.some.inj ((hK.2 0 _ rfl).2.symm.trans (hK.2 1 _ rfl).2)
  obtain rfl : c1 = c3 := Option.some.inj ((hK.2 0 _ rfl).2.symm.trans (hK.2 2 _ rfl).2)
  have hK := hK.sub (tys' := mdT c1) [0] rfl
  exact W.vret hx hb hr (fun t9 ht9 hW9 => ⟨⟨(b1, b2, b3, c1), rfl, trivial, by rw [ht9]; exact hP, va_K.moved hW9.alike hK, hD⟩, hS.F ht9⟩) hS.2.2 dX1_init_36
end
section
/-! The law's own helpers: what they start from, and a call of one in one row. -/
section HL
variable {p : Program} {l : Launch} {e : Env} {R : Room} {s : State} {m : MethodId} {args : Array Value} {below : List Frame} {meth : Method} {c : Code} {H : Heap} {locs : List Loc} {cells slots : Nat} {Q : State → Prop}
variable {cc : ByteArray} {pc : Nat} {ls : Array Slot} {rest : List Value} {D : va_G} {cl : List vw_C} {A : Nat → Prop} {a : Nat} {tys : List (ClassId × FieldType)} {ws : va_W} {H0 : Heap}
/-- out[0] = x -/
theorem kz_last0 (hx : p.tables.exec = Jvm.exec) (hb : c.code = cc) (hK : va_K D cl tys s) (hP : va_P D cl ws H) (hD : va_D A ws) (hS : va_S A H0 H locs) (q0 t0 : Nat) {cA : ClassId} {n : Nat} {f : Nat → Int64} (ha : ws[q0]? = some (a, .inl (cA, n, .inr (.inl f)))) (ht : tys[t0]? = some (cA, .long)) {x : Int64} (hn : vp_in 0 n) (hdg : decode cc pc = .ok (.lastore, 1))
    (kk : ∀ (H1 : Heap) (locs1 : List Loc), va_P D cl (ws.set q0 (a, .inl (cA, n, .inr (.inl (vp_updL f 0 x))))) H1 → va_D A (ws.set q0 (a, .inl (cA, n, .inr (.inl (vp_updL f 0 x))))) → va_S A H0 H1 locs1 → W p l e R s m args below meth c H1 locs1 cells slots Q (F0 m (pc + 1) ls rest)) : W p l e R s m args below meth c H locs cells slots Q (F0 m pc ls (.long x :: .int 0 :: .ref a :: rest)) :=
  va_last hx hb hK hP hD hS q0 t0 ha ht hn hdg (by rw [sb_cl0]; exact kk)
theorem kz_lald0 (hx : p.tables.exec = Jvm.exec) (hb : c.code = cc) (hK : va_K D cl tys s) (hP : va_P D cl ws H) (q0 t0 : Nat) {cA : ClassId} {n : Nat} {f : Nat → Int64} (ha : ws[q0]? = some (a, .inl (cA, n, .inr (.inl f)))) (ht : tys[t0]? = some (cA, .long)) (hn : vp_in 0 n) (hdg : decode cc pc = .ok (.laload, 1))
    (kk : W p l e R s m args below meth c H locs cells slots Q (F0 m (pc + 1) ls (.long (f 0) :: rest))) : W p l e R s m args below meth c H locs cells slots Q (F0 m pc ls (.int 0 :: .ref a :: rest)) :=
  va_lald hx hb hK hP q0 t0 ha ht hn hdg (by rw [sb_cl0]; exact kk)
abbrev hlW (o1 : Nat) (cL : ClassId) (F : Nat → Int64) (w : va_W) : va_W := (o1, .inl (cL, 1, .inr (.inl F))) :: w
abbrev hlT (cZ cI cL : ClassId) : List (ClassId × FieldType) := [(cZ, .boolean), (cI, .int), (cL, .long)]
abbrev HLs : Type := ABs × (Nat → Int64)
abbrev hlU (h0 a1 a2 a3 a4 : Nat) (cZ cI : ClassId) (o1 : Nat) (cL : ClassId) (v : HLs) : va_W := hlW o1 cL v.2 (abU h0 a1 a2 a3 a4 cZ cI v.1)
abbrev hl_Pc (D : va_G) (cl : List vw_C) (tys : List (ClassId × FieldType)) (ws : va_W) (sz : Nat) (av : List Value) : Array Value → State → Prop := va_Pc av (fun U => U.heap.size = sz ∧ va_P D cl ws U.heap ∧ va_K D cl tys U ∧ va_D (fun _ => True) ws ∧ xz_E (va_A ws sz) U ∧ va_Nc xzI xzA U)
theorem hl_bl {av : List Value} {sz : Nat} : FrameBlind (hl_Pc D cl tys ws sz av) := fun a U g mk q => ⟨q.1, q.2.1, q.2.2.1, va_K.moved (u := U) (U := U.calling g mk a) (Vm.Alike.refl U.vm) q.2.2.2.1, q.2.2.2.2.1, q.2.2.2.2.2.1.calling, va_Nc.moved (u := U) (U := U.calling g mk a) (Vm.Alike.refl U.vm) q.2.2.2.2.2.2⟩
variable {y : MethodName} {bytes : ByteArray} {maxL nL mc ms n index : Nat} {ret : Option FieldType} {hh : List (Nat × Nat × Nat × Nat)} {wsY : List Cond} {rm : Room} {Ts : List Cond} {own C : String} {b : Addr} {As st0 : List Value} {wc wr : va_W} {S : Type} {posti : Int32 → S → Prop} {w1 : S → va_W}
/-- a call of a helper: its cells wc among ws -/
theorem hl_call (hc : CallFix p m c cc nL s args Ts own) (hM : Met l y wsY rm (hl_Pc D cl tys wc H.size As) (va_Qi posti (kz_B D cl tys w1 (va_A wc H.size)) (va_A wc H.size)) mc ms (va_A wc H.size)) (cw : vx_CSW R s args own index y bytes maxL ret hh wsY rm mc ms n)
    (hP : va_P D cl ws H) (hD : va_D A ws) (hS : va_S A s.heap H locs) (hA : ∀ q, s.heap.size ≤ q → A q) (hK : va_K D cl tys s) (hE : xz_E A s) (hN : va_Nc xzI xzA s) (isC isR : List Nat) (hC : isC.map (fun i => ws[i]?) = wc.map some) (hCf : isC.filterMap (fun i => ws[i]?) = wc) (hCn : va_nd isC = true) (hR : isR.map (fun i => ws[i]?) = wr.map some) (hRn : va_nd isR = true) (hdis : ∀ i ∈ isR, i ∉ isC)
    (hn : As.length = n) (hsz : ls.size = nL) (hst : st0 = As.reverse ++ rest) (hW : (rest.map fun v => v.category).sum ≤ 8) (hdg : decode cc pc = .ok (.invokestatic index, 3)) (hf : cells + mc ≤ R.cells ∧ slots + ms ≤ R.slots)
    (kk : ∀ (r : Int32) (u : S) (H1 : Heap) (locs1 : List Loc), posti r u → va_P D cl (wr ++ w1 u) H1 → va_D A (wr ++ w1 u) → va_S A s.heap H1 locs1 → W p l e R s m args below meth c H1 locs1 (cells + mc) (slots + ms) Q (F0 m (pc + 3) ls (.int r :: rest))) : W p l e R s m args below meth c H locs cells slots Q (F0 m pc ls st0) := by
  have hPc := hP.sub (ws' := wc) isC hCf
  have hDc := hD.sub (ws' := wc) isC hCn hC
  have hF := va_free (wc := wc) hD hS hA isC hC
  exact va_calli (vx_runSW (g := F0 m pc ls st0) (rest := rest) hc hM cw ⟨hl_bl, fun U hU hW => ⟨rfl, by rw [hU], by rw [hU]; exact hPc, va_K.moved hW.alike hK, hDc.weaken (fun _ _ _ _ => trivial), hE.at hS hW hU hF, va_Nc.moved hW.alike hN⟩⟩ rfl hn hsz hst (lv_room hW) hdg hf) hS (fun q _ h => hF q h) hF (fun r u t H1 locs1 ht hvm hw hB hz hk hS1 => by
    obtain ⟨hP1, -, hD1⟩ := hB
    rw [ht] at hP1
    obtain ⟨p1, d1⟩ := va_join hP hD isC isR hC hR hRn hdis hk hF hP1 hD1
    exact kk r u H1 locs1 hw p1 d1 hS1)
end HL
end
section
set_option maxHeartbeats 4000000 in
set_option maxRecDepth 100000 in
/-- the law's set -/
theorem h_set (l : Launch) (hl9 : l.stackTraces = false) (D : va_G) (h0 a1 a2 a3 a4 : Nat) (cZ cI : ClassId) (o1 : Nat) (cL : ClassId) (S Du T Rk : Nat → Int32) (now lr rt rd : Int32) (F : Nat → Int64) (sz : Nat) (x t : Int32) : Met l yL_set wsL_set ({ frames := 7, cells := 1, slots := 6, locals := 113 } : Room) (hl_Pc D vwCl (hlT cZ cI cL) (hlW o1 cL F (abW h0 a1 a2 a3 a4 cZ cI S Du T Rk now lr rt rd)) sz [.ref h0, .int x, .int t, .ref o1]) (va_Qi (fun (r : Int32) (v : HLs) => (r = 0 ∧ ∃ r1 : Int32, (∃ k : Nat, k < 512 ∧ r1 = nI k ∧ S k = 0 ∧ (∀ j, j < k → ¬ S j = 0) ∧ ab_ok x ∧ ¬ 1000000000 - now < x ∧ v.1 = (upd S k 1, upd Du k (now + x), upd T k t, upd Rk k (lr + 1), now, lr + 1, rt, rd)) ∧ v.2 0 = r1.toInt64) ∨ (r = 1 ∧ v.1 = (S, Du, T, Rk, now, lr, rt, rd) ∧ ¬ ab_ok x) ∨ (r = 2 ∧ v.1 = (S, Du, T, Rk, now, lr, rt, rd) ∧ ab_ok x ∧ ((∀ j, j < 512 → ¬ S j = 0) ∨ 1000000000 - now < x))) (kz_B D vwCl (hlT cZ cI cL) (hlU h0 a1 a2 a3 a4 cZ cI o1 cL) (va_A (hlW o1 cL F (abW h0 a1 a2 a3 a4 cZ cI S Du T Rk now lr rt rd)) sz)) (va_A (hlW o1 cL F (abW h0 a1 a2 a3 a4 cZ cI S Du T Rk now lr rt rd)) sz)) 1 6 (va_A (hlW o1 cL F (abW h0 a1 a2 a3 a4 cZ cI S Du T Rk now lr rt rd)) sz) := by
  refine va_MetW (cc := cL_set) (maxL := 5) (ret := some .int) (hh := [(0, 10, 13, 13), (0, 10, 17, 15)]) (by decide) rfl ?_
  intro p e s m args below meth c s₁ B hml hv
  obtain ⟨rfl, hsz, hP, hK, hD0, hE, hN⟩ := hv
  have hx := B.exec
  have hb := B.bytes
  have hr := B.returns
  have hts := atoms_spec (ws := wsL_set) B.pre
  have hown : s.vm.findClass RL = some m.cls := findClass_of_methodNamed B.named
  have hlocks := B.notSynchronized
  have hTab := vx_table (x := yL_set) B (hts (.codeWith yL_set cL_set 5 (some .int) [(0, 10, 13, 13), (0, 10, 17, 15)]) List.mem_cons_self)
  subst hsz
  have hD := hD0.self (sz := s.heap.size)
  generalize hAe : va_A (hlW o1 cL F (abW h0 a1 a2 a3 a4 cZ cI S Du T Rk now lr rt rd)) s.heap.size = A at hD hE ⊢
  have hA : ∀ q : Nat, s.heap.size ≤ q → A q := fun q h => by rw [← hAe]; exact Or.inr h
  have hS : va_S A s.heap s.heap [] := va_S.rf
  refine kz_enter [.ref h0, .int x, .int t, .ref o1] (Nat.le_of_ble_eq_true rfl) (fun ls hl => ?_)
  have hl : lv_has ls 5 [(0, .ref h0), (1, .int x), (2, .int t), (3, .ref o1)] := hl
  refine lv_aload_n hx hb dL_set_0 rfl (lv_at hl 3 rfl) ?_
  refine lv_iconst (v := 0) hx hb dL_set_1 (by decide) ?_
  refine lv_aload_n hx hb dL_set_2 rfl (lv_at hl 0 rfl) ?_
  refine lv_iload_n hx hb dL_set_3 rfl (lv_at hl 1 rfl) ?_
  refine lv_iload_n hx hb dL_set_4 rfl (lv_at hl 2 rfl) ?_
  refine xz_call (wc := (abW h0 a1 a2 a3 a4 cZ cI S Du T Rk now lr rt rd)) (wr := [(o1, .inl (cL, 1, .inr (.inl F)))]) (As := [.int x, .int t]) (rest := [.int 0, .ref o1]) ⟨hx, hb, hml, hown, hts⟩ (c_set l hl9 D h0 a1 a2 a3 a4 cZ cI S Du T Rk now lr rt rd _ x t) (cwV 2 hts gL_set_X0_set rfl rfl rfl (by decide +kernel) ⟨Nat.le_of_ble_eq_true rfl, Nat.le_of_ble_eq_true rfl⟩) hP hD hS hA (hK.sub (tys' := abT cZ cI) [0, 1] rfl) hE [1, 2, 3, 4, 5] [0] rfl rfl rfl rfl rfl (by decide) (va_recv hK hP (ci := 0) (q0 := 1) rfl rfl) rfl hl.1 rfl (Nat.le_of_ble_eq_true rfl) dL_set_5 ⟨Nat.le_of_ble_eq_true rfl, Nat.le_of_ble_eq_true rfl⟩ (fun E ce q9 H locs hE9 hP hD hS hce hcv hcl => ?_) (fun r u H locs hu hP hD hS => ?_)
  · rcases hE9 with ⟨rfl, hq⟩ | ⟨rfl, hq⟩
    · skip
      refine vx_catch (own := RL) (name := xzA) (E := xzA) hown [] ⟨0, 10, 13, 13⟩ [⟨0, 10, 17, 15⟩] (by rw [hTab]; rfl) (fun z hz => nomatch hz) rfl (by decide) (hts (.classLink RL 13 xzA) (by decide +kernel)) (va_Nw.use rfl hE.2.2.1.1) hce hcv hcl ?_
      refine lv_astore (lv' := [(4, .ref q9), (0, .ref h0), (1, .int x), (2, .int t), (3, .ref o1)]) hx hb dL_set_13 hl (by decide) rfl (fun ls hl => ?_)
      refine lv_iconst (v := 1) hx hb dL_set_15 (by decide) ?_
      exact W.iret (v := 1) hx hb hr (fun t9 ht9 hW9 => ⟨⟨_, ((S, Du, T, Rk, now, lr, rt, rd), F), rfl, Or.inr (Or.inl ⟨rfl, rfl, hq⟩), by rw [ht9]; exact hP, va_K.moved hW9.alike hK, hD⟩, hS.F ht9⟩) hS.2.2 dL_set_16
    · skip
      refine vx_catch (own := RL) (name := xzI) (E := xzI) hown [⟨0, 10, 13, 13⟩] ⟨0, 10, 17, 15⟩ [] (by rw [hTab]; rfl) (fun z hz => by
          rcases List.mem_cons.mp hz with rfl | hz
          · exact Or.inr ⟨by decide, xzA, hts (.classLink RL 13 xzA) (by decide +kernel), hN⟩
          · cases hz) rfl (by decide) (hts (.classLink RL 15 xzI) (by decide +kernel)) (va_Nw.use rfl hE.2.2.1.2.1) hce hcv hcl ?_
      refine lv_astore (lv' := [(4, .ref q9), (0, .ref h0), (1, .int x), (2, .int t), (3, .ref o1)]) hx hb dL_set_17 hl (by decide) rfl (fun ls hl => ?_)
      refine lv_iconst (v := 2) hx hb dL_set_19 (by decide) ?_
      exact W.iret (v := 2) hx hb hr (fun t9 ht9 hW9 => ⟨⟨_, ((S, Du, T, Rk, now, lr, rt, rd), F), rfl, Or.inr (Or.inr ⟨rfl, rfl, hq⟩), by rw [ht9]; exact hP, va_K.moved hW9.alike hK, hD⟩, hS.F ht9⟩) hS.2.2 dL_set_20
  · refine lv_i2l hx hb dL_set_8 rfl ?_
    refine kz_last0 hx hb hK hP hD hS 0 2 rfl rfl (vp_in_nI (n := 0) (N := 1) (by decide) (by decide)) dL_set_9 (fun H locs hP hD hS => ?_)
    refine lv_goto (tgt := 21) hx hb dL_set_10 (by decide) ?_
    refine lv_iconst (v := 0) hx hb dL_set_21 (by decide) ?_
    exact W.iret (v := 0) hx hb hr (fun t9 ht9 hW9 => ⟨⟨_, (u, vp_updL F 0 r.toInt64), rfl, Or.inl ⟨rfl, r, hu, pk_uLs (f := F) (k := 0) (x := r.toInt64)⟩, by rw [ht9]; exact hP, va_K.moved hW9.alike hK, hD⟩, hS.F ht9⟩) hS.2.2 dL_set_22
set_option maxHeartbeats 4000000 in
set_option maxRecDepth 100000 in
/-- the law's shift -/
theorem h_shift (l : Launch) (hl9 : l.stackTraces = false) (D : va_G) (h0 a1 a2 a3 a4 : Nat) (cZ cI : ClassId) (o1 : Nat) (cL : ClassId) (S Du T Rk : Nat → Int32) (now lr rt rd : Int32) (F : Nat → Int64) (sz : Nat) (x t : Int32) : Met l yL_shift wsL_shift ({ frames := 7, cells := 1, slots := 6, locals := 113 } : Room) (hl_Pc D vwCl (hlT cZ cI cL) (hlW o1 cL F (abW h0 a1 a2 a3 a4 cZ cI S Du T Rk now lr rt rd)) sz [.ref h0, .int x, .int t, .ref o1]) (va_Qi (fun (r : Int32) (v : HLs) => (r = 0 ∧ ∃ r1 : Int32, (∃ k : Nat, k < 512 ∧ x = nI k ∧ ¬ S k = 0 ∧ ab_ok t ∧ ¬ 1000000000 - now < t ∧ r1 = Du k - now ∧ v.1 = (S, upd Du k (now + t), T, upd Rk k (lr + 1), now, lr + 1, rt, rd)) ∧ v.2 0 = r1.toInt64) ∨ (r = 1 ∧ v.1 = (S, Du, T, Rk, now, lr, rt, rd) ∧ (¬ ab_ex S x ∨ ¬ ab_ok t)) ∨ (r = 2 ∧ v.1 = (S, Du, T, Rk, now, lr, rt, rd) ∧ ab_ex S x ∧ ab_ok t ∧ 1000000000 - now < t)) (kz_B D vwCl (hlT cZ cI cL) (hlU h0 a1 a2 a3 a4 cZ cI o1 cL) (va_A (hlW o1 cL F (abW h0 a1 a2 a3 a4 cZ cI S Du T Rk now lr rt rd)) sz)) (va_A (hlW o1 cL F (abW h0 a1 a2 a3 a4 cZ cI S Du T Rk now lr rt rd)) sz)) 1 6 (va_A (hlW o1 cL F (abW h0 a1 a2 a3 a4 cZ cI S Du T Rk now lr rt rd)) sz) := by
  refine va_MetW (cc := cL_shift) (maxL := 5) (ret := some .int) (hh := [(0, 10, 13, 13), (0, 10, 17, 15)]) (by decide) rfl ?_
  intro p e s m args below meth c s₁ B hml hv
  obtain ⟨rfl, hsz, hP, hK, hD0, hE, hN⟩ := hv
  have hx := B.exec
  have hb := B.bytes
  have hr := B.returns
  have hts := atoms_spec (ws := wsL_shift) B.pre
  have hown : s.vm.findClass RL = some m.cls := findClass_of_methodNamed B.named
  have hlocks := B.notSynchronized
  have hTab := vx_table (x := yL_shift) B (hts (.codeWith yL_shift cL_shift 5 (some .int) [(0, 10, 13, 13), (0, 10, 17, 15)]) List.mem_cons_self)
  subst hsz
  have hD := hD0.self (sz := s.heap.size)
  generalize hAe : va_A (hlW o1 cL F (abW h0 a1 a2 a3 a4 cZ cI S Du T Rk now lr rt rd)) s.heap.size = A at hD hE ⊢
  have hA : ∀ q : Nat, s.heap.size ≤ q → A q := fun q h => by rw [← hAe]; exact Or.inr h
  have hS : va_S A s.heap s.heap [] := va_S.rf
  refine kz_enter [.ref h0, .int x, .int t, .ref o1] (Nat.le_of_ble_eq_true rfl) (fun ls hl => ?_)
  have hl : lv_has ls 5 [(0, .ref h0), (1, .int x), (2, .int t), (3, .ref o1)] := hl
  refine lv_aload_n hx hb dL_shift_0 rfl (lv_at hl 3 rfl) ?_
  refine lv_iconst (v := 0) hx hb dL_shift_1 (by decide) ?_
  refine lv_aload_n hx hb dL_shift_2 rfl (lv_at hl 0 rfl) ?_
  refine lv_iload_n hx hb dL_shift_3 rfl (lv_at hl 1 rfl) ?_
  refine lv_iload_n hx hb dL_shift_4 rfl (lv_at hl 2 rfl) ?_
  refine xz_call (wc := (abW h0 a1 a2 a3 a4 cZ cI S Du T Rk now lr rt rd)) (wr := [(o1, .inl (cL, 1, .inr (.inl F)))]) (As := [.int x, .int t]) (rest := [.int 0, .ref o1]) ⟨hx, hb, hml, hown, hts⟩ (c_shift l hl9 D h0 a1 a2 a3 a4 cZ cI S Du T Rk now lr rt rd _ x t) (cwV 2 hts gL_shift_X0_shift rfl rfl rfl (by decide +kernel) ⟨Nat.le_of_ble_eq_true rfl, Nat.le_of_ble_eq_true rfl⟩) hP hD hS hA (hK.sub (tys' := abT cZ cI) [0, 1] rfl) hE [1, 2, 3, 4, 5] [0] rfl rfl rfl rfl rfl (by decide) (va_recv hK hP (ci := 0) (q0 := 1) rfl rfl) rfl hl.1 rfl (Nat.le_of_ble_eq_true rfl) dL_shift_5 ⟨Nat.le_of_ble_eq_true rfl, Nat.le_of_ble_eq_true rfl⟩ (fun E ce q9 H locs hE9 hP hD hS hce hcv hcl => ?_) (fun r u H locs hu hP hD hS => ?_)
  · rcases hE9 with ⟨rfl, hq⟩ | ⟨rfl, hq⟩
    · skip
      refine vx_catch (own := RL) (name := xzA) (E := xzA) hown [] ⟨0, 10, 13, 13⟩ [⟨0, 10, 17, 15⟩] (by rw [hTab]; rfl) (fun z hz => nomatch hz) rfl (by decide) (hts (.classLink RL 13 xzA) (by decide +kernel)) (va_Nw.use rfl hE.2.2.1.1) hce hcv hcl ?_
      refine lv_astore (lv' := [(4, .ref q9), (0, .ref h0), (1, .int x), (2, .int t), (3, .ref o1)]) hx hb dL_shift_13 hl (by decide) rfl (fun ls hl => ?_)
      refine lv_iconst (v := 1) hx hb dL_shift_15 (by decide) ?_
      exact W.iret (v := 1) hx hb hr (fun t9 ht9 hW9 => ⟨⟨_, ((S, Du, T, Rk, now, lr, rt, rd), F), rfl, Or.inr (Or.inl ⟨rfl, rfl, hq⟩), by rw [ht9]; exact hP, va_K.moved hW9.alike hK, hD⟩, hS.F ht9⟩) hS.2.2 dL_shift_16
    · skip
      refine vx_catch (own := RL) (name := xzI) (E := xzI) hown [⟨0, 10, 13, 13⟩] ⟨0, 10, 17, 15⟩ [] (by rw [hTab]; rfl) (fun z hz => by
          rcases List.mem_cons.mp hz with rfl | hz
          · exact Or.inr ⟨by decide, xzA, hts (.classLink RL 13 xzA) (by decide +kernel), hN⟩
          · cases hz) rfl (by decide) (hts (.classLink RL 15 xzI) (by decide +kernel)) (va_Nw.use rfl hE.2.2.1.2.1) hce hcv hcl ?_
      refine lv_astore (lv' := [(4, .ref q9), (0, .ref h0), (1, .int x), (2, .int t), (3, .ref o1)]) hx hb dL_shift_17 hl (by decide) rfl (fun ls hl => ?_)
      refine lv_iconst (v := 2) hx hb dL_shift_19 (by decide) ?_
      exact W.iret (v := 2) hx hb hr (fun t9 ht9 hW9 => ⟨⟨_, ((S, Du, T, Rk, now, lr, rt, rd), F), rfl, Or.inr (Or.inr ⟨rfl, rfl, hq⟩), by rw [ht9]; exact hP, va_K.moved hW9.alike hK, hD⟩, hS.F ht9⟩) hS.2.2 dL_shift_20
  · refine lv_i2l hx hb dL_shift_8 rfl ?_
    refine kz_last0 hx hb hK hP hD hS 0 2 rfl rfl (vp_in_nI (n := 0) (N := 1) (by decide) (by decide)) dL_shift_9 (fun H locs hP hD hS => ?_)
    refine lv_goto (tgt := 21) hx hb dL_shift_10 (by decide) ?_
    refine lv_iconst (v := 0) hx hb dL_shift_21 (by decide) ?_
    exact W.iret (v := 0) hx hb hr (fun t9 ht9 hW9 => ⟨⟨_, (u, vp_updL F 0 r.toInt64), rfl, Or.inl ⟨rfl, r, hu, pk_uLs (f := F) (k := 0) (x := r.toInt64)⟩, by rw [ht9]; exact hP, va_K.moved hW9.alike hK, hD⟩, hS.F ht9⟩) hS.2.2 dL_shift_22
set_option maxHeartbeats 4000000 in
set_option maxRecDepth 100000 in
/-- the law's stop -/
theorem h_stop (l : Launch) (hl9 : l.stackTraces = false) (D : va_G) (h0 a1 a2 a3 a4 : Nat) (cZ cI : ClassId) (o1 : Nat) (cL : ClassId) (S Du T Rk : Nat → Int32) (now lr rt rd : Int32) (F : Nat → Int64) (sz : Nat) (x : Int32) : Met l yL_stop wsL_stop ({ frames := 7, cells := 1, slots := 6, locals := 111 } : Room) (hl_Pc D vwCl (hlT cZ cI cL) (hlW o1 cL F (abW h0 a1 a2 a3 a4 cZ cI S Du T Rk now lr rt rd)) sz [.ref h0, .int x, .ref o1]) (va_Qi (fun (r : Int32) (v : HLs) => (r = 0 ∧ ∃ r1 : Int32, (∃ k : Nat, k < 512 ∧ x = nI k ∧ ¬ S k = 0 ∧ r1 = T k ∧ v.1 = (upd S k 0, Du, T, Rk, now, lr, rt, rd)) ∧ v.2 0 = r1.toInt64) ∨ (r = 1 ∧ v.1 = (S, Du, T, Rk, now, lr, rt, rd) ∧ ¬ ab_ex S x)) (kz_B D vwCl (hlT cZ cI cL) (hlU h0 a1 a2 a3 a4 cZ cI o1 cL) (va_A (hlW o1 cL F (abW h0 a1 a2 a3 a4 cZ cI S Du T Rk now lr rt rd)) sz)) (va_A (hlW o1 cL F (abW h0 a1 a2 a3 a4 cZ cI S Du T Rk now lr rt rd)) sz)) 1 6 (va_A (hlW o1 cL F (abW h0 a1 a2 a3 a4 cZ cI S Du T Rk now lr rt rd)) sz) := by
  refine va_MetW (cc := cL_stop) (maxL := 4) (ret := some .int) (hh := [(0, 9, 12, 13)]) (by decide) rfl ?_
  intro p e s m args below meth c s₁ B hml hv
  obtain ⟨rfl, hsz, hP, hK, hD0, hE, hN⟩ := hv
  have hx := B.exec
  have hb := B.bytes
  have hr := B.returns
  have hts := atoms_spec (ws := wsL_stop) B.pre
  have hown : s.vm.findClass RL = some m.cls := findClass_of_methodNamed B.named
  have hlocks := B.notSynchronized
  have hTab := vx_table (x := yL_stop) B (hts (.codeWith yL_stop cL_stop 4 (some .int) [(0, 9, 12, 13)]) List.mem_cons_self)
  subst hsz
  have hD := hD0.self (sz := s.heap.size)
  generalize hAe : va_A (hlW o1 cL F (abW h0 a1 a2 a3 a4 cZ cI S Du T Rk now lr rt rd)) s.heap.size = A at hD hE ⊢
  have hA : ∀ q : Nat, s.heap.size ≤ q → A q := fun q h => by rw [← hAe]; exact Or.inr h
  have hS : va_S A s.heap s.heap [] := va_S.rf
  refine kz_enter [.ref h0, .int x, .ref o1] (Nat.le_of_ble_eq_true rfl) (fun ls hl => ?_)
  have hl : lv_has ls 4 [(0, .ref h0), (1, .int x), (2, .ref o1)] := hl
  refine lv_aload_n hx hb dL_stop_0 rfl (lv_at hl 2 rfl) ?_
  refine lv_iconst (v := 0) hx hb dL_stop_1 (by decide) ?_
  refine lv_aload_n hx hb dL_stop_2 rfl (lv_at hl 0 rfl) ?_
  refine lv_iload_n hx hb dL_stop_3 rfl (lv_at hl 1 rfl) ?_
  refine xz_call (wc := (abW h0 a1 a2 a3 a4 cZ cI S Du T Rk now lr rt rd)) (wr := [(o1, .inl (cL, 1, .inr (.inl F)))]) (As := [.int x]) (rest := [.int 0, .ref o1]) ⟨hx, hb, hml, hown, hts⟩ (c_stop l hl9 D h0 a1 a2 a3 a4 cZ cI S Du T Rk now lr rt rd _ x) (cwV 1 hts gL_stop_X0_stop rfl rfl rfl (by decide +kernel) ⟨Nat.le_of_ble_eq_true rfl, Nat.le_of_ble_eq_true rfl⟩) hP hD hS hA (hK.sub (tys' := abT cZ cI) [0, 1] rfl) hE [1, 2, 3, 4, 5] [0] rfl rfl rfl rfl rfl (by decide) (va_recv hK hP (ci := 0) (q0 := 1) rfl rfl) rfl hl.1 rfl (Nat.le_of_ble_eq_true rfl) dL_stop_4 ⟨Nat.le_of_ble_eq_true rfl, Nat.le_of_ble_eq_true rfl⟩ (fun E ce q9 H locs hE9 hP hD hS hce hcv hcl => ?_) (fun r u H locs hu hP hD hS => ?_)
  · obtain ⟨rfl, hq⟩ := hE9
    refine vx_catch (own := RL) (name := xzA) (E := xzA) hown [] ⟨0, 9, 12, 13⟩ [] (by rw [hTab]; rfl) (fun z hz => nomatch hz) rfl (by decide) (hts (.classLink RL 13 xzA) (by decide +kernel)) (va_Nw.use rfl hE.2.2.1.1) hce hcv hcl ?_
    refine lv_astore_n (lv' := [(3, .ref q9), (0, .ref h0), (1, .int x), (2, .ref o1)]) hx hb dL_stop_12 rfl hl (by decide) rfl (fun ls hl => ?_)
    refine lv_iconst (v := 1) hx hb dL_stop_13 (by decide) ?_
    exact W.iret (v := 1) hx hb hr (fun t9 ht9 hW9 => ⟨⟨_, ((S, Du, T, Rk, now, lr, rt, rd), F), rfl, Or.inr ⟨rfl, rfl, hq⟩, by rw [ht9]; exact hP, va_K.moved hW9.alike hK, hD⟩, hS.F ht9⟩) hS.2.2 dL_stop_14
  · refine lv_i2l hx hb dL_stop_7 rfl ?_
    refine kz_last0 hx hb hK hP hD hS 0 2 rfl rfl (vp_in_nI (n := 0) (N := 1) (by decide) (by decide)) dL_stop_8 (fun H locs hP hD hS => ?_)
    refine lv_goto (tgt := 15) hx hb dL_stop_9 (by decide) ?_
    refine lv_iconst (v := 0) hx hb dL_stop_15 (by decide) ?_
    exact W.iret (v := 0) hx hb hr (fun t9 ht9 hW9 => ⟨⟨_, (u, vp_updL F 0 r.toInt64), rfl, Or.inl ⟨rfl, r, hu, pk_uLs (f := F) (k := 0) (x := r.toInt64)⟩, by rw [ht9]; exact hP, va_K.moved hW9.alike hK, hD⟩, hS.F ht9⟩) hS.2.2 dL_stop_16
set_option maxHeartbeats 4000000 in
set_option maxRecDepth 100000 in
/-- the law's pass -/
theorem h_pass (l : Launch) (hl9 : l.stackTraces = false) (D : va_G) (h0 a1 a2 a3 a4 : Nat) (cZ cI : ClassId) (o1 : Nat) (cL : ClassId) (S Du T Rk : Nat → Int32) (now lr rt rd : Int32) (F : Nat → Int64) (sz : Nat) (x : Int32) : Met l yL_pass wsL_pass ({ frames := 7, cells := 1, slots := 6, locals := 111 } : Room) (hl_Pc D vwCl (hlT cZ cI cL) (hlW o1 cL F (abW h0 a1 a2 a3 a4 cZ cI S Du T Rk now lr rt rd)) sz [.ref h0, .int x, .ref o1]) (va_Qi (fun (r : Int32) (v : HLs) => (r = 0 ∧ ∃ r1 : Int32, (¬ x < 0 ∧ ¬ 200000 < x ∧ ¬ 1000000000 - now < x ∧ r1 = now + x ∧ v.1 = (S, Du, T, Rk, now + x, lr, rt, rd)) ∧ v.2 0 = r1.toInt64) ∨ (r = 1 ∧ v.1 = (S, Du, T, Rk, now, lr, rt, rd) ∧ (x < 0 ∨ 200000 < x)) ∨ (r = 2 ∧ v.1 = (S, Du, T, Rk, now, lr, rt, rd) ∧ ¬ x < 0 ∧ ¬ 200000 < x ∧ 1000000000 - now < x)) (kz_B D vwCl (hlT cZ cI cL) (hlU h0 a1 a2 a3 a4 cZ cI o1 cL) (va_A (hlW o1 cL F (abW h0 a1 a2 a3 a4 cZ cI S Du T Rk now lr rt rd)) sz)) (va_A (hlW o1 cL F (abW h0 a1 a2 a3 a4 cZ cI S Du T Rk now lr rt rd)) sz)) 1 6 (va_A (hlW o1 cL F (abW h0 a1 a2 a3 a4 cZ cI S Du T Rk now lr rt rd)) sz) := by
  refine va_MetW (cc := cL_pass) (maxL := 4) (ret := some .int) (hh := [(0, 9, 12, 13), (0, 9, 15, 15)]) (by decide) rfl ?_
  intro p e s m args below meth c s₁ B hml hv
  obtain ⟨rfl, hsz, hP, hK, hD0, hE, hN⟩ := hv
  have hx := B.exec
  have hb := B.bytes
  have hr := B.returns
  have hts := atoms_spec (ws := wsL_pass) B.pre
  have hown : s.vm.findClass RL = some m.cls := findClass_of_methodNamed B.named
  have hlocks := B.notSynchronized
  have hTab := vx_table (x := yL_pass) B (hts (.codeWith yL_pass cL_pass 4 (some .int) [(0, 9, 12, 13), (0, 9, 15, 15)]) List.mem_cons_self)
  subst hsz
  have hD := hD0.self (sz := s.heap.size)
  generalize hAe : va_A (hlW o1 cL F (abW h0 a1 a2 a3 a4 cZ cI S Du T Rk now lr rt rd)) s.heap.size = A at hD hE ⊢
  have hA : ∀ q : Nat, s.heap.size ≤ q → A q := fun q h => by rw [← hAe]; exact Or.inr h
  have hS : va_S A s.heap s.heap [] := va_S.rf
  refine kz_enter [.ref h0, .int x, .ref o1] (Nat.le_of_ble_eq_true rfl) (fun ls hl => ?_)
  have hl : lv_has ls 4 [(0, .ref h0), (1, .int x), (2, .ref o1)] := hl
  refine lv_aload_n hx hb dL_pass_0 rfl (lv_at hl 2 rfl) ?_
  refine lv_iconst (v := 0) hx hb dL_pass_1 (by decide) ?_
  refine lv_aload_n hx hb dL_pass_2 rfl (lv_at hl 0 rfl) ?_
  refine lv_iload_n hx hb dL_pass_3 rfl (lv_at hl 1 rfl) ?_
  refine xz_call (wc := (abW h0 a1 a2 a3 a4 cZ cI S Du T Rk now lr rt rd)) (wr := [(o1, .inl (cL, 1, .inr (.inl F)))]) (As := [.int x]) (rest := [.int 0, .ref o1]) ⟨hx, hb, hml, hown, hts⟩ (c_pass l hl9 D h0 a1 a2 a3 a4 cZ cI S Du T Rk now lr rt rd _ x) (cwV 1 hts gL_pass_X0_pass rfl rfl rfl (by decide +kernel) ⟨Nat.le_of_ble_eq_true rfl, Nat.le_of_ble_eq_true rfl⟩) hP hD hS hA (hK.sub (tys' := abT cZ cI) [0, 1] rfl) hE [1, 2, 3, 4, 5] [0] rfl rfl rfl rfl rfl (by decide) (va_recv hK hP (ci := 0) (q0 := 1) rfl rfl) rfl hl.1 rfl (Nat.le_of_ble_eq_true rfl) dL_pass_4 ⟨Nat.le_of_ble_eq_true rfl, Nat.le_of_ble_eq_true rfl⟩ (fun E ce q9 H locs hE9 hP hD hS hce hcv hcl => ?_) (fun r u H locs hu hP hD hS => ?_)
  · rcases hE9 with ⟨rfl, hq⟩ | ⟨rfl, hq⟩
    · skip
      refine vx_catch (own := RL) (name := xzA) (E := xzA) hown [] ⟨0, 9, 12, 13⟩ [⟨0, 9, 15, 15⟩] (by rw [hTab]; rfl) (fun z hz => nomatch hz) rfl (by decide) (hts (.classLink RL 13 xzA) (by decide +kernel)) (va_Nw.use rfl hE.2.2.1.1) hce hcv hcl ?_
      refine lv_astore_n (lv' := [(3, .ref q9), (0, .ref h0), (1, .int x), (2, .ref o1)]) hx hb dL_pass_12 rfl hl (by decide) rfl (fun ls hl => ?_)
      refine lv_iconst (v := 1) hx hb dL_pass_13 (by decide) ?_
      exact W.iret (v := 1) hx hb hr (fun t9 ht9 hW9 => ⟨⟨_, ((S, Du, T, Rk, now, lr, rt, rd), F), rfl, Or.inr (Or.inl ⟨rfl, rfl, hq⟩), by rw [ht9]; exact hP, va_K.moved hW9.alike hK, hD⟩, hS.F ht9⟩) hS.2.2 dL_pass_14
    · skip
      refine vx_catch (own := RL) (name := xzI) (E := xzI) hown [⟨0, 9, 12, 13⟩] ⟨0, 9, 15, 15⟩ [] (by rw [hTab]; rfl) (fun z hz => by
          rcases List.mem_cons.mp hz with rfl | hz
          · exact Or.inr ⟨by decide, xzA, hts (.classLink RL 13 xzA) (by decide +kernel), hN⟩
          · cases hz) rfl (by decide) (hts (.classLink RL 15 xzI) (by decide +kernel)) (va_Nw.use rfl hE.2.2.1.2.1) hce hcv hcl ?_
      refine lv_astore_n (lv' := [(3, .ref q9), (0, .ref h0), (1, .int x), (2, .ref o1)]) hx hb dL_pass_15 rfl hl (by decide) rfl (fun ls hl => ?_)
      refine lv_iconst (v := 2) hx hb dL_pass_16 (by decide) ?_
      exact W.iret (v := 2) hx hb hr (fun t9 ht9 hW9 => ⟨⟨_, ((S, Du, T, Rk, now, lr, rt, rd), F), rfl, Or.inr (Or.inr ⟨rfl, rfl, hq⟩), by rw [ht9]; exact hP, va_K.moved hW9.alike hK, hD⟩, hS.F ht9⟩) hS.2.2 dL_pass_17
  · refine lv_i2l hx hb dL_pass_7 rfl ?_
    refine kz_last0 hx hb hK hP hD hS 0 2 rfl rfl (vp_in_nI (n := 0) (N := 1) (by decide) (by decide)) dL_pass_8 (fun H locs hP hD hS => ?_)
    refine lv_goto (tgt := 18) hx hb dL_pass_9 (by decide) ?_
    refine lv_iconst (v := 0) hx hb dL_pass_18 (by decide) ?_
    exact W.iret (v := 0) hx hb hr (fun t9 ht9 hW9 => ⟨⟨_, (u, vp_updL F 0 r.toInt64), rfl, Or.inl ⟨rfl, r, hu, pk_uLs (f := F) (k := 0) (x := r.toInt64)⟩, by rw [ht9]; exact hP, va_K.moved hW9.alike hK, hD⟩, hS.F ht9⟩) hS.2.2 dL_pass_19
set_option maxHeartbeats 4000000 in
set_option maxRecDepth 100000 in
/-- the law's about -/
theorem h_about (l : Launch) (hl9 : l.stackTraces = false) (D : va_G) (h0 a1 a2 a3 a4 : Nat) (cZ cI : ClassId) (o1 : Nat) (cL : ClassId) (S Du T Rk : Nat → Int32) (now lr rt rd : Int32) (F : Nat → Int64) (sz : Nat) (x w : Int32) : Met l yL_about wsL_about ({ frames := 7, cells := 1, slots := 6, locals := 112 } : Room) (hl_Pc D vwCl (hlT cZ cI cL) (hlW o1 cL F (abW h0 a1 a2 a3 a4 cZ cI S Du T Rk now lr rt rd)) sz [.ref h0, .int x, .int w, .ref o1]) (va_Qi (fun (r : Int32) (v : HLs) => (r = 0 ∧ ∃ r1 : Int32, (∃ k : Nat, k < 512 ∧ x = nI k ∧ ¬ S k = 0 ∧ ((w = 0 ∧ r1 = Du k) ∨ (w = 1 ∧ r1 = T k)) ∧ v.1 = (S, Du, T, Rk, now, lr, rt, rd)) ∧ v.2 0 = r1.toInt64) ∨ (r = 1 ∧ v.1 = (S, Du, T, Rk, now, lr, rt, rd) ∧ (¬ ab_ex S x ∨ (¬ w = 0 ∧ ¬ w = 1)))) (kz_B D vwCl (hlT cZ cI cL) (hlU h0 a1 a2 a3 a4 cZ cI o1 cL) (va_A (hlW o1 cL F (abW h0 a1 a2 a3 a4 cZ cI S Du T Rk now lr rt rd)) sz)) (va_A (hlW o1 cL F (abW h0 a1 a2 a3 a4 cZ cI S Du T Rk now lr rt rd)) sz)) 1 6 (va_A (hlW o1 cL F (abW h0 a1 a2 a3 a4 cZ cI S Du T Rk now lr rt rd)) sz) := by
  refine va_MetW (cc := cL_about) (maxL := 5) (ret := some .int) (hh := [(0, 10, 13, 13)]) (by decide) rfl ?_
  intro p e s m args below meth c s₁ B hml hv
  obtain ⟨rfl, hsz, hP, hK, hD0, hE, hN⟩ := hv
  have hx := B.exec
  have hb := B.bytes
  have hr := B.returns
  have hts := atoms_spec (ws := wsL_about) B.pre
  have hown : s.vm.findClass RL = some m.cls := findClass_of_methodNamed B.named
  have hlocks := B.notSynchronized
  have hTab := vx_table (x := yL_about) B (hts (.codeWith yL_about cL_about 5 (some .int) [(0, 10, 13, 13)]) List.mem_cons_self)
  subst hsz
  have hD := hD0.self (sz := s.heap.size)
  generalize hAe : va_A (hlW o1 cL F (abW h0 a1 a2 a3 a4 cZ cI S Du T Rk now lr rt rd)) s.heap.size = A at hD hE ⊢
  have hA : ∀ q : Nat, s.heap.size ≤ q → A q := fun q h => by rw [← hAe]; exact Or.inr h
  have hS : va_S A s.heap s.heap [] := va_S.rf
  refine kz_enter [.ref h0, .int x, .int w, .ref o1] (Nat.le_of_ble_eq_true rfl) (fun ls hl => ?_)
  have hl : lv_has ls 5 [(0, .ref h0), (1, .int x), (2, .int w), (3, .ref o1)] := hl
  refine lv_aload_n hx hb dL_about_0 rfl (lv_at hl 3 rfl) ?_
  refine lv_iconst (v := 0) hx hb dL_about_1 (by decide) ?_
  refine lv_aload_n hx hb dL_about_2 rfl (lv_at hl 0 rfl) ?_
  refine lv_iload_n hx hb dL_about_3 rfl (lv_at hl 1 rfl) ?_
  refine lv_iload_n hx hb dL_about_4 rfl (lv_at hl 2 rfl) ?_
  refine xz_call (wc := (abW h0 a1 a2 a3 a4 cZ cI S Du T Rk now lr rt rd)) (wr := [(o1, .inl (cL, 1, .inr (.inl F)))]) (As := [.int x, .int w]) (rest := [.int 0, .ref o1]) ⟨hx, hb, hml, hown, hts⟩ (c_about l hl9 D h0 a1 a2 a3 a4 cZ cI S Du T Rk now lr rt rd _ x w) (cwV 2 hts gL_about_X0_about rfl rfl rfl (by decide +kernel) ⟨Nat.le_of_ble_eq_true rfl, Nat.le_of_ble_eq_true rfl⟩) hP hD hS hA (hK.sub (tys' := abT cZ cI) [0, 1] rfl) hE [1, 2, 3, 4, 5] [0] rfl rfl rfl rfl rfl (by decide) (va_recv hK hP (ci := 0) (q0 := 1) rfl rfl) rfl hl.1 rfl (Nat.le_of_ble_eq_true rfl) dL_about_5 ⟨Nat.le_of_ble_eq_true rfl, Nat.le_of_ble_eq_true rfl⟩ (fun E ce q9 H locs hE9 hP hD hS hce hcv hcl => ?_) (fun r u H locs hu hP hD hS => ?_)
  · obtain ⟨rfl, hq⟩ := hE9
    refine vx_catch (own := RL) (name := xzA) (E := xzA) hown [] ⟨0, 10, 13, 13⟩ [] (by rw [hTab]; rfl) (fun z hz => nomatch hz) rfl (by decide) (hts (.classLink RL 13 xzA) (by decide +kernel)) (va_Nw.use rfl hE.2.2.1.1) hce hcv hcl ?_
    refine lv_astore (lv' := [(4, .ref q9), (0, .ref h0), (1, .int x), (2, .int w), (3, .ref o1)]) hx hb dL_about_13 hl (by decide) rfl (fun ls hl => ?_)
    refine lv_iconst (v := 1) hx hb dL_about_15 (by decide) ?_
    exact W.iret (v := 1) hx hb hr (fun t9 ht9 hW9 => ⟨⟨_, ((S, Du, T, Rk, now, lr, rt, rd), F), rfl, Or.inr ⟨rfl, rfl, hq⟩, by rw [ht9]; exact hP, va_K.moved hW9.alike hK, hD⟩, hS.F ht9⟩) hS.2.2 dL_about_16
  · refine lv_i2l hx hb dL_about_8 rfl ?_
    refine kz_last0 hx hb hK hP hD hS 0 2 rfl rfl (vp_in_nI (n := 0) (N := 1) (by decide) (by decide)) dL_about_9 (fun H locs hP hD hS => ?_)
    refine lv_goto (tgt := 17) hx hb dL_about_10 (by decide) ?_
    refine lv_iconst (v := 0) hx hb dL_about_17 (by decide) ?_
    exact W.iret (v := 0) hx hb hr (fun t9 ht9 hW9 => ⟨⟨_, (u, vp_updL F 0 r.toInt64), rfl, Or.inl ⟨rfl, r, hu, pk_uLs (f := F) (k := 0) (x := r.toInt64)⟩, by rw [ht9]; exact hP, va_K.moved hW9.alike hK, hD⟩, hS.F ht9⟩) hS.2.2 dL_about_18
end
section
/-! Class and reference side by side: the relation between their states, and that each call keeps it. -/
section SIM
def smA (S Du T Rk K E L : Nat → Int32) : Prop := ∀ j, j < 512 → (S j = 0 ↔ K j ≤ 0) ∧ (¬ S j = 0 → Rk j = K j ∧ Du j = E j ∧ T j = L j)
def sim (n : Nat) (u : ABs) (v : MDs) : Prop := smA u.1 u.2.1 u.2.2.1 u.2.2.2.1 v.2.2.2.1 v.2.2.2.2.1 v.2.2.2.2.2.1 ∧ u.2.2.2.2.1 = v.2.1 ∧ u.2.2.2.2.2.1 = v.2.2.1 ∧ u.2.2.2.2.2.2.1 = v.2.2.2.2.2.2.1 ∧ u.2.2.2.2.2.2.2 = v.2.2.2.2.2.2.2 ∧ ∃ q : Nat, q ≤ n ∧ u.2.2.2.2.2.1 = nI q
theorem smA_put {S Du T Rk K E L : Nat → Int32} {k : Nat} {d t q : Int32} (h : smA S Du T Rk K E L) (hq : ¬ q ≤ 0) : smA (upd S k 1) (upd Du k d) (upd T k t) (upd Rk k q) (upd K k q) (upd E k d) (upd L k t) := by
  intro j hj
  unfold upd
  by_cases e : j = k
  · simp only [e, if_true]
    exact ⟨⟨fun z => absurd z (by decide), fun z => absurd z hq⟩, fun _ => ⟨trivial, trivial, trivial⟩⟩
  · simp only [if_neg e]
    exact h j hj
theorem smA_shift {S Du T Rk K E L : Nat → Int32} {k : Nat} {d q : Int32} (h : smA S Du T Rk K E L) (hk : k < 512) (hS : ¬ S k = 0) (hq : ¬ q ≤ 0) : smA S (upd Du k d) T (upd Rk k q) (upd K k q) (upd E k d) (upd L k (L k)) := by
  intro j hj
  unfold upd
  by_cases e : j = k
  · simp only [e, if_true]
    exact ⟨⟨fun z => absurd z hS, fun z => absurd z hq⟩, fun _ => ⟨trivial, trivial, ((h k hk).2 hS).2.2⟩⟩
  · simp only [if_neg e]
    exact h j hj
theorem smA_stop {S Du T Rk K E L : Nat → Int32} {k : Nat} (h : smA S Du T Rk K E L) : smA (upd S k 0) Du T Rk (upd K k 0) E L := by
  intro j hj
  unfold upd
  by_cases e : j = k
  · simp only [e, if_true]
    exact ⟨⟨fun _ => by decide, fun _ => trivial⟩, fun z => absurd trivial z⟩
  · simp only [if_neg e]
    exact h j hj
theorem smA_sa {S Du T Rk K E L : Nat → Int32} {x : Int32} (h : smA S Du T Rk K E L) : smA (ab_sa S T x 512) Du T Rk (md_sa K L x 512) E L := by
  intro j hj
  obtain ⟨h1, h2⟩ := h j hj
  unfold ab_sa md_sa
  by_cases e : S j = 0
  · rw [if_neg (fun z => z.2.1 e), if_neg (fun z => z.2.1 (h1.mp e))]
    exact ⟨h1, h2⟩
  · have ek : ¬ K j ≤ 0 := fun z => e (h1.mpr z)
    by_cases t : T j = x
    · rw [if_pos ⟨hj, e, t⟩, if_pos ⟨hj, ek, by rw [← (h2 e).2.2]; exact t⟩]
      exact ⟨⟨fun _ => by decide, fun _ => rfl⟩, fun z => absurd rfl z⟩
    · rw [if_neg (fun z => t z.2.2), if_neg (fun z => t (by rw [(h2 e).2.2]; exact z.2.2))]
      exact ⟨h1, h2⟩
theorem sim_fst {S Du T Rk K E L : Nat → Int32} (h : smA S Du T Rk K E L) : ∀ n, n ≤ 512 → ab_fst S Du Rk n = ab_fst (md_S K) E K n := by
  intro n
  induction n with
  | zero => intro _; rfl
  | succ n ih =>
    intro hn
    have e := ih (by omega)
    obtain ⟨h1, h2⟩ := h n (by omega)
    by_cases hS : S n = 0
    · rw [ab_fst_0 hS, ab_fst_0 (md_S0 (h1.mp hS)), e]
    · have hK : ¬ md_S K n = 0 := md_S1 (fun z => hS (h1.mpr z))
      cases hf : ab_fst S Du Rk n with
      | none => rw [ab_fst_n hS hf, ab_fst_n hK (by rw [← e]; exact hf)]
      | some k =>
        obtain ⟨hk, hSk⟩ := ab_fst_lt hf
        obtain ⟨g1, g2, -⟩ := (h k (by omega)).2 hSk
        obtain ⟨g3, g4, -⟩ := h2 hS
        have hb : ab_bef Du Rk n k = ab_bef E K n k := by unfold ab_bef; rw [g1, g2, g3, g4]
        by_cases hbt : ab_bef Du Rk n k = true
        · rw [ab_fst_t hS hf hbt, ab_fst_t hK (by rw [← e]; exact hf) (by rw [← hb]; exact hbt)]
        · rw [ab_fst_f hS hf hbt, ab_fst_f hK (by rw [← e]; exact hf) (by rw [← hb]; exact hbt)]
theorem sim_cnt {P Q : Nat → Bool} : ∀ n, (∀ j, j < n → P j = Q j) → ab_cnt P n = ab_cnt Q n := by
  intro n
  induction n with
  | zero => intro _; rfl
  | succ n ih =>
    intro h
    show ab_cnt P n + (if P n then 1 else 0) = ab_cnt Q n + (if Q n then 1 else 0)
    rw [ih (fun j hj => h j (by omega)), h n (by omega)]
theorem sim_up {n m : Nat} {u : ABs} {v : MDs} (h : sim n u v) (hm : n ≤ m) : sim m u v := by
  obtain ⟨h1, h2, h3, h4, h5, q, hq, h6⟩ := h
  exact ⟨h1, h2, h3, h4, h5, q, Nat.le_trans hq hm, h6⟩
theorem sim_ex {S Du T Rk K E L : Nat → Int32} (h : smA S Du T Rk K E L) (x : Int32) : ab_ex S x ↔ md_al K x := by
  constructor
  · intro ⟨k, hk, e, z⟩
    exact ⟨k, hk, e, fun q => z ((h k hk).1.mpr q)⟩
  · intro ⟨k, hk, e, z⟩
    exact ⟨k, hk, e, fun q => z ((h k hk).1.mp q)⟩
theorem sim_rk {q : Nat} (hq : q < 512) : nI q + 1 = nI (q + 1) ∧ ¬ nI q + 1 ≤ 0 := ⟨nI_1 q, by rw [nI_1]; exact nI_nle (by omega) (by omega)⟩
theorem sim_one {a b : Nat} (ha : a < 512) (hb : b < 512) (h : nI a = nI b) : a = b := (nI_eq (by omega) (by omega)).mp h

set_option maxHeartbeats 1000000 in
theorem sim_set {n : Nat} {S Du T Rk : Nat → Int32} {now lr rt rd : Int32} {cd nw rk : Int32} {K E L : Nat → Int32} {td wd : Int32} {x t r r2 : Int32} {v : HLs} {m9 : MDs} (hn : n < 512) (h : sim n (S, Du, T, Rk, now, lr, rt, rd) (cd, nw, rk, K, E, L, td, wd)) (hu : (r = 0 ∧ ∃ r1 : Int32, (∃ k : Nat, k < 512 ∧ r1 = nI k ∧ S k = 0 ∧ (∀ j, j < k → ¬ S j = 0) ∧ ab_ok x ∧ ¬ 1000000000 - now < x ∧ v.1 = (upd S k 1, upd Du k (now + x), upd T k t, upd Rk k (lr + 1), now, lr + 1, rt, rd)) ∧ v.2 0 = r1.toInt64) ∨ (r = 1 ∧ v.1 = (S, Du, T, Rk, now, lr, rt, rd) ∧ ¬ ab_ok x) ∨ (r = 2 ∧ v.1 = (S, Du, T, Rk, now, lr, rt, rd) ∧ ab_ok x ∧ ((∀ j, j < 512 → ¬ S j = 0) ∨ 1000000000 - now < x))) (hm : ∃ k : Nat, k ≤ 512 ∧ (∀ j, j < k → ¬ K j ≤ 0) ∧ (k < 512 → K k ≤ 0) ∧ ((¬ ab_ok x ∧ m9 = (1, nw, rk, K, E, L, td, wd)) ∨ (ab_ok x ∧ (k = 512 ∨ 1000000000 - nw < x) ∧ m9 = (2, nw, rk, K, E, L, td, wd)) ∨ (ab_ok x ∧ k < 512 ∧ ¬ 1000000000 - nw < x ∧ r2 = nI k ∧ m9 = (0, nw, rk + 1, upd K k (rk + 1), upd E k (nw + x), upd L k t, td, wd)))) : m9.1 = r ∧ (r = 0 → v.2 0 = r2.toInt64) ∧ sim (n + 1) v.1 m9 := by
  obtain ⟨v1, F'⟩ := v
  unfold sim at h
  dsimp only at h hu ⊢
  obtain ⟨hA, rfl, rfl, rfl, rfl, q, hq, rfl⟩ := h
  obtain ⟨hr1, hr0⟩ := sim_rk (q := q) (by omega)
  obtain ⟨k', hk', hlo', hat', hm⟩ := hm
  rcases hu with ⟨rfl, r1, ⟨k, hk, rfl, hS0, hlo, hok, hbe, rfl⟩, hF⟩ | ⟨rfl, rfl, hok⟩ | ⟨rfl, rfl, hok, hfull⟩
  · have hkk : k = k' := by
      rcases Nat.lt_trichotomy k k' with z | z | z
      · exact absurd ((hA k hk).1.mp hS0) (hlo' k z)
      · exact z
      · exact absurd ((hA k' (by omega)).1.mpr (hat' (by omega))) (hlo k' z)
    subst hkk
    rcases hm with ⟨z, -⟩ | ⟨-, z, -⟩ | ⟨-, -, -, rfl, rfl⟩
    · exact absurd hok z
    · exact absurd z (fun z => z.elim (fun z => by omega) hbe)
    · exact ⟨rfl, fun _ => hF, smA_put hA hr0, rfl, rfl, rfl, rfl, q + 1, by omega, hr1⟩
  · rcases hm with ⟨-, rfl⟩ | ⟨z, -⟩ | ⟨z, -⟩
    · exact ⟨rfl, fun z => absurd z (by decide), ⟨hA, rfl, rfl, rfl, rfl, q, by omega, rfl⟩⟩
    · exact absurd z hok
    · exact absurd z hok
  · rcases hm with ⟨z, -⟩ | ⟨-, -, rfl⟩ | ⟨-, z1, z2, -⟩
    · exact absurd hok z
    · exact ⟨rfl, fun z => absurd z (by decide), ⟨hA, rfl, rfl, rfl, rfl, q, by omega, rfl⟩⟩
    · rcases hfull with z | z
      · exact absurd ((hA k' z1).1.mpr (hat' z1)) (z k' z1)
      · exact absurd z z2
set_option maxHeartbeats 1000000 in
theorem sim_shift {n : Nat} {S Du T Rk : Nat → Int32} {now lr rt rd : Int32} {cd nw rk : Int32} {K E L : Nat → Int32} {td wd : Int32} {x t r r2 : Int32} {v : HLs} {m9 : MDs} (hn : n < 512) (h : sim n (S, Du, T, Rk, now, lr, rt, rd) (cd, nw, rk, K, E, L, td, wd)) (hu : (r = 0 ∧ ∃ r1 : Int32, (∃ k : Nat, k < 512 ∧ x = nI k ∧ ¬ S k = 0 ∧ ab_ok t ∧ ¬ 1000000000 - now < t ∧ r1 = Du k - now ∧ v.1 = (S, upd Du k (now + t), T, upd Rk k (lr + 1), now, lr + 1, rt, rd)) ∧ v.2 0 = r1.toInt64) ∨ (r = 1 ∧ v.1 = (S, Du, T, Rk, now, lr, rt, rd) ∧ (¬ ab_ex S x ∨ ¬ ab_ok t)) ∨ (r = 2 ∧ v.1 = (S, Du, T, Rk, now, lr, rt, rd) ∧ ab_ex S x ∧ ab_ok t ∧ 1000000000 - now < t)) (hm : (¬ (md_al K x ∧ ab_ok t) ∧ m9 = (1, nw, rk, K, E, L, td, wd)) ∨ (md_al K x ∧ ab_ok t ∧ 1000000000 - nw < t ∧ m9 = (2, nw, rk, K, E, L, td, wd)) ∨ (∃ k : Nat, k < 512 ∧ x = nI k ∧ ¬ K k ≤ 0 ∧ ab_ok t ∧ ¬ 1000000000 - nw < t ∧ r2 = E k - nw ∧ m9 = (0, nw, rk + 1, upd K k (rk + 1), upd E k (nw + t), upd L k (L k), td, wd))) : m9.1 = r ∧ (r = 0 → v.2 0 = r2.toInt64) ∧ sim (n + 1) v.1 m9 := by
  obtain ⟨v1, F'⟩ := v
  unfold sim at h
  dsimp only at h hu ⊢
  obtain ⟨hA, rfl, rfl, rfl, rfl, q, hq, rfl⟩ := h
  obtain ⟨hr1, hr0⟩ := sim_rk (q := q) (by omega)
  have hex := sim_ex hA x
  rcases hu with ⟨rfl, r1, ⟨k, hk, rfl, hS0, hok, hbe, rfl, rfl⟩, hF⟩ | ⟨rfl, rfl, hno⟩ | ⟨rfl, rfl, hx, hok, hbe⟩
  · rcases hm with ⟨z, -⟩ | ⟨-, -, z, -⟩ | ⟨k', hk', e, -, -, -, rfl, rfl⟩
    · exact absurd ⟨hex.mp ⟨k, hk, rfl, hS0⟩, hok⟩ z
    · exact absurd z hbe
    · have e := sim_one hk hk' e
      subst e
      exact ⟨rfl, fun _ => by rw [hF, ((hA k hk).2 hS0).2.1], smA_shift hA hk hS0 hr0, rfl, rfl, rfl, rfl, q + 1, by omega, hr1⟩
  · rcases hm with ⟨-, rfl⟩ | ⟨z1, z2, -⟩ | ⟨k', hk', e, z1, z2, -⟩
    · exact ⟨rfl, fun z => absurd z (by decide), ⟨hA, rfl, rfl, rfl, rfl, q, by omega, rfl⟩⟩
    · exact (hno.elim (fun z => z (hex.mpr z1)) (fun z => z z2)).elim
    · exact (hno.elim (fun z => z (hex.mpr ⟨k', hk', e, z1⟩)) (fun z => z z2)).elim
  · rcases hm with ⟨z, -⟩ | ⟨-, -, -, rfl⟩ | ⟨k', hk', e, -, -, z, -⟩
    · exact absurd ⟨hex.mp hx, hok⟩ z
    · exact ⟨rfl, fun z => absurd z (by decide), ⟨hA, rfl, rfl, rfl, rfl, q, by omega, rfl⟩⟩
    · exact absurd hbe z
set_option maxHeartbeats 1000000 in
theorem sim_stop {n : Nat} {S Du T Rk : Nat → Int32} {now lr rt rd : Int32} {cd nw rk : Int32} {K E L : Nat → Int32} {td wd : Int32} {x r r2 : Int32} {v : HLs} {m9 : MDs} (hn : n < 512) (h : sim n (S, Du, T, Rk, now, lr, rt, rd) (cd, nw, rk, K, E, L, td, wd)) (hu : (r = 0 ∧ ∃ r1 : Int32, (∃ k : Nat, k < 512 ∧ x = nI k ∧ ¬ S k = 0 ∧ r1 = T k ∧ v.1 = (upd S k 0, Du, T, Rk, now, lr, rt, rd)) ∧ v.2 0 = r1.toInt64) ∨ (r = 1 ∧ v.1 = (S, Du, T, Rk, now, lr, rt, rd) ∧ ¬ ab_ex S x)) (hm : (¬ md_al K x ∧ m9 = (1, nw, rk, K, E, L, td, wd)) ∨ (∃ k : Nat, k < 512 ∧ x = nI k ∧ ¬ K k ≤ 0 ∧ r2 = L k ∧ m9 = (0, nw, rk, upd K k 0, E, L, td, wd))) : m9.1 = r ∧ (r = 0 → v.2 0 = r2.toInt64) ∧ sim (n + 1) v.1 m9 := by
  obtain ⟨v1, F'⟩ := v
  unfold sim at h
  dsimp only at h hu ⊢
  obtain ⟨hA, rfl, rfl, rfl, rfl, q, hq, rfl⟩ := h
  have hex := sim_ex hA x
  rcases hu with ⟨rfl, r1, ⟨k, hk, rfl, hS0, rfl, rfl⟩, hF⟩ | ⟨rfl, rfl, hno⟩
  · rcases hm with ⟨z, -⟩ | ⟨k', hk', e, -, rfl, rfl⟩
    · exact absurd (hex.mp ⟨k, hk, rfl, hS0⟩) z
    · have e := sim_one hk hk' e
      subst e
      exact ⟨rfl, fun _ => by rw [hF, ((hA k hk).2 hS0).2.2], smA_stop hA, rfl, rfl, rfl, rfl, q, by omega, rfl⟩
  · rcases hm with ⟨-, rfl⟩ | ⟨k', hk', e, z, -⟩
    · exact ⟨rfl, fun z => absurd z (by decide), ⟨hA, rfl, rfl, rfl, rfl, q, by omega, rfl⟩⟩
    · exact absurd (hex.mpr ⟨k', hk', e, z⟩) hno
set_option maxHeartbeats 1000000 in
theorem sim_pass {n : Nat} {S Du T Rk : Nat → Int32} {now lr rt rd : Int32} {cd nw rk : Int32} {K E L : Nat → Int32} {td wd : Int32} {x r r2 : Int32} {v : HLs} {m9 : MDs} (hn : n < 512) (h : sim n (S, Du, T, Rk, now, lr, rt, rd) (cd, nw, rk, K, E, L, td, wd)) (hu : (r = 0 ∧ ∃ r1 : Int32, (¬ x < 0 ∧ ¬ 200000 < x ∧ ¬ 1000000000 - now < x ∧ r1 = now + x ∧ v.1 = (S, Du, T, Rk, now + x, lr, rt, rd)) ∧ v.2 0 = r1.toInt64) ∨ (r = 1 ∧ v.1 = (S, Du, T, Rk, now, lr, rt, rd) ∧ (x < 0 ∨ 200000 < x)) ∨ (r = 2 ∧ v.1 = (S, Du, T, Rk, now, lr, rt, rd) ∧ ¬ x < 0 ∧ ¬ 200000 < x ∧ 1000000000 - now < x)) (hm : ((x < 0 ∨ 200000 < x) ∧ m9 = (1, nw, rk, K, E, L, td, wd)) ∨ (¬ x < 0 ∧ ¬ 200000 < x ∧ 1000000000 - nw < x ∧ m9 = (2, nw, rk, K, E, L, td, wd)) ∨ (¬ x < 0 ∧ ¬ 200000 < x ∧ ¬ 1000000000 - nw < x ∧ r2 = nw + x ∧ m9 = (0, nw + x, rk, K, E, L, td, wd))) : m9.1 = r ∧ (r = 0 → v.2 0 = r2.toInt64) ∧ sim (n + 1) v.1 m9 := by
  obtain ⟨v1, F'⟩ := v
  unfold sim at h
  dsimp only at h hu ⊢
  obtain ⟨hA, rfl, rfl, rfl, rfl, q, hq, rfl⟩ := h
  rcases hu with ⟨rfl, r1, ⟨h1, h2, h3, rfl, rfl⟩, hF⟩ | ⟨rfl, rfl, hno⟩ | ⟨rfl, rfl, h1, h2, h3⟩
  · rcases hm with ⟨z, -⟩ | ⟨-, -, z, -⟩ | ⟨-, -, -, rfl, rfl⟩
    · exact (z.elim h1 h2).elim
    · exact absurd z h3
    · exact ⟨rfl, fun _ => hF, hA, rfl, rfl, rfl, rfl, q, by omega, rfl⟩
  · rcases hm with ⟨-, rfl⟩ | ⟨z1, z2, -⟩ | ⟨z1, z2, -⟩
    · exact ⟨rfl, fun z => absurd z (by decide), ⟨hA, rfl, rfl, rfl, rfl, q, by omega, rfl⟩⟩
    · exact (hno.elim z1 z2).elim
    · exact (hno.elim z1 z2).elim
  · rcases hm with ⟨z, -⟩ | ⟨-, -, -, rfl⟩ | ⟨-, -, z, -⟩
    · exact (z.elim h1 h2).elim
    · exact ⟨rfl, fun z => absurd z (by decide), ⟨hA, rfl, rfl, rfl, rfl, q, by omega, rfl⟩⟩
    · exact absurd h3 z
theorem sim_01 {w : Int32} (h1 : ¬ w < 0) (h2 : ¬ 1 < w) : w = 0 ∨ w = 1 := by
  obtain ⟨j, hj, rfl⟩ := nI_of2 (n := 1) (by decide) h1 (Int32.not_lt.mp h2)
  rcases (show j = 0 ∨ j = 1 by omega) with rfl | rfl
  · exact Or.inl rfl
  · exact Or.inr rfl
set_option maxHeartbeats 1000000 in
theorem sim_about {n : Nat} {S Du T Rk : Nat → Int32} {now lr rt rd : Int32} {cd nw rk : Int32} {K E L : Nat → Int32} {td wd : Int32} {x w r r2 : Int32} {v : HLs} {m9 : MDs} (hn : n < 512) (h : sim n (S, Du, T, Rk, now, lr, rt, rd) (cd, nw, rk, K, E, L, td, wd)) (hu : (r = 0 ∧ ∃ r1 : Int32, (∃ k : Nat, k < 512 ∧ x = nI k ∧ ¬ S k = 0 ∧ ((w = 0 ∧ r1 = Du k) ∨ (w = 1 ∧ r1 = T k)) ∧ v.1 = (S, Du, T, Rk, now, lr, rt, rd)) ∧ v.2 0 = r1.toInt64) ∨ (r = 1 ∧ v.1 = (S, Du, T, Rk, now, lr, rt, rd) ∧ (¬ ab_ex S x ∨ (¬ w = 0 ∧ ¬ w = 1)))) (hm : (¬ (md_al K x ∧ ¬ w < 0 ∧ ¬ 1 < w) ∧ m9 = (1, nw, rk, K, E, L, td, wd)) ∨ (∃ k : Nat, k < 512 ∧ x = nI k ∧ ¬ K k ≤ 0 ∧ ¬ w < 0 ∧ ¬ 1 < w ∧ ((w = 0 ∧ r2 = E k) ∨ (¬ w = 0 ∧ r2 = L k)) ∧ m9 = (0, nw, rk, K, E, L, td, wd))) : m9.1 = r ∧ (r = 0 → v.2 0 = r2.toInt64) ∧ sim (n + 1) v.1 m9 := by
  obtain ⟨v1, F'⟩ := v
  unfold sim at h
  dsimp only at h hu ⊢
  obtain ⟨hA, rfl, rfl, rfl, rfl, q, hq, rfl⟩ := h
  have hex := sim_ex hA x
  rcases hu with ⟨rfl, r1, ⟨k, hk, rfl, hS0, hw, rfl⟩, hF⟩ | ⟨rfl, rfl, hno⟩
  · rcases hm with ⟨z, -⟩ | ⟨k', hk', e, -, -, -, hw', rfl⟩
    · refine absurd ⟨hex.mp ⟨k, hk, rfl, hS0⟩, ?_⟩ z
      rcases hw with ⟨rfl, -⟩ | ⟨rfl, -⟩
      · exact ⟨by decide, by decide⟩
      · exact ⟨by decide, by decide⟩
    · have e := sim_one hk hk' e
      subst e
      obtain ⟨-, g2, g3⟩ := (hA k hk).2 hS0
      refine ⟨rfl, fun _ => ?_, hA, rfl, rfl, rfl, rfl, q, by omega, rfl⟩
      rcases hw with ⟨rfl, rfl⟩ | ⟨rfl, rfl⟩
      · rcases hw' with ⟨-, rfl⟩ | ⟨z, -⟩
        · rw [hF, g2]
        · exact absurd rfl z
      · rcases hw' with ⟨z, -⟩ | ⟨-, rfl⟩
        · exact absurd z (by decide)
        · rw [hF, g3]
  · rcases hm with ⟨-, rfl⟩ | ⟨k', hk', e, z, z1, z2, -⟩
    · exact ⟨rfl, fun z => absurd z (by decide), ⟨hA, rfl, rfl, rfl, rfl, q, by omega, rfl⟩⟩
    · exact (hno.elim (fun y => y (hex.mpr ⟨k', hk', e, z⟩)) (fun y => (sim_01 z1 z2).elim y.1 y.2)).elim
set_option maxHeartbeats 1000000 in
theorem sim_told {n : Nat} {S Du T Rk : Nat → Int32} {now lr rt rd : Int32} {cd nw rk : Int32} {K E L : Nat → Int32} {td wd : Int32}  {r r2 : Int32} {m9 : MDs} (h : sim n (S, Du, T, Rk, now, lr, rt, rd) (cd, nw, rk, K, E, L, td, wd)) (hu : r = rt) (hm : r2 = td ∧ m9 = (0, nw, rk, K, E, L, td, wd)) : r = r2 ∧ sim (n + 1) (S, Du, T, Rk, now, lr, rt, rd) m9 := by
  unfold sim at h
  dsimp only at h ⊢
  obtain ⟨hA, rfl, rfl, rfl, rfl, q, hq, rfl⟩ := h
  obtain ⟨rfl, rfl⟩ := hm
  exact ⟨hu, ⟨hA, rfl, rfl, rfl, rfl, q, by omega, rfl⟩⟩
set_option maxHeartbeats 1000000 in
theorem sim_wasDue {n : Nat} {S Du T Rk : Nat → Int32} {now lr rt rd : Int32} {cd nw rk : Int32} {K E L : Nat → Int32} {td wd : Int32}  {r r2 : Int32} {m9 : MDs} (h : sim n (S, Du, T, Rk, now, lr, rt, rd) (cd, nw, rk, K, E, L, td, wd)) (hu : r = rd) (hm : r2 = wd ∧ m9 = (0, nw, rk, K, E, L, td, wd)) : r = r2 ∧ sim (n + 1) (S, Du, T, Rk, now, lr, rt, rd) m9 := by
  unfold sim at h
  dsimp only at h ⊢
  obtain ⟨hA, rfl, rfl, rfl, rfl, q, hq, rfl⟩ := h
  obtain ⟨rfl, rfl⟩ := hm
  exact ⟨hu, ⟨hA, rfl, rfl, rfl, rfl, q, by omega, rfl⟩⟩
set_option maxHeartbeats 1000000 in
theorem sim_time {n : Nat} {S Du T Rk : Nat → Int32} {now lr rt rd : Int32} {cd nw rk : Int32} {K E L : Nat → Int32} {td wd : Int32}  {r r2 : Int32} {m9 : MDs} (h : sim n (S, Du, T, Rk, now, lr, rt, rd) (cd, nw, rk, K, E, L, td, wd)) (hu : r = now) (hm : r2 = nw ∧ m9 = (0, nw, rk, K, E, L, td, wd)) : r = r2 ∧ sim (n + 1) (S, Du, T, Rk, now, lr, rt, rd) m9 := by
  unfold sim at h
  dsimp only at h ⊢
  obtain ⟨hA, rfl, rfl, rfl, rfl, q, hq, rfl⟩ := h
  obtain ⟨rfl, rfl⟩ := hm
  exact ⟨hu, ⟨hA, rfl, rfl, rfl, rfl, q, by omega, rfl⟩⟩
set_option maxHeartbeats 1000000 in
theorem sim_next {n : Nat} {S Du T Rk : Nat → Int32} {now lr rt rd : Int32} {cd nw rk : Int32} {K E L : Nat → Int32} {td wd : Int32}  {r r2 : Int32} {m9 : MDs} (h : sim n (S, Du, T, Rk, now, lr, rt, rd) (cd, nw, rk, K, E, L, td, wd)) (hu : r = (match ab_fst S Du Rk 512 with | none => -1 | some k => Du k)) (hm : r2 = (match ab_fst (md_S K) E K 512 with | none => -1 | some k => E k) ∧ m9 = (0, nw, rk, K, E, L, td, wd)) : r = r2 ∧ sim (n + 1) (S, Du, T, Rk, now, lr, rt, rd) m9 := by
  unfold sim at h
  dsimp only at h ⊢
  obtain ⟨hA, rfl, rfl, rfl, rfl, q, hq, rfl⟩ := h
  obtain ⟨rfl, rfl⟩ := hm
  refine ⟨?_, ⟨hA, rfl, rfl, rfl, rfl, q, by omega, rfl⟩⟩
  rw [hu, ← sim_fst hA 512 (Nat.le_refl _)]
  cases hf : ab_fst S Du Rk 512 with
  | none => rfl
  | some k => exact ((hA k (ab_fst_lt hf).1).2 (ab_fst_lt hf).2).2.1
set_option maxHeartbeats 1000000 in
theorem sim_ring {n : Nat} {S Du T Rk : Nat → Int32} {now lr rt rd : Int32} {cd nw rk : Int32} {K E L : Nat → Int32} {td wd : Int32}  {r r2 : Int32} {u9 : ABs} {m9 : MDs} (h : sim n (S, Du, T, Rk, now, lr, rt, rd) (cd, nw, rk, K, E, L, td, wd)) (hu : (match ab_fst S Du Rk 512 with | none => r = -1 ∧ u9 = (S, Du, T, Rk, now, lr, rt, rd) | some k => (Du k ≤ now → r = nI k ∧ u9 = (upd S k 0, Du, T, Rk, now, lr, T k, Du k)) ∧ (¬ Du k ≤ now → r = -1 ∧ u9 = (S, Du, T, Rk, now, lr, rt, rd)))) (hm : (match ab_fst (md_S K) E K 512 with | none => r2 = -1 ∧ m9 = (0, nw, rk, K, E, L, td, wd) | some k => (E k ≤ nw → r2 = nI k ∧ m9 = (0, nw, rk, upd K k 0, E, L, L k, E k)) ∧ (¬ E k ≤ nw → r2 = -1 ∧ m9 = (0, nw, rk, K, E, L, td, wd)))) : r = r2 ∧ sim (n + 1) u9 m9 := by
  unfold sim at h
  dsimp only at h ⊢
  obtain ⟨hA, rfl, rfl, rfl, rfl, q, hq, rfl⟩ := h
  rw [← sim_fst hA 512 (Nat.le_refl _)] at hm
  cases hf : ab_fst S Du Rk 512 with
  | none =>
    rw [hf] at hu hm
    obtain ⟨rfl, rfl⟩ := hu
    obtain ⟨rfl, rfl⟩ := hm
    exact ⟨rfl, ⟨hA, rfl, rfl, rfl, rfl, q, by omega, rfl⟩⟩
  | some k =>
    rw [hf] at hu hm
    dsimp only at hu hm
    obtain ⟨hk, hS0⟩ := ab_fst_lt hf
    obtain ⟨-, g2, g3⟩ := (hA k hk).2 hS0
    rw [← g2, ← g3] at hm
    by_cases hd : Du k ≤ now
    · obtain ⟨rfl, rfl⟩ := hu.1 hd
      obtain ⟨rfl, rfl⟩ := hm.1 hd
      exact ⟨rfl, smA_stop hA, rfl, rfl, rfl, rfl, q, by omega, rfl⟩
    · obtain ⟨rfl, rfl⟩ := hu.2 hd
      obtain ⟨rfl, rfl⟩ := hm.2 hd
      exact ⟨rfl, ⟨hA, rfl, rfl, rfl, rfl, q, by omega, rfl⟩⟩
set_option maxHeartbeats 1000000 in
theorem sim_stopAll {n : Nat} {S Du T Rk : Nat → Int32} {now lr rt rd : Int32} {cd nw rk : Int32} {K E L : Nat → Int32} {td wd : Int32} {x : Int32} {r r2 : Int32} {u9 : ABs} {m9 : MDs} (h : sim n (S, Du, T, Rk, now, lr, rt, rd) (cd, nw, rk, K, E, L, td, wd)) (hu : r = nI (ab_cnt (fun j => !decide (S j = 0) && decide (T j = x)) 512) ∧ u9 = (ab_sa S T x 512, Du, T, Rk, now, lr, rt, rd)) (hm : r2 = nI (ab_cnt (fun j => !decide (K j ≤ 0) && decide (L j = x)) 512) ∧ m9 = (0, nw, rk, md_sa K L x 512, E, L, td, wd)) : r = r2 ∧ sim (n + 1) u9 m9 := by
  unfold sim at h
  dsimp only at h ⊢
  obtain ⟨hA, rfl, rfl, rfl, rfl, q, hq, rfl⟩ := h
  obtain ⟨rfl, rfl⟩ := hu
  obtain ⟨rfl, rfl⟩ := hm
  refine ⟨?_, smA_sa hA, rfl, rfl, rfl, rfl, q, by omega, rfl⟩
  rw [sim_cnt 512 (fun j hj => ?_)]
  obtain ⟨h1, h2⟩ := hA j hj
  by_cases e : S j = 0
  · simp [e, h1.mp e]
  · have ek : ¬ K j ≤ 0 := fun z => e (h1.mpr z)
    simp [e, ek, (h2 e).2.2]
set_option maxHeartbeats 1000000 in
theorem sim_count {n : Nat} {S Du T Rk : Nat → Int32} {now lr rt rd : Int32} {cd nw rk : Int32} {K E L : Nat → Int32} {td wd : Int32} {b : Int32} {r r2 : Int32} {m9 : MDs} (h : sim n (S, Du, T, Rk, now, lr, rt, rd) (cd, nw, rk, K, E, L, td, wd)) (hu : r = nI (ab_cnt (fun j => !decide (S j = 0) && (decide (b = 0) || decide (Du j ≤ now))) 512)) (hm : r2 = nI (ab_cnt (fun j => !decide (K j ≤ 0) && (decide (b = 0) || decide (E j ≤ nw))) 512) ∧ m9 = (0, nw, rk, K, E, L, td, wd)) : r = r2 ∧ sim (n + 1) (S, Du, T, Rk, now, lr, rt, rd) m9 := by
  unfold sim at h
  dsimp only at h ⊢
  obtain ⟨hA, rfl, rfl, rfl, rfl, q, hq, rfl⟩ := h
  obtain ⟨rfl, rfl⟩ := hm
  refine ⟨?_, ⟨hA, rfl, rfl, rfl, rfl, q, by omega, rfl⟩⟩
  rw [hu, sim_cnt 512 (fun j hj => ?_)]
  obtain ⟨h1, h2⟩ := hA j hj
  by_cases e : S j = 0
  · simp [e, h1.mp e]
  · have ek : ¬ K j ≤ 0 := fun z => e (h1.mpr z)
    simp [e, ek, (h2 e).2.1]
theorem sim_0 : sim 0 ((fun _ => 0), (fun _ => 0), (fun _ => 0), (fun _ => 0), 0, 0, 0, -1) (0, 0, 0, (fun _ => 0), (fun _ => 0), (fun _ => 0), 0, -1) := by
  refine ⟨fun j _ => ⟨⟨fun _ => Int32.le_refl 0, fun _ => rfl⟩, fun z => absurd rfl z⟩, rfl, rfl, rfl, rfl, 0, Nat.le_refl _, rfl⟩
end SIM
end
section
/-! THE CLAIM OUT OF ONE WALK OF THE LAW'S BODY. Your part is whole_start (and what it stands on); all else here is the same for every law, but numbers. -/
def R_law : String := "AlarmBenchLaw"
def lw_P (b : Addr) (xs : List Int32) (args : Array Value) (s : State) : Prop := args = #[.ref b] ∧ s.IntsAt b xs ∧ xs.length ≤ 1536 ∧ (Jvm.Cond.and given_1 narrow_1).before args s = true
def lw_Q (_ : Array Value) (s : State) (o : Outcome) (t : State) : Prop := o = .returned (some (.int 1)) ∧ Framed s o t [] 1045 11859
def lw_Z (below : List Frame) (a : Array Value) (s : State) : State → Prop := fun t => ∃ o, t.status = .running ∧ Ended t below o ∧ lw_Q a s o t
/-- the law's own end, with 1 on the stack, nothing written that was there before, its room as the claim has it -/
theorem lw_ret {p : Program} {l : Launch} {e : Env} {s : State} {m : MethodId} {below : List Frame} {meth : Method} {c : Code} {b : Nat} (hx : p.tables.exec = Jvm.exec) (hb : c.code = code) (hr : meth.sig.returnType = ret) (hlocks : meth.locks = false) {pc : Nat} {H : Heap} {ls : Array Slot} (hdg : decode code pc = .ok (.ireturn, 1)) : W p l e room_1 s m #[Value.ref b] below meth c H [] 1045 11859 (lw_Z below #[Value.ref b] s) (F0 m pc ls [.int 1]) := by
  intro T hT X
  obtain ⟨fs, hret, hrun, hended, hW, hframe⟩ := X.leave (v := some (.int 1)) (hlocks := hlocks) (fun h => by rw [hr] at h; cases h)
  have hmeth' : T.vm.method? m = some meth := X.method'
  refine ⟨T.setFrames fs, ?_, .returned (some (.int 1)), hrun, hended, rfl, ⟨_, rfl⟩, hW, hframe⟩
  jvm_step X.here [X.here.top, hx, hb, hdg, hmeth', hr, ret, narrow_b1]
  (try refine ⟨rfl, ?_⟩); (try refine ⟨rfl, ?_⟩)
  first | (intro acts; rw [hret _ acts rfl rfl rfl]) | rw [hret _ _ rfl rfl rfl]
  exact Steps.refl _
/-- what holds at the law's entry: the machine, the code, the tables' words (any of lw_tbl by 'hts w (by decide +kernel)'), the script of L ints xs at the cell b, what the Statement gives of the start (any of its parts by flat_of_before) -/
def lw_At (p : Program) (s : State) (m : MethodId) (meth : Method) (c : Code) (b L : Nat) (xs : Nat → Int32) : Prop :=
  p.tables.exec = Jvm.exec ∧ c.code = code ∧ meth.sig.returnType = ret ∧ c.maxLocals = 7 ∧ s.vm.findClass R_law = some m.cls ∧ (∀ w ∈ lw_tbl, w.before #[Value.ref b] s = true) ∧ va_X b L xs s s.heap ∧ b < s.heap.size ∧ meth.locks = false ∧ (Jvm.Cond.and given_1 narrow_1).before #[Value.ref b] s = true
end
section
/-! The law: its cells, a pass of its loop case by case. -/
section LAW
abbrev lwW (h0 a1 a2 a3 a4 : Nat) (cZ cI : ClassId) (h1 b1 b2 b3 : Nat) (cJ : ClassId) (o1 : Nat) (cL : ClassId) (u : ABs) (v : MDs) (F : Nat → Int64) : va_W := hlW o1 cL F (abU h0 a1 a2 a3 a4 cZ cI u ++ mdU h1 b1 b2 b3 cJ v)
abbrev lwT (cZ cI cL cJ : ClassId) : List (ClassId × FieldType) := [(cZ, .boolean), (cI, .int), (cL, .long), (cJ, .int)]
theorem kz_p2 (a : Nat) : nI a + 2 = nI (a + 2) := nI_add a 2
theorem lg_self (x : Int64) : lg_cmp x x = 0 := by
  unfold lg_cmp
  simp
variable {p : Program} {l : Launch} {e : Env} {s : State} {m : MethodId} {below : List Frame} {meth : Method} {c : Code} {D : va_G} {b L : Nat} {xs : Nat → Int32} {h0 a1 a2 a3 a4 : Nat} {cZ cI : ClassId} {h1 b1 b2 b3 : Nat} {cJ : ClassId} {o1 : Nat} {cL : ClassId}
theorem kz_sld {R : Room} {args : Array Value} {H : Heap} {locs : List Loc} {cells slots : Nat} {Q : State → Prop} {cc : ByteArray} {pc : Nat} {ls : Array Slot} {rest : List Value} {A : Nat → Prop} {H0 : Heap} (hx : p.tables.exec = Jvm.exec) (hb : c.code = cc) (hX : va_X b L xs s H0) (hbl : b < H0.size) (hbA : ¬ A b) (hS : va_S A H0 H locs) {k : Nat} (hk : k < L) (hn : L < 2 ^ 31) (hdg : decode cc pc = .ok (.iaload, 1))
    (kk : W p l e R s m args below meth c H locs cells slots Q (F0 m (pc + 1) ls (.int (xs k) :: rest))) : W p l e R s m args below meth c H locs cells slots Q (F0 m pc ls (.int (nI k) :: .ref b :: rest)) :=
  va_sld hx hb hX hbl hbA hS (vp_in_nI hk hn) hdg (by rw [nI_clamp (Nat.lt_trans hk hn)]; exact kk)
/-- what holds all through the law -/
def lwC (p : Program) (l : Launch) (s : State) (m : MethodId) (meth : Method) (c : Code) (b L : Nat) (xs : Nat → Int32) (D : va_G) (cZ cI cL cJ : ClassId) : Prop := lw_At p s m meth c b L xs ∧ L ≤ 1536 ∧ l.stackTraces = false ∧ va_K D vwCl (lwT cZ cI cL cJ) s ∧ xz_E (fun q : Nat => s.heap.size ≤ q) s ∧ va_Nc xzI xzA s
/-- where a pass goes on: at 547, one call further -/
def lwGo (p : Program) (l : Launch) (e : Env) (s : State) (m : MethodId) (below : List Frame) (meth : Method) (c : Code) (b : Nat) (D : va_G) (h0 a1 a2 a3 a4 : Nat) (cZ cI : ClassId) (h1 b1 b2 b3 : Nat) (cJ : ClassId) (o1 : Nat) (cL : ClassId) (j : Nat) : Prop :=
  ∀ (u : ABs) (v : MDs) (F : Nat → Int64) (H : Heap) (locs : List Loc) (ls : Array Slot), sim (j + 1) u v → va_P D vwCl (lwW h0 a1 a2 a3 a4 cZ cI h1 b1 b2 b3 cJ o1 cL u v F) H → va_D (fun q : Nat => s.heap.size ≤ q) (lwW h0 a1 a2 a3 a4 cZ cI h1 b1 b2 b3 cJ o1 cL u v F) → va_S (fun q : Nat => s.heap.size ≤ q) s.heap H locs → lv_has ls 7 [(0, .ref b), (1, .ref h0), (2, .ref h1), (3, .ref o1), (4, .int (nI (3 * j)))] → W p l e room_1 s m #[Value.ref b] below meth c H locs (11 + j) (3607 + 6 * j) (lw_Z below #[Value.ref b] s) (F0 m 547 ls [])
end LAW
end
section
set_option maxHeartbeats 4000000 in
set_option maxRecDepth 100000 in
theorem w_set {p : Program} {l : Launch} {e : Env} {s : State} {m : MethodId} {below : List Frame} {meth : Method} {c : Code} {D : va_G} {b L : Nat} {xs : Nat → Int32} {h0 a1 a2 a3 a4 : Nat} {cZ cI : ClassId} {h1 b1 b2 b3 : Nat} {cJ : ClassId} {o1 : Nat} {cL : ClassId} {j : Nat} {u : ABs} {v : MDs} {F : Nat → Int64} {H : Heap} {locs : List Loc} {ls : Array Slot} (C0 : lwC p l s m meth c b L xs D cZ cI cL cJ) (hj : 3 * j + 3 ≤ L) (hsim : sim j u v) (hP : va_P D vwCl (lwW h0 a1 a2 a3 a4 cZ cI h1 b1 b2 b3 cJ o1 cL u v F) H) (hD : va_D (fun q : Nat => s.heap.size ≤ q) (lwW h0 a1 a2 a3 a4 cZ cI h1 b1 b2 b3 cJ o1 cL u v F)) (hS : va_S (fun q : Nat => s.heap.size ≤ q) s.heap H locs) (hl : lv_has ls 7 [(0, .ref b), (1, .ref h0), (2, .ref h1), (3, .ref o1), (4, .int (nI (3 * j)))]) (go : lwGo p l e s m below meth c b D h0 a1 a2 a3 a4 cZ cI h1 b1 b2 b3 cJ o1 cL j) : W p l e room_1 s m #[Value.ref b] below meth c H locs (10 + j) (3601 + 6 * j) (lw_Z below #[Value.ref b] s) (F0 m 100 ls []) := by
  obtain ⟨⟨hx, hb, hr, hml, hown, hts, hX, hbl, hlocks, hgv⟩, hL, hl9, hK, hE, hN⟩ := C0
  have hA : ∀ q : Nat, s.heap.size ≤ q → (fun q : Nat => s.heap.size ≤ q) q := fun _ h => h
  have hbA : ¬ (fun q : Nat => s.heap.size ≤ q) b := Nat.not_le.mpr hbl
  have hown : s.vm.findClass RL = some m.cls := hown
  have htL : ∀ w ∈ wsL_law, w.before #[Value.ref b] s = true := fun w h => hts w (wsL_law_in w h)
  have hKa := hK.sub (tys' := abT cZ cI) [0, 1] rfl
  have hKh := hK.sub (tys' := hlT cZ cI cL) [0, 1, 2] rfl
  have hKm := hK.sub (tys' := mdT cJ) [3] rfl
  refine lv_aload_n hx hb dL_law_100 rfl (lv_at hl 1 rfl) ?_
  refine lv_aload_n hx hb dL_law_101 rfl (lv_at hl 0 rfl) ?_
  refine lv_iload hx hb dL_law_102 (lv_at hl 4 rfl) ?_
  refine lv_iconst (v := 1) hx hb dL_law_104 (by decide) ?_
  refine lv_iadd hx hb dL_law_105 ?_
  rw [nI_1]
  refine kz_sld hx hb hX hbl hbA hS (k := 3 * j + 1) (by omega) (by omega) dL_law_106 ?_
  refine lv_aload_n hx hb dL_law_107 rfl (lv_at hl 0 rfl) ?_
  refine lv_iload hx hb dL_law_108 (lv_at hl 4 rfl) ?_
  refine lv_iconst (v := 2) hx hb dL_law_110 (by decide) ?_
  refine lv_iadd hx hb dL_law_111 ?_
  rw [kz_p2]
  refine kz_sld hx hb hX hbl hbA hS (k := 3 * j + 2) (by omega) (by omega) dL_law_112 ?_
  refine lv_aload_n hx hb dL_law_113 rfl (lv_at hl 3 rfl) ?_
  refine hl_call (wc := hlW o1 cL F (abU h0 a1 a2 a3 a4 cZ cI u)) (wr := mdU h1 b1 b2 b3 cJ v) (w1 := hlU h0 a1 a2 a3 a4 cZ cI o1 cL) (As := [.ref h0, .int (xs (3 * j + 1)), .int (xs (3 * j + 2)), .ref o1]) (rest := []) ⟨hx, hb, hml, hown, htL⟩ (h_set l hl9 D h0 a1 a2 a3 a4 cZ cI o1 cL u.1 u.2.1 u.2.2.1 u.2.2.2.1 u.2.2.2.2.1 u.2.2.2.2.2.1 u.2.2.2.2.2.2.1 u.2.2.2.2.2.2.2 F _ (xs (3 * j + 1)) (xs (3 * j + 2))) (vx_cwSW 4 htL gL_law_L_set rfl rfl rfl (by decide +kernel) ⟨Nat.le_of_ble_eq_true rfl, Nat.le_of_ble_eq_true rfl⟩) hP hD hS hA hKh hE hN [0, 1, 2, 3, 4, 5] [6, 7, 8, 9] rfl rfl rfl rfl rfl (by decide) rfl hl.1 rfl (Nat.le_of_ble_eq_true rfl) dL_law_114 ⟨by show _ ≤ 1045; omega, by show _ ≤ 11859; omega⟩ (fun r1 w1 H locs hu hP hD hS => ?_)
  have hP := hP.sub (ws' := (lwW h0 a1 a2 a3 a4 cZ cI h1 b1 b2 b3 cJ o1 cL w1.1 v w1.2)) [4, 5, 6, 7, 8, 9, 0, 1, 2, 3] rfl
  have hD := hD.sub (ws' := (lwW h0 a1 a2 a3 a4 cZ cI h1 b1 b2 b3 cJ o1 cL w1.1 v w1.2)) [4, 5, 6, 7, 8, 9, 0, 1, 2, 3] (by decide) rfl
  refine lv_istore (lv' := [(5, .int r1), (0, .ref b), (1, .ref h0), (2, .ref h1), (3, .ref o1), (4, .int (nI (3 * j)))]) hx hb dL_law_117 hl (by decide) rfl (fun ls hl => ?_)
  refine lv_aload_n hx hb dL_law_119 rfl (lv_at hl 3 rfl) ?_
  refine lv_aload_n hx hb dL_law_120 rfl (lv_at hl 1 rfl) ?_
  refine lv_iload hx hb dL_law_121 (lv_at hl 5 rfl) ?_
  refine lv_iconst (v := 1) hx hb dL_law_123 (by decide) ?_
  refine lv_iadd hx hb dL_law_124 ?_
  rw [nI_1]
  refine kz_sld hx hb hX hbl hbA hS (k := 3 * j + 1) (by omega) (by omega) dL_law_125 ?_
  refine lv_aload_n hx hb dL_law_126 rfl (lv_at hl 1 rfl) ?_
  refine lv_iload hx hb dL_law_127 (lv_at hl 5 rfl) ?_
  refine lv_iconst (v := 2) hx hb dL_law_129 (by decide) ?_
  refine lv_iadd hx hb dL_law_130 ?_
  rw [kz_p2]
  refine kz_sld hx hb hX hbl hbA hS (k := 3 * j + 2) (by omega) (by omega) dL_law_131 ?_
  refine kz_calli (wc := mdU h1 b1 b2 b3 cJ v) (wr := hlW o1 cL w1.2 (abU h0 a1 a2 a3 a4 cZ cI w1.1)) (w1 := mdU h1 b1 b2 b3 cJ) (As := [.int (xs (3 * j + 1)), .int (xs (3 * j + 2))]) (rest := []) ⟨hx, hb, hml, hown, hts⟩ (m_set l D h1 b1 b2 b3 cJ v.1 v.2.1 v.2.2.1 v.2.2.2.1 v.2.2.2.2.1 v.2.2.2.2.2.1 v.2.2.2.2.2.2.1 v.2.2.2.2.2.2.2 _ (xs (3 * j + 1)) (xs (3 * j + 2))) (cwV 2 hts gW_X1_set rfl rfl rfl (by decide +kernel) ⟨Nat.le_of_ble_eq_true rfl, Nat.le_of_ble_eq_true rfl⟩) hP hD hS hA hKm [6, 7, 8, 9] [0, 1, 2, 3, 4, 5] rfl rfl rfl rfl rfl (by decide) (va_recv hK hP (ci := 1) (q0 := 6) rfl rfl) rfl hl.1 rfl (Nat.le_of_ble_eq_true rfl) dL_law_132 ⟨by show _ ≤ 1045; omega, by show _ ≤ 11859; omega⟩ (fun r2 v1 H locs hm hP hD hS => ?_)
  have hP : va_P D vwCl (lwW h0 a1 a2 a3 a4 cZ cI h1 b1 b2 b3 cJ o1 cL w1.1 v1 w1.2) H := hP
  have hD : va_D (fun q : Nat => s.heap.size ≤ q) (lwW h0 a1 a2 a3 a4 cZ cI h1 b1 b2 b3 cJ o1 cL w1.1 v1 w1.2) := hD
  obtain ⟨hq1, hq2, hsim⟩ := sim_set (by omega) hsim hu hm
  refine lv_istore (lv' := [(6, .int r2), (5, .int r1), (0, .ref b), (1, .ref h0), (2, .ref h1), (3, .ref o1), (4, .int (nI (3 * j)))]) hx hb dL_law_135 hl (by decide) rfl (fun ls hl => ?_)
  refine lv_aload_n hx hb dL_law_137 rfl (lv_at hl 4 rfl) ?_
  refine kz_callR (As := []) (rest := []) ⟨hx, hb, hml, hown, hts⟩ (m_thrown l D h1 b1 b2 b3 cJ v1.1 v1.2.1 v1.2.2.1 v1.2.2.2.1 v1.2.2.2.2.1 v1.2.2.2.2.2.1 v1.2.2.2.2.2.2.1 v1.2.2.2.2.2.2.2) (cwV 0 hts gW_X1_thrown rfl rfl rfl (by decide +kernel) ⟨Nat.le_of_ble_eq_true rfl, Nat.le_of_ble_eq_true rfl⟩) (hP.sub [6, 7, 8, 9] rfl) hKm (va_recv hK hP (ci := 1) (q0 := 6) rfl rfl) rfl hl.1 rfl (Nat.le_of_ble_eq_true rfl) dL_law_138 ⟨by show _ ≤ 1045; omega, by show _ ≤ 11859; omega⟩ (fun r3 h3 => ?_)
  refine lv_iload hx hb dL_law_141 (lv_at hl 1 rfl) ?_
  refine lv_icmp_eq (tgt := 148) hx hb dL_law_143 (by decide) (fun c_143 => ?_) (fun c_143 => ?_)
  · refine lv_iload hx hb dL_law_148 (lv_at hl 1 rfl) ?_
    refine lv_if_ne (tgt := 165) hx hb dL_law_150 (by decide) (fun c_150 => ?_) (fun c_150 => ?_)
    · refine lv_goto (tgt := 547) hx hb dL_law_165 (by decide) ?_
      refine W.widen (k := 11 + j) (n := 3607 + 6 * j) (by omega) (by omega) ?_
      exact go _ _ _ H locs ls hsim hP hD hS (lv_sub hl [2, 3, 4, 5, 6] rfl)
    · refine lv_aload_n hx hb dL_law_153 rfl (lv_at hl 5 rfl) ?_
      refine lv_iconst (v := 0) hx hb dL_law_154 (by decide) ?_
      refine kz_lald0 hx hb hK hP 0 2 rfl rfl (vp_in_nI (n := 0) (N := 1) (by decide) (by decide)) dL_law_155 ?_
      refine lv_iload hx hb dL_law_156 (lv_at hl 0 rfl) ?_
      refine lv_i2l hx hb dL_law_158 rfl ?_
      refine W.lcmp hx hb dL_law_159 ?_
      refine lv_if_eq (tgt := 165) hx hb dL_law_160 (by decide) (fun c_160 => ?_) (fun c_160 => ?_)
      · refine lv_goto (tgt := 547) hx hb dL_law_165 (by decide) ?_
        refine W.widen (k := 11 + j) (n := 3607 + 6 * j) (by omega) (by omega) ?_
        exact go _ _ _ H locs ls hsim hP hD hS (lv_sub hl [2, 3, 4, 5, 6] rfl)
      · exact absurd (by rw [hq2 c_150]; exact lg_self _) c_160
  · exact absurd (h3.trans hq1) c_143
set_option maxHeartbeats 4000000 in
set_option maxRecDepth 100000 in
theorem w_shift {p : Program} {l : Launch} {e : Env} {s : State} {m : MethodId} {below : List Frame} {meth : Method} {c : Code} {D : va_G} {b L : Nat} {xs : Nat → Int32} {h0 a1 a2 a3 a4 : Nat} {cZ cI : ClassId} {h1 b1 b2 b3 : Nat} {cJ : ClassId} {o1 : Nat} {cL : ClassId} {j : Nat} {u : ABs} {v : MDs} {F : Nat → Int64} {H : Heap} {locs : List Loc} {ls : Array Slot} (C0 : lwC p l s m meth c b L xs D cZ cI cL cJ) (hj : 3 * j + 3 ≤ L) (hsim : sim j u v) (hP : va_P D vwCl (lwW h0 a1 a2 a3 a4 cZ cI h1 b1 b2 b3 cJ o1 cL u v F) H) (hD : va_D (fun q : Nat => s.heap.size ≤ q) (lwW h0 a1 a2 a3 a4 cZ cI h1 b1 b2 b3 cJ o1 cL u v F)) (hS : va_S (fun q : Nat => s.heap.size ≤ q) s.heap H locs) (hl : lv_has ls 7 [(0, .ref b), (1, .ref h0), (2, .ref h1), (3, .ref o1), (4, .int (nI (3 * j)))]) (go : lwGo p l e s m below meth c b D h0 a1 a2 a3 a4 cZ cI h1 b1 b2 b3 cJ o1 cL j) : W p l e room_1 s m #[Value.ref b] below meth c H locs (10 + j) (3601 + 6 * j) (lw_Z below #[Value.ref b] s) (F0 m 168 ls []) := by
  obtain ⟨⟨hx, hb, hr, hml, hown, hts, hX, hbl, hlocks, hgv⟩, hL, hl9, hK, hE, hN⟩ := C0
  have hA : ∀ q : Nat, s.heap.size ≤ q → (fun q : Nat => s.heap.size ≤ q) q := fun _ h => h
  have hbA : ¬ (fun q : Nat => s.heap.size ≤ q) b := Nat.not_le.mpr hbl
  have hown : s.vm.findClass RL = some m.cls := hown
  have htL : ∀ w ∈ wsL_law, w.before #[Value.ref b] s = true := fun w h => hts w (wsL_law_in w h)
  have hKa := hK.sub (tys' := abT cZ cI) [0, 1] rfl
  have hKh := hK.sub (tys' := hlT cZ cI cL) [0, 1, 2] rfl
  have hKm := hK.sub (tys' := mdT cJ) [3] rfl
  refine lv_aload_n hx hb dL_law_168 rfl (lv_at hl 1 rfl) ?_
  refine lv_aload_n hx hb dL_law_169 rfl (lv_at hl 0 rfl) ?_
  refine lv_iload hx hb dL_law_170 (lv_at hl 4 rfl) ?_
  refine lv_iconst (v := 1) hx hb dL_law_172 (by decide) ?_
  refine lv_iadd hx hb dL_law_173 ?_
  rw [nI_1]
  refine kz_sld hx hb hX hbl hbA hS (k := 3 * j + 1) (by omega) (by omega) dL_law_174 ?_
  refine lv_aload_n hx hb dL_law_175 rfl (lv_at hl 0 rfl) ?_
  refine lv_iload hx hb dL_law_176 (lv_at hl 4 rfl) ?_
  refine lv_iconst (v := 2) hx hb dL_law_178 (by decide) ?_
  refine lv_iadd hx hb dL_law_179 ?_
  rw [kz_p2]
  refine kz_sld hx hb hX hbl hbA hS (k := 3 * j + 2) (by omega) (by omega) dL_law_180 ?_
  refine lv_aload_n hx hb dL_law_181 rfl (lv_at hl 3 rfl) ?_
  refine hl_call (wc := hlW o1 cL F (abU h0 a1 a2 a3 a4 cZ cI u)) (wr := mdU h1 b1 b2 b3 cJ v) (w1 := hlU h0 a1 a2 a3 a4 cZ cI o1 cL) (As := [.ref h0, .int (xs (3 * j + 1)), .int (xs (3 * j + 2)), .ref o1]) (rest := []) ⟨hx, hb, hml, hown, htL⟩ (h_shift l hl9 D h0 a1 a2 a3 a4 cZ cI o1 cL u.1 u.2.1 u.2.2.1 u.2.2.2.1 u.2.2.2.2.1 u.2.2.2.2.2.1 u.2.2.2.2.2.2.1 u.2.2.2.2.2.2.2 F _ (xs (3 * j + 1)) (xs (3 * j + 2))) (vx_cwSW 4 htL gL_law_L_shift rfl rfl rfl (by decide +kernel) ⟨Nat.le_of_ble_eq_true rfl, Nat.le_of_ble_eq_true rfl⟩) hP hD hS hA hKh hE hN [0, 1, 2, 3, 4, 5] [6, 7, 8, 9] rfl rfl rfl rfl rfl (by decide) rfl hl.1 rfl (Nat.le_of_ble_eq_true rfl) dL_law_182 ⟨by show _ ≤ 1045; omega, by show _ ≤ 11859; omega⟩ (fun r1 w1 H locs hu hP hD hS => ?_)
  have hP := hP.sub (ws' := (lwW h0 a1 a2 a3 a4 cZ cI h1 b1 b2 b3 cJ o1 cL w1.1 v w1.2)) [4, 5, 6, 7, 8, 9, 0, 1, 2, 3] rfl
  have hD := hD.sub (ws' := (lwW h0 a1 a2 a3 a4 cZ cI h1 b1 b2 b3 cJ o1 cL w1.1 v w1.2)) [4, 5, 6, 7, 8, 9, 0, 1, 2, 3] (by decide) rfl
  refine lv_istore (lv' := [(5, .int r1), (0, .ref b), (1, .ref h0), (2, .ref h1), (3, .ref o1), (4, .int (nI (3 * j)))]) hx hb dL_law_185 hl (by decide) rfl (fun ls hl => ?_)
  refine lv_aload_n hx hb dL_law_187 rfl (lv_at hl 3 rfl) ?_
  refine lv_aload_n hx hb dL_law_188 rfl (lv_at hl 1 rfl) ?_
  refine lv_iload hx hb dL_law_189 (lv_at hl 5 rfl) ?_
  refine lv_iconst (v := 1) hx hb dL_law_191 (by decide) ?_
  refine lv_iadd hx hb dL_law_192 ?_
  rw [nI_1]
  refine kz_sld hx hb hX hbl hbA hS (k := 3 * j + 1) (by omega) (by omega) dL_law_193 ?_
  refine lv_aload_n hx hb dL_law_194 rfl (lv_at hl 1 rfl) ?_
  refine lv_iload hx hb dL_law_195 (lv_at hl 5 rfl) ?_
  refine lv_iconst (v := 2) hx hb dL_law_197 (by decide) ?_
  refine lv_iadd hx hb dL_law_198 ?_
  rw [kz_p2]
  refine kz_sld hx hb hX hbl hbA hS (k := 3 * j + 2) (by omega) (by omega) dL_law_199 ?_
  refine kz_calli (wc := mdU h1 b1 b2 b3 cJ v) (wr := hlW o1 cL w1.2 (abU h0 a1 a2 a3 a4 cZ cI w1.1)) (w1 := mdU h1 b1 b2 b3 cJ) (As := [.int (xs (3 * j + 1)), .int (xs (3 * j + 2))]) (rest := []) ⟨hx, hb, hml, hown, hts⟩ (m_shift l D h1 b1 b2 b3 cJ v.1 v.2.1 v.2.2.1 v.2.2.2.1 v.2.2.2.2.1 v.2.2.2.2.2.1 v.2.2.2.2.2.2.1 v.2.2.2.2.2.2.2 _ (xs (3 * j + 1)) (xs (3 * j + 2))) (cwV 2 hts gW_X1_shift rfl rfl rfl (by decide +kernel) ⟨Nat.le_of_ble_eq_true rfl, Nat.le_of_ble_eq_true rfl⟩) hP hD hS hA hKm [6, 7, 8, 9] [0, 1, 2, 3, 4, 5] rfl rfl rfl rfl rfl (by decide) (va_recv hK hP (ci := 1) (q0 := 6) rfl rfl) rfl hl.1 rfl (Nat.le_of_ble_eq_true rfl) dL_law_200 ⟨by show _ ≤ 1045; omega, by show _ ≤ 11859; omega⟩ (fun r2 v1 H locs hm hP hD hS => ?_)
  have hP : va_P D vwCl (lwW h0 a1 a2 a3 a4 cZ cI h1 b1 b2 b3 cJ o1 cL w1.1 v1 w1.2) H := hP
  have hD : va_D (fun q : Nat => s.heap.size ≤ q) (lwW h0 a1 a2 a3 a4 cZ cI h1 b1 b2 b3 cJ o1 cL w1.1 v1 w1.2) := hD
  obtain ⟨hq1, hq2, hsim⟩ := sim_shift (by omega) hsim hu hm
  refine lv_istore (lv' := [(6, .int r2), (5, .int r1), (0, .ref b), (1, .ref h0), (2, .ref h1), (3, .ref o1), (4, .int (nI (3 * j)))]) hx hb dL_law_203 hl (by decide) rfl (fun ls hl => ?_)
  refine lv_aload_n hx hb dL_law_205 rfl (lv_at hl 4 rfl) ?_
  refine kz_callR (As := []) (rest := []) ⟨hx, hb, hml, hown, hts⟩ (m_thrown l D h1 b1 b2 b3 cJ v1.1 v1.2.1 v1.2.2.1 v1.2.2.2.1 v1.2.2.2.2.1 v1.2.2.2.2.2.1 v1.2.2.2.2.2.2.1 v1.2.2.2.2.2.2.2) (cwV 0 hts gW_X1_thrown rfl rfl rfl (by decide +kernel) ⟨Nat.le_of_ble_eq_true rfl, Nat.le_of_ble_eq_true rfl⟩) (hP.sub [6, 7, 8, 9] rfl) hKm (va_recv hK hP (ci := 1) (q0 := 6) rfl rfl) rfl hl.1 rfl (Nat.le_of_ble_eq_true rfl) dL_law_206 ⟨by show _ ≤ 1045; omega, by show _ ≤ 11859; omega⟩ (fun r3 h3 => ?_)
  refine lv_iload hx hb dL_law_209 (lv_at hl 1 rfl) ?_
  refine lv_icmp_eq (tgt := 216) hx hb dL_law_211 (by decide) (fun c_211 => ?_) (fun c_211 => ?_)
  · refine lv_iload hx hb dL_law_216 (lv_at hl 1 rfl) ?_
    refine lv_if_ne (tgt := 233) hx hb dL_law_218 (by decide) (fun c_218 => ?_) (fun c_218 => ?_)
    · refine lv_goto (tgt := 547) hx hb dL_law_233 (by decide) ?_
      refine W.widen (k := 11 + j) (n := 3607 + 6 * j) (by omega) (by omega) ?_
      exact go _ _ _ H locs ls hsim hP hD hS (lv_sub hl [2, 3, 4, 5, 6] rfl)
    · refine lv_aload_n hx hb dL_law_221 rfl (lv_at hl 5 rfl) ?_
      refine lv_iconst (v := 0) hx hb dL_law_222 (by decide) ?_
      refine kz_lald0 hx hb hK hP 0 2 rfl rfl (vp_in_nI (n := 0) (N := 1) (by decide) (by decide)) dL_law_223 ?_
      refine lv_iload hx hb dL_law_224 (lv_at hl 0 rfl) ?_
      refine lv_i2l hx hb dL_law_226 rfl ?_
      refine W.lcmp hx hb dL_law_227 ?_
      refine lv_if_eq (tgt := 233) hx hb dL_law_228 (by decide) (fun c_228 => ?_) (fun c_228 => ?_)
      · refine lv_goto (tgt := 547) hx hb dL_law_233 (by decide) ?_
        refine W.widen (k := 11 + j) (n := 3607 + 6 * j) (by omega) (by omega) ?_
        exact go _ _ _ H locs ls hsim hP hD hS (lv_sub hl [2, 3, 4, 5, 6] rfl)
      · exact absurd (by rw [hq2 c_218]; exact lg_self _) c_228
  · exact absurd (h3.trans hq1) c_211
set_option maxHeartbeats 4000000 in
set_option maxRecDepth 100000 in
theorem w_stop {p : Program} {l : Launch} {e : Env} {s : State} {m : MethodId} {below : List Frame} {meth : Method} {c : Code} {D : va_G} {b L : Nat} {xs : Nat → Int32} {h0 a1 a2 a3 a4 : Nat} {cZ cI : ClassId} {h1 b1 b2 b3 : Nat} {cJ : ClassId} {o1 : Nat} {cL : ClassId} {j : Nat} {u : ABs} {v : MDs} {F : Nat → Int64} {H : Heap} {locs : List Loc} {ls : Array Slot} (C0 : lwC p l s m meth c b L xs D cZ cI cL cJ) (hj : 3 * j + 3 ≤ L) (hsim : sim j u v) (hP : va_P D vwCl (lwW h0 a1 a2 a3 a4 cZ cI h1 b1 b2 b3 cJ o1 cL u v F) H) (hD : va_D (fun q : Nat => s.heap.size ≤ q) (lwW h0 a1 a2 a3 a4 cZ cI h1 b1 b2 b3 cJ o1 cL u v F)) (hS : va_S (fun q : Nat => s.heap.size ≤ q) s.heap H locs) (hl : lv_has ls 7 [(0, .ref b), (1, .ref h0), (2, .ref h1), (3, .ref o1), (4, .int (nI (3 * j)))]) (go : lwGo p l e s m below meth c b D h0 a1 a2 a3 a4 cZ cI h1 b1 b2 b3 cJ o1 cL j) : W p l e room_1 s m #[Value.ref b] below meth c H locs (10 + j) (3601 + 6 * j) (lw_Z below #[Value.ref b] s) (F0 m 236 ls []) := by
  obtain ⟨⟨hx, hb, hr, hml, hown, hts, hX, hbl, hlocks, hgv⟩, hL, hl9, hK, hE, hN⟩ := C0
  have hA : ∀ q : Nat, s.heap.size ≤ q → (fun q : Nat => s.heap.size ≤ q) q := fun _ h => h
  have hbA : ¬ (fun q : Nat => s.heap.size ≤ q) b := Nat.not_le.mpr hbl
  have hown : s.vm.findClass RL = some m.cls := hown
  have htL : ∀ w ∈ wsL_law, w.before #[Value.ref b] s = true := fun w h => hts w (wsL_law_in w h)
  have hKa := hK.sub (tys' := abT cZ cI) [0, 1] rfl
  have hKh := hK.sub (tys' := hlT cZ cI cL) [0, 1, 2] rfl
  have hKm := hK.sub (tys' := mdT cJ) [3] rfl
  refine lv_aload_n hx hb dL_law_236 rfl (lv_at hl 1 rfl) ?_
  refine lv_aload_n hx hb dL_law_237 rfl (lv_at hl 0 rfl) ?_
  refine lv_iload hx hb dL_law_238 (lv_at hl 4 rfl) ?_
  refine lv_iconst (v := 1) hx hb dL_law_240 (by decide) ?_
  refine lv_iadd hx hb dL_law_241 ?_
  rw [nI_1]
  refine kz_sld hx hb hX hbl hbA hS (k := 3 * j + 1) (by omega) (by omega) dL_law_242 ?_
  refine lv_aload_n hx hb dL_law_243 rfl (lv_at hl 3 rfl) ?_
  refine hl_call (wc := hlW o1 cL F (abU h0 a1 a2 a3 a4 cZ cI u)) (wr := mdU h1 b1 b2 b3 cJ v) (w1 := hlU h0 a1 a2 a3 a4 cZ cI o1 cL) (As := [.ref h0, .int (xs (3 * j + 1)), .ref o1]) (rest := []) ⟨hx, hb, hml, hown, htL⟩ (h_stop l hl9 D h0 a1 a2 a3 a4 cZ cI o1 cL u.1 u.2.1 u.2.2.1 u.2.2.2.1 u.2.2.2.2.1 u.2.2.2.2.2.1 u.2.2.2.2.2.2.1 u.2.2.2.2.2.2.2 F _ (xs (3 * j + 1))) (vx_cwSW 3 htL gL_law_L_stop rfl rfl rfl (by decide +kernel) ⟨Nat.le_of_ble_eq_true rfl, Nat.le_of_ble_eq_true rfl⟩) hP hD hS hA hKh hE hN [0, 1, 2, 3, 4, 5] [6, 7, 8, 9] rfl rfl rfl rfl rfl (by decide) rfl hl.1 rfl (Nat.le_of_ble_eq_true rfl) dL_law_244 ⟨by show _ ≤ 1045; omega, by show _ ≤ 11859; omega⟩ (fun r1 w1 H locs hu hP hD hS => ?_)
  have hP := hP.sub (ws' := (lwW h0 a1 a2 a3 a4 cZ cI h1 b1 b2 b3 cJ o1 cL w1.1 v w1.2)) [4, 5, 6, 7, 8, 9, 0, 1, 2, 3] rfl
  have hD := hD.sub (ws' := (lwW h0 a1 a2 a3 a4 cZ cI h1 b1 b2 b3 cJ o1 cL w1.1 v w1.2)) [4, 5, 6, 7, 8, 9, 0, 1, 2, 3] (by decide) rfl
  refine lv_istore (lv' := [(5, .int r1), (0, .ref b), (1, .ref h0), (2, .ref h1), (3, .ref o1), (4, .int (nI (3 * j)))]) hx hb dL_law_247 hl (by decide) rfl (fun ls hl => ?_)
  refine lv_aload_n hx hb dL_law_249 rfl (lv_at hl 3 rfl) ?_
  refine lv_aload_n hx hb dL_law_250 rfl (lv_at hl 1 rfl) ?_
  refine lv_iload hx hb dL_law_251 (lv_at hl 5 rfl) ?_
  refine lv_iconst (v := 1) hx hb dL_law_253 (by decide) ?_
  refine lv_iadd hx hb dL_law_254 ?_
  rw [nI_1]
  refine kz_sld hx hb hX hbl hbA hS (k := 3 * j + 1) (by omega) (by omega) dL_law_255 ?_
  refine kz_calli (wc := mdU h1 b1 b2 b3 cJ v) (wr := hlW o1 cL w1.2 (abU h0 a1 a2 a3 a4 cZ cI w1.1)) (w1 := mdU h1 b1 b2 b3 cJ) (As := [.int (xs (3 * j + 1))]) (rest := []) ⟨hx, hb, hml, hown, hts⟩ (m_stop l D h1 b1 b2 b3 cJ v.1 v.2.1 v.2.2.1 v.2.2.2.1 v.2.2.2.2.1 v.2.2.2.2.2.1 v.2.2.2.2.2.2.1 v.2.2.2.2.2.2.2 _ (xs (3 * j + 1))) (cwV 1 hts gW_X1_stop rfl rfl rfl (by decide +kernel) ⟨Nat.le_of_ble_eq_true rfl, Nat.le_of_ble_eq_true rfl⟩) hP hD hS hA hKm [6, 7, 8, 9] [0, 1, 2, 3, 4, 5] rfl rfl rfl rfl rfl (by decide) (va_recv hK hP (ci := 1) (q0 := 6) rfl rfl) rfl hl.1 rfl (Nat.le_of_ble_eq_true rfl) dL_law_256 ⟨by show _ ≤ 1045; omega, by show _ ≤ 11859; omega⟩ (fun r2 v1 H locs hm hP hD hS => ?_)
  have hP : va_P D vwCl (lwW h0 a1 a2 a3 a4 cZ cI h1 b1 b2 b3 cJ o1 cL w1.1 v1 w1.2) H := hP
  have hD : va_D (fun q : Nat => s.heap.size ≤ q) (lwW h0 a1 a2 a3 a4 cZ cI h1 b1 b2 b3 cJ o1 cL w1.1 v1 w1.2) := hD
  obtain ⟨hq1, hq2, hsim⟩ := sim_stop (by omega) hsim hu hm
  refine lv_istore (lv' := [(6, .int r2), (5, .int r1), (0, .ref b), (1, .ref h0), (2, .ref h1), (3, .ref o1), (4, .int (nI (3 * j)))]) hx hb dL_law_259 hl (by decide) rfl (fun ls hl => ?_)
  refine lv_aload_n hx hb dL_law_261 rfl (lv_at hl 4 rfl) ?_
  refine kz_callR (As := []) (rest := []) ⟨hx, hb, hml, hown, hts⟩ (m_thrown l D h1 b1 b2 b3 cJ v1.1 v1.2.1 v1.2.2.1 v1.2.2.2.1 v1.2.2.2.2.1 v1.2.2.2.2.2.1 v1.2.2.2.2.2.2.1 v1.2.2.2.2.2.2.2) (cwV 0 hts gW_X1_thrown rfl rfl rfl (by decide +kernel) ⟨Nat.le_of_ble_eq_true rfl, Nat.le_of_ble_eq_true rfl⟩) (hP.sub [6, 7, 8, 9] rfl) hKm (va_recv hK hP (ci := 1) (q0 := 6) rfl rfl) rfl hl.1 rfl (Nat.le_of_ble_eq_true rfl) dL_law_262 ⟨by show _ ≤ 1045; omega, by show _ ≤ 11859; omega⟩ (fun r3 h3 => ?_)
  refine lv_iload hx hb dL_law_265 (lv_at hl 1 rfl) ?_
  refine lv_icmp_eq (tgt := 272) hx hb dL_law_267 (by decide) (fun c_267 => ?_) (fun c_267 => ?_)
  · refine lv_iload hx hb dL_law_272 (lv_at hl 1 rfl) ?_
    refine lv_if_ne (tgt := 289) hx hb dL_law_274 (by decide) (fun c_274 => ?_) (fun c_274 => ?_)
    · refine lv_goto (tgt := 547) hx hb dL_law_289 (by decide) ?_
      refine W.widen (k := 11 + j) (n := 3607 + 6 * j) (by omega) (by omega) ?_
      exact go _ _ _ H locs ls hsim hP hD hS (lv_sub hl [2, 3, 4, 5, 6] rfl)
    · refine lv_aload_n hx hb dL_law_277 rfl (lv_at hl 5 rfl) ?_
      refine lv_iconst (v := 0) hx hb dL_law_278 (by decide) ?_
      refine kz_lald0 hx hb hK hP 0 2 rfl rfl (vp_in_nI (n := 0) (N := 1) (by decide) (by decide)) dL_law_279 ?_
      refine lv_iload hx hb dL_law_280 (lv_at hl 0 rfl) ?_
      refine lv_i2l hx hb dL_law_282 rfl ?_
      refine W.lcmp hx hb dL_law_283 ?_
      refine lv_if_eq (tgt := 289) hx hb dL_law_284 (by decide) (fun c_284 => ?_) (fun c_284 => ?_)
      · refine lv_goto (tgt := 547) hx hb dL_law_289 (by decide) ?_
        refine W.widen (k := 11 + j) (n := 3607 + 6 * j) (by omega) (by omega) ?_
        exact go _ _ _ H locs ls hsim hP hD hS (lv_sub hl [2, 3, 4, 5, 6] rfl)
      · exact absurd (by rw [hq2 c_274]; exact lg_self _) c_284
  · exact absurd (h3.trans hq1) c_267
end
section
set_option maxHeartbeats 4000000 in
set_option maxRecDepth 100000 in
theorem w_pass {p : Program} {l : Launch} {e : Env} {s : State} {m : MethodId} {below : List Frame} {meth : Method} {c : Code} {D : va_G} {b L : Nat} {xs : Nat → Int32} {h0 a1 a2 a3 a4 : Nat} {cZ cI : ClassId} {h1 b1 b2 b3 : Nat} {cJ : ClassId} {o1 : Nat} {cL : ClassId} {j : Nat} {u : ABs} {v : MDs} {F : Nat → Int64} {H : Heap} {locs : List Loc} {ls : Array Slot} (C0 : lwC p l s m meth c b L xs D cZ cI cL cJ) (hj : 3 * j + 3 ≤ L) (hsim : sim j u v) (hP : va_P D vwCl (lwW h0 a1 a2 a3 a4 cZ cI h1 b1 b2 b3 cJ o1 cL u v F) H) (hD : va_D (fun q : Nat => s.heap.size ≤ q) (lwW h0 a1 a2 a3 a4 cZ cI h1 b1 b2 b3 cJ o1 cL u v F)) (hS : va_S (fun q : Nat => s.heap.size ≤ q) s.heap H locs) (hl : lv_has ls 7 [(0, .ref b), (1, .ref h0), (2, .ref h1), (3, .ref o1), (4, .int (nI (3 * j)))]) (go : lwGo p l e s m below meth c b D h0 a1 a2 a3 a4 cZ cI h1 b1 b2 b3 cJ o1 cL j) : W p l e room_1 s m #[Value.ref b] below meth c H locs (10 + j) (3601 + 6 * j) (lw_Z below #[Value.ref b] s) (F0 m 317 ls []) := by
  obtain ⟨⟨hx, hb, hr, hml, hown, hts, hX, hbl, hlocks, hgv⟩, hL, hl9, hK, hE, hN⟩ := C0
  have hA : ∀ q : Nat, s.heap.size ≤ q → (fun q : Nat => s.heap.size ≤ q) q := fun _ h => h
  have hbA : ¬ (fun q : Nat => s.heap.size ≤ q) b := Nat.not_le.mpr hbl
  have hown : s.vm.findClass RL = some m.cls := hown
  have htL : ∀ w ∈ wsL_law, w.before #[Value.ref b] s = true := fun w h => hts w (wsL_law_in w h)
  have hKa := hK.sub (tys' := abT cZ cI) [0, 1] rfl
  have hKh := hK.sub (tys' := hlT cZ cI cL) [0, 1, 2] rfl
  have hKm := hK.sub (tys' := mdT cJ) [3] rfl
  refine lv_aload_n hx hb dL_law_317 rfl (lv_at hl 1 rfl) ?_
  refine lv_aload_n hx hb dL_law_318 rfl (lv_at hl 0 rfl) ?_
  refine lv_iload hx hb dL_law_319 (lv_at hl 4 rfl) ?_
  refine lv_iconst (v := 1) hx hb dL_law_321 (by decide) ?_
  refine lv_iadd hx hb dL_law_322 ?_
  rw [nI_1]
  refine kz_sld hx hb hX hbl hbA hS (k := 3 * j + 1) (by omega) (by omega) dL_law_323 ?_
  refine lv_aload_n hx hb dL_law_324 rfl (lv_at hl 3 rfl) ?_
  refine hl_call (wc := hlW o1 cL F (abU h0 a1 a2 a3 a4 cZ cI u)) (wr := mdU h1 b1 b2 b3 cJ v) (w1 := hlU h0 a1 a2 a3 a4 cZ cI o1 cL) (As := [.ref h0, .int (xs (3 * j + 1)), .ref o1]) (rest := []) ⟨hx, hb, hml, hown, htL⟩ (h_pass l hl9 D h0 a1 a2 a3 a4 cZ cI o1 cL u.1 u.2.1 u.2.2.1 u.2.2.2.1 u.2.2.2.2.1 u.2.2.2.2.2.1 u.2.2.2.2.2.2.1 u.2.2.2.2.2.2.2 F _ (xs (3 * j + 1))) (vx_cwSW 3 htL gL_law_L_pass rfl rfl rfl (by decide +kernel) ⟨Nat.le_of_ble_eq_true rfl, Nat.le_of_ble_eq_true rfl⟩) hP hD hS hA hKh hE hN [0, 1, 2, 3, 4, 5] [6, 7, 8, 9] rfl rfl rfl rfl rfl (by decide) rfl hl.1 rfl (Nat.le_of_ble_eq_true rfl) dL_law_325 ⟨by show _ ≤ 1045; omega, by show _ ≤ 11859; omega⟩ (fun r1 w1 H locs hu hP hD hS => ?_)
  have hP := hP.sub (ws' := (lwW h0 a1 a2 a3 a4 cZ cI h1 b1 b2 b3 cJ o1 cL w1.1 v w1.2)) [4, 5, 6, 7, 8, 9, 0, 1, 2, 3] rfl
  have hD := hD.sub (ws' := (lwW h0 a1 a2 a3 a4 cZ cI h1 b1 b2 b3 cJ o1 cL w1.1 v w1.2)) [4, 5, 6, 7, 8, 9, 0, 1, 2, 3] (by decide) rfl
  refine lv_istore (lv' := [(5, .int r1), (0, .ref b), (1, .ref h0), (2, .ref h1), (3, .ref o1), (4, .int (nI (3 * j)))]) hx hb dL_law_328 hl (by decide) rfl (fun ls hl => ?_)
  refine lv_aload_n hx hb dL_law_330 rfl (lv_at hl 3 rfl) ?_
  refine lv_aload_n hx hb dL_law_331 rfl (lv_at hl 1 rfl) ?_
  refine lv_iload hx hb dL_law_332 (lv_at hl 5 rfl) ?_
  refine lv_iconst (v := 1) hx hb dL_law_334 (by decide) ?_
  refine lv_iadd hx hb dL_law_335 ?_
  rw [nI_1]
  refine kz_sld hx hb hX hbl hbA hS (k := 3 * j + 1) (by omega) (by omega) dL_law_336 ?_
  refine kz_calli (wc := mdU h1 b1 b2 b3 cJ v) (wr := hlW o1 cL w1.2 (abU h0 a1 a2 a3 a4 cZ cI w1.1)) (w1 := mdU h1 b1 b2 b3 cJ) (As := [.int (xs (3 * j + 1))]) (rest := []) ⟨hx, hb, hml, hown, hts⟩ (m_pass l D h1 b1 b2 b3 cJ v.1 v.2.1 v.2.2.1 v.2.2.2.1 v.2.2.2.2.1 v.2.2.2.2.2.1 v.2.2.2.2.2.2.1 v.2.2.2.2.2.2.2 _ (xs (3 * j + 1))) (cwV 1 hts gW_X1_pass rfl rfl rfl (by decide +kernel) ⟨Nat.le_of_ble_eq_true rfl, Nat.le_of_ble_eq_true rfl⟩) hP hD hS hA hKm [6, 7, 8, 9] [0, 1, 2, 3, 4, 5] rfl rfl rfl rfl rfl (by decide) (va_recv hK hP (ci := 1) (q0 := 6) rfl rfl) rfl hl.1 rfl (Nat.le_of_ble_eq_true rfl) dL_law_337 ⟨by show _ ≤ 1045; omega, by show _ ≤ 11859; omega⟩ (fun r2 v1 H locs hm hP hD hS => ?_)
  have hP : va_P D vwCl (lwW h0 a1 a2 a3 a4 cZ cI h1 b1 b2 b3 cJ o1 cL w1.1 v1 w1.2) H := hP
  have hD : va_D (fun q : Nat => s.heap.size ≤ q) (lwW h0 a1 a2 a3 a4 cZ cI h1 b1 b2 b3 cJ o1 cL w1.1 v1 w1.2) := hD
  obtain ⟨hq1, hq2, hsim⟩ := sim_pass (by omega) hsim hu hm
  refine lv_istore (lv' := [(6, .int r2), (5, .int r1), (0, .ref b), (1, .ref h0), (2, .ref h1), (3, .ref o1), (4, .int (nI (3 * j)))]) hx hb dL_law_340 hl (by decide) rfl (fun ls hl => ?_)
  refine lv_aload_n hx hb dL_law_342 rfl (lv_at hl 4 rfl) ?_
  refine kz_callR (As := []) (rest := []) ⟨hx, hb, hml, hown, hts⟩ (m_thrown l D h1 b1 b2 b3 cJ v1.1 v1.2.1 v1.2.2.1 v1.2.2.2.1 v1.2.2.2.2.1 v1.2.2.2.2.2.1 v1.2.2.2.2.2.2.1 v1.2.2.2.2.2.2.2) (cwV 0 hts gW_X1_thrown rfl rfl rfl (by decide +kernel) ⟨Nat.le_of_ble_eq_true rfl, Nat.le_of_ble_eq_true rfl⟩) (hP.sub [6, 7, 8, 9] rfl) hKm (va_recv hK hP (ci := 1) (q0 := 6) rfl rfl) rfl hl.1 rfl (Nat.le_of_ble_eq_true rfl) dL_law_343 ⟨by show _ ≤ 1045; omega, by show _ ≤ 11859; omega⟩ (fun r3 h3 => ?_)
  refine lv_iload hx hb dL_law_346 (lv_at hl 1 rfl) ?_
  refine lv_icmp_eq (tgt := 353) hx hb dL_law_348 (by decide) (fun c_348 => ?_) (fun c_348 => ?_)
  · refine lv_iload hx hb dL_law_353 (lv_at hl 1 rfl) ?_
    refine lv_if_ne (tgt := 370) hx hb dL_law_355 (by decide) (fun c_355 => ?_) (fun c_355 => ?_)
    · refine lv_goto (tgt := 547) hx hb dL_law_370 (by decide) ?_
      refine W.widen (k := 11 + j) (n := 3607 + 6 * j) (by omega) (by omega) ?_
      exact go _ _ _ H locs ls hsim hP hD hS (lv_sub hl [2, 3, 4, 5, 6] rfl)
    · refine lv_aload_n hx hb dL_law_358 rfl (lv_at hl 5 rfl) ?_
      refine lv_iconst (v := 0) hx hb dL_law_359 (by decide) ?_
      refine kz_lald0 hx hb hK hP 0 2 rfl rfl (vp_in_nI (n := 0) (N := 1) (by decide) (by decide)) dL_law_360 ?_
      refine lv_iload hx hb dL_law_361 (lv_at hl 0 rfl) ?_
      refine lv_i2l hx hb dL_law_363 rfl ?_
      refine W.lcmp hx hb dL_law_364 ?_
      refine lv_if_eq (tgt := 370) hx hb dL_law_365 (by decide) (fun c_365 => ?_) (fun c_365 => ?_)
      · refine lv_goto (tgt := 547) hx hb dL_law_370 (by decide) ?_
        refine W.widen (k := 11 + j) (n := 3607 + 6 * j) (by omega) (by omega) ?_
        exact go _ _ _ H locs ls hsim hP hD hS (lv_sub hl [2, 3, 4, 5, 6] rfl)
      · exact absurd (by rw [hq2 c_355]; exact lg_self _) c_365
  · exact absurd (h3.trans hq1) c_348
set_option maxHeartbeats 4000000 in
set_option maxRecDepth 100000 in
theorem w_about {p : Program} {l : Launch} {e : Env} {s : State} {m : MethodId} {below : List Frame} {meth : Method} {c : Code} {D : va_G} {b L : Nat} {xs : Nat → Int32} {h0 a1 a2 a3 a4 : Nat} {cZ cI : ClassId} {h1 b1 b2 b3 : Nat} {cJ : ClassId} {o1 : Nat} {cL : ClassId} {j : Nat} {u : ABs} {v : MDs} {F : Nat → Int64} {H : Heap} {locs : List Loc} {ls : Array Slot} (C0 : lwC p l s m meth c b L xs D cZ cI cL cJ) (hj : 3 * j + 3 ≤ L) (hsim : sim j u v) (hP : va_P D vwCl (lwW h0 a1 a2 a3 a4 cZ cI h1 b1 b2 b3 cJ o1 cL u v F) H) (hD : va_D (fun q : Nat => s.heap.size ≤ q) (lwW h0 a1 a2 a3 a4 cZ cI h1 b1 b2 b3 cJ o1 cL u v F)) (hS : va_S (fun q : Nat => s.heap.size ≤ q) s.heap H locs) (hl : lv_has ls 7 [(0, .ref b), (1, .ref h0), (2, .ref h1), (3, .ref o1), (4, .int (nI (3 * j)))]) (go : lwGo p l e s m below meth c b D h0 a1 a2 a3 a4 cZ cI h1 b1 b2 b3 cJ o1 cL j) : W p l e room_1 s m #[Value.ref b] below meth c H locs (10 + j) (3601 + 6 * j) (lw_Z below #[Value.ref b] s) (F0 m 425 ls []) := by
  obtain ⟨⟨hx, hb, hr, hml, hown, hts, hX, hbl, hlocks, hgv⟩, hL, hl9, hK, hE, hN⟩ := C0
  have hA : ∀ q : Nat, s.heap.size ≤ q → (fun q : Nat => s.heap.size ≤ q) q := fun _ h => h
  have hbA : ¬ (fun q : Nat => s.heap.size ≤ q) b := Nat.not_le.mpr hbl
  have hown : s.vm.findClass RL = some m.cls := hown
  have htL : ∀ w ∈ wsL_law, w.before #[Value.ref b] s = true := fun w h => hts w (wsL_law_in w h)
  have hKa := hK.sub (tys' := abT cZ cI) [0, 1] rfl
  have hKh := hK.sub (tys' := hlT cZ cI cL) [0, 1, 2] rfl
  have hKm := hK.sub (tys' := mdT cJ) [3] rfl
  refine lv_aload_n hx hb dL_law_425 rfl (lv_at hl 1 rfl) ?_
  refine lv_aload_n hx hb dL_law_426 rfl (lv_at hl 0 rfl) ?_
  refine lv_iload hx hb dL_law_427 (lv_at hl 4 rfl) ?_
  refine lv_iconst (v := 1) hx hb dL_law_429 (by decide) ?_
  refine lv_iadd hx hb dL_law_430 ?_
  rw [nI_1]
  refine kz_sld hx hb hX hbl hbA hS (k := 3 * j + 1) (by omega) (by omega) dL_law_431 ?_
  refine lv_aload_n hx hb dL_law_432 rfl (lv_at hl 0 rfl) ?_
  refine lv_iload hx hb dL_law_433 (lv_at hl 4 rfl) ?_
  refine lv_iconst (v := 2) hx hb dL_law_435 (by decide) ?_
  refine lv_iadd hx hb dL_law_436 ?_
  rw [kz_p2]
  refine kz_sld hx hb hX hbl hbA hS (k := 3 * j + 2) (by omega) (by omega) dL_law_437 ?_
  refine lv_aload_n hx hb dL_law_438 rfl (lv_at hl 3 rfl) ?_
  refine hl_call (wc := hlW o1 cL F (abU h0 a1 a2 a3 a4 cZ cI u)) (wr := mdU h1 b1 b2 b3 cJ v) (w1 := hlU h0 a1 a2 a3 a4 cZ cI o1 cL) (As := [.ref h0, .int (xs (3 * j + 1)), .int (xs (3 * j + 2)), .ref o1]) (rest := []) ⟨hx, hb, hml, hown, htL⟩ (h_about l hl9 D h0 a1 a2 a3 a4 cZ cI o1 cL u.1 u.2.1 u.2.2.1 u.2.2.2.1 u.2.2.2.2.1 u.2.2.2.2.2.1 u.2.2.2.2.2.2.1 u.2.2.2.2.2.2.2 F _ (xs (3 * j + 1)) (xs (3 * j + 2))) (vx_cwSW 4 htL gL_law_L_about rfl rfl rfl (by decide +kernel) ⟨Nat.le_of_ble_eq_true rfl, Nat.le_of_ble_eq_true rfl⟩) hP hD hS hA hKh hE hN [0, 1, 2, 3, 4, 5] [6, 7, 8, 9] rfl rfl rfl rfl rfl (by decide) rfl hl.1 rfl (Nat.le_of_ble_eq_true rfl) dL_law_439 ⟨by show _ ≤ 1045; omega, by show _ ≤ 11859; omega⟩ (fun r1 w1 H locs hu hP hD hS => ?_)
  have hP := hP.sub (ws' := (lwW h0 a1 a2 a3 a4 cZ cI h1 b1 b2 b3 cJ o1 cL w1.1 v w1.2)) [4, 5, 6, 7, 8, 9, 0, 1, 2, 3] rfl
  have hD := hD.sub (ws' := (lwW h0 a1 a2 a3 a4 cZ cI h1 b1 b2 b3 cJ o1 cL w1.1 v w1.2)) [4, 5, 6, 7, 8, 9, 0, 1, 2, 3] (by decide) rfl
  refine lv_istore (lv' := [(5, .int r1), (0, .ref b), (1, .ref h0), (2, .ref h1), (3, .ref o1), (4, .int (nI (3 * j)))]) hx hb dL_law_442 hl (by decide) rfl (fun ls hl => ?_)
  refine lv_aload_n hx hb dL_law_444 rfl (lv_at hl 3 rfl) ?_
  refine lv_aload_n hx hb dL_law_445 rfl (lv_at hl 1 rfl) ?_
  refine lv_iload hx hb dL_law_446 (lv_at hl 5 rfl) ?_
  refine lv_iconst (v := 1) hx hb dL_law_448 (by decide) ?_
  refine lv_iadd hx hb dL_law_449 ?_
  rw [nI_1]
  refine kz_sld hx hb hX hbl hbA hS (k := 3 * j + 1) (by omega) (by omega) dL_law_450 ?_
  refine lv_aload_n hx hb dL_law_451 rfl (lv_at hl 1 rfl) ?_
  refine lv_iload hx hb dL_law_452 (lv_at hl 5 rfl) ?_
  refine lv_iconst (v := 2) hx hb dL_law_454 (by decide) ?_
  refine lv_iadd hx hb dL_law_455 ?_
  rw [kz_p2]
  refine kz_sld hx hb hX hbl hbA hS (k := 3 * j + 2) (by omega) (by omega) dL_law_456 ?_
  refine kz_calli (wc := mdU h1 b1 b2 b3 cJ v) (wr := hlW o1 cL w1.2 (abU h0 a1 a2 a3 a4 cZ cI w1.1)) (w1 := mdU h1 b1 b2 b3 cJ) (As := [.int (xs (3 * j + 1)), .int (xs (3 * j + 2))]) (rest := []) ⟨hx, hb, hml, hown, hts⟩ (m_about l D h1 b1 b2 b3 cJ v.1 v.2.1 v.2.2.1 v.2.2.2.1 v.2.2.2.2.1 v.2.2.2.2.2.1 v.2.2.2.2.2.2.1 v.2.2.2.2.2.2.2 _ (xs (3 * j + 1)) (xs (3 * j + 2))) (cwV 2 hts gW_X1_about rfl rfl rfl (by decide +kernel) ⟨Nat.le_of_ble_eq_true rfl, Nat.le_of_ble_eq_true rfl⟩) hP hD hS hA hKm [6, 7, 8, 9] [0, 1, 2, 3, 4, 5] rfl rfl rfl rfl rfl (by decide) (va_recv hK hP (ci := 1) (q0 := 6) rfl rfl) rfl hl.1 rfl (Nat.le_of_ble_eq_true rfl) dL_law_457 ⟨by show _ ≤ 1045; omega, by show _ ≤ 11859; omega⟩ (fun r2 v1 H locs hm hP hD hS => ?_)
  have hP : va_P D vwCl (lwW h0 a1 a2 a3 a4 cZ cI h1 b1 b2 b3 cJ o1 cL w1.1 v1 w1.2) H := hP
  have hD : va_D (fun q : Nat => s.heap.size ≤ q) (lwW h0 a1 a2 a3 a4 cZ cI h1 b1 b2 b3 cJ o1 cL w1.1 v1 w1.2) := hD
  obtain ⟨hq1, hq2, hsim⟩ := sim_about (by omega) hsim hu hm
  refine lv_istore (lv' := [(6, .int r2), (5, .int r1), (0, .ref b), (1, .ref h0), (2, .ref h1), (3, .ref o1), (4, .int (nI (3 * j)))]) hx hb dL_law_460 hl (by decide) rfl (fun ls hl => ?_)
  refine lv_aload_n hx hb dL_law_462 rfl (lv_at hl 4 rfl) ?_
  refine kz_callR (As := []) (rest := []) ⟨hx, hb, hml, hown, hts⟩ (m_thrown l D h1 b1 b2 b3 cJ v1.1 v1.2.1 v1.2.2.1 v1.2.2.2.1 v1.2.2.2.2.1 v1.2.2.2.2.2.1 v1.2.2.2.2.2.2.1 v1.2.2.2.2.2.2.2) (cwV 0 hts gW_X1_thrown rfl rfl rfl (by decide +kernel) ⟨Nat.le_of_ble_eq_true rfl, Nat.le_of_ble_eq_true rfl⟩) (hP.sub [6, 7, 8, 9] rfl) hKm (va_recv hK hP (ci := 1) (q0 := 6) rfl rfl) rfl hl.1 rfl (Nat.le_of_ble_eq_true rfl) dL_law_463 ⟨by show _ ≤ 1045; omega, by show _ ≤ 11859; omega⟩ (fun r3 h3 => ?_)
  refine lv_iload hx hb dL_law_466 (lv_at hl 1 rfl) ?_
  refine lv_icmp_eq (tgt := 473) hx hb dL_law_468 (by decide) (fun c_468 => ?_) (fun c_468 => ?_)
  · refine lv_iload hx hb dL_law_473 (lv_at hl 1 rfl) ?_
    refine lv_if_ne (tgt := 490) hx hb dL_law_475 (by decide) (fun c_475 => ?_) (fun c_475 => ?_)
    · refine lv_goto (tgt := 547) hx hb dL_law_490 (by decide) ?_
      refine W.widen (k := 11 + j) (n := 3607 + 6 * j) (by omega) (by omega) ?_
      exact go _ _ _ H locs ls hsim hP hD hS (lv_sub hl [2, 3, 4, 5, 6] rfl)
    · refine lv_aload_n hx hb dL_law_478 rfl (lv_at hl 5 rfl) ?_
      refine lv_iconst (v := 0) hx hb dL_law_479 (by decide) ?_
      refine kz_lald0 hx hb hK hP 0 2 rfl rfl (vp_in_nI (n := 0) (N := 1) (by decide) (by decide)) dL_law_480 ?_
      refine lv_iload hx hb dL_law_481 (lv_at hl 0 rfl) ?_
      refine lv_i2l hx hb dL_law_483 rfl ?_
      refine W.lcmp hx hb dL_law_484 ?_
      refine lv_if_eq (tgt := 490) hx hb dL_law_485 (by decide) (fun c_485 => ?_) (fun c_485 => ?_)
      · refine lv_goto (tgt := 547) hx hb dL_law_490 (by decide) ?_
        refine W.widen (k := 11 + j) (n := 3607 + 6 * j) (by omega) (by omega) ?_
        exact go _ _ _ H locs ls hsim hP hD hS (lv_sub hl [2, 3, 4, 5, 6] rfl)
      · exact absurd (by rw [hq2 c_475]; exact lg_self _) c_485
  · exact absurd (h3.trans hq1) c_468
end
section
set_option maxHeartbeats 4000000 in
set_option maxRecDepth 100000 in
theorem w_stopAll {p : Program} {l : Launch} {e : Env} {s : State} {m : MethodId} {below : List Frame} {meth : Method} {c : Code} {D : va_G} {b L : Nat} {xs : Nat → Int32} {h0 a1 a2 a3 a4 : Nat} {cZ cI : ClassId} {h1 b1 b2 b3 : Nat} {cJ : ClassId} {o1 : Nat} {cL : ClassId} {j : Nat} {u : ABs} {v : MDs} {F : Nat → Int64} {H : Heap} {locs : List Loc} {ls : Array Slot} (C0 : lwC p l s m meth c b L xs D cZ cI cL cJ) (hj : 3 * j + 3 ≤ L) (hsim : sim j u v) (hP : va_P D vwCl (lwW h0 a1 a2 a3 a4 cZ cI h1 b1 b2 b3 cJ o1 cL u v F) H) (hD : va_D (fun q : Nat => s.heap.size ≤ q) (lwW h0 a1 a2 a3 a4 cZ cI h1 b1 b2 b3 cJ o1 cL u v F)) (hS : va_S (fun q : Nat => s.heap.size ≤ q) s.heap H locs) (hl : lv_has ls 7 [(0, .ref b), (1, .ref h0), (2, .ref h1), (3, .ref o1), (4, .int (nI (3 * j)))]) (go : lwGo p l e s m below meth c b D h0 a1 a2 a3 a4 cZ cI h1 b1 b2 b3 cJ o1 cL j) : W p l e room_1 s m #[Value.ref b] below meth c H locs (10 + j) (3601 + 6 * j) (lw_Z below #[Value.ref b] s) (F0 m 292 ls []) := by
  obtain ⟨⟨hx, hb, hr, hml, hown, hts, hX, hbl, hlocks, hgv⟩, hL, hl9, hK, hE, hN⟩ := C0
  have hA : ∀ q : Nat, s.heap.size ≤ q → (fun q : Nat => s.heap.size ≤ q) q := fun _ h => h
  have hbA : ¬ (fun q : Nat => s.heap.size ≤ q) b := Nat.not_le.mpr hbl
  have hown : s.vm.findClass RL = some m.cls := hown
  have htL : ∀ w ∈ wsL_law, w.before #[Value.ref b] s = true := fun w h => hts w (wsL_law_in w h)
  have hKa := hK.sub (tys' := abT cZ cI) [0, 1] rfl
  have hKh := hK.sub (tys' := hlT cZ cI cL) [0, 1, 2] rfl
  have hKm := hK.sub (tys' := mdT cJ) [3] rfl
  refine lv_aload_n hx hb dL_law_292 rfl (lv_at hl 1 rfl) ?_
  refine lv_aload_n hx hb dL_law_293 rfl (lv_at hl 0 rfl) ?_
  refine lv_iload hx hb dL_law_294 (lv_at hl 4 rfl) ?_
  refine lv_iconst (v := 1) hx hb dL_law_296 (by decide) ?_
  refine lv_iadd hx hb dL_law_297 ?_
  rw [nI_1]
  refine kz_sld hx hb hX hbl hbA hS (k := 3 * j + 1) (by omega) (by omega) dL_law_298 ?_
  refine kz_calli (wc := abU h0 a1 a2 a3 a4 cZ cI u) (wr := hlW o1 cL F (mdU h1 b1 b2 b3 cJ v)) (w1 := abU h0 a1 a2 a3 a4 cZ cI) (As := [.int (xs (3 * j + 1))]) (rest := []) ⟨hx, hb, hml, hown, htL⟩ (c_stopAll l D h0 a1 a2 a3 a4 cZ cI u.1 u.2.1 u.2.2.1 u.2.2.2.1 u.2.2.2.2.1 u.2.2.2.2.2.1 u.2.2.2.2.2.2.1 u.2.2.2.2.2.2.2 _ (xs (3 * j + 1))) (cwV 1 htL gL_law_X0_stopAll rfl rfl rfl (by decide +kernel) ⟨Nat.le_of_ble_eq_true rfl, Nat.le_of_ble_eq_true rfl⟩) hP hD hS hA hKa [1, 2, 3, 4, 5] [0, 6, 7, 8, 9] rfl rfl rfl rfl rfl (by decide) (va_recv hK hP (ci := 0) (q0 := 1) rfl rfl) rfl hl.1 rfl (Nat.le_of_ble_eq_true rfl) dL_law_299 ⟨by show _ ≤ 1045; omega, by show _ ≤ 11859; omega⟩ (fun r1 u1 H locs hu hP hD hS => ?_)
  have hP := hP.sub (ws' := (lwW h0 a1 a2 a3 a4 cZ cI h1 b1 b2 b3 cJ o1 cL u1 v F)) [0, 5, 6, 7, 8, 9, 1, 2, 3, 4] rfl
  have hD := hD.sub (ws' := (lwW h0 a1 a2 a3 a4 cZ cI h1 b1 b2 b3 cJ o1 cL u1 v F)) [0, 5, 6, 7, 8, 9, 1, 2, 3, 4] (by decide) rfl
  refine lv_aload_n hx hb dL_law_302 rfl (lv_at hl 2 rfl) ?_
  refine lv_aload_n hx hb dL_law_303 rfl (lv_at hl 0 rfl) ?_
  refine lv_iload hx hb dL_law_304 (lv_at hl 4 rfl) ?_
  refine lv_iconst (v := 1) hx hb dL_law_306 (by decide) ?_
  refine lv_iadd hx hb dL_law_307 ?_
  rw [nI_1]
  refine kz_sld hx hb hX hbl hbA hS (k := 3 * j + 1) (by omega) (by omega) dL_law_308 ?_
  refine kz_calli (wc := mdU h1 b1 b2 b3 cJ v) (wr := hlW o1 cL F (abU h0 a1 a2 a3 a4 cZ cI u1)) (w1 := mdU h1 b1 b2 b3 cJ) (As := [.int (xs (3 * j + 1))]) (rest := [.int r1]) ⟨hx, hb, hml, hown, hts⟩ (m_stopAll l D h1 b1 b2 b3 cJ v.1 v.2.1 v.2.2.1 v.2.2.2.1 v.2.2.2.2.1 v.2.2.2.2.2.1 v.2.2.2.2.2.2.1 v.2.2.2.2.2.2.2 _ (xs (3 * j + 1))) (cwV 1 hts gW_X1_stopAll rfl rfl rfl (by decide +kernel) ⟨Nat.le_of_ble_eq_true rfl, Nat.le_of_ble_eq_true rfl⟩) hP hD hS hA hKm [6, 7, 8, 9] [0, 1, 2, 3, 4, 5] rfl rfl rfl rfl rfl (by decide) (va_recv hK hP (ci := 1) (q0 := 6) rfl rfl) rfl hl.1 rfl (Nat.le_of_ble_eq_true rfl) dL_law_309 ⟨by show _ ≤ 1045; omega, by show _ ≤ 11859; omega⟩ (fun r2 v1 H locs hm hP hD hS => ?_)
  have hP : va_P D vwCl (lwW h0 a1 a2 a3 a4 cZ cI h1 b1 b2 b3 cJ o1 cL u1 v1 F) H := hP
  have hD : va_D (fun q : Nat => s.heap.size ≤ q) (lwW h0 a1 a2 a3 a4 cZ cI h1 b1 b2 b3 cJ o1 cL u1 v1 F) := hD
  obtain ⟨hq1, hsim⟩ := sim_stopAll hsim hu hm
  refine lv_icmp_eq (tgt := 547) hx hb dL_law_312 (by decide) (fun c_312 => ?_) (fun c_312 => ?_)
  · refine W.widen (k := 11 + j) (n := 3607 + 6 * j) (by omega) (by omega) ?_
    exact go _ _ _ H locs ls hsim hP hD hS (lv_sub hl [0, 1, 2, 3, 4] rfl)
  · exact absurd hq1 c_312
set_option maxHeartbeats 4000000 in
set_option maxRecDepth 100000 in
theorem w_ring {p : Program} {l : Launch} {e : Env} {s : State} {m : MethodId} {below : List Frame} {meth : Method} {c : Code} {D : va_G} {b L : Nat} {xs : Nat → Int32} {h0 a1 a2 a3 a4 : Nat} {cZ cI : ClassId} {h1 b1 b2 b3 : Nat} {cJ : ClassId} {o1 : Nat} {cL : ClassId} {j : Nat} {u : ABs} {v : MDs} {F : Nat → Int64} {H : Heap} {locs : List Loc} {ls : Array Slot} (C0 : lwC p l s m meth c b L xs D cZ cI cL cJ) (hj : 3 * j + 3 ≤ L) (hsim : sim j u v) (hP : va_P D vwCl (lwW h0 a1 a2 a3 a4 cZ cI h1 b1 b2 b3 cJ o1 cL u v F) H) (hD : va_D (fun q : Nat => s.heap.size ≤ q) (lwW h0 a1 a2 a3 a4 cZ cI h1 b1 b2 b3 cJ o1 cL u v F)) (hS : va_S (fun q : Nat => s.heap.size ≤ q) s.heap H locs) (hl : lv_has ls 7 [(0, .ref b), (1, .ref h0), (2, .ref h1), (3, .ref o1), (4, .int (nI (3 * j)))]) (go : lwGo p l e s m below meth c b D h0 a1 a2 a3 a4 cZ cI h1 b1 b2 b3 cJ o1 cL j) : W p l e room_1 s m #[Value.ref b] below meth c H locs (10 + j) (3601 + 6 * j) (lw_Z below #[Value.ref b] s) (F0 m 373 ls []) := by
  obtain ⟨⟨hx, hb, hr, hml, hown, hts, hX, hbl, hlocks, hgv⟩, hL, hl9, hK, hE, hN⟩ := C0
  have hA : ∀ q : Nat, s.heap.size ≤ q → (fun q : Nat => s.heap.size ≤ q) q := fun _ h => h
  have hbA : ¬ (fun q : Nat => s.heap.size ≤ q) b := Nat.not_le.mpr hbl
  have hown : s.vm.findClass RL = some m.cls := hown
  have htL : ∀ w ∈ wsL_law, w.before #[Value.ref b] s = true := fun w h => hts w (wsL_law_in w h)
  have hKa := hK.sub (tys' := abT cZ cI) [0, 1] rfl
  have hKh := hK.sub (tys' := hlT cZ cI cL) [0, 1, 2] rfl
  have hKm := hK.sub (tys' := mdT cJ) [3] rfl
  refine lv_aload_n hx hb dL_law_373 rfl (lv_at hl 1 rfl) ?_
  refine kz_calli (wc := abU h0 a1 a2 a3 a4 cZ cI u) (wr := hlW o1 cL F (mdU h1 b1 b2 b3 cJ v)) (w1 := abU h0 a1 a2 a3 a4 cZ cI) (As := []) (rest := []) ⟨hx, hb, hml, hown, htL⟩ (c_ring l D h0 a1 a2 a3 a4 cZ cI u.1 u.2.1 u.2.2.1 u.2.2.2.1 u.2.2.2.2.1 u.2.2.2.2.2.1 u.2.2.2.2.2.2.1 u.2.2.2.2.2.2.2 _ ) (cwV 0 htL gL_law_X0_ring rfl rfl rfl (by decide +kernel) ⟨Nat.le_of_ble_eq_true rfl, Nat.le_of_ble_eq_true rfl⟩) hP hD hS hA hKa [1, 2, 3, 4, 5] [0, 6, 7, 8, 9] rfl rfl rfl rfl rfl (by decide) (va_recv hK hP (ci := 0) (q0 := 1) rfl rfl) rfl hl.1 rfl (Nat.le_of_ble_eq_true rfl) dL_law_374 ⟨by show _ ≤ 1045; omega, by show _ ≤ 11859; omega⟩ (fun r1 u1 H locs hu hP hD hS => ?_)
  have hP := hP.sub (ws' := (lwW h0 a1 a2 a3 a4 cZ cI h1 b1 b2 b3 cJ o1 cL u1 v F)) [0, 5, 6, 7, 8, 9, 1, 2, 3, 4] rfl
  have hD := hD.sub (ws' := (lwW h0 a1 a2 a3 a4 cZ cI h1 b1 b2 b3 cJ o1 cL u1 v F)) [0, 5, 6, 7, 8, 9, 1, 2, 3, 4] (by decide) rfl
  refine lv_aload_n hx hb dL_law_377 rfl (lv_at hl 2 rfl) ?_
  refine kz_calli (wc := mdU h1 b1 b2 b3 cJ v) (wr := hlW o1 cL F (abU h0 a1 a2 a3 a4 cZ cI u1)) (w1 := mdU h1 b1 b2 b3 cJ) (As := []) (rest := [.int r1]) ⟨hx, hb, hml, hown, hts⟩ (m_ring l D h1 b1 b2 b3 cJ v.1 v.2.1 v.2.2.1 v.2.2.2.1 v.2.2.2.2.1 v.2.2.2.2.2.1 v.2.2.2.2.2.2.1 v.2.2.2.2.2.2.2 _ ) (cwV 0 hts gW_X1_ring rfl rfl rfl (by decide +kernel) ⟨Nat.le_of_ble_eq_true rfl, Nat.le_of_ble_eq_true rfl⟩) hP hD hS hA hKm [6, 7, 8, 9] [0, 1, 2, 3, 4, 5] rfl rfl rfl rfl rfl (by decide) (va_recv hK hP (ci := 1) (q0 := 6) rfl rfl) rfl hl.1 rfl (Nat.le_of_ble_eq_true rfl) dL_law_378 ⟨by show _ ≤ 1045; omega, by show _ ≤ 11859; omega⟩ (fun r2 v1 H locs hm hP hD hS => ?_)
  have hP : va_P D vwCl (lwW h0 a1 a2 a3 a4 cZ cI h1 b1 b2 b3 cJ o1 cL u1 v1 F) H := hP
  have hD : va_D (fun q : Nat => s.heap.size ≤ q) (lwW h0 a1 a2 a3 a4 cZ cI h1 b1 b2 b3 cJ o1 cL u1 v1 F) := hD
  obtain ⟨hq1, hsim⟩ := sim_ring hsim hu hm
  refine lv_icmp_eq (tgt := 547) hx hb dL_law_381 (by decide) (fun c_381 => ?_) (fun c_381 => ?_)
  · refine W.widen (k := 11 + j) (n := 3607 + 6 * j) (by omega) (by omega) ?_
    exact go _ _ _ H locs ls hsim hP hD hS (lv_sub hl [0, 1, 2, 3, 4] rfl)
  · exact absurd hq1 c_381
set_option maxHeartbeats 4000000 in
set_option maxRecDepth 100000 in
theorem w_told {p : Program} {l : Launch} {e : Env} {s : State} {m : MethodId} {below : List Frame} {meth : Method} {c : Code} {D : va_G} {b L : Nat} {xs : Nat → Int32} {h0 a1 a2 a3 a4 : Nat} {cZ cI : ClassId} {h1 b1 b2 b3 : Nat} {cJ : ClassId} {o1 : Nat} {cL : ClassId} {j : Nat} {u : ABs} {v : MDs} {F : Nat → Int64} {H : Heap} {locs : List Loc} {ls : Array Slot} (C0 : lwC p l s m meth c b L xs D cZ cI cL cJ) (hj : 3 * j + 3 ≤ L) (hsim : sim j u v) (hP : va_P D vwCl (lwW h0 a1 a2 a3 a4 cZ cI h1 b1 b2 b3 cJ o1 cL u v F) H) (hD : va_D (fun q : Nat => s.heap.size ≤ q) (lwW h0 a1 a2 a3 a4 cZ cI h1 b1 b2 b3 cJ o1 cL u v F)) (hS : va_S (fun q : Nat => s.heap.size ≤ q) s.heap H locs) (hl : lv_has ls 7 [(0, .ref b), (1, .ref h0), (2, .ref h1), (3, .ref o1), (4, .int (nI (3 * j)))]) (go : lwGo p l e s m below meth c b D h0 a1 a2 a3 a4 cZ cI h1 b1 b2 b3 cJ o1 cL j) : W p l e room_1 s m #[Value.ref b] below meth c H locs (10 + j) (3601 + 6 * j) (lw_Z below #[Value.ref b] s) (F0 m 386 ls []) := by
  obtain ⟨⟨hx, hb, hr, hml, hown, hts, hX, hbl, hlocks, hgv⟩, hL, hl9, hK, hE, hN⟩ := C0
  have hA : ∀ q : Nat, s.heap.size ≤ q → (fun q : Nat => s.heap.size ≤ q) q := fun _ h => h
  have hbA : ¬ (fun q : Nat => s.heap.size ≤ q) b := Nat.not_le.mpr hbl
  have hown : s.vm.findClass RL = some m.cls := hown
  have htL : ∀ w ∈ wsL_law, w.before #[Value.ref b] s = true := fun w h => hts w (wsL_law_in w h)
  have hKa := hK.sub (tys' := abT cZ cI) [0, 1] rfl
  have hKh := hK.sub (tys' := hlT cZ cI cL) [0, 1, 2] rfl
  have hKm := hK.sub (tys' := mdT cJ) [3] rfl
  refine lv_aload_n hx hb dL_law_386 rfl (lv_at hl 1 rfl) ?_
  refine kz_callR (As := []) (rest := []) ⟨hx, hb, hml, hown, htL⟩ (c_told l D h0 a1 a2 a3 a4 cZ cI u.1 u.2.1 u.2.2.1 u.2.2.2.1 u.2.2.2.2.1 u.2.2.2.2.2.1 u.2.2.2.2.2.2.1 u.2.2.2.2.2.2.2 ) (cwV 0 htL gL_law_X0_told rfl rfl rfl (by decide +kernel) ⟨Nat.le_of_ble_eq_true rfl, Nat.le_of_ble_eq_true rfl⟩) (hP.sub [1, 2, 3, 4, 5] rfl) hKa (va_recv hK hP (ci := 0) (q0 := 1) rfl rfl) rfl hl.1 rfl (Nat.le_of_ble_eq_true rfl) dL_law_387 ⟨by show _ ≤ 1045; omega, by show _ ≤ 11859; omega⟩ (fun r1 hu => ?_)
  refine lv_aload_n hx hb dL_law_390 rfl (lv_at hl 2 rfl) ?_
  refine kz_calli (wc := mdU h1 b1 b2 b3 cJ v) (wr := hlW o1 cL F (abU h0 a1 a2 a3 a4 cZ cI u)) (w1 := mdU h1 b1 b2 b3 cJ) (As := []) (rest := [.int r1]) ⟨hx, hb, hml, hown, hts⟩ (m_told l D h1 b1 b2 b3 cJ v.1 v.2.1 v.2.2.1 v.2.2.2.1 v.2.2.2.2.1 v.2.2.2.2.2.1 v.2.2.2.2.2.2.1 v.2.2.2.2.2.2.2 _ ) (cwV 0 hts gW_X1_told rfl rfl rfl (by decide +kernel) ⟨Nat.le_of_ble_eq_true rfl, Nat.le_of_ble_eq_true rfl⟩) hP hD hS hA hKm [6, 7, 8, 9] [0, 1, 2, 3, 4, 5] rfl rfl rfl rfl rfl (by decide) (va_recv hK hP (ci := 1) (q0 := 6) rfl rfl) rfl hl.1 rfl (Nat.le_of_ble_eq_true rfl) dL_law_391 ⟨by show _ ≤ 1045; omega, by show _ ≤ 11859; omega⟩ (fun r2 v1 H locs hm hP hD hS => ?_)
  have hP : va_P D vwCl (lwW h0 a1 a2 a3 a4 cZ cI h1 b1 b2 b3 cJ o1 cL u v1 F) H := hP
  have hD : va_D (fun q : Nat => s.heap.size ≤ q) (lwW h0 a1 a2 a3 a4 cZ cI h1 b1 b2 b3 cJ o1 cL u v1 F) := hD
  obtain ⟨hq1, hsim⟩ := sim_told hsim hu hm
  refine lv_icmp_eq (tgt := 547) hx hb dL_law_394 (by decide) (fun c_394 => ?_) (fun c_394 => ?_)
  · refine W.widen (k := 11 + j) (n := 3607 + 6 * j) (by omega) (by omega) ?_
    exact go _ _ _ H locs ls hsim hP hD hS (lv_sub hl [0, 1, 2, 3, 4] rfl)
  · exact absurd hq1 c_394
set_option maxHeartbeats 4000000 in
set_option maxRecDepth 100000 in
theorem w_wasDue {p : Program} {l : Launch} {e : Env} {s : State} {m : MethodId} {below : List Frame} {meth : Method} {c : Code} {D : va_G} {b L : Nat} {xs : Nat → Int32} {h0 a1 a2 a3 a4 : Nat} {cZ cI : ClassId} {h1 b1 b2 b3 : Nat} {cJ : ClassId} {o1 : Nat} {cL : ClassId} {j : Nat} {u : ABs} {v : MDs} {F : Nat → Int64} {H : Heap} {locs : List Loc} {ls : Array Slot} (C0 : lwC p l s m meth c b L xs D cZ cI cL cJ) (hj : 3 * j + 3 ≤ L) (hsim : sim j u v) (hP : va_P D vwCl (lwW h0 a1 a2 a3 a4 cZ cI h1 b1 b2 b3 cJ o1 cL u v F) H) (hD : va_D (fun q : Nat => s.heap.size ≤ q) (lwW h0 a1 a2 a3 a4 cZ cI h1 b1 b2 b3 cJ o1 cL u v F)) (hS : va_S (fun q : Nat => s.heap.size ≤ q) s.heap H locs) (hl : lv_has ls 7 [(0, .ref b), (1, .ref h0), (2, .ref h1), (3, .ref o1), (4, .int (nI (3 * j)))]) (go : lwGo p l e s m below meth c b D h0 a1 a2 a3 a4 cZ cI h1 b1 b2 b3 cJ o1 cL j) : W p l e room_1 s m #[Value.ref b] below meth c H locs (10 + j) (3601 + 6 * j) (lw_Z below #[Value.ref b] s) (F0 m 399 ls []) := by
  obtain ⟨⟨hx, hb, hr, hml, hown, hts, hX, hbl, hlocks, hgv⟩, hL, hl9, hK, hE, hN⟩ := C0
  have hA : ∀ q : Nat, s.heap.size ≤ q → (fun q : Nat => s.heap.size ≤ q) q := fun _ h => h
  have hbA : ¬ (fun q : Nat => s.heap.size ≤ q) b := Nat.not_le.mpr hbl
  have hown : s.vm.findClass RL = some m.cls := hown
  have htL : ∀ w ∈ wsL_law, w.before #[Value.ref b] s = true := fun w h => hts w (wsL_law_in w h)
  have hKa := hK.sub (tys' := abT cZ cI) [0, 1] rfl
  have hKh := hK.sub (tys' := hlT cZ cI cL) [0, 1, 2] rfl
  have hKm := hK.sub (tys' := mdT cJ) [3] rfl
  refine lv_aload_n hx hb dL_law_399 rfl (lv_at hl 1 rfl) ?_
  refine kz_callR (As := []) (rest := []) ⟨hx, hb, hml, hown, htL⟩ (c_wasDue l D h0 a1 a2 a3 a4 cZ cI u.1 u.2.1 u.2.2.1 u.2.2.2.1 u.2.2.2.2.1 u.2.2.2.2.2.1 u.2.2.2.2.2.2.1 u.2.2.2.2.2.2.2 ) (cwV 0 htL gL_law_X0_wasDue rfl rfl rfl (by decide +kernel) ⟨Nat.le_of_ble_eq_true rfl, Nat.le_of_ble_eq_true rfl⟩) (hP.sub [1, 2, 3, 4, 5] rfl) hKa (va_recv hK hP (ci := 0) (q0 := 1) rfl rfl) rfl hl.1 rfl (Nat.le_of_ble_eq_true rfl) dL_law_400 ⟨by show _ ≤ 1045; omega, by show _ ≤ 11859; omega⟩ (fun r1 hu => ?_)
  refine lv_aload_n hx hb dL_law_403 rfl (lv_at hl 2 rfl) ?_
  refine kz_calli (wc := mdU h1 b1 b2 b3 cJ v) (wr := hlW o1 cL F (abU h0 a1 a2 a3 a4 cZ cI u)) (w1 := mdU h1 b1 b2 b3 cJ) (As := []) (rest := [.int r1]) ⟨hx, hb, hml, hown, hts⟩ (m_wasDue l D h1 b1 b2 b3 cJ v.1 v.2.1 v.2.2.1 v.2.2.2.1 v.2.2.2.2.1 v.2.2.2.2.2.1 v.2.2.2.2.2.2.1 v.2.2.2.2.2.2.2 _ ) (cwV 0 hts gW_X1_wasDue rfl rfl rfl (by decide +kernel) ⟨Nat.le_of_ble_eq_true rfl, Nat.le_of_ble_eq_true rfl⟩) hP hD hS hA hKm [6, 7, 8, 9] [0, 1, 2, 3, 4, 5] rfl rfl rfl rfl rfl (by decide) (va_recv hK hP (ci := 1) (q0 := 6) rfl rfl) rfl hl.1 rfl (Nat.le_of_ble_eq_true rfl) dL_law_404 ⟨by show _ ≤ 1045; omega, by show _ ≤ 11859; omega⟩ (fun r2 v1 H locs hm hP hD hS => ?_)
  have hP : va_P D vwCl (lwW h0 a1 a2 a3 a4 cZ cI h1 b1 b2 b3 cJ o1 cL u v1 F) H := hP
  have hD : va_D (fun q : Nat => s.heap.size ≤ q) (lwW h0 a1 a2 a3 a4 cZ cI h1 b1 b2 b3 cJ o1 cL u v1 F) := hD
  obtain ⟨hq1, hsim⟩ := sim_wasDue hsim hu hm
  refine lv_icmp_eq (tgt := 547) hx hb dL_law_407 (by decide) (fun c_407 => ?_) (fun c_407 => ?_)
  · refine W.widen (k := 11 + j) (n := 3607 + 6 * j) (by omega) (by omega) ?_
    exact go _ _ _ H locs ls hsim hP hD hS (lv_sub hl [0, 1, 2, 3, 4] rfl)
  · exact absurd hq1 c_407
set_option maxHeartbeats 4000000 in
set_option maxRecDepth 100000 in
theorem w_next {p : Program} {l : Launch} {e : Env} {s : State} {m : MethodId} {below : List Frame} {meth : Method} {c : Code} {D : va_G} {b L : Nat} {xs : Nat → Int32} {h0 a1 a2 a3 a4 : Nat} {cZ cI : ClassId} {h1 b1 b2 b3 : Nat} {cJ : ClassId} {o1 : Nat} {cL : ClassId} {j : Nat} {u : ABs} {v : MDs} {F : Nat → Int64} {H : Heap} {locs : List Loc} {ls : Array Slot} (C0 : lwC p l s m meth c b L xs D cZ cI cL cJ) (hj : 3 * j + 3 ≤ L) (hsim : sim j u v) (hP : va_P D vwCl (lwW h0 a1 a2 a3 a4 cZ cI h1 b1 b2 b3 cJ o1 cL u v F) H) (hD : va_D (fun q : Nat => s.heap.size ≤ q) (lwW h0 a1 a2 a3 a4 cZ cI h1 b1 b2 b3 cJ o1 cL u v F)) (hS : va_S (fun q : Nat => s.heap.size ≤ q) s.heap H locs) (hl : lv_has ls 7 [(0, .ref b), (1, .ref h0), (2, .ref h1), (3, .ref o1), (4, .int (nI (3 * j)))]) (go : lwGo p l e s m below meth c b D h0 a1 a2 a3 a4 cZ cI h1 b1 b2 b3 cJ o1 cL j) : W p l e room_1 s m #[Value.ref b] below meth c H locs (10 + j) (3601 + 6 * j) (lw_Z below #[Value.ref b] s) (F0 m 412 ls []) := by
  obtain ⟨⟨hx, hb, hr, hml, hown, hts, hX, hbl, hlocks, hgv⟩, hL, hl9, hK, hE, hN⟩ := C0
  have hA : ∀ q : Nat, s.heap.size ≤ q → (fun q : Nat => s.heap.size ≤ q) q := fun _ h => h
  have hbA : ¬ (fun q : Nat => s.heap.size ≤ q) b := Nat.not_le.mpr hbl
  have hown : s.vm.findClass RL = some m.cls := hown
  have htL : ∀ w ∈ wsL_law, w.before #[Value.ref b] s = true := fun w h => hts w (wsL_law_in w h)
  have hKa := hK.sub (tys' := abT cZ cI) [0, 1] rfl
  have hKh := hK.sub (tys' := hlT cZ cI cL) [0, 1, 2] rfl
  have hKm := hK.sub (tys' := mdT cJ) [3] rfl
  refine lv_aload_n hx hb dL_law_412 rfl (lv_at hl 1 rfl) ?_
  refine kz_callR (As := []) (rest := []) ⟨hx, hb, hml, hown, htL⟩ (c_next l D h0 a1 a2 a3 a4 cZ cI u.1 u.2.1 u.2.2.1 u.2.2.2.1 u.2.2.2.2.1 u.2.2.2.2.2.1 u.2.2.2.2.2.2.1 u.2.2.2.2.2.2.2 ) (cwV 0 htL gL_law_X0_next rfl rfl rfl (by decide +kernel) ⟨Nat.le_of_ble_eq_true rfl, Nat.le_of_ble_eq_true rfl⟩) (hP.sub [1, 2, 3, 4, 5] rfl) hKa (va_recv hK hP (ci := 0) (q0 := 1) rfl rfl) rfl hl.1 rfl (Nat.le_of_ble_eq_true rfl) dL_law_413 ⟨by show _ ≤ 1045; omega, by show _ ≤ 11859; omega⟩ (fun r1 hu => ?_)
  refine lv_aload_n hx hb dL_law_416 rfl (lv_at hl 2 rfl) ?_
  refine kz_calli (wc := mdU h1 b1 b2 b3 cJ v) (wr := hlW o1 cL F (abU h0 a1 a2 a3 a4 cZ cI u)) (w1 := mdU h1 b1 b2 b3 cJ) (As := []) (rest := [.int r1]) ⟨hx, hb, hml, hown, hts⟩ (m_next l D h1 b1 b2 b3 cJ v.1 v.2.1 v.2.2.1 v.2.2.2.1 v.2.2.2.2.1 v.2.2.2.2.2.1 v.2.2.2.2.2.2.1 v.2.2.2.2.2.2.2 _ ) (cwV 0 hts gW_X1_next rfl rfl rfl (by decide +kernel) ⟨Nat.le_of_ble_eq_true rfl, Nat.le_of_ble_eq_true rfl⟩) hP hD hS hA hKm [6, 7, 8, 9] [0, 1, 2, 3, 4, 5] rfl rfl rfl rfl rfl (by decide) (va_recv hK hP (ci := 1) (q0 := 6) rfl rfl) rfl hl.1 rfl (Nat.le_of_ble_eq_true rfl) dL_law_417 ⟨by show _ ≤ 1045; omega, by show _ ≤ 11859; omega⟩ (fun r2 v1 H locs hm hP hD hS => ?_)
  have hP : va_P D vwCl (lwW h0 a1 a2 a3 a4 cZ cI h1 b1 b2 b3 cJ o1 cL u v1 F) H := hP
  have hD : va_D (fun q : Nat => s.heap.size ≤ q) (lwW h0 a1 a2 a3 a4 cZ cI h1 b1 b2 b3 cJ o1 cL u v1 F) := hD
  obtain ⟨hq1, hsim⟩ := sim_next hsim hu hm
  refine lv_icmp_eq (tgt := 547) hx hb dL_law_420 (by decide) (fun c_420 => ?_) (fun c_420 => ?_)
  · refine W.widen (k := 11 + j) (n := 3607 + 6 * j) (by omega) (by omega) ?_
    exact go _ _ _ H locs ls hsim hP hD hS (lv_sub hl [0, 1, 2, 3, 4] rfl)
  · exact absurd hq1 c_420
set_option maxHeartbeats 4000000 in
set_option maxRecDepth 100000 in
theorem w_count {p : Program} {l : Launch} {e : Env} {s : State} {m : MethodId} {below : List Frame} {meth : Method} {c : Code} {D : va_G} {b L : Nat} {xs : Nat → Int32} {h0 a1 a2 a3 a4 : Nat} {cZ cI : ClassId} {h1 b1 b2 b3 : Nat} {cJ : ClassId} {o1 : Nat} {cL : ClassId} {j : Nat} {u : ABs} {v : MDs} {F : Nat → Int64} {H : Heap} {locs : List Loc} {ls : Array Slot} (C0 : lwC p l s m meth c b L xs D cZ cI cL cJ) (hj : 3 * j + 3 ≤ L) (hsim : sim j u v) (hP : va_P D vwCl (lwW h0 a1 a2 a3 a4 cZ cI h1 b1 b2 b3 cJ o1 cL u v F) H) (hD : va_D (fun q : Nat => s.heap.size ≤ q) (lwW h0 a1 a2 a3 a4 cZ cI h1 b1 b2 b3 cJ o1 cL u v F)) (hS : va_S (fun q : Nat => s.heap.size ≤ q) s.heap H locs) (hl : lv_has ls 7 [(0, .ref b), (1, .ref h0), (2, .ref h1), (3, .ref o1), (4, .int (nI (3 * j)))]) (go : lwGo p l e s m below meth c b D h0 a1 a2 a3 a4 cZ cI h1 b1 b2 b3 cJ o1 cL j) : W p l e room_1 s m #[Value.ref b] below meth c H locs (10 + j) (3601 + 6 * j) (lw_Z below #[Value.ref b] s) (F0 m 493 ls []) := by
  obtain ⟨⟨hx, hb, hr, hml, hown, hts, hX, hbl, hlocks, hgv⟩, hL, hl9, hK, hE, hN⟩ := C0
  have hA : ∀ q : Nat, s.heap.size ≤ q → (fun q : Nat => s.heap.size ≤ q) q := fun _ h => h
  have hbA : ¬ (fun q : Nat => s.heap.size ≤ q) b := Nat.not_le.mpr hbl
  have hown : s.vm.findClass RL = some m.cls := hown
  have htL : ∀ w ∈ wsL_law, w.before #[Value.ref b] s = true := fun w h => hts w (wsL_law_in w h)
  have hKa := hK.sub (tys' := abT cZ cI) [0, 1] rfl
  have hKh := hK.sub (tys' := hlT cZ cI cL) [0, 1, 2] rfl
  have hKm := hK.sub (tys' := mdT cJ) [3] rfl
  refine lv_aload_n hx hb dL_law_493 rfl (lv_at hl 1 rfl) ?_
  refine lv_aload_n hx hb dL_law_494 rfl (lv_at hl 0 rfl) ?_
  refine lv_iload hx hb dL_law_495 (lv_at hl 4 rfl) ?_
  refine lv_iconst (v := 1) hx hb dL_law_497 (by decide) ?_
  refine lv_iadd hx hb dL_law_498 ?_
  rw [nI_1]
  refine kz_sld hx hb hX hbl hbA hS (k := 3 * j + 1) (by omega) (by omega) dL_law_499 ?_
  refine lv_if_eq (tgt := 507) hx hb dL_law_500 (by decide) (fun c_500 => ?_) (fun c_500 => ?_)
  · refine lv_iconst (v := 0) hx hb dL_law_507 (by decide) ?_
    refine kz_callR (As := [.int 0]) (rest := []) ⟨hx, hb, hml, hown, htL⟩ (c_count l D h0 a1 a2 a3 a4 cZ cI u.1 u.2.1 u.2.2.1 u.2.2.2.1 u.2.2.2.2.1 u.2.2.2.2.2.1 u.2.2.2.2.2.2.1 u.2.2.2.2.2.2.2 0) (cwV 1 htL gL_law_X0_count rfl rfl rfl (by decide +kernel) ⟨Nat.le_of_ble_eq_true rfl, Nat.le_of_ble_eq_true rfl⟩) (hP.sub [1, 2, 3, 4, 5] rfl) hKa (va_recv hK hP (ci := 0) (q0 := 1) rfl rfl) rfl hl.1 rfl (Nat.le_of_ble_eq_true rfl) dL_law_508 ⟨by show _ ≤ 1045; omega, by show _ ≤ 11859; omega⟩ (fun r1 hu => ?_)
    refine lv_aload_n hx hb dL_law_511 rfl (lv_at hl 2 rfl) ?_
    refine lv_aload_n hx hb dL_law_512 rfl (lv_at hl 0 rfl) ?_
    refine lv_iload hx hb dL_law_513 (lv_at hl 4 rfl) ?_
    refine lv_iconst (v := 1) hx hb dL_law_515 (by decide) ?_
    refine lv_iadd hx hb dL_law_516 ?_
    rw [nI_1]
    refine kz_sld hx hb hX hbl hbA hS (k := 3 * j + 1) (by omega) (by omega) dL_law_517 ?_
    refine lv_if_eq (tgt := 525) hx hb dL_law_518 (by decide) (fun c_518 => ?_) (fun c_518 => ?_)
    · refine lv_iconst (v := 0) hx hb dL_law_525 (by decide) ?_
      refine kz_calli (wc := mdU h1 b1 b2 b3 cJ v) (wr := hlW o1 cL F (abU h0 a1 a2 a3 a4 cZ cI u)) (w1 := mdU h1 b1 b2 b3 cJ) (As := [.int 0]) (rest := [.int r1]) ⟨hx, hb, hml, hown, hts⟩ (m_count l D h1 b1 b2 b3 cJ v.1 v.2.1 v.2.2.1 v.2.2.2.1 v.2.2.2.2.1 v.2.2.2.2.2.1 v.2.2.2.2.2.2.1 v.2.2.2.2.2.2.2 _ 0) (cwV 1 hts gW_X1_count rfl rfl rfl (by decide +kernel) ⟨Nat.le_of_ble_eq_true rfl, Nat.le_of_ble_eq_true rfl⟩) hP hD hS hA hKm [6, 7, 8, 9] [0, 1, 2, 3, 4, 5] rfl rfl rfl rfl rfl (by decide) (va_recv hK hP (ci := 1) (q0 := 6) rfl rfl) rfl hl.1 rfl (Nat.le_of_ble_eq_true rfl) dL_law_526 ⟨by show _ ≤ 1045; omega, by show _ ≤ 11859; omega⟩ (fun r2 v1 H locs hm hP hD hS => ?_)
      have hP : va_P D vwCl (lwW h0 a1 a2 a3 a4 cZ cI h1 b1 b2 b3 cJ o1 cL u v1 F) H := hP
      have hD : va_D (fun q : Nat => s.heap.size ≤ q) (lwW h0 a1 a2 a3 a4 cZ cI h1 b1 b2 b3 cJ o1 cL u v1 F) := hD
      obtain ⟨hq1, hsim⟩ := sim_count hsim hu hm
      refine lv_icmp_eq (tgt := 547) hx hb dL_law_529 (by decide) (fun c_529 => ?_) (fun c_529 => ?_)
      · refine W.widen (k := 11 + j) (n := 3607 + 6 * j) (by omega) (by omega) ?_
        exact go _ _ _ H locs ls hsim hP hD hS (lv_sub hl [0, 1, 2, 3, 4] rfl)
      · exact absurd hq1 c_529
    · exact absurd c_500 c_518
  · refine lv_iconst (v := 1) hx hb dL_law_503 (by decide) ?_
    refine lv_goto (tgt := 508) hx hb dL_law_504 (by decide) ?_
    refine kz_callR (As := [.int 1]) (rest := []) ⟨hx, hb, hml, hown, htL⟩ (c_count l D h0 a1 a2 a3 a4 cZ cI u.1 u.2.1 u.2.2.1 u.2.2.2.1 u.2.2.2.2.1 u.2.2.2.2.2.1 u.2.2.2.2.2.2.1 u.2.2.2.2.2.2.2 1) (cwV 1 htL gL_law_X0_count rfl rfl rfl (by decide +kernel) ⟨Nat.le_of_ble_eq_true rfl, Nat.le_of_ble_eq_true rfl⟩) (hP.sub [1, 2, 3, 4, 5] rfl) hKa (va_recv hK hP (ci := 0) (q0 := 1) rfl rfl) rfl hl.1 rfl (Nat.le_of_ble_eq_true rfl) dL_law_508 ⟨by show _ ≤ 1045; omega, by show _ ≤ 11859; omega⟩ (fun r1 hu => ?_)
    refine lv_aload_n hx hb dL_law_511 rfl (lv_at hl 2 rfl) ?_
    refine lv_aload_n hx hb dL_law_512 rfl (lv_at hl 0 rfl) ?_
    refine lv_iload hx hb dL_law_513 (lv_at hl 4 rfl) ?_
    refine lv_iconst (v := 1) hx hb dL_law_515 (by decide) ?_
    refine lv_iadd hx hb dL_law_516 ?_
    rw [nI_1]
    refine kz_sld hx hb hX hbl hbA hS (k := 3 * j + 1) (by omega) (by omega) dL_law_517 ?_
    refine lv_if_eq (tgt := 525) hx hb dL_law_518 (by decide) (fun c_518 => ?_) (fun c_518 => ?_)
    · exact absurd c_518 c_500
    · refine lv_iconst (v := 1) hx hb dL_law_521 (by decide) ?_
      refine lv_goto (tgt := 526) hx hb dL_law_522 (by decide) ?_
      refine kz_calli (wc := mdU h1 b1 b2 b3 cJ v) (wr := hlW o1 cL F (abU h0 a1 a2 a3 a4 cZ cI u)) (w1 := mdU h1 b1 b2 b3 cJ) (As := [.int 1]) (rest := [.int r1]) ⟨hx, hb, hml, hown, hts⟩ (m_count l D h1 b1 b2 b3 cJ v.1 v.2.1 v.2.2.1 v.2.2.2.1 v.2.2.2.2.1 v.2.2.2.2.2.1 v.2.2.2.2.2.2.1 v.2.2.2.2.2.2.2 _ 1) (cwV 1 hts gW_X1_count rfl rfl rfl (by decide +kernel) ⟨Nat.le_of_ble_eq_true rfl, Nat.le_of_ble_eq_true rfl⟩) hP hD hS hA hKm [6, 7, 8, 9] [0, 1, 2, 3, 4, 5] rfl rfl rfl rfl rfl (by decide) (va_recv hK hP (ci := 1) (q0 := 6) rfl rfl) rfl hl.1 rfl (Nat.le_of_ble_eq_true rfl) dL_law_526 ⟨by show _ ≤ 1045; omega, by show _ ≤ 11859; omega⟩ (fun r2 v1 H locs hm hP hD hS => ?_)
      have hP : va_P D vwCl (lwW h0 a1 a2 a3 a4 cZ cI h1 b1 b2 b3 cJ o1 cL u v1 F) H := hP
      have hD : va_D (fun q : Nat => s.heap.size ≤ q) (lwW h0 a1 a2 a3 a4 cZ cI h1 b1 b2 b3 cJ o1 cL u v1 F) := hD
      obtain ⟨hq1, hsim⟩ := sim_count hsim hu hm
      refine lv_icmp_eq (tgt := 547) hx hb dL_law_529 (by decide) (fun c_529 => ?_) (fun c_529 => ?_)
      · refine W.widen (k := 11 + j) (n := 3607 + 6 * j) (by omega) (by omega) ?_
        exact go _ _ _ H locs ls hsim hP hD hS (lv_sub hl [0, 1, 2, 3, 4] rfl)
      · exact absurd hq1 c_529
set_option maxHeartbeats 4000000 in
set_option maxRecDepth 100000 in
theorem w_time {p : Program} {l : Launch} {e : Env} {s : State} {m : MethodId} {below : List Frame} {meth : Method} {c : Code} {D : va_G} {b L : Nat} {xs : Nat → Int32} {h0 a1 a2 a3 a4 : Nat} {cZ cI : ClassId} {h1 b1 b2 b3 : Nat} {cJ : ClassId} {o1 : Nat} {cL : ClassId} {j : Nat} {u : ABs} {v : MDs} {F : Nat → Int64} {H : Heap} {locs : List Loc} {ls : Array Slot} (C0 : lwC p l s m meth c b L xs D cZ cI cL cJ) (hj : 3 * j + 3 ≤ L) (hsim : sim j u v) (hP : va_P D vwCl (lwW h0 a1 a2 a3 a4 cZ cI h1 b1 b2 b3 cJ o1 cL u v F) H) (hD : va_D (fun q : Nat => s.heap.size ≤ q) (lwW h0 a1 a2 a3 a4 cZ cI h1 b1 b2 b3 cJ o1 cL u v F)) (hS : va_S (fun q : Nat => s.heap.size ≤ q) s.heap H locs) (hl : lv_has ls 7 [(0, .ref b), (1, .ref h0), (2, .ref h1), (3, .ref o1), (4, .int (nI (3 * j)))]) (go : lwGo p l e s m below meth c b D h0 a1 a2 a3 a4 cZ cI h1 b1 b2 b3 cJ o1 cL j) : W p l e room_1 s m #[Value.ref b] below meth c H locs (10 + j) (3601 + 6 * j) (lw_Z below #[Value.ref b] s) (F0 m 534 ls []) := by
  obtain ⟨⟨hx, hb, hr, hml, hown, hts, hX, hbl, hlocks, hgv⟩, hL, hl9, hK, hE, hN⟩ := C0
  have hA : ∀ q : Nat, s.heap.size ≤ q → (fun q : Nat => s.heap.size ≤ q) q := fun _ h => h
  have hbA : ¬ (fun q : Nat => s.heap.size ≤ q) b := Nat.not_le.mpr hbl
  have hown : s.vm.findClass RL = some m.cls := hown
  have htL : ∀ w ∈ wsL_law, w.before #[Value.ref b] s = true := fun w h => hts w (wsL_law_in w h)
  have hKa := hK.sub (tys' := abT cZ cI) [0, 1] rfl
  have hKh := hK.sub (tys' := hlT cZ cI cL) [0, 1, 2] rfl
  have hKm := hK.sub (tys' := mdT cJ) [3] rfl
  refine lv_aload_n hx hb dL_law_534 rfl (lv_at hl 1 rfl) ?_
  refine kz_callR (As := []) (rest := []) ⟨hx, hb, hml, hown, htL⟩ (c_time l D h0 a1 a2 a3 a4 cZ cI u.1 u.2.1 u.2.2.1 u.2.2.2.1 u.2.2.2.2.1 u.2.2.2.2.2.1 u.2.2.2.2.2.2.1 u.2.2.2.2.2.2.2 ) (cwV 0 htL gL_law_X0_time rfl rfl rfl (by decide +kernel) ⟨Nat.le_of_ble_eq_true rfl, Nat.le_of_ble_eq_true rfl⟩) (hP.sub [1, 2, 3, 4, 5] rfl) hKa (va_recv hK hP (ci := 0) (q0 := 1) rfl rfl) rfl hl.1 rfl (Nat.le_of_ble_eq_true rfl) dL_law_535 ⟨by show _ ≤ 1045; omega, by show _ ≤ 11859; omega⟩ (fun r1 hu => ?_)
  refine lv_aload_n hx hb dL_law_538 rfl (lv_at hl 2 rfl) ?_
  refine kz_calli (wc := mdU h1 b1 b2 b3 cJ v) (wr := hlW o1 cL F (abU h0 a1 a2 a3 a4 cZ cI u)) (w1 := mdU h1 b1 b2 b3 cJ) (As := []) (rest := [.int r1]) ⟨hx, hb, hml, hown, hts⟩ (m_time l D h1 b1 b2 b3 cJ v.1 v.2.1 v.2.2.1 v.2.2.2.1 v.2.2.2.2.1 v.2.2.2.2.2.1 v.2.2.2.2.2.2.1 v.2.2.2.2.2.2.2 _ ) (cwV 0 hts gW_X1_time rfl rfl rfl (by decide +kernel) ⟨Nat.le_of_ble_eq_true rfl, Nat.le_of_ble_eq_true rfl⟩) hP hD hS hA hKm [6, 7, 8, 9] [0, 1, 2, 3, 4, 5] rfl rfl rfl rfl rfl (by decide) (va_recv hK hP (ci := 1) (q0 := 6) rfl rfl) rfl hl.1 rfl (Nat.le_of_ble_eq_true rfl) dL_law_539 ⟨by show _ ≤ 1045; omega, by show _ ≤ 11859; omega⟩ (fun r2 v1 H locs hm hP hD hS => ?_)
  have hP : va_P D vwCl (lwW h0 a1 a2 a3 a4 cZ cI h1 b1 b2 b3 cJ o1 cL u v1 F) H := hP
  have hD : va_D (fun q : Nat => s.heap.size ≤ q) (lwW h0 a1 a2 a3 a4 cZ cI h1 b1 b2 b3 cJ o1 cL u v1 F) := hD
  obtain ⟨hq1, hsim⟩ := sim_time hsim hu hm
  refine lv_icmp_eq (tgt := 547) hx hb dL_law_542 (by decide) (fun c_542 => ?_) (fun c_542 => ?_)
  · refine W.widen (k := 11 + j) (n := 3607 + 6 * j) (by omega) (by omega) ?_
    exact go _ _ _ H locs ls hsim hP hD hS (lv_sub hl [0, 1, 2, 3, 4] rfl)
  · exact absurd hq1 c_542
end
section
/-! The law's loop, whole. -/
theorem kz_inc3 (j : Nat) : nI (3 * j) + Int32.ofInt 3 = nI (3 * (j + 1)) := by
  have h : Int32.ofInt 3 = nI 3 := by decide
  rw [h, nI_add]
  rfl
theorem law_cmp {L j : Nat} (hL : L ≤ 1536) (hj : 3 * j ≤ 1536) : (Int32.ofNat L - 3 < nI (3 * j)) ↔ L < 3 * j + 3 := by
  rw [Int32.lt_iff_toInt_lt, show Int32.ofNat L - 3 = nI L - nI 3 from rfl, pk_sub_toInt (by omega) (by omega), nI_toInt (by omega)]
  omega
set_option maxHeartbeats 4000000 in
set_option maxRecDepth 100000 in
theorem law_loop {p : Program} {l : Launch} {e : Env} {s : State} {m : MethodId} {below : List Frame} {meth : Method} {c : Code} {D : va_G} {b L : Nat} {xs : Nat → Int32} {h0 a1 a2 a3 a4 : Nat} {cZ cI : ClassId} {h1 b1 b2 b3 : Nat} {cJ : ClassId} {o1 : Nat} {cL : ClassId} (C0 : lwC p l s m meth c b L xs D cZ cI cL cJ) : ∀ (n j : Nat) (u : ABs) (v : MDs) (F : Nat → Int64), 3 * j ≤ L → 513 ≤ j + n → sim j u v → ∀ (H : Heap) (locs : List Loc) (ls : Array Slot), va_P D vwCl (lwW h0 a1 a2 a3 a4 cZ cI h1 b1 b2 b3 cJ o1 cL u v F) H → va_D (fun q : Nat => s.heap.size ≤ q) (lwW h0 a1 a2 a3 a4 cZ cI h1 b1 b2 b3 cJ o1 cL u v F) → va_S (fun q : Nat => s.heap.size ≤ q) s.heap H locs → lv_has ls 7 [(0, .ref b), (1, .ref h0), (2, .ref h1), (3, .ref o1), (4, .int (nI (3 * j)))] → W p l e room_1 s m #[Value.ref b] below meth c H locs (10 + j) (3601 + 6 * j) (lw_Z below #[Value.ref b] s) (F0 m 23 ls []) := by
  obtain ⟨⟨hx, hb, hr, hml, hown, hts, hX, hbl, hlocks, hgv⟩, hL, hl9, hK, hE, hN⟩ := id C0
  have hbA : ¬ (fun q : Nat => s.heap.size ≤ q) b := Nat.not_le.mpr hbl
  intro n
  induction n with
  | zero =>
    intro j u v F h1 h2
    exact absurd h2 (by omega)
  | succ n ih =>
    intro j u v F hjL hjn hsim H locs ls hP hD hS hl
    refine lv_iload hx hb dL_law_23 (lv_at hl 4 rfl) ?_
    refine lv_aload_n hx hb dL_law_25 rfl (lv_at hl 0 rfl) ?_
    refine va_slen hx hb hX hbl hbA hS dL_law_26 ?_
    refine lv_iconst (v := 3) hx hb dL_law_27 (by decide) ?_
    refine lv_isub hx hb dL_law_28 ?_
    refine lv_icmp_gt (tgt := 553) hx hb dL_law_29 (by decide) (fun c_29 => ?_) (fun c_29 => ?_)
    · refine lv_iconst (v := 1) hx hb dL_law_553 (by decide) ?_
      refine va_forget (fun q hq => hS.2.2 q hq) ?_
      refine W.widen (k := 1045) (n := 11859) (by omega) (by omega) ?_
      exact lw_ret hx hb hr hlocks dL_law_554
    · have hj : 3 * j + 3 ≤ L := Nat.not_lt.mp (fun z => c_29 ((law_cmp hL (by omega)).mpr z))
      have go : lwGo p l e s m below meth c b D h0 a1 a2 a3 a4 cZ cI h1 b1 b2 b3 cJ o1 cL j := by
        intro u v F H locs ls hsim hP hD hS hl
        refine lv_iinc (v := nI (3 * (j + 1))) (lv' := [(4, .int (nI (3 * (j + 1)))), (0, .ref b), (1, .ref h0), (2, .ref h1), (3, .ref o1)]) hx hb dL_law_547 hl (k := 4) rfl (kz_inc3 j) (by decide) rfl (fun ls hl => ?_)
        refine lv_goto (tgt := 23) hx hb dL_law_550 (by decide) ?_
        refine W.widen (k := 10 + (j + 1)) (n := 3601 + 6 * (j + 1)) (by omega) (by omega) ?_
        exact ih (j + 1) u v F (by omega) (by omega) hsim H locs ls hP hD hS (lv_sub hl [1, 2, 3, 4, 0] rfl)
      refine lv_aload_n hx hb dL_law_32 rfl (lv_at hl 0 rfl) ?_
      refine lv_iload hx hb dL_law_33 (lv_at hl 4 rfl) ?_
      refine kz_sld hx hb hX hbl hbA hS (k := 3 * j) (by omega) (by omega) dL_law_35 ?_
      refine lv_bipush (v := 15) hx hb dL_law_36 (by decide) ?_
      refine lv_iand hx hb dL_law_38 ?_
      obtain ⟨t, ht, et⟩ := pk_andE (xs (3 * j)) (m := 15) 4 rfl
      rw [et]
      clear et
      rcases (show t = 0 ∨ t = 1 ∨ t = 2 ∨ t = 3 ∨ t = 4 ∨ t = 5 ∨ t = 6 ∨ t = 7 ∨ t = 8 ∨ t = 9 ∨ t = 10 ∨ t = 11 ∨ t = 12 ∨ t = 13 ∨ t = 14 ∨ t = 15 by omega) with rfl | rfl | rfl | rfl | rfl | rfl | rfl | rfl | rfl | rfl | rfl | rfl | rfl | rfl | rfl | rfl
      · refine lv_tableIn (tgt := 100) (off := 61) hx hb dL_law_39 (by decide) (by decide) (by decide) (by decide) ?_
        exact w_set C0 hj hsim hP hD hS hl go
      · refine lv_tableIn (tgt := 168) (off := 129) hx hb dL_law_39 (by decide) (by decide) (by decide) (by decide) ?_
        exact w_shift C0 hj hsim hP hD hS hl go
      · refine lv_tableIn (tgt := 236) (off := 197) hx hb dL_law_39 (by decide) (by decide) (by decide) (by decide) ?_
        exact w_stop C0 hj hsim hP hD hS hl go
      · refine lv_tableIn (tgt := 292) (off := 253) hx hb dL_law_39 (by decide) (by decide) (by decide) (by decide) ?_
        exact w_stopAll C0 hj hsim hP hD hS hl go
      · refine lv_tableIn (tgt := 317) (off := 278) hx hb dL_law_39 (by decide) (by decide) (by decide) (by decide) ?_
        exact w_pass C0 hj hsim hP hD hS hl go
      · refine lv_tableIn (tgt := 373) (off := 334) hx hb dL_law_39 (by decide) (by decide) (by decide) (by decide) ?_
        exact w_ring C0 hj hsim hP hD hS hl go
      · refine lv_tableIn (tgt := 386) (off := 347) hx hb dL_law_39 (by decide) (by decide) (by decide) (by decide) ?_
        exact w_told C0 hj hsim hP hD hS hl go
      · refine lv_tableIn (tgt := 399) (off := 360) hx hb dL_law_39 (by decide) (by decide) (by decide) (by decide) ?_
        exact w_wasDue C0 hj hsim hP hD hS hl go
      · refine lv_tableIn (tgt := 412) (off := 373) hx hb dL_law_39 (by decide) (by decide) (by decide) (by decide) ?_
        exact w_next C0 hj hsim hP hD hS hl go
      · refine lv_tableIn (tgt := 425) (off := 386) hx hb dL_law_39 (by decide) (by decide) (by decide) (by decide) ?_
        exact w_about C0 hj hsim hP hD hS hl go
      · refine lv_tableIn (tgt := 493) (off := 454) hx hb dL_law_39 (by decide) (by decide) (by decide) (by decide) ?_
        exact w_count C0 hj hsim hP hD hS hl go
      · refine lv_tableIn (tgt := 534) (off := 495) hx hb dL_law_39 (by decide) (by decide) (by decide) (by decide) ?_
        exact w_time C0 hj hsim hP hD hS hl go
      · refine lv_tableOut (tgt := 547) hx hb dL_law_39 (by decide) (by decide) ?_
        refine W.widen (k := 11 + j) (n := 3607 + 6 * j) (by omega) (by omega) ?_
        exact go u v F H locs ls (sim_up hsim (Nat.le_succ _)) hP hD hS hl
      · refine lv_tableOut (tgt := 547) hx hb dL_law_39 (by decide) (by decide) ?_
        refine W.widen (k := 11 + j) (n := 3607 + 6 * j) (by omega) (by omega) ?_
        exact go u v F H locs ls (sim_up hsim (Nat.le_succ _)) hP hD hS hl
      · refine lv_tableOut (tgt := 547) hx hb dL_law_39 (by decide) (by decide) ?_
        refine W.widen (k := 11 + j) (n := 3607 + 6 * j) (by omega) (by omega) ?_
        exact go u v F H locs ls (sim_up hsim (Nat.le_succ _)) hP hD hS hl
      · refine lv_tableOut (tgt := 547) hx hb dL_law_39 (by decide) (by decide) ?_
        refine W.widen (k := 11 + j) (n := 3607 + 6 * j) (by omega) (by omega) ?_
        exact go u v F H locs ls (sim_up hsim (Nat.le_succ _)) hP hD hS hl
end
section
/-! The law from its entry. -/
theorem st_texts {args : Array Value} {s : State} (hts : ∀ w ∈ lw_tbl, w.before args s = true) (hs : ∀ w ∈ flatC (Jvm.Cond.and given_1 narrow_1), w.before args s = true) : ∀ q ∈ xz_texts, ∃ a : Nat, vk_R RX0 q.1 q.2 a s := by
  intro q hq
  simp only [xz_texts, List.mem_cons, List.not_mem_nil, or_false] at hq
  rcases hq with rfl | rfl | rfl | rfl | rfl | rfl | rfl
  · obtain ⟨a, -, -, -, ha, -⟩ := Cond.exactly_spec (hs (.exactly (.string RX0 42) "java/lang/String") (by decide +kernel))
    exact ⟨a, vk_R.of (hts (.stringRef RX0 42 "ticks is not 0 .. 1000000000") (by decide +kernel)) ha⟩
  · obtain ⟨a, -, -, -, ha, -⟩ := Cond.exactly_spec (hs (.exactly (.string RX0 53) "java/lang/String") (by decide +kernel))
    exact ⟨a, vk_R.of (hts (.stringRef RX0 53 "there are 512 alarms") (by decide +kernel)) ha⟩
  · obtain ⟨a, -, -, -, ha, -⟩ := Cond.exactly_spec (hs (.exactly (.string RX0 59) "java/lang/String") (by decide +kernel))
    exact ⟨a, vk_R.of (hts (.stringRef RX0 59 "it would be due behind 1000000000") (by decide +kernel)) ha⟩
  · obtain ⟨a, -, -, -, ha, -⟩ := Cond.exactly_spec (hs (.exactly (.string RX0 68) "java/lang/String") (by decide +kernel))
    exact ⟨a, vk_R.of (hts (.stringRef RX0 68 "there is no such alarm") (by decide +kernel)) ha⟩
  · obtain ⟨a, -, -, -, ha, -⟩ := Cond.exactly_spec (hs (.exactly (.string RX0 71) "java/lang/String") (by decide +kernel))
    exact ⟨a, vk_R.of (hts (.stringRef RX0 71 "ticks is not 0 .. 200000") (by decide +kernel)) ha⟩
  · obtain ⟨a, -, -, -, ha, -⟩ := Cond.exactly_spec (hs (.exactly (.string RX0 73) "java/lang/String") (by decide +kernel))
    exact ⟨a, vk_R.of (hts (.stringRef RX0 73 "the time would be behind 1000000000") (by decide +kernel)) ha⟩
  · obtain ⟨a, -, -, -, ha, -⟩ := Cond.exactly_spec (hs (.exactly (.string RX0 81) "java/lang/String") (by decide +kernel))
    exact ⟨a, vk_R.of (hts (.stringRef RX0 81 "what is not 0 or 1") (by decide +kernel)) ha⟩
theorem st_E {args : Array Value} {s : State} (hts : ∀ w ∈ lw_tbl, w.before args s = true) (hs : ∀ w ∈ flatC (Jvm.Cond.and given_1 narrow_1), w.before args s = true) : xz_E (fun q : Nat => s.heap.size ≤ q) s :=
  ⟨vx_Zqof (hts (.laysStatic Bundle.tN "UNASSIGNED_STACK" Bundle.steD) (by decide +kernel)) (hts (.initialized Bundle.tN) (by decide +kernel)) (hs (.isRef (.static Bundle.tN "UNASSIGNED_STACK" Bundle.steD)) (by decide +kernel)) (fun a h9 => Nat.not_le.mpr h9),
   vx_Zqof (hts (.laysStatic Bundle.tN "SUPPRESSED_SENTINEL" Bundle.listD) (by decide +kernel)) (hts (.initialized Bundle.tN) (by decide +kernel)) (hs (.isRef (.static Bundle.tN "SUPPRESSED_SENTINEL" Bundle.listD)) (by decide +kernel)) (fun a h9 => Nat.not_le.mpr h9),
   ⟨va_Nw.of rfl (hts (.castable xzA xzA) (by decide +kernel)), va_Nw.of rfl (hts (.castable xzI xzI) (by decide +kernel)), va_Nw.of rfl (hts (xzD "java/lang/RuntimeException") (by decide +kernel)), va_Nw.of rfl (hts (xzD "java/lang/Exception") (by decide +kernel)), va_Nw.of rfl (hts (xzD "java/lang/Throwable") (by decide +kernel))⟩, st_texts hts hs⟩
set_option maxHeartbeats 4000000 in
set_option maxRecDepth 100000 in
/-- THE LAW, from its entry -/
theorem whole_start {p : Program} {e : Env} {s : State} {m : MethodId} {below : List Frame} {meth : Method} {c : Code} (l : Launch) (hl9 : l.stackTraces = false) {b L : Nat} {xs : Nat → Int32} (hL : L ≤ 1536) (C0 : lw_At p s m meth c b L xs) : W p l e room_1 s m #[Value.ref b] below meth c s.heap [] 0 0 (lw_Z below #[Value.ref b] s) (entryFrame m ([Value.ref b] : List Value).toArray 7) := by
  obtain ⟨hx, hb, hr, hml, hown, hts, hX, hbl, hlocks, hgv⟩ := id C0
  have hown : s.vm.findClass RL = some m.cls := hown
  have hA : ∀ q : Nat, s.heap.size ≤ q → (fun q : Nat => s.heap.size ≤ q) q := fun _ h => h
  have hs := flat_of_before _ hgv
  have hE := st_E hts hs
  have hN : va_Nc xzI xzA s := va_Nc.of (hs (.not (.castable xzI xzA)) (by decide +kernel))
  have htL : ∀ w ∈ wsL_law, w.before #[Value.ref b] s = true := fun w h => hts w (wsL_law_in w h)
  obtain ⟨c0, iS0, hKn0⟩ := u_known (C := RX0) (T := TX0) (N := 8) (n := 8) hts inX0 (hts (.instantiable RX0 8) (by decide +kernel))
  obtain ⟨c1, iS1, hKn1⟩ := u_known (C := RX1) (T := TX1) (N := 8) (n := 8) hts inX1 (hts (.instantiable RX1 8) (by decide +kernel))
  obtain ⟨D, hKc⟩ : ∃ D : va_G, ∀ (k : Nat) (q : vw_C), vwCl[k]? = some q → u_Kn s q.1 q.2.1 q.2.2 (D.1 k) (D.2 k) := by
    refine ⟨(fun k => if k = 0 then c0 else c1, fun k => if k = 0 then iS0 else iS1), ?_⟩
    intro k q hq
    match k, hq with
    | 0, hq => cases hq; exact hKn0
    | 1, hq => cases hq; exact hKn1
    | k + 2, hq => simp [vwCl] at hq
  have hS : va_S (fun q : Nat => s.heap.size ≤ q) s.heap s.heap [] := va_S.rf
  have hK : va_K D vwCl [] s := ⟨hKc, fun k q h => by simp at h⟩
  have hP : va_P D vwCl [] s.heap := fun k q h => by simp at h
  have hD : va_D (fun q : Nat => s.heap.size ≤ q) [] := ⟨fun i j p q h => by simp at h, fun k q h => by simp at h⟩
  refine kz_enter [.ref b] (Nat.le_of_ble_eq_true rfl) (fun ls hl => ?_)
  have hl : lv_has ls 7 [(0, .ref b)] := hl
  refine va_new (ci := 0) (fs := [.null, .null, .null, .null, .int 0, .int 0, .int 0, .int 0]) (C := RX0) (T := TX0) (N := 8) hx hb hts inX0 tyX0 tyX0_ok hown (hts (.classLink RL 8 RX0) (by decide +kernel)) (hts (.instantiable RX0 8) (by decide +kernel)) (hts (.initialized RX0) (by decide +kernel)) hK hP hD hS hA rfl (fun j hj => by rcases (show j = 0 ∨ j = 1 ∨ j = 2 ∨ j = 3 ∨ j = 4 ∨ j = 5 ∨ j = 6 ∨ j = 7 by omega) with rfl | rfl | rfl | rfl | rfl | rfl | rfl | rfl <;> rfl) (Nat.le_of_ble_eq_true rfl) (Nat.le_of_ble_eq_true rfl) dL_law_0 (fun h0 H hP hD hS => ?_)
  have hP : va_P D vwCl [(h0, .inr (0, [.null, .null, .null, .null, .int 0, .int 0, .int 0, .int 0]))] H := hP
  have hD : va_D (fun q : Nat => s.heap.size ≤ q) [(h0, .inr (0, [.null, .null, .null, .null, .int 0, .int 0, .int 0, .int 0]))] := hD
  refine W.widen (k := 1) (n := 8) (by decide) (by decide) ?_
  refine lv_dup hx hb dL_law_3 rfl ?_
  have hPc := hP.sub (ws' := [(h0, .inr (0, [.null, .null, .null, .null, .int 0, .int 0, .int 0, .int 0]))]) [0] rfl
  have hDc := hD.sub (ws' := [(h0, .inr (0, [.null, .null, .null, .null, .int 0, .int 0, .int 0, .int 0]))]) [0] (by decide) rfl
  have hKc := hK.sub (tys' := []) [] rfl
  have hFc := va_free (wc := [(h0, .inr (0, [.null, .null, .null, .null, .int 0, .int 0, .int 0, .int 0]))]) hD hS hA [0] rfl
  refine va_callv (va_runI (As := []) (rest := [.ref h0]) ⟨hx, hb, hml, hown, htL⟩ (c_init l D h0 H.size) (cwI 0 htL gL_law_X0_init rfl rfl rfl (hts (.initialized RX0) (by decide +kernel)) (hts (.methodLink RL 30 yX0_init) (by decide +kernel)) (hts (.instanceMethod yX0_init) (by decide +kernel)) rfl (by decide +kernel) ⟨Nat.le_of_ble_eq_true rfl, Nat.le_of_ble_eq_true rfl⟩) ⟨kz_wr, fun U hU hW => ⟨rfl, by rw [hU], by rw [hU]; exact hPc, va_K.moved hW.alike hKc, hDc.weaken (fun _ _ _ _ => trivial)⟩⟩ rfl rfl hl.1 rfl (lv_room (Nat.le_of_ble_eq_true rfl)) dL_law_4 ⟨Nat.le_of_ble_eq_true rfl, Nat.le_of_ble_eq_true rfl⟩) hS (fun q _ h => hFc q h) hFc (fun g t H1 locs ht hvm hw hB hz1 hk1 hS => ?_)
  obtain ⟨a1, a2, a3, a4, cZ, cI⟩ := g
  obtain ⟨hP1, hK1, hD1⟩ := hB
  rw [ht] at hP1
  have hK1 := va_K.moved hvm.symm hK1
  obtain ⟨hP, hD⟩ := va_join (wr := []) (w1 := abW h0 a1 a2 a3 a4 cZ cI (fun _ => 0) (fun _ => 0) (fun _ => 0) (fun _ => 0) 0 0 0 (-1)) hP hD [0] [] rfl rfl (by decide) (by decide) hk1 hFc hP1 hD1
  have hK := hK.app hK1
  generalize H1 = H at hP hS ⊢
  have hP : va_P D vwCl (abW h0 a1 a2 a3 a4 cZ cI (fun _ => 0) (fun _ => 0) (fun _ => 0) (fun _ => 0) 0 0 0 (-1)) H := hP
  have hD : va_D (fun q : Nat => s.heap.size ≤ q) (abW h0 a1 a2 a3 a4 cZ cI (fun _ => 0) (fun _ => 0) (fun _ => 0) (fun _ => 0) 0 0 0 (-1)) := hD
  have hK : va_K D vwCl (abT cZ cI) s := hK
  refine W.widen (k := 5) (n := 2056) (by decide) (by decide) ?_
  refine lv_astore_n (lv' := [(1, .ref h0), (0, .ref b)]) hx hb dL_law_7 rfl hl (by decide) rfl (fun ls hl => ?_)
  refine va_new (ci := 1) (fs := [.int 0, .int 0, .int 0, .null, .null, .null, .int 0, .int 0]) (C := RX1) (T := TX1) (N := 8) hx hb hts inX1 tyX1 tyX1_ok hown (hts (.classLink RL 31 RX1) (by decide +kernel)) (hts (.instantiable RX1 8) (by decide +kernel)) (hts (.initialized RX1) (by decide +kernel)) hK hP hD hS hA rfl (fun j hj => by rcases (show j = 0 ∨ j = 1 ∨ j = 2 ∨ j = 3 ∨ j = 4 ∨ j = 5 ∨ j = 6 ∨ j = 7 by omega) with rfl | rfl | rfl | rfl | rfl | rfl | rfl | rfl <;> rfl) (Nat.le_of_ble_eq_true rfl) (Nat.le_of_ble_eq_true rfl) dL_law_8 (fun h1 H hP hD hS => ?_)
  have hP : va_P D vwCl (abW h0 a1 a2 a3 a4 cZ cI (fun _ => 0) (fun _ => 0) (fun _ => 0) (fun _ => 0) 0 0 0 (-1) ++ [(h1, .inr (1, [.int 0, .int 0, .int 0, .null, .null, .null, .int 0, .int 0]))]) H := hP
  have hD : va_D (fun q : Nat => s.heap.size ≤ q) (abW h0 a1 a2 a3 a4 cZ cI (fun _ => 0) (fun _ => 0) (fun _ => 0) (fun _ => 0) 0 0 0 (-1) ++ [(h1, .inr (1, [.int 0, .int 0, .int 0, .null, .null, .null, .int 0, .int 0]))]) := hD
  refine W.widen (k := 6) (n := 2064) (by decide) (by decide) ?_
  refine lv_dup hx hb dL_law_11 rfl ?_
  have hPc := hP.sub (ws' := [(h1, .inr (1, [.int 0, .int 0, .int 0, .null, .null, .null, .int 0, .int 0]))]) [5] rfl
  have hDc := hD.sub (ws' := [(h1, .inr (1, [.int 0, .int 0, .int 0, .null, .null, .null, .int 0, .int 0]))]) [5] (by decide) rfl
  have hKc := hK.sub (tys' := []) [] rfl
  have hFc := va_free (wc := [(h1, .inr (1, [.int 0, .int 0, .int 0, .null, .null, .null, .int 0, .int 0]))]) hD hS hA [5] rfl
  refine va_callv (va_runI (As := []) (rest := [.ref h1]) ⟨hx, hb, hml, hown, hts⟩ (m_init l D h1 H.size) (cwI 0 hts gW_X1_init rfl rfl rfl (hts (.initialized RX1) (by decide +kernel)) (hts (.methodLink RL 33 yX1_init) (by decide +kernel)) (hts (.instanceMethod yX1_init) (by decide +kernel)) rfl (by decide +kernel) ⟨Nat.le_of_ble_eq_true rfl, Nat.le_of_ble_eq_true rfl⟩) ⟨kz_wr, fun U hU hW => ⟨rfl, by rw [hU], by rw [hU]; exact hPc, va_K.moved hW.alike hKc, hDc.weaken (fun _ _ _ _ => trivial)⟩⟩ rfl rfl hl.1 rfl (lv_room (Nat.le_of_ble_eq_true rfl)) dL_law_12 ⟨Nat.le_of_ble_eq_true rfl, Nat.le_of_ble_eq_true rfl⟩) hS (fun q _ h => hFc q h) hFc (fun g t H1 locs ht hvm hw hB hz1 hk1 hS => ?_)
  obtain ⟨b1, b2, b3, cJ⟩ := g
  obtain ⟨hP1, hK1, hD1⟩ := hB
  rw [ht] at hP1
  have hK1 := va_K.moved hvm.symm hK1
  obtain ⟨hP, hD⟩ := va_join (wr := (abW h0 a1 a2 a3 a4 cZ cI (fun _ => 0) (fun _ => 0) (fun _ => 0) (fun _ => 0) 0 0 0 (-1))) (w1 := (mdW h1 b1 b2 b3 cJ 0 0 0 (fun _ => 0) (fun _ => 0) (fun _ => 0) 0 (-1))) hP hD [5] [0, 1, 2, 3, 4] rfl rfl (by decide) (by decide) hk1 hFc hP1 hD1
  have hK := hK.app hK1
  generalize H1 = H at hP hS ⊢
  have hP : va_P D vwCl (abW h0 a1 a2 a3 a4 cZ cI (fun _ => 0) (fun _ => 0) (fun _ => 0) (fun _ => 0) 0 0 0 (-1) ++ mdW h1 b1 b2 b3 cJ 0 0 0 (fun _ => 0) (fun _ => 0) (fun _ => 0) 0 (-1)) H := hP
  have hD : va_D (fun q : Nat => s.heap.size ≤ q) (abW h0 a1 a2 a3 a4 cZ cI (fun _ => 0) (fun _ => 0) (fun _ => 0) (fun _ => 0) 0 0 0 (-1) ++ mdW h1 b1 b2 b3 cJ 0 0 0 (fun _ => 0) (fun _ => 0) (fun _ => 0) 0 (-1)) := hD
  have hK : va_K D vwCl (abT cZ cI ++ mdT cJ) s := hK
  refine W.widen (k := 9) (n := 3600) (by decide) (by decide) ?_
  refine lv_astore_n (lv' := [(2, .ref h1), (1, .ref h0), (0, .ref b)]) hx hb dL_law_15 rfl hl (by decide) rfl (fun ls hl => ?_)
  refine lv_iconst (v := 1) hx hb dL_law_16 (by decide) ?_
  refine va_newa (atype := .long) (N' := 1) (a0 := (1, .inr (.inl (fun _ => 0)))) (ty := .long) (n := 1) hx hb (hts (.arrayClass .long) (by decide +kernel)) rfl hK hP hD hS hA (fun _ => rfl) (by decide) (by decide) (by decide) (Nat.le_of_ble_eq_true rfl) (Nat.le_of_ble_eq_true rfl) dL_law_17 (fun o1 cL H hK hP hD hS => ?_)
  have hP := hP.sub (ws' := lwW h0 a1 a2 a3 a4 cZ cI h1 b1 b2 b3 cJ o1 cL ((fun _ => 0), (fun _ => 0), (fun _ => 0), (fun _ => 0), 0, 0, 0, -1) (0, 0, 0, (fun _ => 0), (fun _ => 0), (fun _ => 0), 0, -1) (fun _ => 0)) [9, 0, 1, 2, 3, 4, 5, 6, 7, 8] rfl
  have hD := hD.sub (ws' := lwW h0 a1 a2 a3 a4 cZ cI h1 b1 b2 b3 cJ o1 cL ((fun _ => 0), (fun _ => 0), (fun _ => 0), (fun _ => 0), 0, 0, 0, -1) (0, 0, 0, (fun _ => 0), (fun _ => 0), (fun _ => 0), 0, -1) (fun _ => 0)) [9, 0, 1, 2, 3, 4, 5, 6, 7, 8] (by decide) rfl
  have hK := hK.sub (tys' := lwT cZ cI cL cJ) [0, 1, 3, 2] rfl
  refine W.widen (k := 10) (n := 3601) (by decide) (by decide) ?_
  refine lv_astore_n (lv' := [(3, .ref o1), (2, .ref h1), (1, .ref h0), (0, .ref b)]) hx hb dL_law_19 rfl hl (by decide) rfl (fun ls hl => ?_)
  refine lv_iconst (v := 0) hx hb dL_law_20 (by decide) ?_
  refine lv_istore (lv' := [(4, .int 0), (3, .ref o1), (2, .ref h1), (1, .ref h0), (0, .ref b)]) hx hb dL_law_21 hl (by decide) rfl (fun ls hl => ?_)
  exact law_loop ⟨C0, hL, hl9, hK, hE, hN⟩ 513 0 _ _ _ (Nat.zero_le L) (by omega) sim_0 H _ ls hP hD hS (lv_sub hl [4, 3, 2, 1, 0] rfl)
end
section
set_option maxHeartbeats 4000000 in
theorem lw_walk (l : Launch) (hl9 : l.stackTraces = false) (b : Addr) (xs : List Int32) : MetFree l x (headSpec (Jvm.Cond.code x code maxLocals ret :: tables_1) room_1) (lw_P b xs) (fun _ _ _ _ _ => True) lw_Q := by
  refine MetFree.of_bodyS (code := code) (maxLocals := maxLocals) (ret := ret) (by decide) ?_ ?_
  · intro args s m h hn
    obtain ⟨meth, c, h1, h2, h3, h4, h5, h6, -, -⟩ := Cond.code_spec hn (atoms_spec (ws := Jvm.Cond.code x code maxLocals ret :: tables_1) h _ List.mem_cons_self)
    exact ⟨meth, c, h1, h2, h3, h4, h5, h6⟩
  · intro p e s m args below meth c s₁ B hml0 hP _
    obtain ⟨rfl, hx, hbd, hgv⟩ := hP
    obtain ⟨scr, harrAt, hlist, hof, hsmall⟩ := hx
    obtain ⟨hcb, hkn, -, -⟩ := State.arrayAt?_spec harrAt
    have hown : s.vm.findClass R_law = some m.cls := findClass_of_methodNamed B.named
    have hts0 : ∀ c ∈ (Jvm.Cond.code x code maxLocals ret :: tables_1), c.before #[Value.ref b] s = true := atoms_spec (ws := Jvm.Cond.code x code maxLocals ret :: tables_1) B.pre
    have hts : ∀ w ∈ lw_tbl, w.before #[Value.ref b] s = true := k2_hts_sels lw_privs (fun w hw => hts0 w (List.mem_cons_of_mem _ hw)) lw_privs_ok
    have hml : c.maxLocals = 7 := B.maxLocals_eq (hts0 _ List.mem_cons_self)
    have X₀ : Stand p l e room_1 s m #[Value.ref b] below meth c s₁ [] 0 0 := Stand.of_body B
    have hh0 : s₁.heap = s.heap := by rw [B.state]; rfl
    have hsz : scr.slots.size = xs.length := by rw [← Array.length_toList, hlist, List.length_map]
    have hval : ∀ j : Nat, j < xs.length → scr.slots[j]? = some (.int (xs.getD j 0)) := fun j hj => by
      rw [← Array.getElem?_toList, hlist]
      simp [hj]
    have hbl : b < s.heap.size := (Array.getElem?_eq_some_iff.mp hcb).1
    have hX : va_X b xs.length (fun j => xs.getD j 0) s s.heap := ⟨scr, hcb, hof, hkn, hsz, hval⟩
    have K : W p l e room_1 s m #[Value.ref b] below meth c s₁.heap [] 0 0 (lw_Z below #[Value.ref b] s) (entryFrame m ([Value.ref b] : List Value).toArray 7) := by
      rw [hh0]
      exact whole_start l hl9 hbd ⟨B.exec, B.bytes, B.returns, hml, hown, hts, hX, hbl, B.notSynchronized, hgv⟩
    obtain ⟨t, a1, o, b1, b2, b3⟩ := K s₁ rfl X₀
    exact ⟨t, o, a1, b1, b2, b3⟩
theorem lw_pre_spec {args : Array Value} {s : State} (h : (Jvm.Cond.and given_1 narrow_1).before args s = true) (hr : rest_1_c.before args s = true) : ∃ (b : Addr) (xs : List Int32), lw_P b xs args s := by
  have hs := flat_of_before _ h
  have hq := flat_of_before _ hr
  have hc : (Cond.count 1).before args s = true := hs _ (by decide +kernel)
  have harr : (Cond.arrayOf (.arg 0) .int).before args s = true := hs _ (by decide +kernel)
  have hle : (Cond.le (.length (.arg 0)) (.int 1536)).before args s = true := hs _ (by decide +kernel)
  have hlen : (Cond.isInt (.length (.arg 0))).before args s = true := hq _ (by decide +kernel)
  have hall : (Cond.all (.arg 0) (.isInt (.elem (.arg 0) (.index 0)))).before args s = true := hq _ (by decide +kernel)
  obtain ⟨b, xs, hb, hx⟩ := State.ints_of_pre rfl harr hlen hall
  have hsm : xs.length < 2 ^ 31 := hx.choose_spec.2.2.2
  have hev : (Term.length (.arg 0)).eval args s none [] s = some (.int xs.length.toInt32) := hx.length_eval hb
  have hv := Cond.le_ints hev (show (Term.int 1536).eval args s none [] s = some (.int 1536) from rfl)
  have hd : xs.length.toInt32 ≤ 1536 := by
    simpa [Cond.before, Cond.holds, hv] using hle
  have hN : xs.length ≤ 1536 := (Int32.ofNat_le_ofNat hsm (by decide)).mp (show Int32.ofNat xs.length ≤ Int32.ofNat 1536 from hd)
  exact ⟨b, xs, Cond.one_arg hc (show args[0]? = some (.ref b) from hb), hx, hN, h⟩
theorem lw_comes (l : Launch) (hl9 : l.stackTraces = false) : Comes l x (Jvm.Cond.code x code maxLocals ret :: tables_1) room_1 (fun tb e args s => Calls_1 tb e args s ∧ rest_1 tb e args s ∧ Pre_1 tb e args s)
    (fun _ _ args s o t => lw_Q args s o t) := by
  intro p e ha hc hk s m args below hf hfit hheap happ hpre
  obtain ⟨b, xs, hP⟩ := lw_pre_spec hpre.2.2 hpre.2.1
  obtain ⟨k, o, h1, h2, h3, hQ⟩ := lw_walk l hl9 b xs p e ha hc hk s m args below hf ((Spec.applies_iff_loose hf).mp happ).1 hP trivial
  exact ⟨k, o, h1, h2, h3, hQ⟩
theorem lw_frame {s t : State} {o : Outcome} {args : Array Value} (h : Framed s o t [] 1045 11859) :
    Framed s o t (fieldLocs frame_1_writes args s ++ arrayLocs frame_1_arrays args s ++ staticLocs frame_1_statics s) 1045 11859 := h
theorem lw_limb (L : Cond) (hL : ∀ (args : Array Value) (s t : State), L.after args s (.returned (some (.int 1))) t = true) :
    ArmFor flags0 classFile x code maxLocals ret World_1 tables_1 room_1 Calls_1 rest_1 Pre_1
      (fun tb e a s o t => postC L tb e a s o t ∧ Framed s o t (fieldLocs frame_1_writes a s ++ arrayLocs frame_1_arrays a s ++ staticLocs frame_1_statics s) 1045 11859) := by
  intro l hfl _ _ p e ha hc hk s m args below hf hfit hheap happ hpre
  obtain ⟨k, o, h1, h2, h3, rfl, hF⟩ := lw_comes l (by unfold Launch.stackTraces; rw [hfl]; decide +kernel) p e ha hc hk s m args below hf hfit hheap happ hpre
  exact ⟨k, _, h1, h2, h3, hL args s _, lw_frame hF⟩
theorem i_vc : Claimed_1_1 ∧ Claimed_1_2 := ⟨lw_limb limb_1_1 (fun args s t => by simp [limb_1_1, Cond.after, Cond.holds, Cond.value]), lw_limb limb_1_2 (fun args s t => Cond.after_iff.mpr (by
  first | (rw [show limb_1_2 = Cond.eq .result (.int 1) from rfl, Cond.eq_ints (x := 1) (y := 1) rfl rfl]; simp; done) | (simp [limb_1_2, Cond.value, Term.eval]; done)))⟩
end
