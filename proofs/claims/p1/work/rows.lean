section
-- own rows: methods that throw, calls that throw, handlers
section ThrowKit
variable {p : Program} {l : Launch} {e : Env} {R : Room} {s : State} {m : MethodId} {args : Array Value} {below : List Frame} {meth : Method} {c : Code} {H : Heap} {locs : List Loc} {cells slots : Nat} {Q : State → Prop}
/-- how a throwing method leaves the machine: the thrown object's address, what the contract says of it, and the frame -/
def th_Q (below : List Frame) (Qc : Array Value → State → Addr → State → Prop) (a : Array Value) (s : State) (mc ms : Nat) (free : Addr → Prop) : State → Prop := fun t =>
  ∃ x, t.status = .running ∧ Ended t below (.threw x) ∧ Qc a s x t ∧ s.WarmedH t.vm ∧ ∃ L, s.sameButNew ({ t with vm := s.vm } : State) L mc ms ∧ ∀ q ∈ L, free q.base
/-- the contract of a method that throws -/
def th_Met (l : Launch) (y : MethodName) (ws : List Cond) (rm : Room) (Pc : Array Value → State → Prop) (Qc : Array Value → State → Addr → State → Prop) (mc ms : Nat) (free : Addr → Prop) : Prop :=
  MetFree l y (headSpec ws rm) Pc (fun _ _ _ _ _ => True) (fun a st o t => ∃ x, o = .threw x ∧ Qc a st x t ∧ st.WarmedH t.vm ∧ ∃ L, st.sameButNew ({ t with vm := st.vm } : State) L mc ms ∧ ∀ q ∈ L, free q.base)
theorem th_out {c : Code} (h : c.exceptionTable.isEmpty = true) (pc : Nat) : ∀ x ∈ c.exceptionTable.toList, covers x pc = false := by
  have h0 : c.exceptionTable.size = 0 := by simpa [Array.isEmpty] using h
  have h1 : c.exceptionTable.toList = [] := List.eq_nil_of_length_eq_zero (by simpa using h0)
  intro y hy
  rw [h1] at hy
  cases hy
theorem th_Met.ofW {y : MethodName} {ws ws' : List Cond} {rm : Room} {Pc : Array Value → State → Prop} {Qc : Array Value → State → Addr → State → Prop} {mc ms : Nat} {free : Addr → Prop} {cc : ByteArray} {maxL : Nat} {ret : Option FieldType}
    (hy : plainName y.cls = true) (hw : ws = Cond.code y cc maxL ret :: ws')
    (body : ∀ p e s m args below meth c s₁, BodyLoose p l y (headSpec ws rm) cc maxL ret e s m args below meth c s₁ → c.maxLocals = maxL → c.exceptionTable.isEmpty = true → Pc args s →
      W p l e (headSpec ws rm).room s m args below meth c s.heap [] 0 0 (th_Q below Qc args s mc ms free) (entryFrame m args maxL)) : th_Met l y ws rm Pc Qc mc ms free := by
  refine MetFree.of_bodyS (code := cc) (maxLocals := maxL) (ret := ret) hy ?_ ?_
  · intro args s m h hn
    obtain ⟨meth, c, h1, h2, h3, h4, h5, h6, -, -⟩ := Cond.code_spec hn (atoms_spec (ws := ws) h _ (by rw [hw]; exact List.mem_cons_self))
    exact ⟨meth, c, h1, h2, h3, h4, h5, h6⟩
  · intro p e s m args below meth c s₁ B hml hP _
    have hh0 : s₁.heap = s.heap := by rw [B.state]; rfl
    have hnh := B.noHandlers (atoms_spec (ws := ws) B.pre _ (by rw [hw]; exact List.mem_cons_self))
    obtain ⟨t, a1, x, b1, b2, b3⟩ := body p e s m args below meth c s₁ B hml hnh hP s₁ hh0 (Stand.of_body B)
    exact ⟨t, .threw x, a1, b1, b2, x, rfl, b3⟩
/-- nothing old has changed -/
theorem th_kept {s t : State} {k n : Nat} (h : s.sameButNew t [] k n) {a : Nat} {c : Cell} (hc : s.heap[a]? = some c) : t.heap[a]? = some c := by
  obtain ⟨-, -, -, -, -, h6⟩ := h
  obtain ⟨c', h1, h2, h3, h4⟩ := h6 a c hc
  have hs : c'.slots = c.slots := Array.ext_getElem? (fun i => h4 i (by simp))
  have : c' = c := by rw [h2, hs]
  rw [h1, this]
theorem th_keptq {s t : State} {k n : Nat} (h : s.sameButNew t [] k n) {a : Nat} (ha : a < s.heap.size) : t.heap[a]? = s.heap[a]? := by
  have h1 : s.heap[a]? = some s.heap[a] := Array.getElem?_eq_getElem ha
  rw [h1]
  exact th_kept h h1
/-- what is said of a thrown object: it is new, and of that class -/
def th_Is (C : String) (s : State) (x : Addr) (t : State) : Prop := s.heap.size ≤ x ∧ ∃ ce : Cell, t.heap[x]? = some ce ∧ ce.vm.isStatics = false ∧ s.vm.findClass C = some ce.cls ∧ s.vm.assignable ce.cls ce.cls = true
/-- the end of a method that throws a C: nothing old has changed -/
def th_Qn (C : String) : Array Value → State → Addr → State → Prop := fun _ st x t => th_Is C st x t ∧ va_F (fun _ => False) st t
/-- new X; dup; X(); athrow, where nothing has been written yet -/
theorem th_new {cc : ByteArray} (hexec : p.tables.exec = Jvm.exec) (hb : c.code = cc) (htr : e.platform.stackTraces = false) {own cls : String} {names : List String} {ix ic : Nat} (hown : s.vm.findClass own = some m.cls)
    (hcls : Bundle.fit cls = true) (hnames : ∀ n ∈ names, Bundle.fit n = true) (hat : ∀ a ∈ Bundle.ownAtoms0 own ic cls names, a.before args s = true)
    (hcl : (Cond.classLink own ix cls).before args s = true) (hini : (Cond.initialized cls).before args s = true)
    (hnh : c.exceptionTable.isEmpty = true) {pc : Nat} {ls : Array Slot} (hml : ls.size = c.maxLocals) {rest : List Value} (hsz : s.heap.size ≤ H.size)
    (hfr : names.length + 3 < R.frames) (hlo : 1 + (rest.map fun v => v.category).sum + (13 * (names.length + 1) + 41) ≤ R.locals) (hc : cells + 1 ≤ R.cells) (hsl : slots + 6 ≤ R.slots) {free : Addr → Prop}
    (hlocks : meth.locks = false)
    (hd0 : decode cc pc = .ok (.new ix, 3)) (hd3 : decode cc (pc + 3) = .ok (.dup, 1)) (hd4 : decode cc (pc + 4) = .ok (.invokespecial ic, 3)) (hd7 : decode cc (pc + 7) = .ok (.athrow, 1)) :
    W p l e R s m args below meth c H [] cells slots (th_Q below (th_Qn cls) args s (cells + 1) (slots + 6) free) (F0 m pc ls rest) := by
  refine W.newc hexec hb hown hcl (hat (.instantiable cls 6) (by simp [Bundle.ownAtoms0])) hini rfl hd0 hc hsl (fun cC kC h1 h2 h3 h4 => ?_)
  refine W.eq (g2 := F0 m (pc + 3) ls (.ref H.size :: rest)) rfl ?_
  refine lv_dup hexec hb hd3 rfl ?_
  refine W.eq (g2 := F0 m (pc + 4) ls (.ref H.size :: .ref H.size :: rest)) rfl ?_
  intro T hT X
  subst hb
  have hcell : T.heap[H.size]? = some (freshCell cC kC) := by
    rw [hT]
    simp [freshCell]
  obtain ⟨U, st, hrun, hend, hW, hsame, ce, hce, ho⟩ := X.ctorThrow0 hexec htr hown hcls hnames hat (fun x hx => by cases hx) h1 h2 hcell hsz (g := F0 m (pc + 4) ls (.ref H.size :: .ref H.size :: rest)) rfl hml rfl rfl (rest := rest) rfl hd4 hd7 (th_out hnh _) hfr
    (by simpa [JFrame.monitorRoom, Value.category, Nat.add_assoc] using hlo) hlocks
  exact ⟨U, st, H.size, hrun, hend, ⟨⟨hsz, ce, hce, by rw [ho.vm]; rfl, ho.cls, ho.self⟩, hsame.2.1, fun q hq _ => th_keptq hsame hq⟩, hW, [], hsame, fun q hq => by cases hq⟩
/-- a call of a method that throws: the walk stands again behind it, the note on top -/
def th_Run (p : Program) (l : Launch) (e : Env) (R : Room) (s : State) (m : MethodId) (args : Array Value) (below : List Frame) (meth : Method) (c : Code) (H : Heap) (locs : List Loc) (cells slots mc ms : Nat) (g : JFrame) (rest : List Value) (Qa : State → Addr → State → Prop) (free : Addr → Prop) : Prop :=
  ∀ T : State, T.heap = H → Stand p l e R s m args below meth c T locs cells slots → ∃ (x : Addr) (st₀ t T' : State) (L : List Loc), st₀.heap = H ∧ s.vm.Alike st₀.vm ∧ Stand p l e R s m args below meth c T' (locs ++ L) (cells + mc) (slots + ms) ∧ (∀ q ∈ L, free q.base) ∧ T'.heap = t.heap ∧ T'.vm = t.vm ∧ Qa st₀ x t ∧
    Steps p.tables e below (T.setTop g) ((T'.setTop { g with stack := rest }).pushFrame (.throwing x))
theorem th_back {y : MethodName} {ws : List Cond} {rm : Room} {Pc : Array Value → State → Prop} {Qc : Array Value → State → Addr → State → Prop} {mc ms : Nat} {free : Addr → Prop} {bytes : ByteArray} {maxL : Nat} {ret : Option FieldType} {own : String} {index n : Nat}
    (hM : th_Met l y ws rm Pc Qc mc ms free) (hbl : FrameBlind Pc) (cb : CallB R s args own index y bytes maxL ret ws rm mc ms n) {U : State}
    (X : Stand p l e R s m args below meth c U locs cells slots) {g : JFrame} (hg : g.method = m) (hsize : g.locals.size = c.maxLocals) {ig : Instr} {len : Nat} (hdg : decode c.code g.pc = .ok (ig, len))
    (hW : 2 * g.monitorRoom + (g.stack.map fun v => v.category).sum ≤ 8) {mk : MethodId} (hn : U.methodNamed? y = some mk) {a : Array Value} (hc : cells + mc ≤ R.cells) (hs : slots + ms ≤ R.slots) (hP : Pc a U) :
    ∃ (x : Addr) (T' t : State) (L : List Loc), Stand p l e R s m args below meth c T' (locs ++ L) (cells + mc) (slots + ms) ∧ T'.heap = t.heap ∧ T'.vm = t.vm ∧ (∀ q ∈ L, free q.base) ∧ Qc a (U.calling g mk a) x t ∧
      Steps p.tables e below (doInvoke e (U.setTop g) [] mk a).1 ((T'.setTop g).pushFrame (.throwing x)) := by
  obtain ⟨hrc, hrs, hfr, hlo, hws, hcw, -, hini, -⟩ := cb
  have h2 : (Cond.code y bytes maxL ret).before a U = true := hws _ hcw a U X.warmed
  have h1 : (headSpec ws rm).pre.before a U = true := atoms_intro fun w hw => hws w hw _ _ X.warmed
  have h3 : (Cond.initialized y.cls).before a U = true := word_at X.warmed (Or.inl (by first | rfl | simp [Cond.onTables, Cond.keeps, Cond.steady])) hini
  obtain ⟨methY, cY, hmY, hcY, -, hlY, -, -, -, -⟩ := Cond.code_spec hn h2
  obtain ⟨kY, hkY, -⟩ := className_of_methodNamed hn
  have hinitY : kY.init = .initialized := Cond.initialized_spec (findClass_of_methodNamed hn) hkY h3
  have h : At U g.method c below := by rw [hg]; exact X.here
  have happ : (headSpec ws rm).appliesLoose y e.platform (U.calling g mk a) = true :=
    Spec.appliesLoose_calling (g := g) h hdg hn hkY hinitY
      (X.room_calling (g := g) (R' := (headSpec ws rm).room) hsize hmY hcY hfr (by rw [hlY]; show _ + rm.locals ≤ _; omega) (by show cells + rm.cells ≤ _; rw [hrc]; exact hc) (by show slots + rm.slots ≤ _; rw [hrs]; exact hs)) h1
  obtain ⟨mid, hmid⟩ := h.above
  have hfr' : (U.setTop g).frames = (.java g :: mid) ++ below := by rw [State.frames_setTop' g h.top, hmid]; rfl
  obtain ⟨o, s₂, hsteps, -, hend, x, rfl, hq, hW₂, L, hsame, hL⟩ := Steps.callFree hM p X.admits X.cas X.clock (acts := []) hfr' happ (hbl _ _ _ _ hP) trivial
  rw [State.frames_setTop' g h.top, X.tail] at hend
  obtain ⟨T', X', -, -, ht⟩ := X.outOfThrown hg (mk := mk) (a := a) hend hW₂ hsame
  subst ht
  exact ⟨x, T', (T'.setTop g).pushFrame (.throwing x), L, X', rfl, rfl, hL, hq, hsteps⟩
section Runs
variable {y : MethodName} {bytes cc : ByteArray} {maxL nL mc ms n index : Nat} {ret : Option FieldType} {ws : List Cond} {rm : Room} {Pc : Array Value → State → Prop} {Qc : Array Value → State → Addr → State → Prop} {free : Addr → Prop} {Ts : List Cond} {own C : String} {b : Addr} {As rest : List Value} {g : JFrame}
theorem th_runV (S : CallFix p m c cc nL s args Ts own) (hM : th_Met l y ws rm Pc Qc mc ms free) (cw : CallW R s args own C index y bytes maxL ret ws rm mc ms n) (hp : PreV s H C b Pc As)
    (hg : g.method = m) (hn : As.length = n) (hsize : g.locals.size = nL) (hstack : g.stack = As.reverse ++ .ref b :: rest) (hW : 2 * g.monitorRoom + (rest.map fun v => v.category).sum ≤ 8) (hdg : decode cc g.pc = .ok (.invokevirtual index, 3)) (hf : cells + mc ≤ R.cells ∧ slots + ms ≤ R.slots) :
    th_Run p l e R s m args below meth c H locs cells slots mc ms g rest (Qc (Value.ref b :: As).toArray) free := by
  obtain ⟨hx, hb, hml, ho, -⟩ := S
  obtain ⟨hbl, ⟨cellB, hcB, hoB, hclB⟩, hPc⟩ := hp
  have cb := cw.1
  obtain ⟨⟨-, -, -, -, -, -, hcode, -, hy, hlen, hl⟩, hin, hse⟩ := cw
  intro T hT X
  obtain ⟨mk, methM, hnamed, hmethM, hstM, habM⟩ := Cond.instanceMethod_spec hin
  obtain ⟨methM', cM, hmethM', -, -, -, -, -, -, hsigM⟩ := Cond.code_spec hnamed hcode
  cases hmethM.symm.trans hmethM'
  obtain ⟨c2, r2, m2, q1, q2, q3, q4, kP, hkP, hkPi⟩ := Cond.selects_spec hse
  cases hclB.symm.trans q1
  cases (State.methodFound?_of_named hnamed hy).symm.trans q2
  cases hnamed.symm.trans q3
  have hselP : selectMethod e.platform s.vm cellB.cls mk = .method mk := by rw [Launch.admits_selectMethod X.admits]; exact q4
  subst hb
  obtain ⟨vm₁, X₁, hstep₁⟩ := X.invokevirtual hx ho hl hnamed hmethM hstM hkP hkPi hy (a := b) (cell := cellB) (by rw [hT]; exact hcB) (fun z h => by rw [h] at hoB; cases hoB) hselP hmethM habM hkP hkPi (g := g) hg (argsL := As) (rest := rest) (hn.trans (hlen _ hsigM)) hstack hdg
  obtain ⟨x, T', t, L, X', e1, e2, hL, hq, hsteps⟩ := th_back hM hbl cb X₁ (g := { g with stack := rest }) hg (hsize.trans hml.symm) hdg hW (X₁.named hnamed) hf.1 hf.2 (hPc (T.setVm vm₁) hT X₁.warmed)
  exact ⟨x, (T.setVm vm₁).calling { g with stack := rest } mk (Value.ref b :: As).toArray, t, T', L, hT, X₁.warmed.alike, X', hL, e1, e2, hq, hstep₁ _ fun acts => by rw [doInvoke_state]; exact hsteps⟩
end Runs
theorem th_Is.moved {C : String} {s st t u : State} {x : Addr} (hsz : s.heap.size ≤ st.heap.size) (hal : s.vm.Alike st.vm) (hu : u.heap = t.heap) (h : th_Is C st x t) : th_Is C s x u := by
  obtain ⟨h1, ce, h2, h3, h4, h5⟩ := h
  exact ⟨Nat.le_trans hsz h1, ce, by rw [hu]; exact h2, h3, by rw [← hal.findClass]; exact h4, by rw [← hal.assignable]; exact h5⟩
/-- the call throws, the caller has no handler: it throws too; nothing has been written before -/
theorem th_pass {C : String} {a : Array Value} {mc ms : Nat} {free free' : Addr → Prop} {pc : Nat} {ls : Array Slot} {st0 rest : List Value} (hr : th_Run p l e R s m args below meth c s.heap [] cells slots mc ms (F0 m pc ls st0) rest (th_Qn C a) free) (hnh : c.exceptionTable.isEmpty = true) (hlocks : meth.locks = false)
    (hf : ∀ q, free q → free' q) : W p l e R s m args below meth c s.heap [] cells slots (th_Q below (th_Qn C) args s (cells + mc) (slots + ms) free') (F0 m pc ls st0) := by
  intro T hT X
  obtain ⟨x, st₀, t, T', L, h0, hal, X', hL, e1, e2, ⟨hI, hz, hk⟩, st⟩ := hr T hT X
  obtain ⟨hw, hrun, hend, hW, hsame⟩ := X'.leaveThrown x (g := F0 m pc ls rest) rfl rfl rfl (th_out hnh _) hlocks
  refine ⟨_, st.trans hw, x, hrun, hend, ⟨hI.moved (by rw [h0]; exact Nat.le_refl _) hal e1, ?_, fun q hq _ => ?_⟩, hW, [] ++ L, hsame, fun q hq => hf _ (hL q (by simpa using hq))⟩
  · show s.heap.size ≤ T'.heap.size
    rw [e1]; rw [h0] at hz; exact hz
  · show T'.heap[q]? = s.heap[q]?
    rw [e1]
    have h9 := hk q (by rw [h0]; exact hq) (fun z => z)
    rw [h0] at h9
    exact h9
/-- the search gives a handler, at tables that it may have warmed -/
def th_Finds (e : Env) (s : State) (f : JFrame) (a : Addr) (pc : Nat) (vm' : Vm) : Prop :=
  ∀ (Q : Handler → Jvm.Pre) (E : Jvm.CtlPost) (d : Bool) (acts : List Action), Jvm.Sem.wp (findHandler f a) Q E e d acts s ↔ Q (.found pc) d acts (s.setVm vm')
theorem th_go {E : Jvm.CtlPost} {e : Env} {d : Bool} {acts : List Action} {t0 : State} {f : JFrame} {a : Addr} {Q : Handler → Jvm.Pre} {x : ExceptionTableEntry} {t : List ExceptionTableEntry} {cC : ClassId} {cell : Cell} {vm' : Vm} (hx : covers x f.pc = true) (h0 : x.catchType ≠ 0)
    (hg : (Jvm.resolveClass f.method.cls x.catchType).Gives e.toSetting t0.vm (.ok cC) vm') (hsz : vm'.classes.size ≤ t0.vm.classes.size) (hcell : t0.heap[a]? = some cell) (hobj : ∀ k, cell.vm ≠ .statics k) (hk : ∃ k, vm'.classes[cell.cls]? = some k) (hc : ∃ k, vm'.classes[cC]? = some k) :
    Jvm.Sem.wp (findHandler.go f a (x :: t)) Q E e d acts t0 ↔ if vm'.assignable cell.cls cC = true then Q (.found x.handlerPc) d acts (t0.setVm vm') else Jvm.Sem.wp (findHandler.go f a t) Q E e d acts (t0.setVm vm') := by
  simp only [covers] at hx
  obtain ⟨ha, ht⟩ := hg.op (op := VmOp.resolveClass f.method.cls x.catchType) rfl
  cases hfit : vm'.assignable cell.cls cC <;> simp [findHandler.go, hx, h0, ha, ht, hsz, hcell, hobj, hk, hc, hfit, VmOp.dirties, VmOp.acts]
theorem th_step {e : Env} {s : State} {a : Addr} {f : JFrame} {r : List Frame} {pc : Nat} {vm' : Vm} (hfind : th_Finds e s f a pc vm') :
    (stepThrowing e s a (.java f :: r)).Is ((s.setVm vm').setFrames (.java { f with pc := pc, stack := [.ref a] } :: r)) [] := by
  simp only [stepThrowing, searchFrame, vmDo]
  generalize hr : Sem.go _ e false [] s = res
  obtain ⟨as, rfl, ha⟩ := Sem.eq_ok_of hr (a := Handler.found pc) (s' := s.setVm vm') (acts' := []) (by simp [hfind _ _ _ _])
  exact ⟨rfl, ha⟩
theorem th_caught {tb : Tables} {e : Env} {s target : State} {g : JFrame} {c : Code} {below : List Frame} {a : Addr} {pc : Nat} {vm' : Vm} (h : At s g.method c below) (hfind : th_Finds e ((s.setTop g).pushFrame (.throwing a)) g a pc vm')
    (hrest : Steps tb e below ((s.setVm vm').setTop { g with pc := pc, stack := [.ref a] }) target) :
    Steps tb e below ((s.setTop g).pushFrame (.throwing a)) target := by
  obtain ⟨hgo, hw⟩ := h.throwing a
  refine Steps.head hgo hw ?_
  rw [stepThread_throwing (frames_entered h.top _), (th_step (s := (s.setTop g).pushFrame (.throwing a)) hfind).1]
  obtain ⟨g₀, hg⟩ := Option.isSome_iff_exists.mp h.top
  obtain ⟨r, hr⟩ := State.topJava?_eq_some.mp hg
  have hr' : (s.setVm vm').frames = .java g₀ :: r := hr
  rw [State.setTop_of_frames _ hr'] at hrest
  rw [State.pushFrame, State.setTop_of_frames _ hr, hr]
  have e1 : (((s.setFrames (.java g :: r)).setFrames (.throwing a :: (s.setFrames (.java g :: r)).frames)).setVm vm').setFrames (.java { g with pc := pc, stack := [.ref a] } :: r) = (s.setVm vm').setFrames (.java { g with pc := pc, stack := [.ref a] } :: r) := by
    rw [State.setFrames_setFrames]
    show ((s.setVm vm').setFrames _).setFrames _ = _
    rw [State.setFrames_setFrames]
  exact e1 ▸ hrest
/-- the table's entries ahead of the one that takes a C don't take it -/
def th_Tab (args : Array Value) (s : State) (own C : String) (pc hpc : Nat) : List (Nat × Nat × Nat × Nat) → Prop
  | [] => False
  | (a, b, h, t) :: r => (a ≤ pc ∧ pc < b ∧ t ≠ 0) ∧ ∃ D : String, (Cond.classLink own t D).before args s = true ∧ ((D = C ∧ h = hpc) ∨ (va_Nc C D s ∧ th_Tab args s own C pc hpc r))
theorem th_finds_go {own C : String} {pc hpc : Nat} (hadm : l.admits e) (hown : s.vm.findClass own = some m.cls) {ce : Cell} {x : Addr} (hstat : ce.vm.isStatics = false) (hC : s.vm.findClass C = some ce.cls) (hself : s.vm.assignable ce.cls ce.cls = true) {f : JFrame} (hfm : f.method = m) (hfp : f.pc = pc) : ∀ (tab : List (Nat × Nat × Nat × Nat)), th_Tab args s own C pc hpc tab → ∀ (t0 : State), s.WarmedH t0.vm → t0.heap[x]? = some ce →
    ∃ vm', s.WarmedH vm' ∧ ∀ (Q : Handler → Jvm.Pre) (E : Jvm.CtlPost) (d : Bool) (acts : List Action), Jvm.Sem.wp (findHandler.go f x (tableOf tab)) Q E e d acts t0 ↔ Q (.found hpc) d acts (t0.setVm vm') := by
  intro tab
  induction tab with
  | nil => intro h; exact h.elim
  | cons q r ih =>
    obtain ⟨a, b, hh, t⟩ := q
    intro hT t0 hW hce
    obtain ⟨⟨h1, h2, h3⟩, D, hcl, hd⟩ := hT
    have hpl : e.platform.magicAccessors = ({} : Platform).magicAccessors := by rw [hadm.platform]
    obtain ⟨cD, hfD, hlinks⟩ := Cond.classLink_spec hown hcl e.platform hpl
    obtain ⟨hg, hwarm, -⟩ := State.classEntry (e := e) hW hlinks
    have hal := hwarm.alike
    have hsz : (t0.vm.noted m.cls t (.cls cD)).classes.size ≤ t0.vm.classes.size := Nat.le_of_eq (by simp)
    generalize t0.vm.noted m.cls t (.cls cD) = vm1 at hg hwarm hal hsz
    have hkD : ∃ k, vm1.classes[cD]? = some k := Vm.classAt_of_findClass (name := D) (by rw [hal.findClass]; exact hfD)
    have hkC : ∃ k, vm1.classes[ce.cls]? = some k := Vm.classAt_of_findClass (name := C) (by rw [hal.findClass]; exact hC)
    have hgo := fun (Q : Handler → Jvm.Pre) (E : Jvm.CtlPost) (d : Bool) (acts : List Action) => th_go (E := E) (d := d) (acts := acts) (Q := Q) (e := e) (t0 := t0) (a := x) (t := tableOf r) (x := ⟨a, b, hh, t⟩) (f := f) (by simp [covers, hfp, h1, h2]) h3 (by rw [hfm]; exact hg) hsz hce (VmData.ne_statics_of hstat) hkC hkD
    rcases hd with ⟨rfl, rfl⟩ | ⟨hn, hr⟩
    · have hcc : cD = ce.cls := Option.some.inj (hfD.symm.trans hC)
      subst hcc
      refine ⟨vm1, hwarm, fun Q E d acts => (hgo Q E d acts).trans ?_⟩
      rw [if_pos (by rw [hal.assignable]; exact hself)]
    · obtain ⟨vm', hw', hih⟩ := ih hr (t0.setVm vm1) hwarm hce
      obtain ⟨c0, d0, g1, g2, g3⟩ := hn
      cases hC.symm.trans g1
      cases hfD.symm.trans g2
      refine ⟨vm', hw', fun Q E d acts => (hgo Q E d acts).trans ?_⟩
      rw [if_neg (by rw [hal.assignable, g3]; decide)]
      exact hih Q E d acts
/-- the call throws a C, and the table's entry for it goes on at hpc -/
theorem th_catch {own C : String} {tab : List (Nat × Nat × Nat × Nat)} {hpc mc ms pc : Nat} {free : Addr → Prop} {A0 A1 : Nat → Prop} {H0 : Heap} {Qa : State → Addr → State → Prop} {ls : Array Slot} {st0 rest : List Value}
    (hr : th_Run p l e R s m args below meth c H locs cells slots mc ms (F0 m pc ls st0) rest Qa free) (hown : s.vm.findClass own = some m.cls) (htab : c.exceptionTable.toList = tableOf tab) (hT : th_Tab args s own C pc hpc tab)
    (hI : ∀ st x t, Qa st x t → th_Is C st x t ∧ va_F A1 st t) (hS : va_S A0 H0 H locs) (hA : ∀ q, q < H.size → A1 q → A0 q) (hf : ∀ q, free q → A0 q)
    (kk : ∀ (x : Addr) (st₀ t : State) (H1 : Heap) (locs1 : List Loc), t.heap = H1 → s.vm.Alike t.vm → st₀.heap = H → Qa st₀ x t → H.size ≤ H1.size → (∀ q : Nat, q < H.size → ¬ A1 q → H1[q]? = H[q]?) → va_S A0 H0 H1 locs1 → W p l e R s m args below meth c H1 locs1 (cells + mc) (slots + ms) Q (F0 m hpc ls [.ref x])) :
    W p l e R s m args below meth c H locs cells slots Q (F0 m pc ls st0) := by
  intro T hT0 X
  obtain ⟨x, st₀, t, T', L, h0, hal, X', hL, e1, e2, hqa, st⟩ := hr T hT0 X
  obtain ⟨⟨hx1, ce, hx2, hx3, hx4, hx5⟩, hz, hk⟩ := hI _ _ _ hqa
  rw [h0] at hz hk
  obtain ⟨vm', hw', hfind⟩ := th_finds_go (args := args) X.admits hown hx3 (by rw [← hal.findClass]; exact hx4) (by rw [← hal.assignable]; exact hx5) (f := F0 m pc ls rest) rfl rfl tab hT ((T'.setTop (F0 m pc ls rest)).pushFrame (.throwing x)) X'.warmed (by show T'.heap[x]? = _; rw [e1]; exact hx2)
  have hF : th_Finds e ((T'.setTop (F0 m pc ls rest)).pushFrame (.throwing x)) (F0 m pc ls rest) x hpc vm' := fun Q E d acts => (Jvm.W.findHandler_eq (meth := meth) (code := c) X'.method' X'.code).trans (by rw [htab]; exact hfind Q E d acts)
  have X2 := X'.noted hw'
  obtain ⟨t2, a1, b1⟩ := kk x st₀ t T'.heap (locs ++ L) e1.symm (by rw [← e2]; exact X'.warmed.alike) h0 hqa (by rw [e1]; exact hz) (fun q h1 h2 => by rw [e1]; exact hk q h1 h2)
    ⟨Nat.le_trans hS.1 (by rw [e1]; exact hz), fun q h1 h2 => by rw [e1, hk q (Nat.lt_of_lt_of_le h1 hS.1) (fun z => h2 (hA q (Nat.lt_of_lt_of_le h1 hS.1) z))]; exact hS.2.1 q h1 h2, fun q hq => by
      rcases List.mem_append.mp hq with h | h
      · exact hS.2.2 q h
      · exact hf _ (hL q h)⟩ (T'.setVm vm') rfl X2
  exact ⟨t2, st.trans (th_caught (g := F0 m pc ls rest) X'.here hF a1), b1⟩
/-- a method with a table of handlers that returns -/
theorem th_ofWw {y : MethodName} {ws ws' : List Cond} {rm : Room} {Pc : Array Value → State → Prop} {Qc : Array Value → State → Outcome → State → Prop} {mc ms : Nat} {free : Addr → Prop} {cc : ByteArray} {maxL : Nat} {ret : Option FieldType} {tab : List (Nat × Nat × Nat × Nat)}
    (hy : plainName y.cls = true) (hw : ws = Cond.codeWith y cc maxL ret tab :: ws')
    (body : ∀ p e s m args below meth c s₁, BodyLoose p l y (headSpec ws rm) cc maxL ret e s m args below meth c s₁ → c.maxLocals = maxL → c.exceptionTable.toList = tableOf tab → Pc args s →
      W p l e (headSpec ws rm).room s m args below meth c s.heap [] 0 0 (MQ below Qc args s mc ms free) (entryFrame m args maxL)) : Met l y ws rm Pc Qc mc ms free := by
  refine MetFree.of_bodyS (code := cc) (maxLocals := maxL) (ret := ret) hy ?_ ?_
  · intro args s m h hn
    obtain ⟨m', meth, c, hn', h1, h2, h3, h4, -, h5, h6, -⟩ := Cond.codeWith_spec (atoms_spec (ws := ws) h _ (by rw [hw]; exact List.mem_cons_self))
    cases hn.symm.trans hn'
    exact ⟨meth, c, h1, h2, h3, h4, h5, h6⟩
  · intro p e s m args below meth c s₁ B hml hP _
    have hh0 : s₁.heap = s.heap := by rw [B.state]; rfl
    obtain ⟨m', meth', c', hn', h1, h2, -, -, ht, -, -, -⟩ := Cond.codeWith_spec (atoms_spec (ws := ws) B.pre _ (by rw [hw]; exact List.mem_cons_self))
    cases B.named.symm.trans hn'
    cases B.method.symm.trans h1
    cases (Stand.of_body B).code.symm.trans h2
    obtain ⟨t, a1, o, b1, b2, b3⟩ := body p e s m args below meth c s₁ B hml (by rw [← ht, table_eq]) hP s₁ hh0 (Stand.of_body B)
    exact ⟨t, o, a1, b1, b2, ⟨b3.1, b3.2⟩⟩
/-- a call of a static method with a table of handlers -/
theorem th_runSw {y : MethodName} {bytes cc : ByteArray} {maxL nL mc ms n index : Nat} {ret : Option FieldType} {ws ws' : List Cond} {rm : Room} {Pc : Array Value → State → Prop} {Qc : Array Value → State → Outcome → State → Prop} {free : Addr → Prop} {Ts : List Cond} {own : String} {As rest : List Value} {g : JFrame} {tab : List (Nat × Nat × Nat × Nat)}
    (S : CallFix p m c cc nL s args Ts own) (hM : Met l y ws rm Pc Qc mc ms free) (hG : GoodIn Ts ws) (hw : ws = Cond.codeWith y bytes maxL ret tab :: ws') (hrc : rm.cells = mc) (hrs : rm.slots = ms)
    (hini : (Cond.initialized y.cls).before args s = true) (hl : (Cond.methodLink own index y).before args s = true) (hstat : (Cond.static y).before args s = true)
    (hd : y.cls ≠ "java/lang/invoke/MethodHandle" ∧ y.cls ≠ "java/lang/invoke/VarHandle" ∧ (parseMethodDescriptor y.desc).map (fun d => d.parameters.length) = some n) (hR : rm.frames + 1 ≤ R.frames ∧ 8 + (maxL + 11) + rm.locals ≤ R.locals)
    (hp : PreS s H Pc As) (hg : g.method = m) (hn : As.length = n) (hsize : g.locals.size = nL) (hstack : g.stack = As.reverse ++ rest) (hW : 2 * g.monitorRoom + (rest.map fun v => v.category).sum ≤ 8) (hdg : decode cc g.pc = .ok (.invokestatic index, 3)) (hf : cells + mc ≤ R.cells ∧ slots + ms ≤ R.slots) :
    va_Run p l e R s m args below meth c H locs cells slots mc ms g rest (Qc As.toArray) free := by
  obtain ⟨hx, hb, hml, ho, hts⟩ := S
  have hws := pay_in hts hG
  have hcw : Cond.codeWith y bytes maxL ret tab ∈ ws := by rw [hw]; exact List.mem_cons_self
  have hK : Back l R p e below s args y 3 8 (PreOf R mc ms Pc) (PostOf Qc mc ms free) := by
    refine Back.of_freeWith (handlers := tab) (S := headSpec ws rm) (P := Pc) (K := fun _ _ _ _ _ => True) (Q := fun a st o t => Qc a st o t ∧ ∃ L, FrameEnd st o t L mc ms ∧ ∀ q ∈ L, free q.base) (bytes := bytes) (maxL := maxL) (ret := ret)
      (E := fun a st o t L k n => k = mc ∧ n = ms ∧ ∀ q ∈ L, free q.base) hM hR.1 hR.2 ?_ ?_ (fun _ _ _ _ _ _ _ _ _ => trivial) ?_ ?_
    · intro m meth c A a X hp
      exact ⟨atoms_intro fun w hw => hws w hw _ _ X.warmed, hws _ hcw _ _ X.warmed, word_at X.warmed (Or.inl (by first | rfl | simp [Cond.onTables, Cond.keeps, Cond.steady])) hini, by rw [show (headSpec ws rm).room.cells = mc from hrc]; exact hp.1, by rw [show (headSpec ws rm).room.slots = ms from hrs]; exact hp.2.1⟩
    · intro m meth c A a g mk X hp9
      exact hp.1 _ _ _ _ hp9.2.2
    · intro a st o t ⟨hq, L, hF, hL⟩
      exact ⟨L, mc, ms, hF, rfl, rfl, hL⟩
    · intro m meth c A a g mk v t L k n X hp hq hF ⟨e1, e2, hL⟩
      subst e1; subst e2
      exact ⟨g, mk, t, L, rfl, rfl, hq.1, rfl, hL, rfl, rfl⟩
  obtain ⟨mk, methM, cM, hnamed, hmethM, -, -, -, -, -, -, hsigM⟩ := Cond.codeWith_spec (hts _ (hG _ hcw).1)
  have hstatic : methM.isStatic = true := Cond.static_spec hnamed hmethM hstat
  obtain ⟨kP, hkP, -⟩ := className_of_methodNamed hnamed
  have hinitP : kP.init = .initialized := Cond.initialized_spec (findClass_of_methodNamed hnamed) hkP hini
  have hlen : n = methM.sig.parameters.length := by
    have h2 := hd.2.2
    rw [hsigM] at h2
    exact (Option.some.inj h2).symm
  intro T hT X
  subst hb
  obtain ⟨vm₁, X₁, hstep₁⟩ := X.invokestatic hx ho hl hnamed hmethM hstatic hkP hinitP ⟨hd.1, hd.2.1⟩ (g := g) hg (argsL := As) (rest := rest) (hn.trans hlen) hstack hdg
  obtain ⟨v, ⟨U', l2, c2, s2⟩, X', ⟨g', mk', t, L, e1, e2, hq, h1, hL, h2, h3⟩, st⟩ := hK m meth c ⟨T.setVm vm₁, locs, cells, slots⟩ { g with stack := rest } (.invokestatic index) mk As.toArray X₁ hg (hsize.trans hml.symm) hdg hW (X₁.named hnamed) ⟨hf.1, hf.2, hp.2 (T.setVm vm₁) hT X₁.warmed⟩
  dsimp only [Pt.U, Pt.locs, Pt.cells, Pt.slots] at X' e1 e2 h1 h2 h3 st
  subst h1; subst h2; subst h3
  exact ⟨v, (T.setVm vm₁).calling g' mk' As.toArray, t, U', L, hT, X', hL, e1, e2, hq, fun target h => hstep₁ _ fun acts => by rw [doInvoke_state]; exact st.trans h⟩
def vx_L (C n d : String) (A : Nat → Prop) (U : State) (H : Heap) : Prop := ∃ (c : ClassId) (k : Class) (i : Nat) (f : Field) (a : Nat) (cell : Cell), U.vm.findClass C = some c ∧ U.fieldFound? C n d = some (c, k, i, f) ∧ f.isStatic = true ∧ k.statics = some a ∧ H[a]? = some cell ∧ cell.vm.isStatics = true ∧ cell.cls = c ∧ f.slot < cell.slots.size ∧ k.staticTypes[f.slot]? = some f.type ∧ ¬ A a
theorem vx_L.moved {C n d : String} {A : Nat → Prop} {u U : State} {H : Heap} (hvm : u.vm.Alike U.vm) (h : vx_L C n d A u H) : vx_L C n d A U H := by
  obtain ⟨c, k, i, f, a, cell, h1, h2, h3, h4, h5, h6, h7, h8, h9, h10⟩ := h
  obtain ⟨k', hi', he⟩ := State.fieldFound?_setVm hvm h2
  exact ⟨c, k', i, f, a, cell, by rw [hvm.findClass]; exact h1, hi', h3, by rw [he]; exact h4, h5, h6, h7, h8, by rw [he]; exact h9, h10⟩
theorem vx_L.kept {C n d : String} {A : Nat → Prop} {U : State} {H H1 : Heap} (h : vx_L C n d A U H) (hq : ∀ a : Nat, a < H.size → ¬ A a → H1[a]? = H[a]?) : vx_L C n d A U H1 := by
  obtain ⟨c, k, i, f, a, cell, h1, h2, h3, h4, h5, h6, h7, h8, h9, h10⟩ := h
  exact ⟨c, k, i, f, a, cell, h1, h2, h3, h4, by rw [hq a (Array.getElem?_eq_some_iff.mp h5).1 h10]; exact h5, h6, h7, h8, h9, h10⟩
theorem vx_L.narrow {C n d : String} {A B : Nat → Prop} {U : State} {H : Heap} (h : vx_L C n d A U H) (hAB : ∀ q, B q → A q) : vx_L C n d B U H := by
  obtain ⟨c, k, i, f, a, cell, h1, h2, h3, h4, h5, h6, h7, h8, h9, h10⟩ := h
  exact ⟨c, k, i, f, a, cell, h1, h2, h3, h4, h5, h6, h7, h8, h9, fun z => h10 (hAB _ z)⟩
theorem vx_L.word {C n d : String} {A : Nat → Prop} {s : State} {args : Array Value} (h : vx_L C n d A s s.heap) : (Cond.laysStatic C n d).before args s = true := by
  obtain ⟨c, k, i, f, a, cell, h1, h2, h3, h4, h5, h6, h7, h8, h9, -⟩ := h
  show (Cond.laysStatic C n d).holds args s none s [] = true
  exact Cond.laysStatic_of h1 h2 h3 h4 h5 h6 h7 h8 h9
/-- .. and what it holds: null or some reference -/
def vx_Zq (C n d : String) (A : Nat → Prop) (U : State) (H : Heap) : Prop := va_Zq C n d A U H ∧ vx_L C n d A U H
theorem vx_Zq.moved {C n d : String} {A : Nat → Prop} {u U : State} {H : Heap} (hvm : u.vm.Alike U.vm) (h : vx_Zq C n d A u H) : vx_Zq C n d A U H := ⟨va_Zq.moved hvm h.1, vx_L.moved hvm h.2⟩
theorem vx_Zq.kept {C n d : String} {A : Nat → Prop} {U : State} {H H1 : Heap} (h : vx_Zq C n d A U H) (hq : ∀ a : Nat, a < H.size → ¬ A a → H1[a]? = H[a]?) : vx_Zq C n d A U H1 := ⟨va_Zq.kept h.1 hq, vx_L.kept h.2 hq⟩
theorem vx_Zq.narrow {C n d : String} {A B : Nat → Prop} {U : State} {H : Heap} (h : vx_Zq C n d A U H) (hAB : ∀ q, B q → A q) : vx_Zq C n d B U H := ⟨va_Zq.narrow h.1 hAB, vx_L.narrow h.2 hAB⟩
theorem vx_Zqof {args : Array Value} {s : State} {C n d : String} {A : Nat → Prop} (hl : (Cond.laysStatic C n d).before args s = true) (hini : (Cond.initialized C).before args s = true) (h : (Cond.isRef (.static C n d)).before args s = true) (hA : ∀ a : Nat, a < s.heap.size → ¬ A a) : vx_Zq C n d A s s.heap := by
  refine ⟨va_Zqof hl hini h hA, ?_⟩
  obtain ⟨c, k, i, f, a, cell, h1, h2, h3, h4, h5, h6, h7, h8, h9⟩ := Cond.laysStatic_spec hl
  exact ⟨c, k, i, f, a, cell, h1, h2, h3, h4, h5, h6, h7, h8, h9, hA a (Array.getElem?_eq_some_iff.mp h5).1⟩
theorem vx_isRef {C n d : String} {v : Value} {A : Nat → Prop} {s : State} {args : Array Value} (h : va_Z C n d v A s s.heap) (hv : v.isRef = true) : (Cond.isRef (.static C n d)).before args s = true := by
  obtain ⟨cf, kf, fi, f, a, cell, h1, h2, h3, h4, h5, h6, h7, -⟩ := h
  have he : (Term.static C n d).eval args s none [] s = some v := by
    simp [Term.eval, State.fieldNamed?, h1, h2, h4, h5, h6, h7]
  simp only [Cond.before, Cond.holds, Cond.value, he]
  cases v <;> simp_all [Value.isRef]
theorem vx_isRefq {C n d : String} {A : Nat → Prop} {s : State} {args : Array Value} (h : va_Zq C n d A s s.heap) : (Cond.isRef (.static C n d)).before args s = true := by
  rcases h with h | ⟨t, h⟩
  · exact vx_isRef h rfl
  · exact vx_isRef h rfl
/-- words that the tables alone decide, but that aren't among the good ones -/
def th_bad : List Cond := [.declares (Bundle.init0 "java/lang/RuntimeException"), .declares (Bundle.init0 "java/lang/Exception"), .declares (Bundle.init0 Bundle.tN), .castable "java/lang/IllegalStateException" "java/lang/IllegalStateException", .castable "java/lang/IllegalArgumentException" "java/lang/IllegalArgumentException", .castable "java/lang/IndexOutOfBoundsException" "java/lang/IndexOutOfBoundsException", .castable "java/util/NoSuchElementException" "java/util/NoSuchElementException"]
theorem th_bad_ok : ∀ w ∈ th_bad, w.onTables = true ∧ w.keepsFace = true := by decide
theorem th_face {args a' : Array Value} {s U : State} {w : Cond} (hW : s.WarmedH U.vm) (h1 : w.onTables = true) (h2 : w.keepsFace = true) (h : w.before args s = true) : w.before a' U = true :=
  va_tabs (u := s.setVm U.vm) h1 rfl (Cond.before_shiftedFace (State.Shifted.of_warmed hW) _ h2 h)
def th_N (U : State) : Prop := (∀ w ∈ th_bad, w.before #[] U = true) ∧ va_AO "DraftTree$State" U ∧ va_Nc "java/lang/IndexOutOfBoundsException" "java/lang/IllegalArgumentException" U
theorem th_N.warm {s U : State} (hW : s.WarmedH U.vm) (h : th_N s) : th_N U := ⟨fun w hw => th_face hW (th_bad_ok w hw).1 (th_bad_ok w hw).2 (h.1 w hw), va_AO.moved hW.alike h.2.1, va_Nc.moved hW.alike h.2.2⟩
theorem th_N.calling {U : State} {g : JFrame} {mk : MethodId} {a : Array Value} (h : th_N U) : th_N (U.calling g mk a) := ⟨fun w hw => va_tabs (u := U) (th_bad_ok w hw).1 rfl (h.1 w hw), va_AO.moved (u := U) (U := U.calling g mk a) (Vm.Alike.refl U.vm) h.2.1, va_Nc.moved (u := U) (U := U.calling g mk a) (Vm.Alike.refl U.vm) h.2.2⟩
/-- what a throw needs of the start: the two statics of Throwable hold references, and words of the tables -/
def th_Zs (U : State) : Prop := vx_Zq Bundle.tN "UNASSIGNED_STACK" Bundle.steD (fun _ => False) U U.heap ∧ vx_Zq Bundle.tN "SUPPRESSED_SENTINEL" Bundle.listD (fun _ => False) U U.heap ∧ th_N U
def th_ZA (A : Nat → Prop) (s : State) : Prop := vx_Zq Bundle.tN "UNASSIGNED_STACK" Bundle.steD A s s.heap ∧ vx_Zq Bundle.tN "SUPPRESSED_SENTINEL" Bundle.listD A s s.heap ∧ th_N s
theorem th_Zs.calling {U : State} {g : JFrame} {mk : MethodId} {a : Array Value} (h : th_Zs U) : th_Zs (U.calling g mk a) :=
  ⟨vx_Zq.moved (u := U) (U := U.calling g mk a) (Vm.Alike.refl U.vm) h.1, vx_Zq.moved (u := U) (U := U.calling g mk a) (Vm.Alike.refl U.vm) h.2.1, h.2.2.calling⟩
theorem th_Zs.same {s U : State} (h : th_Zs s) (hU : U.heap = s.heap) (hW : s.WarmedH U.vm) : th_Zs U := by
  refine ⟨?_, ?_, h.2.2.warm hW⟩
  · rw [hU]; exact vx_Zq.moved hW.alike h.1
  · rw [hU]; exact vx_Zq.moved hW.alike h.2.1
theorem th_ZA.of {A : Nat → Prop} {s U : State} {H : Heap} {locs : List Loc} (h : th_ZA A s) (hS : va_S A s.heap H locs) (hU : U.heap = H) (hW : s.WarmedH U.vm) : th_Zs U := by
  refine ⟨?_, ?_, h.2.2.warm hW⟩
  · rw [hU]; exact vx_Zq.moved hW.alike ((h.1.kept hS.2.1).narrow (fun _ z => z.elim))
  · rw [hU]; exact vx_Zq.moved hW.alike ((h.2.1.kept hS.2.1).narrow (fun _ z => z.elim))
/-- the words of a throw: the good ones, four of the heap, and those of th_bad -/
theorem th_atoms {args : Array Value} {s : State} (hZ : th_Zs s) {L : List Cond} (h : ∀ w ∈ L, w.before args s = true ∨ w = .isRef (.static Bundle.tN "UNASSIGNED_STACK" Bundle.steD) ∨ w = .isRef (.static Bundle.tN "SUPPRESSED_SENTINEL" Bundle.listD) ∨ w = .laysStatic Bundle.tN "UNASSIGNED_STACK" Bundle.steD ∨ w = .laysStatic Bundle.tN "SUPPRESSED_SENTINEL" Bundle.listD ∨ w ∈ th_bad) : ∀ w ∈ L, w.before args s = true := by
  intro w hw
  rcases h w hw with h | rfl | rfl | rfl | rfl | h
  · exact h
  · exact vx_isRefq hZ.1.1
  · exact vx_isRefq hZ.2.1.1
  · exact hZ.1.2.word
  · exact hZ.2.1.2.word
  · exact va_tabs (th_bad_ok w h).1 rfl (hZ.2.2.1 w h)
end ThrowKit
section WalkKit
variable {p : Program} {l : Launch} {e : Env} {R : Room} {s : State} {m : MethodId} {args : Array Value} {below : List Frame} {meth : Method} {c : Code} {H : Heap} {locs : List Loc} {cells slots : Nat} {Q : State → Prop}
theorem wk_top {v w : Value} {pc : Nat} {ls : Array Slot} {rest : List Value} (h : v = w) (k : W p l e R s m args below meth c H locs cells slots Q (F0 m pc ls (w :: rest))) : W p l e R s m args below meth c H locs cells slots Q (F0 m pc ls (v :: rest)) := by
  subst h
  exact k
theorem wk_in {x : Int32} {n : Nat} (h : decide (x < 0 ∨ n ≤ x.toNatClampNeg) = false) : vp_in x n := of_decide_eq_false h
theorem wk_eq {x c : Int32} (n : Int) (hc : c.toInt = n) : x = c ↔ x.toInt = n := by subst hc; exact Int32.toInt_inj.symm
theorem wk_qe {x c : Int32} (n : Int) (hc : c.toInt = n) : c = x ↔ x.toInt = n := by subst hc; exact ⟨fun h => by rw [h], fun h => (Int32.toInt_inj.mp h).symm⟩
theorem wk_lt {x c : Int32} (n : Int) (hc : c.toInt = n) : x < c ↔ x.toInt < n := by subst hc; exact Int32.lt_iff_toInt_lt
theorem wk_gt {x c : Int32} (n : Int) (hc : c.toInt = n) : c < x ↔ x.toInt > n := by subst hc; exact Int32.lt_iff_toInt_lt
theorem wk_le {x c : Int32} (n : Int) (hc : c.toInt = n) : x ≤ c ↔ x.toInt ≤ n := by subst hc; exact Int32.le_iff_toInt_le
theorem wk_ge {x c : Int32} (n : Int) (hc : c.toInt = n) : c ≤ x ↔ x.toInt ≥ n := by subst hc; exact Int32.le_iff_toInt_le
theorem wk_and31 (x : Int32) : ∃ z : Int32, x &&& 31 = z ∧ 0 ≤ z.toInt ∧ z.toInt ≤ 31 := by
  obtain ⟨j, hj, h⟩ := pk_andE x (m := 31) 5 (by decide)
  refine ⟨nI j, h, ?_⟩
  rw [nI_toInt (by omega)]
  omega
end WalkKit
end
section
abbrev R_D : String := "DraftTree"
def F_D : u_T := fun k => match k with
  | 0 => ("DraftTree", "slip", "[C", true)
  | 1 => ("DraftTree", "slipSize", "I", false)
  | 2 => ("DraftTree", "states", "[LDraftTree$State;", true)
  | 3 => ("DraftTree", "stateCount", "I", false)
  | 4 => ("DraftTree", "present", "I", false)
  | 5 => ("DraftTree", "text", "[C", false)
  | 6 => ("DraftTree", "cursor", "I", false)
  | 7 => ("DraftTree", "mark", "I", false)
  | 8 => ("DraftTree", "reader", "LDraftTree$PatternReader;", true)
  | 9 => ("DraftTree", "pattern", "LDraftTree$Automaton;", false)
  | 10 => ("DraftTree", "hasPattern", "Z", false)
  | 11 => ("DraftTree", "latestFault", "I", false)
  | 12 => ("DraftTree", "matchStarts", "[I", true)
  | _ => ("DraftTree", "matchEnds", "[I", true)
def t_D : Nat → FieldType := fun k => match k with
  | 0 => .array .char
  | 1 => .int
  | 2 => .array (.object "DraftTree$State")
  | 3 => .int
  | 4 => .int
  | 5 => .array .char
  | 6 => .int
  | 7 => .int
  | 8 => .object "DraftTree$PatternReader"
  | 9 => .object "DraftTree$Automaton"
  | 10 => .boolean
  | 11 => .int
  | 12 => .array .int
  | _ => .array .int
theorem n_D : ∀ a, a < 14 → ∀ b, b < 14 → a ≠ b → (F_D a).2.1 ≠ (F_D b).2.1 := by decide +kernel
theorem tk_D : ∀ k, k < 14 → parseFieldDescriptor (F_D k).2.2.1 = some (t_D k) := by decide +kernel
abbrev R_S : String := "DraftTree$State"
def F_S : u_T := fun k => match k with
  | 0 => ("DraftTree$State", "text", "[C", true)
  | 1 => ("DraftTree$State", "origin", "I", true)
  | 2 => ("DraftTree$State", "place", "I", false)
  | _ => ("DraftTree$State", "latestChild", "I", false)
def t_S : Nat → FieldType := fun k => match k with
  | 0 => .array .char
  | 1 => .int
  | 2 => .int
  | _ => .int
theorem n_S : ∀ a, a < 4 → ∀ b, b < 4 → a ≠ b → (F_S a).2.1 ≠ (F_S b).2.1 := by decide +kernel
theorem tk_S : ∀ k, k < 4 → parseFieldDescriptor (F_S k).2.2.1 = some (t_S k) := by decide +kernel
abbrev R_P : String := "DraftTree$PatternReader"
def F_P : u_T := fun k => match k with
  | 0 => ("DraftTree$PatternReader", "choiceStarts", "[I", true)
  | 1 => ("DraftTree$PatternReader", "choiceEnds", "[I", true)
  | 2 => ("DraftTree$PatternReader", "rowHeads", "[I", true)
  | 3 => ("DraftTree$PatternReader", "outerTails", "[I", true)
  | 4 => ("DraftTree$PatternReader", "made", "LDraftTree$Automaton;", false)
  | 5 => ("DraftTree$PatternReader", "source", "[C", false)
  | 6 => ("DraftTree$PatternReader", "size", "I", false)
  | 7 => ("DraftTree$PatternReader", "position", "I", false)
  | 8 => ("DraftTree$PatternReader", "depth", "I", false)
  | 9 => ("DraftTree$PatternReader", "fault", "I", false)
  | 10 => ("DraftTree$PatternReader", "lead", "I", false)
  | 11 => ("DraftTree$PatternReader", "first", "I", false)
  | _ => ("DraftTree$PatternReader", "tail", "I", false)
def t_P : Nat → FieldType := fun k => match k with
  | 0 => .array .int
  | 1 => .array .int
  | 2 => .array .int
  | 3 => .array .int
  | 4 => .object "DraftTree$Automaton"
  | 5 => .array .char
  | 6 => .int
  | 7 => .int
  | 8 => .int
  | 9 => .int
  | 10 => .int
  | 11 => .int
  | _ => .int
theorem n_P : ∀ a, a < 13 → ∀ b, b < 13 → a ≠ b → (F_P a).2.1 ≠ (F_P b).2.1 := by decide +kernel
theorem tk_P : ∀ k, k < 13 → parseFieldDescriptor (F_P k).2.2.1 = some (t_P k) := by decide +kernel
abbrev R_A : String := "DraftTree$Automaton"
def F_A : u_T := fun k => match k with
  | 0 => ("DraftTree$Automaton", "kinds", "[I", true)
  | 1 => ("DraftTree$Automaton", "next", "[I", true)
  | 2 => ("DraftTree$Automaton", "other", "[I", true)
  | 3 => ("DraftTree$Automaton", "lowCodes", "[J", true)
  | 4 => ("DraftTree$Automaton", "highCodes", "[J", true)
  | 5 => ("DraftTree$Automaton", "size", "I", false)
  | 6 => ("DraftTree$Automaton", "start", "I", false)
  | 7 => ("DraftTree$Automaton", "goal", "I", false)
  | 8 => ("DraftTree$Automaton", "matchStart", "I", false)
  | _ => ("DraftTree$Automaton", "matchEnd", "I", false)
def t_A : Nat → FieldType := fun k => match k with
  | 0 => .array .int
  | 1 => .array .int
  | 2 => .array .int
  | 3 => .array .long
  | 4 => .array .long
  | 5 => .int
  | 6 => .int
  | 7 => .int
  | 8 => .int
  | _ => .int
theorem n_A : ∀ a, a < 10 → ∀ b, b < 10 → a ≠ b → (F_A a).2.1 ≠ (F_A b).2.1 := by decide +kernel
theorem tk_A : ∀ k, k < 10 → parseFieldDescriptor (F_A k).2.2.1 = some (t_A k) := by decide +kernel
abbrev R_M : String := "DraftTreeModel"
def F_M : u_T := fun k => match k with
  | 0 => ("DraftTreeModel", "code", "I", false)
  | 1 => ("DraftTreeModel", "typed", "I", false)
  | 2 => ("DraftTreeModel", "slip", "[C", true)
  | 3 => ("DraftTreeModel", "states", "I", false)
  | 4 => ("DraftTreeModel", "present", "I", false)
  | 5 => ("DraftTreeModel", "texts", "[C", true)
  | 6 => ("DraftTreeModel", "lengths", "[I", true)
  | 7 => ("DraftTreeModel", "places", "[I", true)
  | 8 => ("DraftTreeModel", "parents", "[I", true)
  | 9 => ("DraftTreeModel", "came", "[I", true)
  | 10 => ("DraftTreeModel", "clock", "I", false)
  | 11 => ("DraftTreeModel", "cursor", "I", false)
  | 12 => ("DraftTreeModel", "mark", "I", false)
  | 13 => ("DraftTreeModel", "compiled", "Z", false)
  | 14 => ("DraftTreeModel", "wrongAt", "I", false)
  | 15 => ("DraftTreeModel", "size", "I", false)
  | 16 => ("DraftTreeModel", "pattern", "[C", true)
  | 17 => ("DraftTreeModel", "nodes", "I", false)
  | 18 => ("DraftTreeModel", "kind", "[I", true)
  | 19 => ("DraftTreeModel", "from", "[I", true)
  | 20 => ("DraftTreeModel", "to", "[I", true)
  | 21 => ("DraftTreeModel", "one", "[I", true)
  | 22 => ("DraftTreeModel", "two", "[I", true)
  | 23 => ("DraftTreeModel", "first", "I", false)
  | 24 => ("DraftTreeModel", "last", "I", false)
  | 25 => ("DraftTreeModel", "pieces", "I", false)
  | 26 => ("DraftTreeModel", "head", "[I", true)
  | 27 => ("DraftTreeModel", "tail", "[I", true)
  | 28 => ("DraftTreeModel", "open", "I", false)
  | 29 => ("DraftTreeModel", "choice", "[I", true)
  | 30 => ("DraftTreeModel", "row", "[I", true)
  | 31 => ("DraftTreeModel", "part", "[I", true)
  | 32 => ("DraftTreeModel", "here", "[Z", true)
  | 33 => ("DraftTreeModel", "then", "[Z", true)
  | 34 => ("DraftTreeModel", "foundAt", "I", false)
  | 35 => ("DraftTreeModel", "foundEnd", "I", false)
  | 36 => ("DraftTreeModel", "made", "I", false)
  | _ => ("DraftTreeModel", "draft", "[C", true)
def t_M : Nat → FieldType := fun k => match k with
  | 0 => .int
  | 1 => .int
  | 2 => .array .char
  | 3 => .int
  | 4 => .int
  | 5 => .array .char
  | 6 => .array .int
  | 7 => .array .int
  | 8 => .array .int
  | 9 => .array .int
  | 10 => .int
  | 11 => .int
  | 12 => .int
  | 13 => .boolean
  | 14 => .int
  | 15 => .int
  | 16 => .array .char
  | 17 => .int
  | 18 => .array .int
  | 19 => .array .int
  | 20 => .array .int
  | 21 => .array .int
  | 22 => .array .int
  | 23 => .int
  | 24 => .int
  | 25 => .int
  | 26 => .array .int
  | 27 => .array .int
  | 28 => .int
  | 29 => .array .int
  | 30 => .array .int
  | 31 => .array .int
  | 32 => .array .boolean
  | 33 => .array .boolean
  | 34 => .int
  | 35 => .int
  | 36 => .int
  | _ => .array .char
theorem n_M : ∀ a, a < 38 → ∀ b, b < 38 → a ≠ b → (F_M a).2.1 ≠ (F_M b).2.1 := by decide +kernel
theorem tk_M : ∀ k, k < 38 → parseFieldDescriptor (F_M k).2.2.1 = some (t_M k) := by decide +kernel
abbrev R_L : String := "DraftTreeLaw"
abbrev vwCl : List vw_C := [(R_D, F_D, 14), (R_S, F_S, 4), (R_P, F_P, 13), (R_A, F_A, 10), (R_M, F_M, 38)]
abbrev y_A_addNode : MethodName := ⟨"DraftTree$Automaton", "addNode", "(I)I"⟩
abbrev y_A_init : MethodName := ⟨"DraftTree$Automaton", "<init>", "()V"⟩
abbrev y_D_at : MethodName := ⟨"DraftTree", "at", "(I)C"⟩
abbrev y_D_breaksBefore : MethodName := ⟨"DraftTree", "breaksBefore", "(I)I"⟩
abbrev y_D_compile : MethodName := ⟨"DraftTree", "compile", "()V"⟩
abbrev y_D_erase : MethodName := ⟨"DraftTree", "erase", "(I)I"⟩
abbrev y_D_fault : MethodName := ⟨"DraftTree", "fault", "()I"⟩
abbrev y_D_figure : MethodName := ⟨"DraftTree", "figure", "(I)I"⟩
abbrev y_D_find : MethodName := ⟨"DraftTree", "find", "(I)I"⟩
abbrev y_D_go : MethodName := ⟨"DraftTree", "go", "(IZ)V"⟩
abbrev y_D_init : MethodName := ⟨"DraftTree", "<init>", "()V"⟩
abbrev y_D_insert : MethodName := ⟨"DraftTree", "insert", "()I"⟩
abbrev y_D_jump : MethodName := ⟨"DraftTree", "jump", "(I)V"⟩
abbrev y_D_length : MethodName := ⟨"DraftTree", "length", "()I"⟩
abbrev y_D_line : MethodName := ⟨"DraftTree", "line", "(II)I"⟩
abbrev y_D_lineBegin : MethodName := ⟨"DraftTree", "lineBegin", "(I)I"⟩
abbrev y_D_lineSize : MethodName := ⟨"DraftTree", "lineSize", "(I)I"⟩
abbrev y_D_moveTo : MethodName := ⟨"DraftTree", "moveTo", "(I)V"⟩
abbrev y_D_parent : MethodName := ⟨"DraftTree", "parent", "(I)I"⟩
abbrev y_D_redo : MethodName := ⟨"DraftTree", "redo", "()I"⟩
abbrev y_D_replace : MethodName := ⟨"DraftTree", "replace", "()I"⟩
abbrev y_D_requirePlace : MethodName := ⟨"DraftTree", "requirePlace", "(I)V"⟩
abbrev y_D_requireState : MethodName := ⟨"DraftTree", "requireState", "(I)V"⟩
abbrev y_D_selectionEnd : MethodName := ⟨"DraftTree", "selectionEnd", "()I"⟩
abbrev y_D_selectionStart : MethodName := ⟨"DraftTree", "selectionStart", "()I"⟩
abbrev y_D_type : MethodName := ⟨"DraftTree", "type", "(C)Z"⟩
abbrev y_D_undo : MethodName := ⟨"DraftTree", "undo", "()I"⟩
abbrev y_D_wipe : MethodName := ⟨"DraftTree", "wipe", "()I"⟩
abbrev y_L_at : MethodName := ⟨"DraftTreeLaw", "at", "(LDraftTree;I[J)I"⟩
abbrev y_L_compile : MethodName := ⟨"DraftTreeLaw", "compile", "(LDraftTree;)I"⟩
abbrev y_L_erase : MethodName := ⟨"DraftTreeLaw", "erase", "(LDraftTree;I[J)I"⟩
abbrev y_L_figure : MethodName := ⟨"DraftTreeLaw", "figure", "(LDraftTree;I[J)I"⟩
abbrev y_L_find : MethodName := ⟨"DraftTreeLaw", "find", "(LDraftTree;I[J)I"⟩
abbrev y_L_go : MethodName := ⟨"DraftTreeLaw", "go", "(LDraftTree;IZ)I"⟩
abbrev y_L_insert : MethodName := ⟨"DraftTreeLaw", "insert", "(LDraftTree;[J)I"⟩
abbrev y_L_jump : MethodName := ⟨"DraftTreeLaw", "jump", "(LDraftTree;I)I"⟩
abbrev y_L_line : MethodName := ⟨"DraftTreeLaw", "line", "(LDraftTree;II[J)I"⟩
abbrev y_L_parent : MethodName := ⟨"DraftTreeLaw", "parent", "(LDraftTree;I[J)I"⟩
abbrev y_L_redo : MethodName := ⟨"DraftTreeLaw", "redo", "(LDraftTree;[J)I"⟩
abbrev y_L_replace : MethodName := ⟨"DraftTreeLaw", "replace", "(LDraftTree;[J)I"⟩
abbrev y_L_undo : MethodName := ⟨"DraftTreeLaw", "undo", "(LDraftTree;[J)I"⟩
abbrev y_M_at : MethodName := ⟨"DraftTreeModel", "at", "(I)C"⟩
abbrev y_M_behind : MethodName := ⟨"DraftTreeModel", "behind", "(II)I"⟩
abbrev y_M_breaks : MethodName := ⟨"DraftTreeModel", "breaks", "(I)I"⟩
abbrev y_M_come : MethodName := ⟨"DraftTreeModel", "come", "(I)V"⟩
abbrev y_M_compile : MethodName := ⟨"DraftTreeModel", "compile", "()V"⟩
abbrev y_M_either : MethodName := ⟨"DraftTreeModel", "either", "(II)I"⟩
abbrev y_M_endRow : MethodName := ⟨"DraftTreeModel", "endRow", "()V"⟩
abbrev y_M_erase : MethodName := ⟨"DraftTreeModel", "erase", "(I)I"⟩
abbrev y_M_fault : MethodName := ⟨"DraftTreeModel", "fault", "()I"⟩
abbrev y_M_figure : MethodName := ⟨"DraftTreeModel", "figure", "(I)I"⟩
abbrev y_M_find : MethodName := ⟨"DraftTreeModel", "find", "(I)I"⟩
abbrev y_M_go : MethodName := ⟨"DraftTreeModel", "go", "(IZ)V"⟩
abbrev y_M_good : MethodName := ⟨"DraftTreeModel", "good", "()I"⟩
abbrev y_M_high : MethodName := ⟨"DraftTreeModel", "high", "()I"⟩
abbrev y_M_init : MethodName := ⟨"DraftTreeModel", "<init>", "()V"⟩
abbrev y_M_insert : MethodName := ⟨"DraftTreeModel", "insert", "()I"⟩
abbrev y_M_isCharacter : MethodName := ⟨"DraftTreeModel", "isCharacter", "(C)Z"⟩
abbrev y_M_jump : MethodName := ⟨"DraftTreeModel", "jump", "(I)V"⟩
abbrev y_M_length : MethodName := ⟨"DraftTreeModel", "length", "()I"⟩
abbrev y_M_line : MethodName := ⟨"DraftTreeModel", "line", "(II)I"⟩
abbrev y_M_lineStart : MethodName := ⟨"DraftTreeModel", "lineStart", "(I)I"⟩
abbrev y_M_low : MethodName := ⟨"DraftTreeModel", "low", "()I"⟩
abbrev y_M_node : MethodName := ⟨"DraftTreeModel", "node", "(III)I"⟩
abbrev y_M_nothing : MethodName := ⟨"DraftTreeModel", "nothing", "()I"⟩
abbrev y_M_openGroup : MethodName := ⟨"DraftTreeModel", "openGroup", "()V"⟩
abbrev y_M_parent : MethodName := ⟨"DraftTreeModel", "parent", "(I)I"⟩
abbrev y_M_piece : MethodName := ⟨"DraftTreeModel", "piece", "(II)I"⟩
abbrev y_M_redo : MethodName := ⟨"DraftTreeModel", "redo", "()I"⟩
abbrev y_M_replace : MethodName := ⟨"DraftTreeModel", "replace", "()I"⟩
abbrev y_M_textLength : MethodName := ⟨"DraftTreeModel", "textLength", "()I"⟩
abbrev y_M_thrown : MethodName := ⟨"DraftTreeModel", "thrown", "()I"⟩
abbrev y_M_type : MethodName := ⟨"DraftTreeModel", "type", "(C)Z"⟩
abbrev y_M_undo : MethodName := ⟨"DraftTreeModel", "undo", "()I"⟩
abbrev y_M_wipe : MethodName := ⟨"DraftTreeModel", "wipe", "()I"⟩
abbrev y_P_beginRow : MethodName := ⟨"DraftTree$PatternReader", "beginRow", "(I)V"⟩
abbrev y_P_finish : MethodName := ⟨"DraftTree$PatternReader", "finish", "()V"⟩
abbrev y_P_handOver : MethodName := ⟨"DraftTree$PatternReader", "handOver", "(LDraftTree$Automaton;)LDraftTree$Automaton;"⟩
abbrev y_P_init : MethodName := ⟨"DraftTree$PatternReader", "<init>", "()V"⟩
abbrev y_P_openChoice : MethodName := ⟨"DraftTree$PatternReader", "openChoice", "(I)V"⟩
abbrev y_P_read : MethodName := ⟨"DraftTree$PatternReader", "read", "([CI)I"⟩
abbrev y_S_init : MethodName := ⟨"DraftTree$State", "<init>", "([CII)V"⟩
end
section
def wk_l : List Cond := [
  (Jvm.Cond.laysFinal "DraftTree" "DraftTree" "slip" "[C"),
  (Jvm.Cond.lays "DraftTree" "DraftTree" "slipSize" "I"),
  (Jvm.Cond.laysFinal "DraftTree" "DraftTree" "states" "[LDraftTree$State;"),
  (Jvm.Cond.lays "DraftTree" "DraftTree" "stateCount" "I"),
  (Jvm.Cond.lays "DraftTree" "DraftTree" "present" "I"),
  (Jvm.Cond.lays "DraftTree" "DraftTree" "text" "[C"),
  (Jvm.Cond.lays "DraftTree" "DraftTree" "cursor" "I"),
  (Jvm.Cond.lays "DraftTree" "DraftTree" "mark" "I"),
  (Jvm.Cond.laysFinal "DraftTree" "DraftTree" "reader" "LDraftTree$PatternReader;"),
  (Jvm.Cond.lays "DraftTree" "DraftTree" "pattern" "LDraftTree$Automaton;"),
  (Jvm.Cond.lays "DraftTree" "DraftTree" "hasPattern" "Z"),
  (Jvm.Cond.lays "DraftTree" "DraftTree" "latestFault" "I"),
  (Jvm.Cond.laysFinal "DraftTree" "DraftTree" "matchStarts" "[I"),
  (Jvm.Cond.laysFinal "DraftTree" "DraftTree" "matchEnds" "[I"),
  (Jvm.Cond.classLink "DraftTreeLaw" (8 : Nat) "DraftTree"),
  (Jvm.Cond.instantiable "DraftTree" (14 : Nat)),
  (Jvm.Cond.initialized "DraftTree"),
  (Jvm.Cond.methodLink "DraftTree" (1 : Nat) ({ cls := "java/lang/Object", name := "<init>", desc := "()V" } : Jvm.MethodName)),
  (Jvm.Cond.instanceMethod ({ cls := "java/lang/Object", name := "<init>", desc := "()V" } : Jvm.MethodName)),
  (Jvm.Cond.code ({ cls := "java/lang/Object", name := "<init>", desc := "()V" } : Jvm.MethodName) object_method_1_code (1 : Nat) (Option.none : Option Jvm.ClassFile.FieldType)),
  (Jvm.Cond.arrayClass Jvm.ClassFile.FieldType.char),
  (Jvm.Cond.fieldLink "DraftTree" (9 : Nat) "DraftTree" "slip" "[C"),
  (Jvm.Cond.classLink "DraftTree" (13 : Nat) "DraftTree$State"),
  (Jvm.Cond.fieldLink "DraftTree" (15 : Nat) "DraftTree" "states" "[LDraftTree$State;"),
  (Jvm.Cond.fieldLink "DraftTree" (19 : Nat) "DraftTree" "text" "[C"),
  (Jvm.Cond.laysFinal "DraftTree$State" "DraftTree$State" "text" "[C"),
  (Jvm.Cond.laysFinal "DraftTree$State" "DraftTree$State" "origin" "I"),
  (Jvm.Cond.lays "DraftTree$State" "DraftTree$State" "place" "I"),
  (Jvm.Cond.lays "DraftTree$State" "DraftTree$State" "latestChild" "I"),
  (Jvm.Cond.instantiable "DraftTree$State" (4 : Nat)),
  (Jvm.Cond.initialized "DraftTree$State"),
  (Jvm.Cond.methodLink "DraftTree$State" (3 : Nat) ({ cls := "java/lang/Object", name := "<init>", desc := "()V" } : Jvm.MethodName)),
  (Jvm.Cond.fieldLink "DraftTree$State" (9 : Nat) "DraftTree$State" "text" "[C"),
  (Jvm.Cond.fieldLink "DraftTree$State" (15 : Nat) "DraftTree$State" "place" "I"),
  (Jvm.Cond.fieldLink "DraftTree$State" (19 : Nat) "DraftTree$State" "origin" "I"),
  (Jvm.Cond.fieldLink "DraftTree$State" (22 : Nat) "DraftTree$State" "latestChild" "I"),
  (Jvm.Cond.code ({ cls := "DraftTree$State", name := "<init>", desc := "([CII)V" } : Jvm.MethodName) prog_4_method_1_code (4 : Nat) (Option.none : Option Jvm.ClassFile.FieldType)),
  (Jvm.Cond.methodLink "DraftTree" (22 : Nat) ({ cls := "DraftTree$State", name := "<init>", desc := "([CII)V" } : Jvm.MethodName)),
  (Jvm.Cond.instanceMethod ({ cls := "DraftTree$State", name := "<init>", desc := "([CII)V" } : Jvm.MethodName)),
  (Jvm.Cond.fieldLink "DraftTree" (25 : Nat) "DraftTree" "stateCount" "I"),
  (Jvm.Cond.fieldLink "DraftTree" (29 : Nat) "DraftTree" "mark" "I"),
  (Jvm.Cond.laysFinal "DraftTree$PatternReader" "DraftTree$PatternReader" "choiceStarts" "[I"),
  (Jvm.Cond.laysFinal "DraftTree$PatternReader" "DraftTree$PatternReader" "choiceEnds" "[I"),
  (Jvm.Cond.laysFinal "DraftTree$PatternReader" "DraftTree$PatternReader" "rowHeads" "[I"),
  (Jvm.Cond.laysFinal "DraftTree$PatternReader" "DraftTree$PatternReader" "outerTails" "[I"),
  (Jvm.Cond.lays "DraftTree$PatternReader" "DraftTree$PatternReader" "made" "LDraftTree$Automaton;"),
  (Jvm.Cond.lays "DraftTree$PatternReader" "DraftTree$PatternReader" "source" "[C"),
  (Jvm.Cond.lays "DraftTree$PatternReader" "DraftTree$PatternReader" "size" "I"),
  (Jvm.Cond.lays "DraftTree$PatternReader" "DraftTree$PatternReader" "position" "I"),
  (Jvm.Cond.lays "DraftTree$PatternReader" "DraftTree$PatternReader" "depth" "I"),
  (Jvm.Cond.lays "DraftTree$PatternReader" "DraftTree$PatternReader" "fault" "I"),
  (Jvm.Cond.lays "DraftTree$PatternReader" "DraftTree$PatternReader" "lead" "I"),
  (Jvm.Cond.lays "DraftTree$PatternReader" "DraftTree$PatternReader" "first" "I"),
  (Jvm.Cond.lays "DraftTree$PatternReader" "DraftTree$PatternReader" "tail" "I"),
  (Jvm.Cond.classLink "DraftTree" (32 : Nat) "DraftTree$PatternReader"),
  (Jvm.Cond.instantiable "DraftTree$PatternReader" (13 : Nat)),
  (Jvm.Cond.initialized "DraftTree$PatternReader"),
  (Jvm.Cond.methodLink "DraftTree$PatternReader" (3 : Nat) ({ cls := "java/lang/Object", name := "<init>", desc := "()V" } : Jvm.MethodName)),
  (Jvm.Cond.arrayClass Jvm.ClassFile.FieldType.int),
  (Jvm.Cond.fieldLink "DraftTree$PatternReader" (9 : Nat) "DraftTree$PatternReader" "choiceStarts" "[I"),
  (Jvm.Cond.fieldLink "DraftTree$PatternReader" (15 : Nat) "DraftTree$PatternReader" "choiceEnds" "[I"),
  (Jvm.Cond.fieldLink "DraftTree$PatternReader" (18 : Nat) "DraftTree$PatternReader" "rowHeads" "[I"),
  (Jvm.Cond.fieldLink "DraftTree$PatternReader" (21 : Nat) "DraftTree$PatternReader" "outerTails" "[I"),
  (Jvm.Cond.laysFinal "DraftTree$Automaton" "DraftTree$Automaton" "kinds" "[I"),
  (Jvm.Cond.laysFinal "DraftTree$Automaton" "DraftTree$Automaton" "next" "[I"),
  (Jvm.Cond.laysFinal "DraftTree$Automaton" "DraftTree$Automaton" "other" "[I"),
  (Jvm.Cond.laysFinal "DraftTree$Automaton" "DraftTree$Automaton" "lowCodes" "[J"),
  (Jvm.Cond.laysFinal "DraftTree$Automaton" "DraftTree$Automaton" "highCodes" "[J"),
  (Jvm.Cond.lays "DraftTree$Automaton" "DraftTree$Automaton" "size" "I"),
  (Jvm.Cond.lays "DraftTree$Automaton" "DraftTree$Automaton" "start" "I"),
  (Jvm.Cond.lays "DraftTree$Automaton" "DraftTree$Automaton" "goal" "I"),
  (Jvm.Cond.lays "DraftTree$Automaton" "DraftTree$Automaton" "matchStart" "I"),
  (Jvm.Cond.lays "DraftTree$Automaton" "DraftTree$Automaton" "matchEnd" "I"),
  (Jvm.Cond.classLink "DraftTree$PatternReader" (24 : Nat) "DraftTree$Automaton"),
  (Jvm.Cond.instantiable "DraftTree$Automaton" (10 : Nat)),
  (Jvm.Cond.initialized "DraftTree$Automaton"),
  (Jvm.Cond.methodLink "DraftTree$Automaton" (3 : Nat) ({ cls := "java/lang/Object", name := "<init>", desc := "()V" } : Jvm.MethodName)),
  (Jvm.Cond.fieldLink "DraftTree$Automaton" (11 : Nat) "DraftTree$Automaton" "kinds" "[I"),
  (Jvm.Cond.fieldLink "DraftTree$Automaton" (15 : Nat) "DraftTree$Automaton" "next" "[I"),
  (Jvm.Cond.fieldLink "DraftTree$Automaton" (18 : Nat) "DraftTree$Automaton" "other" "[I"),
  (Jvm.Cond.arrayClass Jvm.ClassFile.FieldType.long),
  (Jvm.Cond.fieldLink "DraftTree$Automaton" (21 : Nat) "DraftTree$Automaton" "lowCodes" "[J"),
  (Jvm.Cond.fieldLink "DraftTree$Automaton" (25 : Nat) "DraftTree$Automaton" "highCodes" "[J"),
  (Jvm.Cond.code ({ cls := "DraftTree$Automaton", name := "<init>", desc := "()V" } : Jvm.MethodName) prog_2_method_1_code (1 : Nat) (Option.none : Option Jvm.ClassFile.FieldType)),
  (Jvm.Cond.methodLink "DraftTree$PatternReader" (26 : Nat) ({ cls := "DraftTree$Automaton", name := "<init>", desc := "()V" } : Jvm.MethodName)),
  (Jvm.Cond.instanceMethod ({ cls := "DraftTree$Automaton", name := "<init>", desc := "()V" } : Jvm.MethodName)),
  (Jvm.Cond.fieldLink "DraftTree$PatternReader" (27 : Nat) "DraftTree$PatternReader" "made" "LDraftTree$Automaton;"),
  (Jvm.Cond.fieldLink "DraftTree$PatternReader" (31 : Nat) "DraftTree$PatternReader" "source" "[C"),
  (Jvm.Cond.code ({ cls := "DraftTree$PatternReader", name := "<init>", desc := "()V" } : Jvm.MethodName) prog_3_method_1_code (1 : Nat) (Option.none : Option Jvm.ClassFile.FieldType)),
  (Jvm.Cond.methodLink "DraftTree" (34 : Nat) ({ cls := "DraftTree$PatternReader", name := "<init>", desc := "()V" } : Jvm.MethodName)),
  (Jvm.Cond.instanceMethod ({ cls := "DraftTree$PatternReader", name := "<init>", desc := "()V" } : Jvm.MethodName)),
  (Jvm.Cond.fieldLink "DraftTree" (35 : Nat) "DraftTree" "reader" "LDraftTree$PatternReader;"),
  (Jvm.Cond.classLink "DraftTree" (39 : Nat) "DraftTree$Automaton"),
  (Jvm.Cond.methodLink "DraftTree" (41 : Nat) ({ cls := "DraftTree$Automaton", name := "<init>", desc := "()V" } : Jvm.MethodName)),
  (Jvm.Cond.fieldLink "DraftTree" (42 : Nat) "DraftTree" "pattern" "LDraftTree$Automaton;"),
  (Jvm.Cond.fieldLink "DraftTree" (46 : Nat) "DraftTree" "latestFault" "I"),
  (Jvm.Cond.fieldLink "DraftTree" (49 : Nat) "DraftTree" "matchStarts" "[I"),
  (Jvm.Cond.fieldLink "DraftTree" (53 : Nat) "DraftTree" "matchEnds" "[I"),
  (Jvm.Cond.code ({ cls := "DraftTree", name := "<init>", desc := "()V" } : Jvm.MethodName) prog_1_method_1_code (1 : Nat) (Option.none : Option Jvm.ClassFile.FieldType)),
  (Jvm.Cond.methodLink "DraftTreeLaw" (62 : Nat) ({ cls := "DraftTree", name := "<init>", desc := "()V" } : Jvm.MethodName)),
  (Jvm.Cond.instanceMethod ({ cls := "DraftTree", name := "<init>", desc := "()V" } : Jvm.MethodName)),
  (Jvm.Cond.lays "DraftTreeModel" "DraftTreeModel" "code" "I"),
  (Jvm.Cond.lays "DraftTreeModel" "DraftTreeModel" "typed" "I"),
  (Jvm.Cond.laysFinal "DraftTreeModel" "DraftTreeModel" "slip" "[C"),
  (Jvm.Cond.lays "DraftTreeModel" "DraftTreeModel" "states" "I"),
  (Jvm.Cond.lays "DraftTreeModel" "DraftTreeModel" "present" "I"),
  (Jvm.Cond.laysFinal "DraftTreeModel" "DraftTreeModel" "texts" "[C"),
  (Jvm.Cond.laysFinal "DraftTreeModel" "DraftTreeModel" "lengths" "[I"),
  (Jvm.Cond.laysFinal "DraftTreeModel" "DraftTreeModel" "places" "[I"),
  (Jvm.Cond.laysFinal "DraftTreeModel" "DraftTreeModel" "parents" "[I"),
  (Jvm.Cond.laysFinal "DraftTreeModel" "DraftTreeModel" "came" "[I"),
  (Jvm.Cond.lays "DraftTreeModel" "DraftTreeModel" "clock" "I"),
  (Jvm.Cond.lays "DraftTreeModel" "DraftTreeModel" "cursor" "I"),
  (Jvm.Cond.lays "DraftTreeModel" "DraftTreeModel" "mark" "I"),
  (Jvm.Cond.lays "DraftTreeModel" "DraftTreeModel" "compiled" "Z"),
  (Jvm.Cond.lays "DraftTreeModel" "DraftTreeModel" "wrongAt" "I"),
  (Jvm.Cond.lays "DraftTreeModel" "DraftTreeModel" "size" "I"),
  (Jvm.Cond.laysFinal "DraftTreeModel" "DraftTreeModel" "pattern" "[C"),
  (Jvm.Cond.lays "DraftTreeModel" "DraftTreeModel" "nodes" "I"),
  (Jvm.Cond.laysFinal "DraftTreeModel" "DraftTreeModel" "kind" "[I"),
  (Jvm.Cond.laysFinal "DraftTreeModel" "DraftTreeModel" "from" "[I"),
  (Jvm.Cond.laysFinal "DraftTreeModel" "DraftTreeModel" "to" "[I"),
  (Jvm.Cond.laysFinal "DraftTreeModel" "DraftTreeModel" "one" "[I"),
  (Jvm.Cond.laysFinal "DraftTreeModel" "DraftTreeModel" "two" "[I"),
  (Jvm.Cond.lays "DraftTreeModel" "DraftTreeModel" "first" "I"),
  (Jvm.Cond.lays "DraftTreeModel" "DraftTreeModel" "last" "I"),
  (Jvm.Cond.lays "DraftTreeModel" "DraftTreeModel" "pieces" "I"),
  (Jvm.Cond.laysFinal "DraftTreeModel" "DraftTreeModel" "head" "[I"),
  (Jvm.Cond.laysFinal "DraftTreeModel" "DraftTreeModel" "tail" "[I"),
  (Jvm.Cond.lays "DraftTreeModel" "DraftTreeModel" "open" "I"),
  (Jvm.Cond.laysFinal "DraftTreeModel" "DraftTreeModel" "choice" "[I"),
  (Jvm.Cond.laysFinal "DraftTreeModel" "DraftTreeModel" "row" "[I"),
  (Jvm.Cond.laysFinal "DraftTreeModel" "DraftTreeModel" "part" "[I"),
  (Jvm.Cond.laysFinal "DraftTreeModel" "DraftTreeModel" "here" "[Z"),
  (Jvm.Cond.laysFinal "DraftTreeModel" "DraftTreeModel" "then" "[Z"),
  (Jvm.Cond.lays "DraftTreeModel" "DraftTreeModel" "foundAt" "I"),
  (Jvm.Cond.lays "DraftTreeModel" "DraftTreeModel" "foundEnd" "I"),
  (Jvm.Cond.lays "DraftTreeModel" "DraftTreeModel" "made" "I"),
  (Jvm.Cond.laysFinal "DraftTreeModel" "DraftTreeModel" "draft" "[C"),
  (Jvm.Cond.classLink "DraftTreeLaw" (63 : Nat) "DraftTreeModel"),
  (Jvm.Cond.instantiable "DraftTreeModel" (38 : Nat)),
  (Jvm.Cond.initialized "DraftTreeModel"),
  (Jvm.Cond.methodLink "DraftTreeModel" (1 : Nat) ({ cls := "java/lang/Object", name := "<init>", desc := "()V" } : Jvm.MethodName)),
  (Jvm.Cond.fieldLink "DraftTreeModel" (7 : Nat) "DraftTreeModel" "slip" "[C"),
  (Jvm.Cond.fieldLink "DraftTreeModel" (13 : Nat) "DraftTreeModel" "states" "I"),
  (Jvm.Cond.fieldLink "DraftTreeModel" (17 : Nat) "DraftTreeModel" "texts" "[C"),
  (Jvm.Cond.fieldLink "DraftTreeModel" (20 : Nat) "DraftTreeModel" "lengths" "[I"),
  (Jvm.Cond.fieldLink "DraftTreeModel" (24 : Nat) "DraftTreeModel" "places" "[I"),
  (Jvm.Cond.fieldLink "DraftTreeModel" (27 : Nat) "DraftTreeModel" "parents" "[I"),
  (Jvm.Cond.fieldLink "DraftTreeModel" (30 : Nat) "DraftTreeModel" "came" "[I"),
  (Jvm.Cond.fieldLink "DraftTreeModel" (33 : Nat) "DraftTreeModel" "mark" "I"),
  (Jvm.Cond.fieldLink "DraftTreeModel" (36 : Nat) "DraftTreeModel" "wrongAt" "I"),
  (Jvm.Cond.fieldLink "DraftTreeModel" (39 : Nat) "DraftTreeModel" "pattern" "[C"),
  (Jvm.Cond.fieldLink "DraftTreeModel" (42 : Nat) "DraftTreeModel" "kind" "[I"),
  (Jvm.Cond.fieldLink "DraftTreeModel" (45 : Nat) "DraftTreeModel" "from" "[I"),
  (Jvm.Cond.fieldLink "DraftTreeModel" (48 : Nat) "DraftTreeModel" "to" "[I"),
  (Jvm.Cond.fieldLink "DraftTreeModel" (51 : Nat) "DraftTreeModel" "one" "[I"),
  (Jvm.Cond.fieldLink "DraftTreeModel" (54 : Nat) "DraftTreeModel" "two" "[I"),
  (Jvm.Cond.fieldLink "DraftTreeModel" (57 : Nat) "DraftTreeModel" "head" "[I"),
  (Jvm.Cond.fieldLink "DraftTreeModel" (60 : Nat) "DraftTreeModel" "tail" "[I"),
  (Jvm.Cond.fieldLink "DraftTreeModel" (63 : Nat) "DraftTreeModel" "choice" "[I"),
  (Jvm.Cond.fieldLink "DraftTreeModel" (66 : Nat) "DraftTreeModel" "row" "[I"),
  (Jvm.Cond.fieldLink "DraftTreeModel" (69 : Nat) "DraftTreeModel" "part" "[I"),
  (Jvm.Cond.arrayClass Jvm.ClassFile.FieldType.boolean),
  (Jvm.Cond.fieldLink "DraftTreeModel" (72 : Nat) "DraftTreeModel" "here" "[Z"),
  (Jvm.Cond.fieldLink "DraftTreeModel" (76 : Nat) "DraftTreeModel" "then" "[Z"),
  (Jvm.Cond.fieldLink "DraftTreeModel" (79 : Nat) "DraftTreeModel" "draft" "[C"),
  (Jvm.Cond.code ({ cls := "DraftTreeModel", name := "<init>", desc := "()V" } : Jvm.MethodName) prog_6_method_1_code (1 : Nat) (Option.none : Option Jvm.ClassFile.FieldType)),
  (Jvm.Cond.methodLink "DraftTreeLaw" (65 : Nat) ({ cls := "DraftTreeModel", name := "<init>", desc := "()V" } : Jvm.MethodName)),
  (Jvm.Cond.instanceMethod ({ cls := "DraftTreeModel", name := "<init>", desc := "()V" } : Jvm.MethodName)),
  (Jvm.Cond.fieldLink "DraftTree" (56 : Nat) "DraftTree" "slipSize" "I"),
  (Jvm.Cond.code ({ cls := "DraftTree", name := "type", desc := "(C)Z" } : Jvm.MethodName) prog_1_method_2_code (3 : Nat) (Option.some Jvm.ClassFile.FieldType.boolean)),
  (Jvm.Cond.methodLink "DraftTreeLaw" (66 : Nat) ({ cls := "DraftTree", name := "type", desc := "(C)Z" } : Jvm.MethodName)),
  (Jvm.Cond.instanceMethod ({ cls := "DraftTree", name := "type", desc := "(C)Z" } : Jvm.MethodName)),
  (Jvm.Cond.selects "DraftTree" ({ cls := "DraftTree", name := "type", desc := "(C)Z" } : Jvm.MethodName) ({ cls := "DraftTree", name := "type", desc := "(C)Z" } : Jvm.MethodName)),
  (Jvm.Cond.fieldLink "DraftTreeModel" (82 : Nat) "DraftTreeModel" "code" "I"),
  (Jvm.Cond.code ({ cls := "DraftTreeModel", name := "isCharacter", desc := "(C)Z" } : Jvm.MethodName) prog_6_method_3_code (1 : Nat) (Option.some Jvm.ClassFile.FieldType.boolean)),
  (Jvm.Cond.methodLink "DraftTreeModel" (85 : Nat) ({ cls := "DraftTreeModel", name := "isCharacter", desc := "(C)Z" } : Jvm.MethodName)),
  (Jvm.Cond.static ({ cls := "DraftTreeModel", name := "isCharacter", desc := "(C)Z" } : Jvm.MethodName)),
  (Jvm.Cond.fieldLink "DraftTreeModel" (89 : Nat) "DraftTreeModel" "typed" "I"),
  (Jvm.Cond.code ({ cls := "DraftTreeModel", name := "type", desc := "(C)Z" } : Jvm.MethodName) prog_6_method_4_code (2 : Nat) (Option.some Jvm.ClassFile.FieldType.boolean)),
  (Jvm.Cond.methodLink "DraftTreeLaw" (70 : Nat) ({ cls := "DraftTreeModel", name := "type", desc := "(C)Z" } : Jvm.MethodName)),
  (Jvm.Cond.instanceMethod ({ cls := "DraftTreeModel", name := "type", desc := "(C)Z" } : Jvm.MethodName)),
  (Jvm.Cond.selects "DraftTreeModel" ({ cls := "DraftTreeModel", name := "type", desc := "(C)Z" } : Jvm.MethodName) ({ cls := "DraftTreeModel", name := "type", desc := "(C)Z" } : Jvm.MethodName)),
  (Jvm.Cond.code ({ cls := "DraftTree", name := "wipe", desc := "()I" } : Jvm.MethodName) prog_1_method_3_code (2 : Nat) (Option.some Jvm.ClassFile.FieldType.int)),
  (Jvm.Cond.methodLink "DraftTreeLaw" (71 : Nat) ({ cls := "DraftTree", name := "wipe", desc := "()I" } : Jvm.MethodName)),
  (Jvm.Cond.instanceMethod ({ cls := "DraftTree", name := "wipe", desc := "()I" } : Jvm.MethodName)),
  (Jvm.Cond.selects "DraftTree" ({ cls := "DraftTree", name := "wipe", desc := "()I" } : Jvm.MethodName) ({ cls := "DraftTree", name := "wipe", desc := "()I" } : Jvm.MethodName)),
  (Jvm.Cond.code ({ cls := "DraftTreeModel", name := "wipe", desc := "()I" } : Jvm.MethodName) prog_6_method_5_code (2 : Nat) (Option.some Jvm.ClassFile.FieldType.int)),
  (Jvm.Cond.methodLink "DraftTreeLaw" (74 : Nat) ({ cls := "DraftTreeModel", name := "wipe", desc := "()I" } : Jvm.MethodName)),
  (Jvm.Cond.instanceMethod ({ cls := "DraftTreeModel", name := "wipe", desc := "()I" } : Jvm.MethodName)),
  (Jvm.Cond.selects "DraftTreeModel" ({ cls := "DraftTreeModel", name := "wipe", desc := "()I" } : Jvm.MethodName) ({ cls := "DraftTreeModel", name := "wipe", desc := "()I" } : Jvm.MethodName)),
  (Jvm.Cond.fieldLink "DraftTree" (76 : Nat) "DraftTree" "cursor" "I"),
  (Jvm.Cond.code ({ cls := "DraftTree", name := "selectionStart", desc := "()I" } : Jvm.MethodName) prog_1_method_21_code (1 : Nat) (Option.some Jvm.ClassFile.FieldType.int)),
  (Jvm.Cond.methodLink "DraftTree" (59 : Nat) ({ cls := "DraftTree", name := "selectionStart", desc := "()I" } : Jvm.MethodName)),
  (Jvm.Cond.instanceMethod ({ cls := "DraftTree", name := "selectionStart", desc := "()I" } : Jvm.MethodName)),
  (Jvm.Cond.selects "DraftTree" ({ cls := "DraftTree", name := "selectionStart", desc := "()I" } : Jvm.MethodName) ({ cls := "DraftTree", name := "selectionStart", desc := "()I" } : Jvm.MethodName)),
  (Jvm.Cond.code ({ cls := "DraftTree", name := "selectionEnd", desc := "()I" } : Jvm.MethodName) prog_1_method_22_code (1 : Nat) (Option.some Jvm.ClassFile.FieldType.int)),
  (Jvm.Cond.methodLink "DraftTree" (63 : Nat) ({ cls := "DraftTree", name := "selectionEnd", desc := "()I" } : Jvm.MethodName)),
  (Jvm.Cond.instanceMethod ({ cls := "DraftTree", name := "selectionEnd", desc := "()I" } : Jvm.MethodName)),
  (Jvm.Cond.selects "DraftTree" ({ cls := "DraftTree", name := "selectionEnd", desc := "()I" } : Jvm.MethodName) ({ cls := "DraftTree", name := "selectionEnd", desc := "()I" } : Jvm.MethodName)),
  (Jvm.Cond.fieldLink "DraftTree" (73 : Nat) "DraftTree" "present" "I"),
  (Jvm.Cond.code ({ cls := "DraftTree", name := "insert", desc := "()I" } : Jvm.MethodName) prog_1_method_4_code (3 : Nat) (Option.some Jvm.ClassFile.FieldType.int)),
  (Jvm.Cond.methodLink "DraftTreeLaw" (7 : Nat) ({ cls := "DraftTree", name := "insert", desc := "()I" } : Jvm.MethodName)),
  (Jvm.Cond.instanceMethod ({ cls := "DraftTree", name := "insert", desc := "()I" } : Jvm.MethodName)),
  (Jvm.Cond.selects "DraftTree" ({ cls := "DraftTree", name := "insert", desc := "()I" } : Jvm.MethodName) ({ cls := "DraftTree", name := "insert", desc := "()I" } : Jvm.MethodName)),
  (Jvm.Cond.codeWith ({ cls := "DraftTreeLaw", name := "insert", desc := "(LDraftTree;[J)I" } : Jvm.MethodName) method_3_code (3 : Nat) (Option.some Jvm.ClassFile.FieldType.int) [((0 : Nat), (8 : Nat), (11 : Nat), (13 : Nat))]),
  (Jvm.Cond.initialized "DraftTreeLaw"),
  (Jvm.Cond.methodLink "DraftTreeLaw" (75 : Nat) ({ cls := "DraftTreeLaw", name := "insert", desc := "(LDraftTree;[J)I" } : Jvm.MethodName)),
  (Jvm.Cond.static ({ cls := "DraftTreeLaw", name := "insert", desc := "(LDraftTree;[J)I" } : Jvm.MethodName)),
  (Jvm.Cond.fieldLink "DraftTreeModel" (95 : Nat) "DraftTreeModel" "cursor" "I"),
  (Jvm.Cond.code ({ cls := "DraftTreeModel", name := "low", desc := "()I" } : Jvm.MethodName) prog_6_method_13_code (1 : Nat) (Option.some Jvm.ClassFile.FieldType.int)),
  (Jvm.Cond.methodLink "DraftTreeModel" (116 : Nat) ({ cls := "DraftTreeModel", name := "low", desc := "()I" } : Jvm.MethodName)),
  (Jvm.Cond.instanceMethod ({ cls := "DraftTreeModel", name := "low", desc := "()I" } : Jvm.MethodName)),
  (Jvm.Cond.selects "DraftTreeModel" ({ cls := "DraftTreeModel", name := "low", desc := "()I" } : Jvm.MethodName) ({ cls := "DraftTreeModel", name := "low", desc := "()I" } : Jvm.MethodName)),
  (Jvm.Cond.code ({ cls := "DraftTreeModel", name := "high", desc := "()I" } : Jvm.MethodName) prog_6_method_14_code (1 : Nat) (Option.some Jvm.ClassFile.FieldType.int)),
  (Jvm.Cond.methodLink "DraftTreeModel" (120 : Nat) ({ cls := "DraftTreeModel", name := "high", desc := "()I" } : Jvm.MethodName)),
  (Jvm.Cond.instanceMethod ({ cls := "DraftTreeModel", name := "high", desc := "()I" } : Jvm.MethodName)),
  (Jvm.Cond.selects "DraftTreeModel" ({ cls := "DraftTreeModel", name := "high", desc := "()I" } : Jvm.MethodName) ({ cls := "DraftTreeModel", name := "high", desc := "()I" } : Jvm.MethodName)),
  (Jvm.Cond.fieldLink "DraftTreeModel" (92 : Nat) "DraftTreeModel" "present" "I"),
  (Jvm.Cond.code ({ cls := "DraftTreeModel", name := "insert", desc := "()I" } : Jvm.MethodName) prog_6_method_15_code (5 : Nat) (Option.some Jvm.ClassFile.FieldType.int)),
  (Jvm.Cond.methodLink "DraftTreeLaw" (80 : Nat) ({ cls := "DraftTreeModel", name := "insert", desc := "()I" } : Jvm.MethodName)),
  (Jvm.Cond.instanceMethod ({ cls := "DraftTreeModel", name := "insert", desc := "()I" } : Jvm.MethodName)),
  (Jvm.Cond.selects "DraftTreeModel" ({ cls := "DraftTreeModel", name := "insert", desc := "()I" } : Jvm.MethodName) ({ cls := "DraftTreeModel", name := "insert", desc := "()I" } : Jvm.MethodName)),
  (Jvm.Cond.code ({ cls := "DraftTreeModel", name := "thrown", desc := "()I" } : Jvm.MethodName) prog_6_method_2_code (1 : Nat) (Option.some Jvm.ClassFile.FieldType.int)),
  (Jvm.Cond.methodLink "DraftTreeLaw" (81 : Nat) ({ cls := "DraftTreeModel", name := "thrown", desc := "()I" } : Jvm.MethodName)),
  (Jvm.Cond.instanceMethod ({ cls := "DraftTreeModel", name := "thrown", desc := "()I" } : Jvm.MethodName)),
  (Jvm.Cond.selects "DraftTreeModel" ({ cls := "DraftTreeModel", name := "thrown", desc := "()I" } : Jvm.MethodName) ({ cls := "DraftTreeModel", name := "thrown", desc := "()I" } : Jvm.MethodName)),
  (Jvm.Cond.methodLink "DraftTree" (79 : Nat) ({ cls := "java/lang/Math", name := "max", desc := "(II)I" } : Jvm.MethodName)),
  (Jvm.Cond.static ({ cls := "java/lang/Math", name := "max", desc := "(II)I" } : Jvm.MethodName)),
  (Jvm.Cond.initialized "java/lang/Math"),
  (Jvm.Cond.code ({ cls := "java/lang/Math", name := "max", desc := "(II)I" } : Jvm.MethodName) prog_13_method_65_code (2 : Nat) (Option.some Jvm.ClassFile.FieldType.int)),
  (Jvm.Cond.code ({ cls := "DraftTree", name := "erase", desc := "(I)I" } : Jvm.MethodName) prog_1_method_5_code (4 : Nat) (Option.some Jvm.ClassFile.FieldType.int)),
  (Jvm.Cond.methodLink "DraftTreeLaw" (15 : Nat) ({ cls := "DraftTree", name := "erase", desc := "(I)I" } : Jvm.MethodName)),
  (Jvm.Cond.instanceMethod ({ cls := "DraftTree", name := "erase", desc := "(I)I" } : Jvm.MethodName)),
  (Jvm.Cond.selects "DraftTree" ({ cls := "DraftTree", name := "erase", desc := "(I)I" } : Jvm.MethodName) ({ cls := "DraftTree", name := "erase", desc := "(I)I" } : Jvm.MethodName)),
  (Jvm.Cond.codeWith ({ cls := "DraftTreeLaw", name := "erase", desc := "(LDraftTree;I[J)I" } : Jvm.MethodName) method_4_code (4 : Nat) (Option.some Jvm.ClassFile.FieldType.int) [((0 : Nat), (9 : Nat), (12 : Nat), (13 : Nat))]),
  (Jvm.Cond.methodLink "DraftTreeLaw" (84 : Nat) ({ cls := "DraftTreeLaw", name := "erase", desc := "(LDraftTree;I[J)I" } : Jvm.MethodName)),
  (Jvm.Cond.static ({ cls := "DraftTreeLaw", name := "erase", desc := "(LDraftTree;I[J)I" } : Jvm.MethodName)),
  (Jvm.Cond.code ({ cls := "DraftTreeModel", name := "textLength", desc := "()I" } : Jvm.MethodName) prog_6_method_7_code (1 : Nat) (Option.some Jvm.ClassFile.FieldType.int)),
  (Jvm.Cond.methodLink "DraftTreeModel" (123 : Nat) ({ cls := "DraftTreeModel", name := "textLength", desc := "()I" } : Jvm.MethodName)),
  (Jvm.Cond.instanceMethod ({ cls := "DraftTreeModel", name := "textLength", desc := "()I" } : Jvm.MethodName)),
  (Jvm.Cond.selects "DraftTreeModel" ({ cls := "DraftTreeModel", name := "textLength", desc := "()I" } : Jvm.MethodName) ({ cls := "DraftTreeModel", name := "textLength", desc := "()I" } : Jvm.MethodName)),
  (Jvm.Cond.code ({ cls := "DraftTreeModel", name := "erase", desc := "(I)I" } : Jvm.MethodName) prog_6_method_16_code (5 : Nat) (Option.some Jvm.ClassFile.FieldType.int)),
  (Jvm.Cond.methodLink "DraftTreeLaw" (87 : Nat) ({ cls := "DraftTreeModel", name := "erase", desc := "(I)I" } : Jvm.MethodName)),
  (Jvm.Cond.instanceMethod ({ cls := "DraftTreeModel", name := "erase", desc := "(I)I" } : Jvm.MethodName)),
  (Jvm.Cond.selects "DraftTreeModel" ({ cls := "DraftTreeModel", name := "erase", desc := "(I)I" } : Jvm.MethodName) ({ cls := "DraftTreeModel", name := "erase", desc := "(I)I" } : Jvm.MethodName)),
  (Jvm.Cond.methodLink "DraftTree" (85 : Nat) ({ cls := "java/lang/Math", name := "min", desc := "(II)I" } : Jvm.MethodName)),
  (Jvm.Cond.static ({ cls := "java/lang/Math", name := "min", desc := "(II)I" } : Jvm.MethodName)),
  (Jvm.Cond.code ({ cls := "java/lang/Math", name := "min", desc := "(II)I" } : Jvm.MethodName) prog_13_method_69_code (2 : Nat) (Option.some Jvm.ClassFile.FieldType.int)),
  (Jvm.Cond.code ({ cls := "DraftTree", name := "requirePlace", desc := "(I)V" } : Jvm.MethodName) prog_1_method_19_code (2 : Nat) (Option.none : Option Jvm.ClassFile.FieldType)),
  (Jvm.Cond.methodLink "DraftTree" (88 : Nat) ({ cls := "DraftTree", name := "requirePlace", desc := "(I)V" } : Jvm.MethodName)),
  (Jvm.Cond.instanceMethod ({ cls := "DraftTree", name := "requirePlace", desc := "(I)V" } : Jvm.MethodName)),
  (Jvm.Cond.selects "DraftTree" ({ cls := "DraftTree", name := "requirePlace", desc := "(I)V" } : Jvm.MethodName) ({ cls := "DraftTree", name := "requirePlace", desc := "(I)V" } : Jvm.MethodName)),
  (Jvm.Cond.code ({ cls := "DraftTree", name := "go", desc := "(IZ)V" } : Jvm.MethodName) prog_1_method_6_code (3 : Nat) (Option.none : Option Jvm.ClassFile.FieldType)),
  (Jvm.Cond.methodLink "DraftTreeLaw" (19 : Nat) ({ cls := "DraftTree", name := "go", desc := "(IZ)V" } : Jvm.MethodName)),
  (Jvm.Cond.instanceMethod ({ cls := "DraftTree", name := "go", desc := "(IZ)V" } : Jvm.MethodName)),
  (Jvm.Cond.selects "DraftTree" ({ cls := "DraftTree", name := "go", desc := "(IZ)V" } : Jvm.MethodName) ({ cls := "DraftTree", name := "go", desc := "(IZ)V" } : Jvm.MethodName)),
  (Jvm.Cond.codeWith ({ cls := "DraftTreeLaw", name := "go", desc := "(LDraftTree;IZ)I" } : Jvm.MethodName) method_5_code (4 : Nat) (Option.some Jvm.ClassFile.FieldType.int) [((0 : Nat), (6 : Nat), (9 : Nat), (23 : Nat))]),
  (Jvm.Cond.methodLink "DraftTreeLaw" (88 : Nat) ({ cls := "DraftTreeLaw", name := "go", desc := "(LDraftTree;IZ)I" } : Jvm.MethodName)),
  (Jvm.Cond.static ({ cls := "DraftTreeLaw", name := "go", desc := "(LDraftTree;IZ)I" } : Jvm.MethodName)),
  (Jvm.Cond.code ({ cls := "DraftTreeModel", name := "go", desc := "(IZ)V" } : Jvm.MethodName) prog_6_method_17_code (3 : Nat) (Option.none : Option Jvm.ClassFile.FieldType)),
  (Jvm.Cond.methodLink "DraftTreeLaw" (91 : Nat) ({ cls := "DraftTreeModel", name := "go", desc := "(IZ)V" } : Jvm.MethodName)),
  (Jvm.Cond.instanceMethod ({ cls := "DraftTreeModel", name := "go", desc := "(IZ)V" } : Jvm.MethodName)),
  (Jvm.Cond.selects "DraftTreeModel" ({ cls := "DraftTreeModel", name := "go", desc := "(IZ)V" } : Jvm.MethodName) ({ cls := "DraftTreeModel", name := "go", desc := "(IZ)V" } : Jvm.MethodName)),
  (Jvm.Cond.classLink "DraftTree" (143 : Nat) "java/lang/IndexOutOfBoundsException"),
  (Jvm.Cond.initialized "java/lang/IndexOutOfBoundsException"),
  (Jvm.Cond.classLink "DraftTreeLaw" (23 : Nat) "java/lang/IndexOutOfBoundsException"),
  (Jvm.Cond.fieldLink "DraftTree$PatternReader" (35 : Nat) "DraftTree$PatternReader" "size" "I"),
  (Jvm.Cond.fieldLink "DraftTree$PatternReader" (39 : Nat) "DraftTree$PatternReader" "position" "I"),
  (Jvm.Cond.fieldLink "DraftTree$PatternReader" (42 : Nat) "DraftTree$PatternReader" "fault" "I"),
  (Jvm.Cond.fieldLink "DraftTree$PatternReader" (45 : Nat) "DraftTree$Automaton" "size" "I"),
  (Jvm.Cond.fieldLink "DraftTree$PatternReader" (46 : Nat) "DraftTree$PatternReader" "depth" "I"),
  (Jvm.Cond.fieldLink "DraftTree$Automaton" (28 : Nat) "DraftTree$Automaton" "size" "I"),
  (Jvm.Cond.code ({ cls := "DraftTree$Automaton", name := "addNode", desc := "(I)I" } : Jvm.MethodName) prog_2_method_2_code (3 : Nat) (Option.some Jvm.ClassFile.FieldType.int)),
  (Jvm.Cond.methodLink "DraftTree$PatternReader" (113 : Nat) ({ cls := "DraftTree$Automaton", name := "addNode", desc := "(I)I" } : Jvm.MethodName)),
  (Jvm.Cond.instanceMethod ({ cls := "DraftTree$Automaton", name := "addNode", desc := "(I)I" } : Jvm.MethodName)),
  (Jvm.Cond.selects "DraftTree$Automaton" ({ cls := "DraftTree$Automaton", name := "addNode", desc := "(I)I" } : Jvm.MethodName) ({ cls := "DraftTree$Automaton", name := "addNode", desc := "(I)I" } : Jvm.MethodName)),
  (Jvm.Cond.fieldLink "DraftTree$PatternReader" (126 : Nat) "DraftTree$PatternReader" "lead" "I"),
  (Jvm.Cond.fieldLink "DraftTree$PatternReader" (129 : Nat) "DraftTree$PatternReader" "first" "I"),
  (Jvm.Cond.fieldLink "DraftTree$PatternReader" (62 : Nat) "DraftTree$PatternReader" "tail" "I"),
  (Jvm.Cond.code ({ cls := "DraftTree$PatternReader", name := "beginRow", desc := "(I)V" } : Jvm.MethodName) prog_3_method_16_code (2 : Nat) (Option.none : Option Jvm.ClassFile.FieldType)),
  (Jvm.Cond.methodLink "DraftTree$PatternReader" (116 : Nat) ({ cls := "DraftTree$PatternReader", name := "beginRow", desc := "(I)V" } : Jvm.MethodName)),
  (Jvm.Cond.instanceMethod ({ cls := "DraftTree$PatternReader", name := "beginRow", desc := "(I)V" } : Jvm.MethodName)),
  (Jvm.Cond.selects "DraftTree$PatternReader" ({ cls := "DraftTree$PatternReader", name := "beginRow", desc := "(I)V" } : Jvm.MethodName) ({ cls := "DraftTree$PatternReader", name := "beginRow", desc := "(I)V" } : Jvm.MethodName)),
  (Jvm.Cond.code ({ cls := "DraftTree$PatternReader", name := "openChoice", desc := "(I)V" } : Jvm.MethodName) prog_3_method_12_code (3 : Nat) (Option.none : Option Jvm.ClassFile.FieldType)),
  (Jvm.Cond.methodLink "DraftTree$PatternReader" (49 : Nat) ({ cls := "DraftTree$PatternReader", name := "openChoice", desc := "(I)V" } : Jvm.MethodName)),
  (Jvm.Cond.instanceMethod ({ cls := "DraftTree$PatternReader", name := "openChoice", desc := "(I)V" } : Jvm.MethodName)),
  (Jvm.Cond.selects "DraftTree$PatternReader" ({ cls := "DraftTree$PatternReader", name := "openChoice", desc := "(I)V" } : Jvm.MethodName) ({ cls := "DraftTree$PatternReader", name := "openChoice", desc := "(I)V" } : Jvm.MethodName)),
  (Jvm.Cond.fieldLink "DraftTree$PatternReader" (59 : Nat) "DraftTree$Automaton" "next" "[I"),
  (Jvm.Cond.fieldLink "DraftTree$PatternReader" (65 : Nat) "DraftTree$Automaton" "start" "I"),
  (Jvm.Cond.fieldLink "DraftTree$PatternReader" (68 : Nat) "DraftTree$Automaton" "goal" "I"),
  (Jvm.Cond.code ({ cls := "DraftTree$PatternReader", name := "finish", desc := "()V" } : Jvm.MethodName) prog_3_method_4_code (1 : Nat) (Option.none : Option Jvm.ClassFile.FieldType)),
  (Jvm.Cond.methodLink "DraftTree$PatternReader" (56 : Nat) ({ cls := "DraftTree$PatternReader", name := "finish", desc := "()V" } : Jvm.MethodName)),
  (Jvm.Cond.instanceMethod ({ cls := "DraftTree$PatternReader", name := "finish", desc := "()V" } : Jvm.MethodName)),
  (Jvm.Cond.selects "DraftTree$PatternReader" ({ cls := "DraftTree$PatternReader", name := "finish", desc := "()V" } : Jvm.MethodName) ({ cls := "DraftTree$PatternReader", name := "finish", desc := "()V" } : Jvm.MethodName)),
  (Jvm.Cond.code ({ cls := "DraftTree$PatternReader", name := "read", desc := "([CI)I" } : Jvm.MethodName) prog_3_method_3_code (4 : Nat) (Option.some Jvm.ClassFile.FieldType.int)),
  (Jvm.Cond.methodLink "DraftTree" (92 : Nat) ({ cls := "DraftTree$PatternReader", name := "read", desc := "([CI)I" } : Jvm.MethodName)),
  (Jvm.Cond.instanceMethod ({ cls := "DraftTree$PatternReader", name := "read", desc := "([CI)I" } : Jvm.MethodName)),
  (Jvm.Cond.selects "DraftTree$PatternReader" ({ cls := "DraftTree$PatternReader", name := "read", desc := "([CI)I" } : Jvm.MethodName) ({ cls := "DraftTree$PatternReader", name := "read", desc := "([CI)I" } : Jvm.MethodName)),
  (Jvm.Cond.code ({ cls := "DraftTree$PatternReader", name := "handOver", desc := "(LDraftTree$Automaton;)LDraftTree$Automaton;" } : Jvm.MethodName) prog_3_method_2_code (3 : Nat) (Option.some (Jvm.ClassFile.FieldType.object "DraftTree$Automaton"))),
  (Jvm.Cond.methodLink "DraftTree" (99 : Nat) ({ cls := "DraftTree$PatternReader", name := "handOver", desc := "(LDraftTree$Automaton;)LDraftTree$Automaton;" } : Jvm.MethodName)),
  (Jvm.Cond.instanceMethod ({ cls := "DraftTree$PatternReader", name := "handOver", desc := "(LDraftTree$Automaton;)LDraftTree$Automaton;" } : Jvm.MethodName)),
  (Jvm.Cond.selects "DraftTree$PatternReader" ({ cls := "DraftTree$PatternReader", name := "handOver", desc := "(LDraftTree$Automaton;)LDraftTree$Automaton;" } : Jvm.MethodName) ({ cls := "DraftTree$PatternReader", name := "handOver", desc := "(LDraftTree$Automaton;)LDraftTree$Automaton;" } : Jvm.MethodName)),
  (Jvm.Cond.fieldLink "DraftTree" (103 : Nat) "DraftTree" "hasPattern" "Z"),
  (Jvm.Cond.code ({ cls := "DraftTree", name := "compile", desc := "()V" } : Jvm.MethodName) prog_1_method_7_code (1 : Nat) (Option.none : Option Jvm.ClassFile.FieldType)),
  (Jvm.Cond.methodLink "DraftTreeLaw" (25 : Nat) ({ cls := "DraftTree", name := "compile", desc := "()V" } : Jvm.MethodName)),
  (Jvm.Cond.instanceMethod ({ cls := "DraftTree", name := "compile", desc := "()V" } : Jvm.MethodName)),
  (Jvm.Cond.selects "DraftTree" ({ cls := "DraftTree", name := "compile", desc := "()V" } : Jvm.MethodName) ({ cls := "DraftTree", name := "compile", desc := "()V" } : Jvm.MethodName)),
  (Jvm.Cond.codeWith ({ cls := "DraftTreeLaw", name := "compile", desc := "(LDraftTree;)I" } : Jvm.MethodName) method_6_code (2 : Nat) (Option.some Jvm.ClassFile.FieldType.int) [((0 : Nat), (4 : Nat), (7 : Nat), (28 : Nat))]),
  (Jvm.Cond.methodLink "DraftTreeLaw" (92 : Nat) ({ cls := "DraftTreeLaw", name := "compile", desc := "(LDraftTree;)I" } : Jvm.MethodName)),
  (Jvm.Cond.static ({ cls := "DraftTreeLaw", name := "compile", desc := "(LDraftTree;)I" } : Jvm.MethodName)),
  (Jvm.Cond.code ({ cls := "DraftTreeModel", name := "good", desc := "()I" } : Jvm.MethodName) prog_6_method_23_code (5 : Nat) (Option.some Jvm.ClassFile.FieldType.int)),
  (Jvm.Cond.methodLink "DraftTreeModel" (187 : Nat) ({ cls := "DraftTreeModel", name := "good", desc := "()I" } : Jvm.MethodName)),
  (Jvm.Cond.instanceMethod ({ cls := "DraftTreeModel", name := "good", desc := "()I" } : Jvm.MethodName)),
  (Jvm.Cond.selects "DraftTreeModel" ({ cls := "DraftTreeModel", name := "good", desc := "()I" } : Jvm.MethodName) ({ cls := "DraftTreeModel", name := "good", desc := "()I" } : Jvm.MethodName)),
  (Jvm.Cond.fieldLink "DraftTreeModel" (190 : Nat) "DraftTreeModel" "size" "I"),
  (Jvm.Cond.fieldLink "DraftTreeModel" (142 : Nat) "DraftTreeModel" "nodes" "I"),
  (Jvm.Cond.fieldLink "DraftTreeModel" (145 : Nat) "DraftTreeModel" "pieces" "I"),
  (Jvm.Cond.fieldLink "DraftTreeModel" (159 : Nat) "DraftTreeModel" "open" "I"),
  (Jvm.Cond.code ({ cls := "DraftTreeModel", name := "node", desc := "(III)I" } : Jvm.MethodName) prog_6_method_24_code (4 : Nat) (Option.some Jvm.ClassFile.FieldType.int)),
  (Jvm.Cond.methodLink "DraftTreeModel" (148 : Nat) ({ cls := "DraftTreeModel", name := "node", desc := "(III)I" } : Jvm.MethodName)),
  (Jvm.Cond.instanceMethod ({ cls := "DraftTreeModel", name := "node", desc := "(III)I" } : Jvm.MethodName)),
  (Jvm.Cond.selects "DraftTreeModel" ({ cls := "DraftTreeModel", name := "node", desc := "(III)I" } : Jvm.MethodName) ({ cls := "DraftTreeModel", name := "node", desc := "(III)I" } : Jvm.MethodName)),
  (Jvm.Cond.code ({ cls := "DraftTreeModel", name := "piece", desc := "(II)I" } : Jvm.MethodName) prog_6_method_26_code (3 : Nat) (Option.some Jvm.ClassFile.FieldType.int)),
  (Jvm.Cond.methodLink "DraftTreeModel" (155 : Nat) ({ cls := "DraftTreeModel", name := "piece", desc := "(II)I" } : Jvm.MethodName)),
  (Jvm.Cond.instanceMethod ({ cls := "DraftTreeModel", name := "piece", desc := "(II)I" } : Jvm.MethodName)),
  (Jvm.Cond.selects "DraftTreeModel" ({ cls := "DraftTreeModel", name := "piece", desc := "(II)I" } : Jvm.MethodName) ({ cls := "DraftTreeModel", name := "piece", desc := "(II)I" } : Jvm.MethodName)),
  (Jvm.Cond.code ({ cls := "DraftTreeModel", name := "nothing", desc := "()I" } : Jvm.MethodName) prog_6_method_28_code (2 : Nat) (Option.some Jvm.ClassFile.FieldType.int)),
  (Jvm.Cond.methodLink "DraftTreeModel" (162 : Nat) ({ cls := "DraftTreeModel", name := "nothing", desc := "()I" } : Jvm.MethodName)),
  (Jvm.Cond.instanceMethod ({ cls := "DraftTreeModel", name := "nothing", desc := "()I" } : Jvm.MethodName)),
  (Jvm.Cond.selects "DraftTreeModel" ({ cls := "DraftTreeModel", name := "nothing", desc := "()I" } : Jvm.MethodName) ({ cls := "DraftTreeModel", name := "nothing", desc := "()I" } : Jvm.MethodName)),
  (Jvm.Cond.code ({ cls := "DraftTreeModel", name := "openGroup", desc := "()V" } : Jvm.MethodName) prog_6_method_32_code (1 : Nat) (Option.none : Option Jvm.ClassFile.FieldType)),
  (Jvm.Cond.methodLink "DraftTreeModel" (171 : Nat) ({ cls := "DraftTreeModel", name := "openGroup", desc := "()V" } : Jvm.MethodName)),
  (Jvm.Cond.instanceMethod ({ cls := "DraftTreeModel", name := "openGroup", desc := "()V" } : Jvm.MethodName)),
  (Jvm.Cond.selects "DraftTreeModel" ({ cls := "DraftTreeModel", name := "openGroup", desc := "()V" } : Jvm.MethodName) ({ cls := "DraftTreeModel", name := "openGroup", desc := "()V" } : Jvm.MethodName)),
  (Jvm.Cond.code ({ cls := "DraftTreeModel", name := "behind", desc := "(II)I" } : Jvm.MethodName) prog_6_method_29_code (3 : Nat) (Option.some Jvm.ClassFile.FieldType.int)),
  (Jvm.Cond.methodLink "DraftTreeModel" (165 : Nat) ({ cls := "DraftTreeModel", name := "behind", desc := "(II)I" } : Jvm.MethodName)),
  (Jvm.Cond.instanceMethod ({ cls := "DraftTreeModel", name := "behind", desc := "(II)I" } : Jvm.MethodName)),
  (Jvm.Cond.selects "DraftTreeModel" ({ cls := "DraftTreeModel", name := "behind", desc := "(II)I" } : Jvm.MethodName) ({ cls := "DraftTreeModel", name := "behind", desc := "(II)I" } : Jvm.MethodName)),
  (Jvm.Cond.code ({ cls := "DraftTreeModel", name := "either", desc := "(II)I" } : Jvm.MethodName) prog_6_method_30_code (5 : Nat) (Option.some Jvm.ClassFile.FieldType.int)),
  (Jvm.Cond.methodLink "DraftTreeModel" (168 : Nat) ({ cls := "DraftTreeModel", name := "either", desc := "(II)I" } : Jvm.MethodName)),
  (Jvm.Cond.instanceMethod ({ cls := "DraftTreeModel", name := "either", desc := "(II)I" } : Jvm.MethodName)),
  (Jvm.Cond.selects "DraftTreeModel" ({ cls := "DraftTreeModel", name := "either", desc := "(II)I" } : Jvm.MethodName) ({ cls := "DraftTreeModel", name := "either", desc := "(II)I" } : Jvm.MethodName)),
  (Jvm.Cond.code ({ cls := "DraftTreeModel", name := "endRow", desc := "()V" } : Jvm.MethodName) prog_6_method_33_code (3 : Nat) (Option.none : Option Jvm.ClassFile.FieldType)),
  (Jvm.Cond.methodLink "DraftTreeModel" (174 : Nat) ({ cls := "DraftTreeModel", name := "endRow", desc := "()V" } : Jvm.MethodName)),
  (Jvm.Cond.instanceMethod ({ cls := "DraftTreeModel", name := "endRow", desc := "()V" } : Jvm.MethodName)),
  (Jvm.Cond.selects "DraftTreeModel" ({ cls := "DraftTreeModel", name := "endRow", desc := "()V" } : Jvm.MethodName) ({ cls := "DraftTreeModel", name := "endRow", desc := "()V" } : Jvm.MethodName)),
  (Jvm.Cond.fieldLink "DraftTreeModel" (197 : Nat) "DraftTreeModel" "first" "I"),
  (Jvm.Cond.fieldLink "DraftTreeModel" (200 : Nat) "DraftTreeModel" "last" "I"),
  (Jvm.Cond.fieldLink "DraftTreeModel" (203 : Nat) "DraftTreeModel" "compiled" "Z"),
  (Jvm.Cond.code ({ cls := "DraftTreeModel", name := "compile", desc := "()V" } : Jvm.MethodName) prog_6_method_36_code (4 : Nat) (Option.none : Option Jvm.ClassFile.FieldType)),
  (Jvm.Cond.methodLink "DraftTreeLaw" (95 : Nat) ({ cls := "DraftTreeModel", name := "compile", desc := "()V" } : Jvm.MethodName)),
  (Jvm.Cond.instanceMethod ({ cls := "DraftTreeModel", name := "compile", desc := "()V" } : Jvm.MethodName)),
  (Jvm.Cond.selects "DraftTreeModel" ({ cls := "DraftTreeModel", name := "compile", desc := "()V" } : Jvm.MethodName) ({ cls := "DraftTreeModel", name := "compile", desc := "()V" } : Jvm.MethodName)),
  (Jvm.Cond.code ({ cls := "DraftTree", name := "fault", desc := "()I" } : Jvm.MethodName) prog_1_method_8_code (1 : Nat) (Option.some Jvm.ClassFile.FieldType.int)),
  (Jvm.Cond.methodLink "DraftTreeLaw" (96 : Nat) ({ cls := "DraftTree", name := "fault", desc := "()I" } : Jvm.MethodName)),
  (Jvm.Cond.instanceMethod ({ cls := "DraftTree", name := "fault", desc := "()I" } : Jvm.MethodName)),
  (Jvm.Cond.selects "DraftTree" ({ cls := "DraftTree", name := "fault", desc := "()I" } : Jvm.MethodName) ({ cls := "DraftTree", name := "fault", desc := "()I" } : Jvm.MethodName)),
  (Jvm.Cond.code ({ cls := "DraftTreeModel", name := "fault", desc := "()I" } : Jvm.MethodName) prog_6_method_37_code (1 : Nat) (Option.some Jvm.ClassFile.FieldType.int)),
  (Jvm.Cond.methodLink "DraftTreeLaw" (99 : Nat) ({ cls := "DraftTreeModel", name := "fault", desc := "()I" } : Jvm.MethodName)),
  (Jvm.Cond.instanceMethod ({ cls := "DraftTreeModel", name := "fault", desc := "()I" } : Jvm.MethodName)),
  (Jvm.Cond.selects "DraftTreeModel" ({ cls := "DraftTreeModel", name := "fault", desc := "()I" } : Jvm.MethodName) ({ cls := "DraftTreeModel", name := "fault", desc := "()I" } : Jvm.MethodName)),
  (Jvm.Cond.classLink "DraftTree" (66 : Nat) "java/lang/IllegalStateException"),
  (Jvm.Cond.initialized "java/lang/IllegalStateException"),
  (Jvm.Cond.code ({ cls := "DraftTree", name := "find", desc := "(I)I" } : Jvm.MethodName) prog_1_method_9_code (2 : Nat) (Option.some Jvm.ClassFile.FieldType.int)),
  (Jvm.Cond.methodLink "DraftTreeLaw" (30 : Nat) ({ cls := "DraftTree", name := "find", desc := "(I)I" } : Jvm.MethodName)),
  (Jvm.Cond.instanceMethod ({ cls := "DraftTree", name := "find", desc := "(I)I" } : Jvm.MethodName)),
  (Jvm.Cond.selects "DraftTree" ({ cls := "DraftTree", name := "find", desc := "(I)I" } : Jvm.MethodName) ({ cls := "DraftTree", name := "find", desc := "(I)I" } : Jvm.MethodName)),
  (Jvm.Cond.classLink "DraftTreeLaw" (13 : Nat) "java/lang/IllegalStateException"),
  (Jvm.Cond.codeWith ({ cls := "DraftTreeLaw", name := "find", desc := "(LDraftTree;I[J)I" } : Jvm.MethodName) method_7_code (4 : Nat) (Option.some Jvm.ClassFile.FieldType.int) [((0 : Nat), (9 : Nat), (12 : Nat), (13 : Nat)), ((0 : Nat), (9 : Nat), (15 : Nat), (23 : Nat)), ((0 : Nat), (9 : Nat), (18 : Nat), (33 : Nat))]),
  (Jvm.Cond.methodLink "DraftTreeLaw" (100 : Nat) ({ cls := "DraftTreeLaw", name := "find", desc := "(LDraftTree;I[J)I" } : Jvm.MethodName)),
  (Jvm.Cond.static ({ cls := "DraftTreeLaw", name := "find", desc := "(LDraftTree;I[J)I" } : Jvm.MethodName)),
  (Jvm.Cond.code ({ cls := "DraftTreeModel", name := "find", desc := "(I)I" } : Jvm.MethodName) prog_6_method_45_code (2 : Nat) (Option.some Jvm.ClassFile.FieldType.int)),
  (Jvm.Cond.methodLink "DraftTreeLaw" (102 : Nat) ({ cls := "DraftTreeModel", name := "find", desc := "(I)I" } : Jvm.MethodName)),
  (Jvm.Cond.instanceMethod ({ cls := "DraftTreeModel", name := "find", desc := "(I)I" } : Jvm.MethodName)),
  (Jvm.Cond.selects "DraftTreeModel" ({ cls := "DraftTreeModel", name := "find", desc := "(I)I" } : Jvm.MethodName) ({ cls := "DraftTreeModel", name := "find", desc := "(I)I" } : Jvm.MethodName)),
  (Jvm.Cond.code ({ cls := "DraftTree", name := "replace", desc := "()I" } : Jvm.MethodName) prog_1_method_10_code (3 : Nat) (Option.some Jvm.ClassFile.FieldType.int)),
  (Jvm.Cond.methodLink "DraftTreeLaw" (35 : Nat) ({ cls := "DraftTree", name := "replace", desc := "()I" } : Jvm.MethodName)),
  (Jvm.Cond.instanceMethod ({ cls := "DraftTree", name := "replace", desc := "()I" } : Jvm.MethodName)),
  (Jvm.Cond.selects "DraftTree" ({ cls := "DraftTree", name := "replace", desc := "()I" } : Jvm.MethodName) ({ cls := "DraftTree", name := "replace", desc := "()I" } : Jvm.MethodName)),
  (Jvm.Cond.codeWith ({ cls := "DraftTreeLaw", name := "replace", desc := "(LDraftTree;[J)I" } : Jvm.MethodName) method_8_code (3 : Nat) (Option.some Jvm.ClassFile.FieldType.int) [((0 : Nat), (8 : Nat), (11 : Nat), (13 : Nat))]),
  (Jvm.Cond.methodLink "DraftTreeLaw" (103 : Nat) ({ cls := "DraftTreeLaw", name := "replace", desc := "(LDraftTree;[J)I" } : Jvm.MethodName)),
  (Jvm.Cond.static ({ cls := "DraftTreeLaw", name := "replace", desc := "(LDraftTree;[J)I" } : Jvm.MethodName)),
  (Jvm.Cond.code ({ cls := "DraftTreeModel", name := "replace", desc := "()I" } : Jvm.MethodName) prog_6_method_46_code (4 : Nat) (Option.some Jvm.ClassFile.FieldType.int)),
  (Jvm.Cond.methodLink "DraftTreeLaw" (105 : Nat) ({ cls := "DraftTreeModel", name := "replace", desc := "()I" } : Jvm.MethodName)),
  (Jvm.Cond.instanceMethod ({ cls := "DraftTreeModel", name := "replace", desc := "()I" } : Jvm.MethodName)),
  (Jvm.Cond.selects "DraftTreeModel" ({ cls := "DraftTreeModel", name := "replace", desc := "()I" } : Jvm.MethodName) ({ cls := "DraftTreeModel", name := "replace", desc := "()I" } : Jvm.MethodName)),
  (Jvm.Cond.fieldLink "DraftTree" (131 : Nat) "DraftTree$State" "origin" "I"),
  (Jvm.Cond.classLink "DraftTree" (111 : Nat) "java/util/NoSuchElementException"),
  (Jvm.Cond.initialized "java/util/NoSuchElementException"),
  (Jvm.Cond.code ({ cls := "DraftTree", name := "undo", desc := "()I" } : Jvm.MethodName) prog_1_method_11_code (2 : Nat) (Option.some Jvm.ClassFile.FieldType.int)),
  (Jvm.Cond.methodLink "DraftTreeLaw" (38 : Nat) ({ cls := "DraftTree", name := "undo", desc := "()I" } : Jvm.MethodName)),
  (Jvm.Cond.instanceMethod ({ cls := "DraftTree", name := "undo", desc := "()I" } : Jvm.MethodName)),
  (Jvm.Cond.selects "DraftTree" ({ cls := "DraftTree", name := "undo", desc := "()I" } : Jvm.MethodName) ({ cls := "DraftTree", name := "undo", desc := "()I" } : Jvm.MethodName)),
  (Jvm.Cond.classLink "DraftTreeLaw" (33 : Nat) "java/util/NoSuchElementException"),
  (Jvm.Cond.codeWith ({ cls := "DraftTreeLaw", name := "undo", desc := "(LDraftTree;[J)I" } : Jvm.MethodName) method_9_code (3 : Nat) (Option.some Jvm.ClassFile.FieldType.int) [((0 : Nat), (8 : Nat), (11 : Nat), (33 : Nat))]),
  (Jvm.Cond.methodLink "DraftTreeLaw" (106 : Nat) ({ cls := "DraftTreeLaw", name := "undo", desc := "(LDraftTree;[J)I" } : Jvm.MethodName)),
  (Jvm.Cond.static ({ cls := "DraftTreeLaw", name := "undo", desc := "(LDraftTree;[J)I" } : Jvm.MethodName)),
  (Jvm.Cond.code ({ cls := "DraftTreeModel", name := "undo", desc := "()I" } : Jvm.MethodName) prog_6_method_18_code (1 : Nat) (Option.some Jvm.ClassFile.FieldType.int)),
  (Jvm.Cond.methodLink "DraftTreeLaw" (108 : Nat) ({ cls := "DraftTreeModel", name := "undo", desc := "()I" } : Jvm.MethodName)),
  (Jvm.Cond.instanceMethod ({ cls := "DraftTreeModel", name := "undo", desc := "()I" } : Jvm.MethodName)),
  (Jvm.Cond.selects "DraftTreeModel" ({ cls := "DraftTreeModel", name := "undo", desc := "()I" } : Jvm.MethodName) ({ cls := "DraftTreeModel", name := "undo", desc := "()I" } : Jvm.MethodName)),
  (Jvm.Cond.fieldLink "DraftTree" (137 : Nat) "DraftTree$State" "latestChild" "I"),
  (Jvm.Cond.code ({ cls := "DraftTree", name := "redo", desc := "()I" } : Jvm.MethodName) prog_1_method_12_code (2 : Nat) (Option.some Jvm.ClassFile.FieldType.int)),
  (Jvm.Cond.methodLink "DraftTreeLaw" (41 : Nat) ({ cls := "DraftTree", name := "redo", desc := "()I" } : Jvm.MethodName)),
  (Jvm.Cond.instanceMethod ({ cls := "DraftTree", name := "redo", desc := "()I" } : Jvm.MethodName)),
  (Jvm.Cond.selects "DraftTree" ({ cls := "DraftTree", name := "redo", desc := "()I" } : Jvm.MethodName) ({ cls := "DraftTree", name := "redo", desc := "()I" } : Jvm.MethodName)),
  (Jvm.Cond.codeWith ({ cls := "DraftTreeLaw", name := "redo", desc := "(LDraftTree;[J)I" } : Jvm.MethodName) method_10_code (3 : Nat) (Option.some Jvm.ClassFile.FieldType.int) [((0 : Nat), (8 : Nat), (11 : Nat), (33 : Nat))]),
  (Jvm.Cond.methodLink "DraftTreeLaw" (109 : Nat) ({ cls := "DraftTreeLaw", name := "redo", desc := "(LDraftTree;[J)I" } : Jvm.MethodName)),
  (Jvm.Cond.static ({ cls := "DraftTreeLaw", name := "redo", desc := "(LDraftTree;[J)I" } : Jvm.MethodName)),
  (Jvm.Cond.code ({ cls := "DraftTreeModel", name := "redo", desc := "()I" } : Jvm.MethodName) prog_6_method_19_code (3 : Nat) (Option.some Jvm.ClassFile.FieldType.int)),
  (Jvm.Cond.methodLink "DraftTreeLaw" (111 : Nat) ({ cls := "DraftTreeModel", name := "redo", desc := "()I" } : Jvm.MethodName)),
  (Jvm.Cond.instanceMethod ({ cls := "DraftTreeModel", name := "redo", desc := "()I" } : Jvm.MethodName)),
  (Jvm.Cond.selects "DraftTreeModel" ({ cls := "DraftTreeModel", name := "redo", desc := "()I" } : Jvm.MethodName) ({ cls := "DraftTreeModel", name := "redo", desc := "()I" } : Jvm.MethodName)),
  (Jvm.Cond.code ({ cls := "DraftTree", name := "requireState", desc := "(I)V" } : Jvm.MethodName) prog_1_method_20_code (2 : Nat) (Option.none : Option Jvm.ClassFile.FieldType)),
  (Jvm.Cond.methodLink "DraftTree" (140 : Nat) ({ cls := "DraftTree", name := "requireState", desc := "(I)V" } : Jvm.MethodName)),
  (Jvm.Cond.instanceMethod ({ cls := "DraftTree", name := "requireState", desc := "(I)V" } : Jvm.MethodName)),
  (Jvm.Cond.selects "DraftTree" ({ cls := "DraftTree", name := "requireState", desc := "(I)V" } : Jvm.MethodName) ({ cls := "DraftTree", name := "requireState", desc := "(I)V" } : Jvm.MethodName)),
  (Jvm.Cond.fieldLink "DraftTree" (155 : Nat) "DraftTree$State" "place" "I"),
  (Jvm.Cond.fieldLink "DraftTree" (158 : Nat) "DraftTree$State" "text" "[C"),
  (Jvm.Cond.code ({ cls := "DraftTree", name := "moveTo", desc := "(I)V" } : Jvm.MethodName) prog_1_method_23_code (3 : Nat) (Option.none : Option Jvm.ClassFile.FieldType)),
  (Jvm.Cond.methodLink "DraftTree" (134 : Nat) ({ cls := "DraftTree", name := "moveTo", desc := "(I)V" } : Jvm.MethodName)),
  (Jvm.Cond.instanceMethod ({ cls := "DraftTree", name := "moveTo", desc := "(I)V" } : Jvm.MethodName)),
  (Jvm.Cond.selects "DraftTree" ({ cls := "DraftTree", name := "moveTo", desc := "(I)V" } : Jvm.MethodName) ({ cls := "DraftTree", name := "moveTo", desc := "(I)V" } : Jvm.MethodName)),
  (Jvm.Cond.code ({ cls := "DraftTree", name := "jump", desc := "(I)V" } : Jvm.MethodName) prog_1_method_13_code (2 : Nat) (Option.none : Option Jvm.ClassFile.FieldType)),
  (Jvm.Cond.methodLink "DraftTreeLaw" (44 : Nat) ({ cls := "DraftTree", name := "jump", desc := "(I)V" } : Jvm.MethodName)),
  (Jvm.Cond.instanceMethod ({ cls := "DraftTree", name := "jump", desc := "(I)V" } : Jvm.MethodName)),
  (Jvm.Cond.selects "DraftTree" ({ cls := "DraftTree", name := "jump", desc := "(I)V" } : Jvm.MethodName) ({ cls := "DraftTree", name := "jump", desc := "(I)V" } : Jvm.MethodName)),
  (Jvm.Cond.codeWith ({ cls := "DraftTreeLaw", name := "jump", desc := "(LDraftTree;I)I" } : Jvm.MethodName) method_11_code (3 : Nat) (Option.some Jvm.ClassFile.FieldType.int) [((0 : Nat), (5 : Nat), (8 : Nat), (28 : Nat))]),
  (Jvm.Cond.methodLink "DraftTreeLaw" (112 : Nat) ({ cls := "DraftTreeLaw", name := "jump", desc := "(LDraftTree;I)I" } : Jvm.MethodName)),
  (Jvm.Cond.static ({ cls := "DraftTreeLaw", name := "jump", desc := "(LDraftTree;I)I" } : Jvm.MethodName)),
  (Jvm.Cond.fieldLink "DraftTreeModel" (98 : Nat) "DraftTreeModel" "clock" "I"),
  (Jvm.Cond.code ({ cls := "DraftTreeModel", name := "come", desc := "(I)V" } : Jvm.MethodName) prog_6_method_8_code (2 : Nat) (Option.none : Option Jvm.ClassFile.FieldType)),
  (Jvm.Cond.methodLink "DraftTreeModel" (112 : Nat) ({ cls := "DraftTreeModel", name := "come", desc := "(I)V" } : Jvm.MethodName)),
  (Jvm.Cond.instanceMethod ({ cls := "DraftTreeModel", name := "come", desc := "(I)V" } : Jvm.MethodName)),
  (Jvm.Cond.selects "DraftTreeModel" ({ cls := "DraftTreeModel", name := "come", desc := "(I)V" } : Jvm.MethodName) ({ cls := "DraftTreeModel", name := "come", desc := "(I)V" } : Jvm.MethodName)),
  (Jvm.Cond.code ({ cls := "DraftTreeModel", name := "jump", desc := "(I)V" } : Jvm.MethodName) prog_6_method_20_code (2 : Nat) (Option.none : Option Jvm.ClassFile.FieldType)),
  (Jvm.Cond.methodLink "DraftTreeLaw" (115 : Nat) ({ cls := "DraftTreeModel", name := "jump", desc := "(I)V" } : Jvm.MethodName)),
  (Jvm.Cond.instanceMethod ({ cls := "DraftTreeModel", name := "jump", desc := "(I)V" } : Jvm.MethodName)),
  (Jvm.Cond.selects "DraftTreeModel" ({ cls := "DraftTreeModel", name := "jump", desc := "(I)V" } : Jvm.MethodName) ({ cls := "DraftTreeModel", name := "jump", desc := "(I)V" } : Jvm.MethodName)),
  (Jvm.Cond.classLink "DraftTree" (96 : Nat) "java/lang/IllegalArgumentException"),
  (Jvm.Cond.initialized "java/lang/IllegalArgumentException"),
  (Jvm.Cond.classLink "DraftTreeLaw" (28 : Nat) "java/lang/IllegalArgumentException"),
  (Jvm.Cond.code ({ cls := "DraftTree", name := "length", desc := "()I" } : Jvm.MethodName) prog_1_method_14_code (1 : Nat) (Option.some Jvm.ClassFile.FieldType.int)),
  (Jvm.Cond.methodLink "DraftTreeLaw" (116 : Nat) ({ cls := "DraftTree", name := "length", desc := "()I" } : Jvm.MethodName)),
  (Jvm.Cond.instanceMethod ({ cls := "DraftTree", name := "length", desc := "()I" } : Jvm.MethodName)),
  (Jvm.Cond.selects "DraftTree" ({ cls := "DraftTree", name := "length", desc := "()I" } : Jvm.MethodName) ({ cls := "DraftTree", name := "length", desc := "()I" } : Jvm.MethodName)),
  (Jvm.Cond.code ({ cls := "DraftTreeModel", name := "length", desc := "()I" } : Jvm.MethodName) prog_6_method_47_code (1 : Nat) (Option.some Jvm.ClassFile.FieldType.int)),
  (Jvm.Cond.methodLink "DraftTreeLaw" (119 : Nat) ({ cls := "DraftTreeModel", name := "length", desc := "()I" } : Jvm.MethodName)),
  (Jvm.Cond.instanceMethod ({ cls := "DraftTreeModel", name := "length", desc := "()I" } : Jvm.MethodName)),
  (Jvm.Cond.selects "DraftTreeModel" ({ cls := "DraftTreeModel", name := "length", desc := "()I" } : Jvm.MethodName) ({ cls := "DraftTreeModel", name := "length", desc := "()I" } : Jvm.MethodName)),
  (Jvm.Cond.code ({ cls := "DraftTree", name := "at", desc := "(I)C" } : Jvm.MethodName) prog_1_method_15_code (2 : Nat) (Option.some Jvm.ClassFile.FieldType.char)),
  (Jvm.Cond.methodLink "DraftTreeLaw" (48 : Nat) ({ cls := "DraftTree", name := "at", desc := "(I)C" } : Jvm.MethodName)),
  (Jvm.Cond.instanceMethod ({ cls := "DraftTree", name := "at", desc := "(I)C" } : Jvm.MethodName)),
  (Jvm.Cond.selects "DraftTree" ({ cls := "DraftTree", name := "at", desc := "(I)C" } : Jvm.MethodName) ({ cls := "DraftTree", name := "at", desc := "(I)C" } : Jvm.MethodName)),
  (Jvm.Cond.codeWith ({ cls := "DraftTreeLaw", name := "at", desc := "(LDraftTree;I[J)I" } : Jvm.MethodName) method_12_code (4 : Nat) (Option.some Jvm.ClassFile.FieldType.int) [((0 : Nat), (9 : Nat), (12 : Nat), (23 : Nat))]),
  (Jvm.Cond.methodLink "DraftTreeLaw" (120 : Nat) ({ cls := "DraftTreeLaw", name := "at", desc := "(LDraftTree;I[J)I" } : Jvm.MethodName)),
  (Jvm.Cond.static ({ cls := "DraftTreeLaw", name := "at", desc := "(LDraftTree;I[J)I" } : Jvm.MethodName)),
  (Jvm.Cond.code ({ cls := "DraftTreeModel", name := "at", desc := "(I)C" } : Jvm.MethodName) prog_6_method_48_code (2 : Nat) (Option.some Jvm.ClassFile.FieldType.char)),
  (Jvm.Cond.methodLink "DraftTreeLaw" (122 : Nat) ({ cls := "DraftTreeModel", name := "at", desc := "(I)C" } : Jvm.MethodName)),
  (Jvm.Cond.instanceMethod ({ cls := "DraftTreeModel", name := "at", desc := "(I)C" } : Jvm.MethodName)),
  (Jvm.Cond.selects "DraftTreeModel" ({ cls := "DraftTreeModel", name := "at", desc := "(I)C" } : Jvm.MethodName) ({ cls := "DraftTreeModel", name := "at", desc := "(I)C" } : Jvm.MethodName)),
  (Jvm.Cond.code ({ cls := "DraftTree", name := "breaksBefore", desc := "(I)I" } : Jvm.MethodName) prog_1_method_29_code (4 : Nat) (Option.some Jvm.ClassFile.FieldType.int)),
  (Jvm.Cond.methodLink "DraftTree" (146 : Nat) ({ cls := "DraftTree", name := "breaksBefore", desc := "(I)I" } : Jvm.MethodName)),
  (Jvm.Cond.instanceMethod ({ cls := "DraftTree", name := "breaksBefore", desc := "(I)I" } : Jvm.MethodName)),
  (Jvm.Cond.selects "DraftTree" ({ cls := "DraftTree", name := "breaksBefore", desc := "(I)I" } : Jvm.MethodName) ({ cls := "DraftTree", name := "breaksBefore", desc := "(I)I" } : Jvm.MethodName)),
  (Jvm.Cond.code ({ cls := "DraftTree", name := "line", desc := "(II)I" } : Jvm.MethodName) prog_1_method_16_code (3 : Nat) (Option.some Jvm.ClassFile.FieldType.int)),
  (Jvm.Cond.methodLink "DraftTreeLaw" (52 : Nat) ({ cls := "DraftTree", name := "line", desc := "(II)I" } : Jvm.MethodName)),
  (Jvm.Cond.instanceMethod ({ cls := "DraftTree", name := "line", desc := "(II)I" } : Jvm.MethodName)),
  (Jvm.Cond.selects "DraftTree" ({ cls := "DraftTree", name := "line", desc := "(II)I" } : Jvm.MethodName) ({ cls := "DraftTree", name := "line", desc := "(II)I" } : Jvm.MethodName)),
  (Jvm.Cond.codeWith ({ cls := "DraftTreeLaw", name := "line", desc := "(LDraftTree;II[J)I" } : Jvm.MethodName) method_13_code (5 : Nat) (Option.some Jvm.ClassFile.FieldType.int) [((0 : Nat), (10 : Nat), (13 : Nat), (28 : Nat)), ((0 : Nat), (10 : Nat), (17 : Nat), (23 : Nat))]),
  (Jvm.Cond.methodLink "DraftTreeLaw" (123 : Nat) ({ cls := "DraftTreeLaw", name := "line", desc := "(LDraftTree;II[J)I" } : Jvm.MethodName)),
  (Jvm.Cond.static ({ cls := "DraftTreeLaw", name := "line", desc := "(LDraftTree;II[J)I" } : Jvm.MethodName)),
  (Jvm.Cond.code ({ cls := "DraftTreeModel", name := "breaks", desc := "(I)I" } : Jvm.MethodName) prog_6_method_49_code (4 : Nat) (Option.some Jvm.ClassFile.FieldType.int)),
  (Jvm.Cond.methodLink "DraftTreeModel" (238 : Nat) ({ cls := "DraftTreeModel", name := "breaks", desc := "(I)I" } : Jvm.MethodName)),
  (Jvm.Cond.instanceMethod ({ cls := "DraftTreeModel", name := "breaks", desc := "(I)I" } : Jvm.MethodName)),
  (Jvm.Cond.selects "DraftTreeModel" ({ cls := "DraftTreeModel", name := "breaks", desc := "(I)I" } : Jvm.MethodName) ({ cls := "DraftTreeModel", name := "breaks", desc := "(I)I" } : Jvm.MethodName)),
  (Jvm.Cond.code ({ cls := "DraftTreeModel", name := "line", desc := "(II)I" } : Jvm.MethodName) prog_6_method_51_code (7 : Nat) (Option.some Jvm.ClassFile.FieldType.int)),
  (Jvm.Cond.methodLink "DraftTreeLaw" (126 : Nat) ({ cls := "DraftTreeModel", name := "line", desc := "(II)I" } : Jvm.MethodName)),
  (Jvm.Cond.instanceMethod ({ cls := "DraftTreeModel", name := "line", desc := "(II)I" } : Jvm.MethodName)),
  (Jvm.Cond.selects "DraftTreeModel" ({ cls := "DraftTreeModel", name := "line", desc := "(II)I" } : Jvm.MethodName) ({ cls := "DraftTreeModel", name := "line", desc := "(II)I" } : Jvm.MethodName)),
  (Jvm.Cond.code ({ cls := "DraftTree", name := "lineBegin", desc := "(I)I" } : Jvm.MethodName) prog_1_method_30_code (4 : Nat) (Option.some Jvm.ClassFile.FieldType.int)),
  (Jvm.Cond.methodLink "DraftTree" (149 : Nat) ({ cls := "DraftTree", name := "lineBegin", desc := "(I)I" } : Jvm.MethodName)),
  (Jvm.Cond.instanceMethod ({ cls := "DraftTree", name := "lineBegin", desc := "(I)I" } : Jvm.MethodName)),
  (Jvm.Cond.selects "DraftTree" ({ cls := "DraftTree", name := "lineBegin", desc := "(I)I" } : Jvm.MethodName) ({ cls := "DraftTree", name := "lineBegin", desc := "(I)I" } : Jvm.MethodName)),
  (Jvm.Cond.code ({ cls := "DraftTreeModel", name := "lineStart", desc := "(I)I" } : Jvm.MethodName) prog_6_method_50_code (3 : Nat) (Option.some Jvm.ClassFile.FieldType.int)),
  (Jvm.Cond.methodLink "DraftTreeModel" (241 : Nat) ({ cls := "DraftTreeModel", name := "lineStart", desc := "(I)I" } : Jvm.MethodName)),
  (Jvm.Cond.instanceMethod ({ cls := "DraftTreeModel", name := "lineStart", desc := "(I)I" } : Jvm.MethodName)),
  (Jvm.Cond.selects "DraftTreeModel" ({ cls := "DraftTreeModel", name := "lineStart", desc := "(I)I" } : Jvm.MethodName) ({ cls := "DraftTreeModel", name := "lineStart", desc := "(I)I" } : Jvm.MethodName)),
  (Jvm.Cond.code ({ cls := "DraftTree", name := "lineSize", desc := "(I)I" } : Jvm.MethodName) prog_1_method_31_code (4 : Nat) (Option.some Jvm.ClassFile.FieldType.int)),
  (Jvm.Cond.methodLink "DraftTree" (152 : Nat) ({ cls := "DraftTree", name := "lineSize", desc := "(I)I" } : Jvm.MethodName)),
  (Jvm.Cond.instanceMethod ({ cls := "DraftTree", name := "lineSize", desc := "(I)I" } : Jvm.MethodName)),
  (Jvm.Cond.selects "DraftTree" ({ cls := "DraftTree", name := "lineSize", desc := "(I)I" } : Jvm.MethodName) ({ cls := "DraftTree", name := "lineSize", desc := "(I)I" } : Jvm.MethodName)),
  (Jvm.Cond.code ({ cls := "DraftTree", name := "figure", desc := "(I)I" } : Jvm.MethodName) prog_1_method_17_code (2 : Nat) (Option.some Jvm.ClassFile.FieldType.int)),
  (Jvm.Cond.methodLink "DraftTreeLaw" (56 : Nat) ({ cls := "DraftTree", name := "figure", desc := "(I)I" } : Jvm.MethodName)),
  (Jvm.Cond.instanceMethod ({ cls := "DraftTree", name := "figure", desc := "(I)I" } : Jvm.MethodName)),
  (Jvm.Cond.selects "DraftTree" ({ cls := "DraftTree", name := "figure", desc := "(I)I" } : Jvm.MethodName) ({ cls := "DraftTree", name := "figure", desc := "(I)I" } : Jvm.MethodName)),
  (Jvm.Cond.codeWith ({ cls := "DraftTreeLaw", name := "figure", desc := "(LDraftTree;I[J)I" } : Jvm.MethodName) method_14_code (4 : Nat) (Option.some Jvm.ClassFile.FieldType.int) [((0 : Nat), (9 : Nat), (12 : Nat), (28 : Nat))]),
  (Jvm.Cond.methodLink "DraftTreeLaw" (127 : Nat) ({ cls := "DraftTreeLaw", name := "figure", desc := "(LDraftTree;I[J)I" } : Jvm.MethodName)),
  (Jvm.Cond.static ({ cls := "DraftTreeLaw", name := "figure", desc := "(LDraftTree;I[J)I" } : Jvm.MethodName)),
  (Jvm.Cond.code ({ cls := "DraftTreeModel", name := "figure", desc := "(I)I" } : Jvm.MethodName) prog_6_method_52_code (2 : Nat) (Option.some Jvm.ClassFile.FieldType.int)),
  (Jvm.Cond.methodLink "DraftTreeLaw" (129 : Nat) ({ cls := "DraftTreeModel", name := "figure", desc := "(I)I" } : Jvm.MethodName)),
  (Jvm.Cond.instanceMethod ({ cls := "DraftTreeModel", name := "figure", desc := "(I)I" } : Jvm.MethodName)),
  (Jvm.Cond.selects "DraftTreeModel" ({ cls := "DraftTreeModel", name := "figure", desc := "(I)I" } : Jvm.MethodName) ({ cls := "DraftTreeModel", name := "figure", desc := "(I)I" } : Jvm.MethodName)),
  (Jvm.Cond.code ({ cls := "DraftTree", name := "parent", desc := "(I)I" } : Jvm.MethodName) prog_1_method_18_code (2 : Nat) (Option.some Jvm.ClassFile.FieldType.int)),
  (Jvm.Cond.methodLink "DraftTreeLaw" (59 : Nat) ({ cls := "DraftTree", name := "parent", desc := "(I)I" } : Jvm.MethodName)),
  (Jvm.Cond.instanceMethod ({ cls := "DraftTree", name := "parent", desc := "(I)I" } : Jvm.MethodName)),
  (Jvm.Cond.selects "DraftTree" ({ cls := "DraftTree", name := "parent", desc := "(I)I" } : Jvm.MethodName) ({ cls := "DraftTree", name := "parent", desc := "(I)I" } : Jvm.MethodName)),
  (Jvm.Cond.codeWith ({ cls := "DraftTreeLaw", name := "parent", desc := "(LDraftTree;I[J)I" } : Jvm.MethodName) method_15_code (4 : Nat) (Option.some Jvm.ClassFile.FieldType.int) [((0 : Nat), (9 : Nat), (12 : Nat), (28 : Nat))]),
  (Jvm.Cond.methodLink "DraftTreeLaw" (130 : Nat) ({ cls := "DraftTreeLaw", name := "parent", desc := "(LDraftTree;I[J)I" } : Jvm.MethodName)),
  (Jvm.Cond.static ({ cls := "DraftTreeLaw", name := "parent", desc := "(LDraftTree;I[J)I" } : Jvm.MethodName)),
  (Jvm.Cond.code ({ cls := "DraftTreeModel", name := "parent", desc := "(I)I" } : Jvm.MethodName) prog_6_method_53_code (2 : Nat) (Option.some Jvm.ClassFile.FieldType.int)),
  (Jvm.Cond.methodLink "DraftTreeLaw" (132 : Nat) ({ cls := "DraftTreeModel", name := "parent", desc := "(I)I" } : Jvm.MethodName)),
  (Jvm.Cond.instanceMethod ({ cls := "DraftTreeModel", name := "parent", desc := "(I)I" } : Jvm.MethodName)),
  (Jvm.Cond.selects "DraftTreeModel" ({ cls := "DraftTreeModel", name := "parent", desc := "(I)I" } : Jvm.MethodName) ({ cls := "DraftTreeModel", name := "parent", desc := "(I)I" } : Jvm.MethodName))]
def wk_at_oa_0 : List Cond := (Bundle.ownAtoms0 "DraftTree" 145 "java/lang/IndexOutOfBoundsException" ["java/lang/RuntimeException", "java/lang/Exception"]).filter goodWord
def wk_at_oa_1 : List Cond := (Bundle.ownAtoms0 "DraftTree" 68 "java/lang/IllegalStateException" ["java/lang/RuntimeException", "java/lang/Exception"]).filter goodWord
def wk_at_oa_2 : List Cond := (Bundle.ownAtoms0 "DraftTree" 113 "java/util/NoSuchElementException" ["java/lang/RuntimeException", "java/lang/Exception"]).filter goodWord
def wk_at_oa_3 : List Cond := (Bundle.ownAtoms0 "DraftTree" 98 "java/lang/IllegalArgumentException" ["java/lang/RuntimeException", "java/lang/Exception"]).filter goodWord
def wk_tbl : List Cond := wk_l ++ (wk_at_oa_0 ++ (wk_at_oa_1 ++ (wk_at_oa_2 ++ (wk_at_oa_3))))
set_option maxRecDepth 20000 in
theorem lk_0 : (Jvm.Cond.laysFinal "DraftTree" "DraftTree" "slip" "[C") ∈ wk_tbl := List.mem_append_left _ (List.mem_of_getElem? (i := 0) (by rfl))
set_option maxRecDepth 20000 in
theorem lk_1 : (Jvm.Cond.lays "DraftTree" "DraftTree" "slipSize" "I") ∈ wk_tbl := List.mem_append_left _ (List.mem_of_getElem? (i := 1) (by rfl))
set_option maxRecDepth 20000 in
theorem lk_2 : (Jvm.Cond.laysFinal "DraftTree" "DraftTree" "states" "[LDraftTree$State;") ∈ wk_tbl := List.mem_append_left _ (List.mem_of_getElem? (i := 2) (by rfl))
set_option maxRecDepth 20000 in
theorem lk_3 : (Jvm.Cond.lays "DraftTree" "DraftTree" "stateCount" "I") ∈ wk_tbl := List.mem_append_left _ (List.mem_of_getElem? (i := 3) (by rfl))
set_option maxRecDepth 20000 in
theorem lk_4 : (Jvm.Cond.lays "DraftTree" "DraftTree" "present" "I") ∈ wk_tbl := List.mem_append_left _ (List.mem_of_getElem? (i := 4) (by rfl))
set_option maxRecDepth 20000 in
theorem lk_5 : (Jvm.Cond.lays "DraftTree" "DraftTree" "text" "[C") ∈ wk_tbl := List.mem_append_left _ (List.mem_of_getElem? (i := 5) (by rfl))
set_option maxRecDepth 20000 in
theorem lk_6 : (Jvm.Cond.lays "DraftTree" "DraftTree" "cursor" "I") ∈ wk_tbl := List.mem_append_left _ (List.mem_of_getElem? (i := 6) (by rfl))
set_option maxRecDepth 20000 in
theorem lk_7 : (Jvm.Cond.lays "DraftTree" "DraftTree" "mark" "I") ∈ wk_tbl := List.mem_append_left _ (List.mem_of_getElem? (i := 7) (by rfl))
set_option maxRecDepth 20000 in
theorem lk_8 : (Jvm.Cond.laysFinal "DraftTree" "DraftTree" "reader" "LDraftTree$PatternReader;") ∈ wk_tbl := List.mem_append_left _ (List.mem_of_getElem? (i := 8) (by rfl))
set_option maxRecDepth 20000 in
theorem lk_9 : (Jvm.Cond.lays "DraftTree" "DraftTree" "pattern" "LDraftTree$Automaton;") ∈ wk_tbl := List.mem_append_left _ (List.mem_of_getElem? (i := 9) (by rfl))
set_option maxRecDepth 20000 in
theorem lk_10 : (Jvm.Cond.lays "DraftTree" "DraftTree" "hasPattern" "Z") ∈ wk_tbl := List.mem_append_left _ (List.mem_of_getElem? (i := 10) (by rfl))
set_option maxRecDepth 20000 in
theorem lk_11 : (Jvm.Cond.lays "DraftTree" "DraftTree" "latestFault" "I") ∈ wk_tbl := List.mem_append_left _ (List.mem_of_getElem? (i := 11) (by rfl))
set_option maxRecDepth 20000 in
theorem lk_12 : (Jvm.Cond.laysFinal "DraftTree" "DraftTree" "matchStarts" "[I") ∈ wk_tbl := List.mem_append_left _ (List.mem_of_getElem? (i := 12) (by rfl))
set_option maxRecDepth 20000 in
theorem lk_13 : (Jvm.Cond.laysFinal "DraftTree" "DraftTree" "matchEnds" "[I") ∈ wk_tbl := List.mem_append_left _ (List.mem_of_getElem? (i := 13) (by rfl))
set_option maxRecDepth 20000 in
theorem lk_14 : (Jvm.Cond.classLink "DraftTreeLaw" (8 : Nat) "DraftTree") ∈ wk_tbl := List.mem_append_left _ (List.mem_of_getElem? (i := 14) (by rfl))
set_option maxRecDepth 20000 in
theorem lk_15 : (Jvm.Cond.instantiable "DraftTree" (14 : Nat)) ∈ wk_tbl := List.mem_append_left _ (List.mem_of_getElem? (i := 15) (by rfl))
set_option maxRecDepth 20000 in
theorem lk_16 : (Jvm.Cond.initialized "DraftTree") ∈ wk_tbl := List.mem_append_left _ (List.mem_of_getElem? (i := 16) (by rfl))
set_option maxRecDepth 20000 in
theorem lk_17 : (Jvm.Cond.methodLink "DraftTree" (1 : Nat) ({ cls := "java/lang/Object", name := "<init>", desc := "()V" } : Jvm.MethodName)) ∈ wk_tbl := List.mem_append_left _ (List.mem_of_getElem? (i := 17) (by rfl))
set_option maxRecDepth 20000 in
theorem lk_18 : (Jvm.Cond.instanceMethod ({ cls := "java/lang/Object", name := "<init>", desc := "()V" } : Jvm.MethodName)) ∈ wk_tbl := List.mem_append_left _ (List.mem_of_getElem? (i := 18) (by rfl))
set_option maxRecDepth 20000 in
theorem lk_19 : (Jvm.Cond.code ({ cls := "java/lang/Object", name := "<init>", desc := "()V" } : Jvm.MethodName) object_method_1_code (1 : Nat) (Option.none : Option Jvm.ClassFile.FieldType)) ∈ wk_tbl := List.mem_append_left _ (List.mem_of_getElem? (i := 19) (by rfl))
set_option maxRecDepth 20000 in
theorem lk_20 : (Jvm.Cond.arrayClass Jvm.ClassFile.FieldType.char) ∈ wk_tbl := List.mem_append_left _ (List.mem_of_getElem? (i := 20) (by rfl))
set_option maxRecDepth 20000 in
theorem lk_21 : (Jvm.Cond.fieldLink "DraftTree" (9 : Nat) "DraftTree" "slip" "[C") ∈ wk_tbl := List.mem_append_left _ (List.mem_of_getElem? (i := 21) (by rfl))
set_option maxRecDepth 20000 in
theorem lk_22 : (Jvm.Cond.classLink "DraftTree" (13 : Nat) "DraftTree$State") ∈ wk_tbl := List.mem_append_left _ (List.mem_of_getElem? (i := 22) (by rfl))
set_option maxRecDepth 20000 in
theorem lk_23 : (Jvm.Cond.fieldLink "DraftTree" (15 : Nat) "DraftTree" "states" "[LDraftTree$State;") ∈ wk_tbl := List.mem_append_left _ (List.mem_of_getElem? (i := 23) (by rfl))
set_option maxRecDepth 20000 in
theorem lk_24 : (Jvm.Cond.fieldLink "DraftTree" (19 : Nat) "DraftTree" "text" "[C") ∈ wk_tbl := List.mem_append_left _ (List.mem_of_getElem? (i := 24) (by rfl))
set_option maxRecDepth 20000 in
theorem lk_25 : (Jvm.Cond.laysFinal "DraftTree$State" "DraftTree$State" "text" "[C") ∈ wk_tbl := List.mem_append_left _ (List.mem_of_getElem? (i := 25) (by rfl))
set_option maxRecDepth 20000 in
theorem lk_26 : (Jvm.Cond.laysFinal "DraftTree$State" "DraftTree$State" "origin" "I") ∈ wk_tbl := List.mem_append_left _ (List.mem_of_getElem? (i := 26) (by rfl))
set_option maxRecDepth 20000 in
theorem lk_27 : (Jvm.Cond.lays "DraftTree$State" "DraftTree$State" "place" "I") ∈ wk_tbl := List.mem_append_left _ (List.mem_of_getElem? (i := 27) (by rfl))
set_option maxRecDepth 20000 in
theorem lk_28 : (Jvm.Cond.lays "DraftTree$State" "DraftTree$State" "latestChild" "I") ∈ wk_tbl := List.mem_append_left _ (List.mem_of_getElem? (i := 28) (by rfl))
set_option maxRecDepth 20000 in
theorem lk_29 : (Jvm.Cond.instantiable "DraftTree$State" (4 : Nat)) ∈ wk_tbl := List.mem_append_left _ (List.mem_of_getElem? (i := 29) (by rfl))
set_option maxRecDepth 20000 in
theorem lk_30 : (Jvm.Cond.initialized "DraftTree$State") ∈ wk_tbl := List.mem_append_left _ (List.mem_of_getElem? (i := 30) (by rfl))
set_option maxRecDepth 20000 in
theorem lk_31 : (Jvm.Cond.methodLink "DraftTree$State" (3 : Nat) ({ cls := "java/lang/Object", name := "<init>", desc := "()V" } : Jvm.MethodName)) ∈ wk_tbl := List.mem_append_left _ (List.mem_of_getElem? (i := 31) (by rfl))
set_option maxRecDepth 20000 in
theorem lk_32 : (Jvm.Cond.fieldLink "DraftTree$State" (9 : Nat) "DraftTree$State" "text" "[C") ∈ wk_tbl := List.mem_append_left _ (List.mem_of_getElem? (i := 32) (by rfl))
set_option maxRecDepth 20000 in
theorem lk_33 : (Jvm.Cond.fieldLink "DraftTree$State" (15 : Nat) "DraftTree$State" "place" "I") ∈ wk_tbl := List.mem_append_left _ (List.mem_of_getElem? (i := 33) (by rfl))
set_option maxRecDepth 20000 in
theorem lk_34 : (Jvm.Cond.fieldLink "DraftTree$State" (19 : Nat) "DraftTree$State" "origin" "I") ∈ wk_tbl := List.mem_append_left _ (List.mem_of_getElem? (i := 34) (by rfl))
set_option maxRecDepth 20000 in
theorem lk_35 : (Jvm.Cond.fieldLink "DraftTree$State" (22 : Nat) "DraftTree$State" "latestChild" "I") ∈ wk_tbl := List.mem_append_left _ (List.mem_of_getElem? (i := 35) (by rfl))
set_option maxRecDepth 20000 in
theorem lk_36 : (Jvm.Cond.code ({ cls := "DraftTree$State", name := "<init>", desc := "([CII)V" } : Jvm.MethodName) prog_4_method_1_code (4 : Nat) (Option.none : Option Jvm.ClassFile.FieldType)) ∈ wk_tbl := List.mem_append_left _ (List.mem_of_getElem? (i := 36) (by rfl))
set_option maxRecDepth 20000 in
theorem lk_37 : (Jvm.Cond.methodLink "DraftTree" (22 : Nat) ({ cls := "DraftTree$State", name := "<init>", desc := "([CII)V" } : Jvm.MethodName)) ∈ wk_tbl := List.mem_append_left _ (List.mem_of_getElem? (i := 37) (by rfl))
set_option maxRecDepth 20000 in
theorem lk_38 : (Jvm.Cond.instanceMethod ({ cls := "DraftTree$State", name := "<init>", desc := "([CII)V" } : Jvm.MethodName)) ∈ wk_tbl := List.mem_append_left _ (List.mem_of_getElem? (i := 38) (by rfl))
set_option maxRecDepth 20000 in
theorem lk_39 : (Jvm.Cond.fieldLink "DraftTree" (25 : Nat) "DraftTree" "stateCount" "I") ∈ wk_tbl := List.mem_append_left _ (List.mem_of_getElem? (i := 39) (by rfl))
set_option maxRecDepth 20000 in
theorem lk_40 : (Jvm.Cond.fieldLink "DraftTree" (29 : Nat) "DraftTree" "mark" "I") ∈ wk_tbl := List.mem_append_left _ (List.mem_of_getElem? (i := 40) (by rfl))
set_option maxRecDepth 20000 in
theorem lk_41 : (Jvm.Cond.laysFinal "DraftTree$PatternReader" "DraftTree$PatternReader" "choiceStarts" "[I") ∈ wk_tbl := List.mem_append_left _ (List.mem_of_getElem? (i := 41) (by rfl))
set_option maxRecDepth 20000 in
theorem lk_42 : (Jvm.Cond.laysFinal "DraftTree$PatternReader" "DraftTree$PatternReader" "choiceEnds" "[I") ∈ wk_tbl := List.mem_append_left _ (List.mem_of_getElem? (i := 42) (by rfl))
set_option maxRecDepth 20000 in
theorem lk_43 : (Jvm.Cond.laysFinal "DraftTree$PatternReader" "DraftTree$PatternReader" "rowHeads" "[I") ∈ wk_tbl := List.mem_append_left _ (List.mem_of_getElem? (i := 43) (by rfl))
set_option maxRecDepth 20000 in
theorem lk_44 : (Jvm.Cond.laysFinal "DraftTree$PatternReader" "DraftTree$PatternReader" "outerTails" "[I") ∈ wk_tbl := List.mem_append_left _ (List.mem_of_getElem? (i := 44) (by rfl))
set_option maxRecDepth 20000 in
theorem lk_45 : (Jvm.Cond.lays "DraftTree$PatternReader" "DraftTree$PatternReader" "made" "LDraftTree$Automaton;") ∈ wk_tbl := List.mem_append_left _ (List.mem_of_getElem? (i := 45) (by rfl))
set_option maxRecDepth 20000 in
theorem lk_46 : (Jvm.Cond.lays "DraftTree$PatternReader" "DraftTree$PatternReader" "source" "[C") ∈ wk_tbl := List.mem_append_left _ (List.mem_of_getElem? (i := 46) (by rfl))
set_option maxRecDepth 20000 in
theorem lk_47 : (Jvm.Cond.lays "DraftTree$PatternReader" "DraftTree$PatternReader" "size" "I") ∈ wk_tbl := List.mem_append_left _ (List.mem_of_getElem? (i := 47) (by rfl))
set_option maxRecDepth 20000 in
theorem lk_48 : (Jvm.Cond.lays "DraftTree$PatternReader" "DraftTree$PatternReader" "position" "I") ∈ wk_tbl := List.mem_append_left _ (List.mem_of_getElem? (i := 48) (by rfl))
set_option maxRecDepth 20000 in
theorem lk_49 : (Jvm.Cond.lays "DraftTree$PatternReader" "DraftTree$PatternReader" "depth" "I") ∈ wk_tbl := List.mem_append_left _ (List.mem_of_getElem? (i := 49) (by rfl))
set_option maxRecDepth 20000 in
theorem lk_50 : (Jvm.Cond.lays "DraftTree$PatternReader" "DraftTree$PatternReader" "fault" "I") ∈ wk_tbl := List.mem_append_left _ (List.mem_of_getElem? (i := 50) (by rfl))
set_option maxRecDepth 20000 in
theorem lk_51 : (Jvm.Cond.lays "DraftTree$PatternReader" "DraftTree$PatternReader" "lead" "I") ∈ wk_tbl := List.mem_append_left _ (List.mem_of_getElem? (i := 51) (by rfl))
set_option maxRecDepth 20000 in
theorem lk_52 : (Jvm.Cond.lays "DraftTree$PatternReader" "DraftTree$PatternReader" "first" "I") ∈ wk_tbl := List.mem_append_left _ (List.mem_of_getElem? (i := 52) (by rfl))
set_option maxRecDepth 20000 in
theorem lk_53 : (Jvm.Cond.lays "DraftTree$PatternReader" "DraftTree$PatternReader" "tail" "I") ∈ wk_tbl := List.mem_append_left _ (List.mem_of_getElem? (i := 53) (by rfl))
set_option maxRecDepth 20000 in
theorem lk_54 : (Jvm.Cond.classLink "DraftTree" (32 : Nat) "DraftTree$PatternReader") ∈ wk_tbl := List.mem_append_left _ (List.mem_of_getElem? (i := 54) (by rfl))
set_option maxRecDepth 20000 in
theorem lk_55 : (Jvm.Cond.instantiable "DraftTree$PatternReader" (13 : Nat)) ∈ wk_tbl := List.mem_append_left _ (List.mem_of_getElem? (i := 55) (by rfl))
set_option maxRecDepth 20000 in
theorem lk_56 : (Jvm.Cond.initialized "DraftTree$PatternReader") ∈ wk_tbl := List.mem_append_left _ (List.mem_of_getElem? (i := 56) (by rfl))
set_option maxRecDepth 20000 in
theorem lk_57 : (Jvm.Cond.methodLink "DraftTree$PatternReader" (3 : Nat) ({ cls := "java/lang/Object", name := "<init>", desc := "()V" } : Jvm.MethodName)) ∈ wk_tbl := List.mem_append_left _ (List.mem_of_getElem? (i := 57) (by rfl))
set_option maxRecDepth 20000 in
theorem lk_58 : (Jvm.Cond.arrayClass Jvm.ClassFile.FieldType.int) ∈ wk_tbl := List.mem_append_left _ (List.mem_of_getElem? (i := 58) (by rfl))
set_option maxRecDepth 20000 in
theorem lk_59 : (Jvm.Cond.fieldLink "DraftTree$PatternReader" (9 : Nat) "DraftTree$PatternReader" "choiceStarts" "[I") ∈ wk_tbl := List.mem_append_left _ (List.mem_of_getElem? (i := 59) (by rfl))
set_option maxRecDepth 20000 in
theorem lk_60 : (Jvm.Cond.fieldLink "DraftTree$PatternReader" (15 : Nat) "DraftTree$PatternReader" "choiceEnds" "[I") ∈ wk_tbl := List.mem_append_left _ (List.mem_of_getElem? (i := 60) (by rfl))
set_option maxRecDepth 20000 in
theorem lk_61 : (Jvm.Cond.fieldLink "DraftTree$PatternReader" (18 : Nat) "DraftTree$PatternReader" "rowHeads" "[I") ∈ wk_tbl := List.mem_append_left _ (List.mem_of_getElem? (i := 61) (by rfl))
set_option maxRecDepth 20000 in
theorem lk_62 : (Jvm.Cond.fieldLink "DraftTree$PatternReader" (21 : Nat) "DraftTree$PatternReader" "outerTails" "[I") ∈ wk_tbl := List.mem_append_left _ (List.mem_of_getElem? (i := 62) (by rfl))
set_option maxRecDepth 20000 in
theorem lk_63 : (Jvm.Cond.laysFinal "DraftTree$Automaton" "DraftTree$Automaton" "kinds" "[I") ∈ wk_tbl := List.mem_append_left _ (List.mem_of_getElem? (i := 63) (by rfl))
set_option maxRecDepth 20000 in
theorem lk_64 : (Jvm.Cond.laysFinal "DraftTree$Automaton" "DraftTree$Automaton" "next" "[I") ∈ wk_tbl := List.mem_append_left _ (List.mem_of_getElem? (i := 64) (by rfl))
set_option maxRecDepth 20000 in
theorem lk_65 : (Jvm.Cond.laysFinal "DraftTree$Automaton" "DraftTree$Automaton" "other" "[I") ∈ wk_tbl := List.mem_append_left _ (List.mem_of_getElem? (i := 65) (by rfl))
set_option maxRecDepth 20000 in
theorem lk_66 : (Jvm.Cond.laysFinal "DraftTree$Automaton" "DraftTree$Automaton" "lowCodes" "[J") ∈ wk_tbl := List.mem_append_left _ (List.mem_of_getElem? (i := 66) (by rfl))
set_option maxRecDepth 20000 in
theorem lk_67 : (Jvm.Cond.laysFinal "DraftTree$Automaton" "DraftTree$Automaton" "highCodes" "[J") ∈ wk_tbl := List.mem_append_left _ (List.mem_of_getElem? (i := 67) (by rfl))
set_option maxRecDepth 20000 in
theorem lk_68 : (Jvm.Cond.lays "DraftTree$Automaton" "DraftTree$Automaton" "size" "I") ∈ wk_tbl := List.mem_append_left _ (List.mem_of_getElem? (i := 68) (by rfl))
set_option maxRecDepth 20000 in
theorem lk_69 : (Jvm.Cond.lays "DraftTree$Automaton" "DraftTree$Automaton" "start" "I") ∈ wk_tbl := List.mem_append_left _ (List.mem_of_getElem? (i := 69) (by rfl))
set_option maxRecDepth 20000 in
theorem lk_70 : (Jvm.Cond.lays "DraftTree$Automaton" "DraftTree$Automaton" "goal" "I") ∈ wk_tbl := List.mem_append_left _ (List.mem_of_getElem? (i := 70) (by rfl))
set_option maxRecDepth 20000 in
theorem lk_71 : (Jvm.Cond.lays "DraftTree$Automaton" "DraftTree$Automaton" "matchStart" "I") ∈ wk_tbl := List.mem_append_left _ (List.mem_of_getElem? (i := 71) (by rfl))
set_option maxRecDepth 20000 in
theorem lk_72 : (Jvm.Cond.lays "DraftTree$Automaton" "DraftTree$Automaton" "matchEnd" "I") ∈ wk_tbl := List.mem_append_left _ (List.mem_of_getElem? (i := 72) (by rfl))
set_option maxRecDepth 20000 in
theorem lk_73 : (Jvm.Cond.classLink "DraftTree$PatternReader" (24 : Nat) "DraftTree$Automaton") ∈ wk_tbl := List.mem_append_left _ (List.mem_of_getElem? (i := 73) (by rfl))
set_option maxRecDepth 20000 in
theorem lk_74 : (Jvm.Cond.instantiable "DraftTree$Automaton" (10 : Nat)) ∈ wk_tbl := List.mem_append_left _ (List.mem_of_getElem? (i := 74) (by rfl))
set_option maxRecDepth 20000 in
theorem lk_75 : (Jvm.Cond.initialized "DraftTree$Automaton") ∈ wk_tbl := List.mem_append_left _ (List.mem_of_getElem? (i := 75) (by rfl))
set_option maxRecDepth 20000 in
theorem lk_76 : (Jvm.Cond.methodLink "DraftTree$Automaton" (3 : Nat) ({ cls := "java/lang/Object", name := "<init>", desc := "()V" } : Jvm.MethodName)) ∈ wk_tbl := List.mem_append_left _ (List.mem_of_getElem? (i := 76) (by rfl))
set_option maxRecDepth 20000 in
theorem lk_77 : (Jvm.Cond.fieldLink "DraftTree$Automaton" (11 : Nat) "DraftTree$Automaton" "kinds" "[I") ∈ wk_tbl := List.mem_append_left _ (List.mem_of_getElem? (i := 77) (by rfl))
set_option maxRecDepth 20000 in
theorem lk_78 : (Jvm.Cond.fieldLink "DraftTree$Automaton" (15 : Nat) "DraftTree$Automaton" "next" "[I") ∈ wk_tbl := List.mem_append_left _ (List.mem_of_getElem? (i := 78) (by rfl))
set_option maxRecDepth 20000 in
theorem lk_79 : (Jvm.Cond.fieldLink "DraftTree$Automaton" (18 : Nat) "DraftTree$Automaton" "other" "[I") ∈ wk_tbl := List.mem_append_left _ (List.mem_of_getElem? (i := 79) (by rfl))
set_option maxRecDepth 20000 in
theorem lk_80 : (Jvm.Cond.arrayClass Jvm.ClassFile.FieldType.long) ∈ wk_tbl := List.mem_append_left _ (List.mem_of_getElem? (i := 80) (by rfl))
set_option maxRecDepth 20000 in
theorem lk_81 : (Jvm.Cond.fieldLink "DraftTree$Automaton" (21 : Nat) "DraftTree$Automaton" "lowCodes" "[J") ∈ wk_tbl := List.mem_append_left _ (List.mem_of_getElem? (i := 81) (by rfl))
set_option maxRecDepth 20000 in
theorem lk_82 : (Jvm.Cond.fieldLink "DraftTree$Automaton" (25 : Nat) "DraftTree$Automaton" "highCodes" "[J") ∈ wk_tbl := List.mem_append_left _ (List.mem_of_getElem? (i := 82) (by rfl))
set_option maxRecDepth 20000 in
theorem lk_83 : (Jvm.Cond.code ({ cls := "DraftTree$Automaton", name := "<init>", desc := "()V" } : Jvm.MethodName) prog_2_method_1_code (1 : Nat) (Option.none : Option Jvm.ClassFile.FieldType)) ∈ wk_tbl := List.mem_append_left _ (List.mem_of_getElem? (i := 83) (by rfl))
set_option maxRecDepth 20000 in
theorem lk_84 : (Jvm.Cond.methodLink "DraftTree$PatternReader" (26 : Nat) ({ cls := "DraftTree$Automaton", name := "<init>", desc := "()V" } : Jvm.MethodName)) ∈ wk_tbl := List.mem_append_left _ (List.mem_of_getElem? (i := 84) (by rfl))
set_option maxRecDepth 20000 in
theorem lk_85 : (Jvm.Cond.instanceMethod ({ cls := "DraftTree$Automaton", name := "<init>", desc := "()V" } : Jvm.MethodName)) ∈ wk_tbl := List.mem_append_left _ (List.mem_of_getElem? (i := 85) (by rfl))
set_option maxRecDepth 20000 in
theorem lk_86 : (Jvm.Cond.fieldLink "DraftTree$PatternReader" (27 : Nat) "DraftTree$PatternReader" "made" "LDraftTree$Automaton;") ∈ wk_tbl := List.mem_append_left _ (List.mem_of_getElem? (i := 86) (by rfl))
set_option maxRecDepth 20000 in
theorem lk_87 : (Jvm.Cond.fieldLink "DraftTree$PatternReader" (31 : Nat) "DraftTree$PatternReader" "source" "[C") ∈ wk_tbl := List.mem_append_left _ (List.mem_of_getElem? (i := 87) (by rfl))
set_option maxRecDepth 20000 in
theorem lk_88 : (Jvm.Cond.code ({ cls := "DraftTree$PatternReader", name := "<init>", desc := "()V" } : Jvm.MethodName) prog_3_method_1_code (1 : Nat) (Option.none : Option Jvm.ClassFile.FieldType)) ∈ wk_tbl := List.mem_append_left _ (List.mem_of_getElem? (i := 88) (by rfl))
set_option maxRecDepth 20000 in
theorem lk_89 : (Jvm.Cond.methodLink "DraftTree" (34 : Nat) ({ cls := "DraftTree$PatternReader", name := "<init>", desc := "()V" } : Jvm.MethodName)) ∈ wk_tbl := List.mem_append_left _ (List.mem_of_getElem? (i := 89) (by rfl))
set_option maxRecDepth 20000 in
theorem lk_90 : (Jvm.Cond.instanceMethod ({ cls := "DraftTree$PatternReader", name := "<init>", desc := "()V" } : Jvm.MethodName)) ∈ wk_tbl := List.mem_append_left _ (List.mem_of_getElem? (i := 90) (by rfl))
set_option maxRecDepth 20000 in
theorem lk_91 : (Jvm.Cond.fieldLink "DraftTree" (35 : Nat) "DraftTree" "reader" "LDraftTree$PatternReader;") ∈ wk_tbl := List.mem_append_left _ (List.mem_of_getElem? (i := 91) (by rfl))
set_option maxRecDepth 20000 in
theorem lk_92 : (Jvm.Cond.classLink "DraftTree" (39 : Nat) "DraftTree$Automaton") ∈ wk_tbl := List.mem_append_left _ (List.mem_of_getElem? (i := 92) (by rfl))
set_option maxRecDepth 20000 in
theorem lk_93 : (Jvm.Cond.methodLink "DraftTree" (41 : Nat) ({ cls := "DraftTree$Automaton", name := "<init>", desc := "()V" } : Jvm.MethodName)) ∈ wk_tbl := List.mem_append_left _ (List.mem_of_getElem? (i := 93) (by rfl))
set_option maxRecDepth 20000 in
theorem lk_94 : (Jvm.Cond.fieldLink "DraftTree" (42 : Nat) "DraftTree" "pattern" "LDraftTree$Automaton;") ∈ wk_tbl := List.mem_append_left _ (List.mem_of_getElem? (i := 94) (by rfl))
set_option maxRecDepth 20000 in
theorem lk_95 : (Jvm.Cond.fieldLink "DraftTree" (46 : Nat) "DraftTree" "latestFault" "I") ∈ wk_tbl := List.mem_append_left _ (List.mem_of_getElem? (i := 95) (by rfl))
set_option maxRecDepth 20000 in
theorem lk_96 : (Jvm.Cond.fieldLink "DraftTree" (49 : Nat) "DraftTree" "matchStarts" "[I") ∈ wk_tbl := List.mem_append_left _ (List.mem_of_getElem? (i := 96) (by rfl))
set_option maxRecDepth 20000 in
theorem lk_97 : (Jvm.Cond.fieldLink "DraftTree" (53 : Nat) "DraftTree" "matchEnds" "[I") ∈ wk_tbl := List.mem_append_left _ (List.mem_of_getElem? (i := 97) (by rfl))
set_option maxRecDepth 20000 in
theorem lk_98 : (Jvm.Cond.code ({ cls := "DraftTree", name := "<init>", desc := "()V" } : Jvm.MethodName) prog_1_method_1_code (1 : Nat) (Option.none : Option Jvm.ClassFile.FieldType)) ∈ wk_tbl := List.mem_append_left _ (List.mem_of_getElem? (i := 98) (by rfl))
set_option maxRecDepth 20000 in
theorem lk_99 : (Jvm.Cond.methodLink "DraftTreeLaw" (62 : Nat) ({ cls := "DraftTree", name := "<init>", desc := "()V" } : Jvm.MethodName)) ∈ wk_tbl := List.mem_append_left _ (List.mem_of_getElem? (i := 99) (by rfl))
set_option maxRecDepth 20000 in
theorem lk_100 : (Jvm.Cond.instanceMethod ({ cls := "DraftTree", name := "<init>", desc := "()V" } : Jvm.MethodName)) ∈ wk_tbl := List.mem_append_left _ (List.mem_of_getElem? (i := 100) (by rfl))
set_option maxRecDepth 20000 in
theorem lk_101 : (Jvm.Cond.lays "DraftTreeModel" "DraftTreeModel" "code" "I") ∈ wk_tbl := List.mem_append_left _ (List.mem_of_getElem? (i := 101) (by rfl))
set_option maxRecDepth 20000 in
theorem lk_102 : (Jvm.Cond.lays "DraftTreeModel" "DraftTreeModel" "typed" "I") ∈ wk_tbl := List.mem_append_left _ (List.mem_of_getElem? (i := 102) (by rfl))
set_option maxRecDepth 20000 in
theorem lk_103 : (Jvm.Cond.laysFinal "DraftTreeModel" "DraftTreeModel" "slip" "[C") ∈ wk_tbl := List.mem_append_left _ (List.mem_of_getElem? (i := 103) (by rfl))
set_option maxRecDepth 20000 in
theorem lk_104 : (Jvm.Cond.lays "DraftTreeModel" "DraftTreeModel" "states" "I") ∈ wk_tbl := List.mem_append_left _ (List.mem_of_getElem? (i := 104) (by rfl))
set_option maxRecDepth 20000 in
theorem lk_105 : (Jvm.Cond.lays "DraftTreeModel" "DraftTreeModel" "present" "I") ∈ wk_tbl := List.mem_append_left _ (List.mem_of_getElem? (i := 105) (by rfl))
set_option maxRecDepth 20000 in
theorem lk_106 : (Jvm.Cond.laysFinal "DraftTreeModel" "DraftTreeModel" "texts" "[C") ∈ wk_tbl := List.mem_append_left _ (List.mem_of_getElem? (i := 106) (by rfl))
set_option maxRecDepth 20000 in
theorem lk_107 : (Jvm.Cond.laysFinal "DraftTreeModel" "DraftTreeModel" "lengths" "[I") ∈ wk_tbl := List.mem_append_left _ (List.mem_of_getElem? (i := 107) (by rfl))
set_option maxRecDepth 20000 in
theorem lk_108 : (Jvm.Cond.laysFinal "DraftTreeModel" "DraftTreeModel" "places" "[I") ∈ wk_tbl := List.mem_append_left _ (List.mem_of_getElem? (i := 108) (by rfl))
set_option maxRecDepth 20000 in
theorem lk_109 : (Jvm.Cond.laysFinal "DraftTreeModel" "DraftTreeModel" "parents" "[I") ∈ wk_tbl := List.mem_append_left _ (List.mem_of_getElem? (i := 109) (by rfl))
set_option maxRecDepth 20000 in
theorem lk_110 : (Jvm.Cond.laysFinal "DraftTreeModel" "DraftTreeModel" "came" "[I") ∈ wk_tbl := List.mem_append_left _ (List.mem_of_getElem? (i := 110) (by rfl))
set_option maxRecDepth 20000 in
theorem lk_111 : (Jvm.Cond.lays "DraftTreeModel" "DraftTreeModel" "clock" "I") ∈ wk_tbl := List.mem_append_left _ (List.mem_of_getElem? (i := 111) (by rfl))
set_option maxRecDepth 20000 in
theorem lk_112 : (Jvm.Cond.lays "DraftTreeModel" "DraftTreeModel" "cursor" "I") ∈ wk_tbl := List.mem_append_left _ (List.mem_of_getElem? (i := 112) (by rfl))
set_option maxRecDepth 20000 in
theorem lk_113 : (Jvm.Cond.lays "DraftTreeModel" "DraftTreeModel" "mark" "I") ∈ wk_tbl := List.mem_append_left _ (List.mem_of_getElem? (i := 113) (by rfl))
set_option maxRecDepth 20000 in
theorem lk_114 : (Jvm.Cond.lays "DraftTreeModel" "DraftTreeModel" "compiled" "Z") ∈ wk_tbl := List.mem_append_left _ (List.mem_of_getElem? (i := 114) (by rfl))
set_option maxRecDepth 20000 in
theorem lk_115 : (Jvm.Cond.lays "DraftTreeModel" "DraftTreeModel" "wrongAt" "I") ∈ wk_tbl := List.mem_append_left _ (List.mem_of_getElem? (i := 115) (by rfl))
set_option maxRecDepth 20000 in
theorem lk_116 : (Jvm.Cond.lays "DraftTreeModel" "DraftTreeModel" "size" "I") ∈ wk_tbl := List.mem_append_left _ (List.mem_of_getElem? (i := 116) (by rfl))
set_option maxRecDepth 20000 in
theorem lk_117 : (Jvm.Cond.laysFinal "DraftTreeModel" "DraftTreeModel" "pattern" "[C") ∈ wk_tbl := List.mem_append_left _ (List.mem_of_getElem? (i := 117) (by rfl))
set_option maxRecDepth 20000 in
theorem lk_118 : (Jvm.Cond.lays "DraftTreeModel" "DraftTreeModel" "nodes" "I") ∈ wk_tbl := List.mem_append_left _ (List.mem_of_getElem? (i := 118) (by rfl))
set_option maxRecDepth 20000 in
theorem lk_119 : (Jvm.Cond.laysFinal "DraftTreeModel" "DraftTreeModel" "kind" "[I") ∈ wk_tbl := List.mem_append_left _ (List.mem_of_getElem? (i := 119) (by rfl))
set_option maxRecDepth 20000 in
theorem lk_120 : (Jvm.Cond.laysFinal "DraftTreeModel" "DraftTreeModel" "from" "[I") ∈ wk_tbl := List.mem_append_left _ (List.mem_of_getElem? (i := 120) (by rfl))
set_option maxRecDepth 20000 in
theorem lk_121 : (Jvm.Cond.laysFinal "DraftTreeModel" "DraftTreeModel" "to" "[I") ∈ wk_tbl := List.mem_append_left _ (List.mem_of_getElem? (i := 121) (by rfl))
set_option maxRecDepth 20000 in
theorem lk_122 : (Jvm.Cond.laysFinal "DraftTreeModel" "DraftTreeModel" "one" "[I") ∈ wk_tbl := List.mem_append_left _ (List.mem_of_getElem? (i := 122) (by rfl))
set_option maxRecDepth 20000 in
theorem lk_123 : (Jvm.Cond.laysFinal "DraftTreeModel" "DraftTreeModel" "two" "[I") ∈ wk_tbl := List.mem_append_left _ (List.mem_of_getElem? (i := 123) (by rfl))
set_option maxRecDepth 20000 in
theorem lk_124 : (Jvm.Cond.lays "DraftTreeModel" "DraftTreeModel" "first" "I") ∈ wk_tbl := List.mem_append_left _ (List.mem_of_getElem? (i := 124) (by rfl))
set_option maxRecDepth 20000 in
theorem lk_125 : (Jvm.Cond.lays "DraftTreeModel" "DraftTreeModel" "last" "I") ∈ wk_tbl := List.mem_append_left _ (List.mem_of_getElem? (i := 125) (by rfl))
set_option maxRecDepth 20000 in
theorem lk_126 : (Jvm.Cond.lays "DraftTreeModel" "DraftTreeModel" "pieces" "I") ∈ wk_tbl := List.mem_append_left _ (List.mem_of_getElem? (i := 126) (by rfl))
set_option maxRecDepth 20000 in
theorem lk_127 : (Jvm.Cond.laysFinal "DraftTreeModel" "DraftTreeModel" "head" "[I") ∈ wk_tbl := List.mem_append_left _ (List.mem_of_getElem? (i := 127) (by rfl))
set_option maxRecDepth 20000 in
theorem lk_128 : (Jvm.Cond.laysFinal "DraftTreeModel" "DraftTreeModel" "tail" "[I") ∈ wk_tbl := List.mem_append_left _ (List.mem_of_getElem? (i := 128) (by rfl))
set_option maxRecDepth 20000 in
theorem lk_129 : (Jvm.Cond.lays "DraftTreeModel" "DraftTreeModel" "open" "I") ∈ wk_tbl := List.mem_append_left _ (List.mem_of_getElem? (i := 129) (by rfl))
set_option maxRecDepth 20000 in
theorem lk_130 : (Jvm.Cond.laysFinal "DraftTreeModel" "DraftTreeModel" "choice" "[I") ∈ wk_tbl := List.mem_append_left _ (List.mem_of_getElem? (i := 130) (by rfl))
set_option maxRecDepth 20000 in
theorem lk_131 : (Jvm.Cond.laysFinal "DraftTreeModel" "DraftTreeModel" "row" "[I") ∈ wk_tbl := List.mem_append_left _ (List.mem_of_getElem? (i := 131) (by rfl))
set_option maxRecDepth 20000 in
theorem lk_132 : (Jvm.Cond.laysFinal "DraftTreeModel" "DraftTreeModel" "part" "[I") ∈ wk_tbl := List.mem_append_left _ (List.mem_of_getElem? (i := 132) (by rfl))
set_option maxRecDepth 20000 in
theorem lk_133 : (Jvm.Cond.laysFinal "DraftTreeModel" "DraftTreeModel" "here" "[Z") ∈ wk_tbl := List.mem_append_left _ (List.mem_of_getElem? (i := 133) (by rfl))
set_option maxRecDepth 20000 in
theorem lk_134 : (Jvm.Cond.laysFinal "DraftTreeModel" "DraftTreeModel" "then" "[Z") ∈ wk_tbl := List.mem_append_left _ (List.mem_of_getElem? (i := 134) (by rfl))
set_option maxRecDepth 20000 in
theorem lk_135 : (Jvm.Cond.lays "DraftTreeModel" "DraftTreeModel" "foundAt" "I") ∈ wk_tbl := List.mem_append_left _ (List.mem_of_getElem? (i := 135) (by rfl))
set_option maxRecDepth 20000 in
theorem lk_136 : (Jvm.Cond.lays "DraftTreeModel" "DraftTreeModel" "foundEnd" "I") ∈ wk_tbl := List.mem_append_left _ (List.mem_of_getElem? (i := 136) (by rfl))
set_option maxRecDepth 20000 in
theorem lk_137 : (Jvm.Cond.lays "DraftTreeModel" "DraftTreeModel" "made" "I") ∈ wk_tbl := List.mem_append_left _ (List.mem_of_getElem? (i := 137) (by rfl))
set_option maxRecDepth 20000 in
theorem lk_138 : (Jvm.Cond.laysFinal "DraftTreeModel" "DraftTreeModel" "draft" "[C") ∈ wk_tbl := List.mem_append_left _ (List.mem_of_getElem? (i := 138) (by rfl))
set_option maxRecDepth 20000 in
theorem lk_139 : (Jvm.Cond.classLink "DraftTreeLaw" (63 : Nat) "DraftTreeModel") ∈ wk_tbl := List.mem_append_left _ (List.mem_of_getElem? (i := 139) (by rfl))
set_option maxRecDepth 20000 in
theorem lk_140 : (Jvm.Cond.instantiable "DraftTreeModel" (38 : Nat)) ∈ wk_tbl := List.mem_append_left _ (List.mem_of_getElem? (i := 140) (by rfl))
set_option maxRecDepth 20000 in
theorem lk_141 : (Jvm.Cond.initialized "DraftTreeModel") ∈ wk_tbl := List.mem_append_left _ (List.mem_of_getElem? (i := 141) (by rfl))
set_option maxRecDepth 20000 in
theorem lk_142 : (Jvm.Cond.methodLink "DraftTreeModel" (1 : Nat) ({ cls := "java/lang/Object", name := "<init>", desc := "()V" } : Jvm.MethodName)) ∈ wk_tbl := List.mem_append_left _ (List.mem_of_getElem? (i := 142) (by rfl))
set_option maxRecDepth 20000 in
theorem lk_143 : (Jvm.Cond.fieldLink "DraftTreeModel" (7 : Nat) "DraftTreeModel" "slip" "[C") ∈ wk_tbl := List.mem_append_left _ (List.mem_of_getElem? (i := 143) (by rfl))
set_option maxRecDepth 20000 in
theorem lk_144 : (Jvm.Cond.fieldLink "DraftTreeModel" (13 : Nat) "DraftTreeModel" "states" "I") ∈ wk_tbl := List.mem_append_left _ (List.mem_of_getElem? (i := 144) (by rfl))
set_option maxRecDepth 20000 in
theorem lk_145 : (Jvm.Cond.fieldLink "DraftTreeModel" (17 : Nat) "DraftTreeModel" "texts" "[C") ∈ wk_tbl := List.mem_append_left _ (List.mem_of_getElem? (i := 145) (by rfl))
set_option maxRecDepth 20000 in
theorem lk_146 : (Jvm.Cond.fieldLink "DraftTreeModel" (20 : Nat) "DraftTreeModel" "lengths" "[I") ∈ wk_tbl := List.mem_append_left _ (List.mem_of_getElem? (i := 146) (by rfl))
set_option maxRecDepth 20000 in
theorem lk_147 : (Jvm.Cond.fieldLink "DraftTreeModel" (24 : Nat) "DraftTreeModel" "places" "[I") ∈ wk_tbl := List.mem_append_left _ (List.mem_of_getElem? (i := 147) (by rfl))
set_option maxRecDepth 20000 in
theorem lk_148 : (Jvm.Cond.fieldLink "DraftTreeModel" (27 : Nat) "DraftTreeModel" "parents" "[I") ∈ wk_tbl := List.mem_append_left _ (List.mem_of_getElem? (i := 148) (by rfl))
set_option maxRecDepth 20000 in
theorem lk_149 : (Jvm.Cond.fieldLink "DraftTreeModel" (30 : Nat) "DraftTreeModel" "came" "[I") ∈ wk_tbl := List.mem_append_left _ (List.mem_of_getElem? (i := 149) (by rfl))
set_option maxRecDepth 20000 in
theorem lk_150 : (Jvm.Cond.fieldLink "DraftTreeModel" (33 : Nat) "DraftTreeModel" "mark" "I") ∈ wk_tbl := List.mem_append_left _ (List.mem_of_getElem? (i := 150) (by rfl))
set_option maxRecDepth 20000 in
theorem lk_151 : (Jvm.Cond.fieldLink "DraftTreeModel" (36 : Nat) "DraftTreeModel" "wrongAt" "I") ∈ wk_tbl := List.mem_append_left _ (List.mem_of_getElem? (i := 151) (by rfl))
set_option maxRecDepth 20000 in
theorem lk_152 : (Jvm.Cond.fieldLink "DraftTreeModel" (39 : Nat) "DraftTreeModel" "pattern" "[C") ∈ wk_tbl := List.mem_append_left _ (List.mem_of_getElem? (i := 152) (by rfl))
set_option maxRecDepth 20000 in
theorem lk_153 : (Jvm.Cond.fieldLink "DraftTreeModel" (42 : Nat) "DraftTreeModel" "kind" "[I") ∈ wk_tbl := List.mem_append_left _ (List.mem_of_getElem? (i := 153) (by rfl))
set_option maxRecDepth 20000 in
theorem lk_154 : (Jvm.Cond.fieldLink "DraftTreeModel" (45 : Nat) "DraftTreeModel" "from" "[I") ∈ wk_tbl := List.mem_append_left _ (List.mem_of_getElem? (i := 154) (by rfl))
set_option maxRecDepth 20000 in
theorem lk_155 : (Jvm.Cond.fieldLink "DraftTreeModel" (48 : Nat) "DraftTreeModel" "to" "[I") ∈ wk_tbl := List.mem_append_left _ (List.mem_of_getElem? (i := 155) (by rfl))
set_option maxRecDepth 20000 in
theorem lk_156 : (Jvm.Cond.fieldLink "DraftTreeModel" (51 : Nat) "DraftTreeModel" "one" "[I") ∈ wk_tbl := List.mem_append_left _ (List.mem_of_getElem? (i := 156) (by rfl))
set_option maxRecDepth 20000 in
theorem lk_157 : (Jvm.Cond.fieldLink "DraftTreeModel" (54 : Nat) "DraftTreeModel" "two" "[I") ∈ wk_tbl := List.mem_append_left _ (List.mem_of_getElem? (i := 157) (by rfl))
set_option maxRecDepth 20000 in
theorem lk_158 : (Jvm.Cond.fieldLink "DraftTreeModel" (57 : Nat) "DraftTreeModel" "head" "[I") ∈ wk_tbl := List.mem_append_left _ (List.mem_of_getElem? (i := 158) (by rfl))
set_option maxRecDepth 20000 in
theorem lk_159 : (Jvm.Cond.fieldLink "DraftTreeModel" (60 : Nat) "DraftTreeModel" "tail" "[I") ∈ wk_tbl := List.mem_append_left _ (List.mem_of_getElem? (i := 159) (by rfl))
set_option maxRecDepth 20000 in
theorem lk_160 : (Jvm.Cond.fieldLink "DraftTreeModel" (63 : Nat) "DraftTreeModel" "choice" "[I") ∈ wk_tbl := List.mem_append_left _ (List.mem_of_getElem? (i := 160) (by rfl))
set_option maxRecDepth 20000 in
theorem lk_161 : (Jvm.Cond.fieldLink "DraftTreeModel" (66 : Nat) "DraftTreeModel" "row" "[I") ∈ wk_tbl := List.mem_append_left _ (List.mem_of_getElem? (i := 161) (by rfl))
set_option maxRecDepth 20000 in
theorem lk_162 : (Jvm.Cond.fieldLink "DraftTreeModel" (69 : Nat) "DraftTreeModel" "part" "[I") ∈ wk_tbl := List.mem_append_left _ (List.mem_of_getElem? (i := 162) (by rfl))
set_option maxRecDepth 20000 in
theorem lk_163 : (Jvm.Cond.arrayClass Jvm.ClassFile.FieldType.boolean) ∈ wk_tbl := List.mem_append_left _ (List.mem_of_getElem? (i := 163) (by rfl))
set_option maxRecDepth 20000 in
theorem lk_164 : (Jvm.Cond.fieldLink "DraftTreeModel" (72 : Nat) "DraftTreeModel" "here" "[Z") ∈ wk_tbl := List.mem_append_left _ (List.mem_of_getElem? (i := 164) (by rfl))
set_option maxRecDepth 20000 in
theorem lk_165 : (Jvm.Cond.fieldLink "DraftTreeModel" (76 : Nat) "DraftTreeModel" "then" "[Z") ∈ wk_tbl := List.mem_append_left _ (List.mem_of_getElem? (i := 165) (by rfl))
set_option maxRecDepth 20000 in
theorem lk_166 : (Jvm.Cond.fieldLink "DraftTreeModel" (79 : Nat) "DraftTreeModel" "draft" "[C") ∈ wk_tbl := List.mem_append_left _ (List.mem_of_getElem? (i := 166) (by rfl))
set_option maxRecDepth 20000 in
theorem lk_167 : (Jvm.Cond.code ({ cls := "DraftTreeModel", name := "<init>", desc := "()V" } : Jvm.MethodName) prog_6_method_1_code (1 : Nat) (Option.none : Option Jvm.ClassFile.FieldType)) ∈ wk_tbl := List.mem_append_left _ (List.mem_of_getElem? (i := 167) (by rfl))
set_option maxRecDepth 20000 in
theorem lk_168 : (Jvm.Cond.methodLink "DraftTreeLaw" (65 : Nat) ({ cls := "DraftTreeModel", name := "<init>", desc := "()V" } : Jvm.MethodName)) ∈ wk_tbl := List.mem_append_left _ (List.mem_of_getElem? (i := 168) (by rfl))
set_option maxRecDepth 20000 in
theorem lk_169 : (Jvm.Cond.instanceMethod ({ cls := "DraftTreeModel", name := "<init>", desc := "()V" } : Jvm.MethodName)) ∈ wk_tbl := List.mem_append_left _ (List.mem_of_getElem? (i := 169) (by rfl))
set_option maxRecDepth 20000 in
theorem lk_170 : (Jvm.Cond.fieldLink "DraftTree" (56 : Nat) "DraftTree" "slipSize" "I") ∈ wk_tbl := List.mem_append_left _ (List.mem_of_getElem? (i := 170) (by rfl))
set_option maxRecDepth 20000 in
theorem lk_171 : (Jvm.Cond.code ({ cls := "DraftTree", name := "type", desc := "(C)Z" } : Jvm.MethodName) prog_1_method_2_code (3 : Nat) (Option.some Jvm.ClassFile.FieldType.boolean)) ∈ wk_tbl := List.mem_append_left _ (List.mem_of_getElem? (i := 171) (by rfl))
set_option maxRecDepth 20000 in
theorem lk_172 : (Jvm.Cond.methodLink "DraftTreeLaw" (66 : Nat) ({ cls := "DraftTree", name := "type", desc := "(C)Z" } : Jvm.MethodName)) ∈ wk_tbl := List.mem_append_left _ (List.mem_of_getElem? (i := 172) (by rfl))
set_option maxRecDepth 20000 in
theorem lk_173 : (Jvm.Cond.instanceMethod ({ cls := "DraftTree", name := "type", desc := "(C)Z" } : Jvm.MethodName)) ∈ wk_tbl := List.mem_append_left _ (List.mem_of_getElem? (i := 173) (by rfl))
set_option maxRecDepth 20000 in
theorem lk_174 : (Jvm.Cond.selects "DraftTree" ({ cls := "DraftTree", name := "type", desc := "(C)Z" } : Jvm.MethodName) ({ cls := "DraftTree", name := "type", desc := "(C)Z" } : Jvm.MethodName)) ∈ wk_tbl := List.mem_append_left _ (List.mem_of_getElem? (i := 174) (by rfl))
set_option maxRecDepth 20000 in
theorem lk_175 : (Jvm.Cond.fieldLink "DraftTreeModel" (82 : Nat) "DraftTreeModel" "code" "I") ∈ wk_tbl := List.mem_append_left _ (List.mem_of_getElem? (i := 175) (by rfl))
set_option maxRecDepth 20000 in
theorem lk_176 : (Jvm.Cond.code ({ cls := "DraftTreeModel", name := "isCharacter", desc := "(C)Z" } : Jvm.MethodName) prog_6_method_3_code (1 : Nat) (Option.some Jvm.ClassFile.FieldType.boolean)) ∈ wk_tbl := List.mem_append_left _ (List.mem_of_getElem? (i := 176) (by rfl))
set_option maxRecDepth 20000 in
theorem lk_177 : (Jvm.Cond.methodLink "DraftTreeModel" (85 : Nat) ({ cls := "DraftTreeModel", name := "isCharacter", desc := "(C)Z" } : Jvm.MethodName)) ∈ wk_tbl := List.mem_append_left _ (List.mem_of_getElem? (i := 177) (by rfl))
set_option maxRecDepth 20000 in
theorem lk_178 : (Jvm.Cond.static ({ cls := "DraftTreeModel", name := "isCharacter", desc := "(C)Z" } : Jvm.MethodName)) ∈ wk_tbl := List.mem_append_left _ (List.mem_of_getElem? (i := 178) (by rfl))
set_option maxRecDepth 20000 in
theorem lk_179 : (Jvm.Cond.fieldLink "DraftTreeModel" (89 : Nat) "DraftTreeModel" "typed" "I") ∈ wk_tbl := List.mem_append_left _ (List.mem_of_getElem? (i := 179) (by rfl))
set_option maxRecDepth 20000 in
theorem lk_180 : (Jvm.Cond.code ({ cls := "DraftTreeModel", name := "type", desc := "(C)Z" } : Jvm.MethodName) prog_6_method_4_code (2 : Nat) (Option.some Jvm.ClassFile.FieldType.boolean)) ∈ wk_tbl := List.mem_append_left _ (List.mem_of_getElem? (i := 180) (by rfl))
set_option maxRecDepth 20000 in
theorem lk_181 : (Jvm.Cond.methodLink "DraftTreeLaw" (70 : Nat) ({ cls := "DraftTreeModel", name := "type", desc := "(C)Z" } : Jvm.MethodName)) ∈ wk_tbl := List.mem_append_left _ (List.mem_of_getElem? (i := 181) (by rfl))
set_option maxRecDepth 20000 in
theorem lk_182 : (Jvm.Cond.instanceMethod ({ cls := "DraftTreeModel", name := "type", desc := "(C)Z" } : Jvm.MethodName)) ∈ wk_tbl := List.mem_append_left _ (List.mem_of_getElem? (i := 182) (by rfl))
set_option maxRecDepth 20000 in
theorem lk_183 : (Jvm.Cond.selects "DraftTreeModel" ({ cls := "DraftTreeModel", name := "type", desc := "(C)Z" } : Jvm.MethodName) ({ cls := "DraftTreeModel", name := "type", desc := "(C)Z" } : Jvm.MethodName)) ∈ wk_tbl := List.mem_append_left _ (List.mem_of_getElem? (i := 183) (by rfl))
set_option maxRecDepth 20000 in
theorem lk_184 : (Jvm.Cond.code ({ cls := "DraftTree", name := "wipe", desc := "()I" } : Jvm.MethodName) prog_1_method_3_code (2 : Nat) (Option.some Jvm.ClassFile.FieldType.int)) ∈ wk_tbl := List.mem_append_left _ (List.mem_of_getElem? (i := 184) (by rfl))
set_option maxRecDepth 20000 in
theorem lk_185 : (Jvm.Cond.methodLink "DraftTreeLaw" (71 : Nat) ({ cls := "DraftTree", name := "wipe", desc := "()I" } : Jvm.MethodName)) ∈ wk_tbl := List.mem_append_left _ (List.mem_of_getElem? (i := 185) (by rfl))
set_option maxRecDepth 20000 in
theorem lk_186 : (Jvm.Cond.instanceMethod ({ cls := "DraftTree", name := "wipe", desc := "()I" } : Jvm.MethodName)) ∈ wk_tbl := List.mem_append_left _ (List.mem_of_getElem? (i := 186) (by rfl))
set_option maxRecDepth 20000 in
theorem lk_187 : (Jvm.Cond.selects "DraftTree" ({ cls := "DraftTree", name := "wipe", desc := "()I" } : Jvm.MethodName) ({ cls := "DraftTree", name := "wipe", desc := "()I" } : Jvm.MethodName)) ∈ wk_tbl := List.mem_append_left _ (List.mem_of_getElem? (i := 187) (by rfl))
set_option maxRecDepth 20000 in
theorem lk_188 : (Jvm.Cond.code ({ cls := "DraftTreeModel", name := "wipe", desc := "()I" } : Jvm.MethodName) prog_6_method_5_code (2 : Nat) (Option.some Jvm.ClassFile.FieldType.int)) ∈ wk_tbl := List.mem_append_left _ (List.mem_of_getElem? (i := 188) (by rfl))
set_option maxRecDepth 20000 in
theorem lk_189 : (Jvm.Cond.methodLink "DraftTreeLaw" (74 : Nat) ({ cls := "DraftTreeModel", name := "wipe", desc := "()I" } : Jvm.MethodName)) ∈ wk_tbl := List.mem_append_left _ (List.mem_of_getElem? (i := 189) (by rfl))
set_option maxRecDepth 20000 in
theorem lk_190 : (Jvm.Cond.instanceMethod ({ cls := "DraftTreeModel", name := "wipe", desc := "()I" } : Jvm.MethodName)) ∈ wk_tbl := List.mem_append_left _ (List.mem_of_getElem? (i := 190) (by rfl))
set_option maxRecDepth 20000 in
theorem lk_191 : (Jvm.Cond.selects "DraftTreeModel" ({ cls := "DraftTreeModel", name := "wipe", desc := "()I" } : Jvm.MethodName) ({ cls := "DraftTreeModel", name := "wipe", desc := "()I" } : Jvm.MethodName)) ∈ wk_tbl := List.mem_append_left _ (List.mem_of_getElem? (i := 191) (by rfl))
set_option maxRecDepth 20000 in
theorem lk_192 : (Jvm.Cond.fieldLink "DraftTree" (76 : Nat) "DraftTree" "cursor" "I") ∈ wk_tbl := List.mem_append_left _ (List.mem_of_getElem? (i := 192) (by rfl))
set_option maxRecDepth 20000 in
theorem lk_193 : (Jvm.Cond.code ({ cls := "DraftTree", name := "selectionStart", desc := "()I" } : Jvm.MethodName) prog_1_method_21_code (1 : Nat) (Option.some Jvm.ClassFile.FieldType.int)) ∈ wk_tbl := List.mem_append_left _ (List.mem_of_getElem? (i := 193) (by rfl))
set_option maxRecDepth 20000 in
theorem lk_194 : (Jvm.Cond.methodLink "DraftTree" (59 : Nat) ({ cls := "DraftTree", name := "selectionStart", desc := "()I" } : Jvm.MethodName)) ∈ wk_tbl := List.mem_append_left _ (List.mem_of_getElem? (i := 194) (by rfl))
set_option maxRecDepth 20000 in
theorem lk_195 : (Jvm.Cond.instanceMethod ({ cls := "DraftTree", name := "selectionStart", desc := "()I" } : Jvm.MethodName)) ∈ wk_tbl := List.mem_append_left _ (List.mem_of_getElem? (i := 195) (by rfl))
set_option maxRecDepth 20000 in
theorem lk_196 : (Jvm.Cond.selects "DraftTree" ({ cls := "DraftTree", name := "selectionStart", desc := "()I" } : Jvm.MethodName) ({ cls := "DraftTree", name := "selectionStart", desc := "()I" } : Jvm.MethodName)) ∈ wk_tbl := List.mem_append_left _ (List.mem_of_getElem? (i := 196) (by rfl))
set_option maxRecDepth 20000 in
theorem lk_197 : (Jvm.Cond.code ({ cls := "DraftTree", name := "selectionEnd", desc := "()I" } : Jvm.MethodName) prog_1_method_22_code (1 : Nat) (Option.some Jvm.ClassFile.FieldType.int)) ∈ wk_tbl := List.mem_append_left _ (List.mem_of_getElem? (i := 197) (by rfl))
set_option maxRecDepth 20000 in
theorem lk_198 : (Jvm.Cond.methodLink "DraftTree" (63 : Nat) ({ cls := "DraftTree", name := "selectionEnd", desc := "()I" } : Jvm.MethodName)) ∈ wk_tbl := List.mem_append_left _ (List.mem_of_getElem? (i := 198) (by rfl))
set_option maxRecDepth 20000 in
theorem lk_199 : (Jvm.Cond.instanceMethod ({ cls := "DraftTree", name := "selectionEnd", desc := "()I" } : Jvm.MethodName)) ∈ wk_tbl := List.mem_append_left _ (List.mem_of_getElem? (i := 199) (by rfl))
set_option maxRecDepth 20000 in
theorem lk_200 : (Jvm.Cond.selects "DraftTree" ({ cls := "DraftTree", name := "selectionEnd", desc := "()I" } : Jvm.MethodName) ({ cls := "DraftTree", name := "selectionEnd", desc := "()I" } : Jvm.MethodName)) ∈ wk_tbl := List.mem_append_left _ (List.mem_of_getElem? (i := 200) (by rfl))
set_option maxRecDepth 20000 in
theorem lk_201 : (Jvm.Cond.fieldLink "DraftTree" (73 : Nat) "DraftTree" "present" "I") ∈ wk_tbl := List.mem_append_left _ (List.mem_of_getElem? (i := 201) (by rfl))
set_option maxRecDepth 20000 in
theorem lk_202 : (Jvm.Cond.code ({ cls := "DraftTree", name := "insert", desc := "()I" } : Jvm.MethodName) prog_1_method_4_code (3 : Nat) (Option.some Jvm.ClassFile.FieldType.int)) ∈ wk_tbl := List.mem_append_left _ (List.mem_of_getElem? (i := 202) (by rfl))
set_option maxRecDepth 20000 in
theorem lk_203 : (Jvm.Cond.methodLink "DraftTreeLaw" (7 : Nat) ({ cls := "DraftTree", name := "insert", desc := "()I" } : Jvm.MethodName)) ∈ wk_tbl := List.mem_append_left _ (List.mem_of_getElem? (i := 203) (by rfl))
set_option maxRecDepth 20000 in
theorem lk_204 : (Jvm.Cond.instanceMethod ({ cls := "DraftTree", name := "insert", desc := "()I" } : Jvm.MethodName)) ∈ wk_tbl := List.mem_append_left _ (List.mem_of_getElem? (i := 204) (by rfl))
set_option maxRecDepth 20000 in
theorem lk_205 : (Jvm.Cond.selects "DraftTree" ({ cls := "DraftTree", name := "insert", desc := "()I" } : Jvm.MethodName) ({ cls := "DraftTree", name := "insert", desc := "()I" } : Jvm.MethodName)) ∈ wk_tbl := List.mem_append_left _ (List.mem_of_getElem? (i := 205) (by rfl))
set_option maxRecDepth 20000 in
theorem lk_206 : (Jvm.Cond.codeWith ({ cls := "DraftTreeLaw", name := "insert", desc := "(LDraftTree;[J)I" } : Jvm.MethodName) method_3_code (3 : Nat) (Option.some Jvm.ClassFile.FieldType.int) [((0 : Nat), (8 : Nat), (11 : Nat), (13 : Nat))]) ∈ wk_tbl := List.mem_append_left _ (List.mem_of_getElem? (i := 206) (by rfl))
set_option maxRecDepth 20000 in
theorem lk_207 : (Jvm.Cond.initialized "DraftTreeLaw") ∈ wk_tbl := List.mem_append_left _ (List.mem_of_getElem? (i := 207) (by rfl))
set_option maxRecDepth 20000 in
theorem lk_208 : (Jvm.Cond.methodLink "DraftTreeLaw" (75 : Nat) ({ cls := "DraftTreeLaw", name := "insert", desc := "(LDraftTree;[J)I" } : Jvm.MethodName)) ∈ wk_tbl := List.mem_append_left _ (List.mem_of_getElem? (i := 208) (by rfl))
set_option maxRecDepth 20000 in
theorem lk_209 : (Jvm.Cond.static ({ cls := "DraftTreeLaw", name := "insert", desc := "(LDraftTree;[J)I" } : Jvm.MethodName)) ∈ wk_tbl := List.mem_append_left _ (List.mem_of_getElem? (i := 209) (by rfl))
set_option maxRecDepth 20000 in
theorem lk_210 : (Jvm.Cond.fieldLink "DraftTreeModel" (95 : Nat) "DraftTreeModel" "cursor" "I") ∈ wk_tbl := List.mem_append_left _ (List.mem_of_getElem? (i := 210) (by rfl))
set_option maxRecDepth 20000 in
theorem lk_211 : (Jvm.Cond.code ({ cls := "DraftTreeModel", name := "low", desc := "()I" } : Jvm.MethodName) prog_6_method_13_code (1 : Nat) (Option.some Jvm.ClassFile.FieldType.int)) ∈ wk_tbl := List.mem_append_left _ (List.mem_of_getElem? (i := 211) (by rfl))
set_option maxRecDepth 20000 in
theorem lk_212 : (Jvm.Cond.methodLink "DraftTreeModel" (116 : Nat) ({ cls := "DraftTreeModel", name := "low", desc := "()I" } : Jvm.MethodName)) ∈ wk_tbl := List.mem_append_left _ (List.mem_of_getElem? (i := 212) (by rfl))
set_option maxRecDepth 20000 in
theorem lk_213 : (Jvm.Cond.instanceMethod ({ cls := "DraftTreeModel", name := "low", desc := "()I" } : Jvm.MethodName)) ∈ wk_tbl := List.mem_append_left _ (List.mem_of_getElem? (i := 213) (by rfl))
set_option maxRecDepth 20000 in
theorem lk_214 : (Jvm.Cond.selects "DraftTreeModel" ({ cls := "DraftTreeModel", name := "low", desc := "()I" } : Jvm.MethodName) ({ cls := "DraftTreeModel", name := "low", desc := "()I" } : Jvm.MethodName)) ∈ wk_tbl := List.mem_append_left _ (List.mem_of_getElem? (i := 214) (by rfl))
set_option maxRecDepth 20000 in
theorem lk_215 : (Jvm.Cond.code ({ cls := "DraftTreeModel", name := "high", desc := "()I" } : Jvm.MethodName) prog_6_method_14_code (1 : Nat) (Option.some Jvm.ClassFile.FieldType.int)) ∈ wk_tbl := List.mem_append_left _ (List.mem_of_getElem? (i := 215) (by rfl))
set_option maxRecDepth 20000 in
theorem lk_216 : (Jvm.Cond.methodLink "DraftTreeModel" (120 : Nat) ({ cls := "DraftTreeModel", name := "high", desc := "()I" } : Jvm.MethodName)) ∈ wk_tbl := List.mem_append_left _ (List.mem_of_getElem? (i := 216) (by rfl))
set_option maxRecDepth 20000 in
theorem lk_217 : (Jvm.Cond.instanceMethod ({ cls := "DraftTreeModel", name := "high", desc := "()I" } : Jvm.MethodName)) ∈ wk_tbl := List.mem_append_left _ (List.mem_of_getElem? (i := 217) (by rfl))
set_option maxRecDepth 20000 in
theorem lk_218 : (Jvm.Cond.selects "DraftTreeModel" ({ cls := "DraftTreeModel", name := "high", desc := "()I" } : Jvm.MethodName) ({ cls := "DraftTreeModel", name := "high", desc := "()I" } : Jvm.MethodName)) ∈ wk_tbl := List.mem_append_left _ (List.mem_of_getElem? (i := 218) (by rfl))
set_option maxRecDepth 20000 in
theorem lk_219 : (Jvm.Cond.fieldLink "DraftTreeModel" (92 : Nat) "DraftTreeModel" "present" "I") ∈ wk_tbl := List.mem_append_left _ (List.mem_of_getElem? (i := 219) (by rfl))
set_option maxRecDepth 20000 in
theorem lk_220 : (Jvm.Cond.code ({ cls := "DraftTreeModel", name := "insert", desc := "()I" } : Jvm.MethodName) prog_6_method_15_code (5 : Nat) (Option.some Jvm.ClassFile.FieldType.int)) ∈ wk_tbl := List.mem_append_left _ (List.mem_of_getElem? (i := 220) (by rfl))
set_option maxRecDepth 20000 in
theorem lk_221 : (Jvm.Cond.methodLink "DraftTreeLaw" (80 : Nat) ({ cls := "DraftTreeModel", name := "insert", desc := "()I" } : Jvm.MethodName)) ∈ wk_tbl := List.mem_append_left _ (List.mem_of_getElem? (i := 221) (by rfl))
set_option maxRecDepth 20000 in
theorem lk_222 : (Jvm.Cond.instanceMethod ({ cls := "DraftTreeModel", name := "insert", desc := "()I" } : Jvm.MethodName)) ∈ wk_tbl := List.mem_append_left _ (List.mem_of_getElem? (i := 222) (by rfl))
set_option maxRecDepth 20000 in
theorem lk_223 : (Jvm.Cond.selects "DraftTreeModel" ({ cls := "DraftTreeModel", name := "insert", desc := "()I" } : Jvm.MethodName) ({ cls := "DraftTreeModel", name := "insert", desc := "()I" } : Jvm.MethodName)) ∈ wk_tbl := List.mem_append_left _ (List.mem_of_getElem? (i := 223) (by rfl))
set_option maxRecDepth 20000 in
theorem lk_224 : (Jvm.Cond.code ({ cls := "DraftTreeModel", name := "thrown", desc := "()I" } : Jvm.MethodName) prog_6_method_2_code (1 : Nat) (Option.some Jvm.ClassFile.FieldType.int)) ∈ wk_tbl := List.mem_append_left _ (List.mem_of_getElem? (i := 224) (by rfl))
set_option maxRecDepth 20000 in
theorem lk_225 : (Jvm.Cond.methodLink "DraftTreeLaw" (81 : Nat) ({ cls := "DraftTreeModel", name := "thrown", desc := "()I" } : Jvm.MethodName)) ∈ wk_tbl := List.mem_append_left _ (List.mem_of_getElem? (i := 225) (by rfl))
set_option maxRecDepth 20000 in
theorem lk_226 : (Jvm.Cond.instanceMethod ({ cls := "DraftTreeModel", name := "thrown", desc := "()I" } : Jvm.MethodName)) ∈ wk_tbl := List.mem_append_left _ (List.mem_of_getElem? (i := 226) (by rfl))
set_option maxRecDepth 20000 in
theorem lk_227 : (Jvm.Cond.selects "DraftTreeModel" ({ cls := "DraftTreeModel", name := "thrown", desc := "()I" } : Jvm.MethodName) ({ cls := "DraftTreeModel", name := "thrown", desc := "()I" } : Jvm.MethodName)) ∈ wk_tbl := List.mem_append_left _ (List.mem_of_getElem? (i := 227) (by rfl))
set_option maxRecDepth 20000 in
theorem lk_228 : (Jvm.Cond.methodLink "DraftTree" (79 : Nat) ({ cls := "java/lang/Math", name := "max", desc := "(II)I" } : Jvm.MethodName)) ∈ wk_tbl := List.mem_append_left _ (List.mem_of_getElem? (i := 228) (by rfl))
set_option maxRecDepth 20000 in
theorem lk_229 : (Jvm.Cond.static ({ cls := "java/lang/Math", name := "max", desc := "(II)I" } : Jvm.MethodName)) ∈ wk_tbl := List.mem_append_left _ (List.mem_of_getElem? (i := 229) (by rfl))
set_option maxRecDepth 20000 in
theorem lk_230 : (Jvm.Cond.initialized "java/lang/Math") ∈ wk_tbl := List.mem_append_left _ (List.mem_of_getElem? (i := 230) (by rfl))
set_option maxRecDepth 20000 in
theorem lk_231 : (Jvm.Cond.code ({ cls := "java/lang/Math", name := "max", desc := "(II)I" } : Jvm.MethodName) prog_13_method_65_code (2 : Nat) (Option.some Jvm.ClassFile.FieldType.int)) ∈ wk_tbl := List.mem_append_left _ (List.mem_of_getElem? (i := 231) (by rfl))
set_option maxRecDepth 20000 in
theorem lk_232 : (Jvm.Cond.code ({ cls := "DraftTree", name := "erase", desc := "(I)I" } : Jvm.MethodName) prog_1_method_5_code (4 : Nat) (Option.some Jvm.ClassFile.FieldType.int)) ∈ wk_tbl := List.mem_append_left _ (List.mem_of_getElem? (i := 232) (by rfl))
set_option maxRecDepth 20000 in
theorem lk_233 : (Jvm.Cond.methodLink "DraftTreeLaw" (15 : Nat) ({ cls := "DraftTree", name := "erase", desc := "(I)I" } : Jvm.MethodName)) ∈ wk_tbl := List.mem_append_left _ (List.mem_of_getElem? (i := 233) (by rfl))
set_option maxRecDepth 20000 in
theorem lk_234 : (Jvm.Cond.instanceMethod ({ cls := "DraftTree", name := "erase", desc := "(I)I" } : Jvm.MethodName)) ∈ wk_tbl := List.mem_append_left _ (List.mem_of_getElem? (i := 234) (by rfl))
set_option maxRecDepth 20000 in
theorem lk_235 : (Jvm.Cond.selects "DraftTree" ({ cls := "DraftTree", name := "erase", desc := "(I)I" } : Jvm.MethodName) ({ cls := "DraftTree", name := "erase", desc := "(I)I" } : Jvm.MethodName)) ∈ wk_tbl := List.mem_append_left _ (List.mem_of_getElem? (i := 235) (by rfl))
set_option maxRecDepth 20000 in
theorem lk_236 : (Jvm.Cond.codeWith ({ cls := "DraftTreeLaw", name := "erase", desc := "(LDraftTree;I[J)I" } : Jvm.MethodName) method_4_code (4 : Nat) (Option.some Jvm.ClassFile.FieldType.int) [((0 : Nat), (9 : Nat), (12 : Nat), (13 : Nat))]) ∈ wk_tbl := List.mem_append_left _ (List.mem_of_getElem? (i := 236) (by rfl))
set_option maxRecDepth 20000 in
theorem lk_237 : (Jvm.Cond.methodLink "DraftTreeLaw" (84 : Nat) ({ cls := "DraftTreeLaw", name := "erase", desc := "(LDraftTree;I[J)I" } : Jvm.MethodName)) ∈ wk_tbl := List.mem_append_left _ (List.mem_of_getElem? (i := 237) (by rfl))
set_option maxRecDepth 20000 in
theorem lk_238 : (Jvm.Cond.static ({ cls := "DraftTreeLaw", name := "erase", desc := "(LDraftTree;I[J)I" } : Jvm.MethodName)) ∈ wk_tbl := List.mem_append_left _ (List.mem_of_getElem? (i := 238) (by rfl))
set_option maxRecDepth 20000 in
theorem lk_239 : (Jvm.Cond.code ({ cls := "DraftTreeModel", name := "textLength", desc := "()I" } : Jvm.MethodName) prog_6_method_7_code (1 : Nat) (Option.some Jvm.ClassFile.FieldType.int)) ∈ wk_tbl := List.mem_append_left _ (List.mem_of_getElem? (i := 239) (by rfl))
set_option maxRecDepth 20000 in
theorem lk_240 : (Jvm.Cond.methodLink "DraftTreeModel" (123 : Nat) ({ cls := "DraftTreeModel", name := "textLength", desc := "()I" } : Jvm.MethodName)) ∈ wk_tbl := List.mem_append_left _ (List.mem_of_getElem? (i := 240) (by rfl))
set_option maxRecDepth 20000 in
theorem lk_241 : (Jvm.Cond.instanceMethod ({ cls := "DraftTreeModel", name := "textLength", desc := "()I" } : Jvm.MethodName)) ∈ wk_tbl := List.mem_append_left _ (List.mem_of_getElem? (i := 241) (by rfl))
set_option maxRecDepth 20000 in
theorem lk_242 : (Jvm.Cond.selects "DraftTreeModel" ({ cls := "DraftTreeModel", name := "textLength", desc := "()I" } : Jvm.MethodName) ({ cls := "DraftTreeModel", name := "textLength", desc := "()I" } : Jvm.MethodName)) ∈ wk_tbl := List.mem_append_left _ (List.mem_of_getElem? (i := 242) (by rfl))
set_option maxRecDepth 20000 in
theorem lk_243 : (Jvm.Cond.code ({ cls := "DraftTreeModel", name := "erase", desc := "(I)I" } : Jvm.MethodName) prog_6_method_16_code (5 : Nat) (Option.some Jvm.ClassFile.FieldType.int)) ∈ wk_tbl := List.mem_append_left _ (List.mem_of_getElem? (i := 243) (by rfl))
set_option maxRecDepth 20000 in
theorem lk_244 : (Jvm.Cond.methodLink "DraftTreeLaw" (87 : Nat) ({ cls := "DraftTreeModel", name := "erase", desc := "(I)I" } : Jvm.MethodName)) ∈ wk_tbl := List.mem_append_left _ (List.mem_of_getElem? (i := 244) (by rfl))
set_option maxRecDepth 20000 in
theorem lk_245 : (Jvm.Cond.instanceMethod ({ cls := "DraftTreeModel", name := "erase", desc := "(I)I" } : Jvm.MethodName)) ∈ wk_tbl := List.mem_append_left _ (List.mem_of_getElem? (i := 245) (by rfl))
set_option maxRecDepth 20000 in
theorem lk_246 : (Jvm.Cond.selects "DraftTreeModel" ({ cls := "DraftTreeModel", name := "erase", desc := "(I)I" } : Jvm.MethodName) ({ cls := "DraftTreeModel", name := "erase", desc := "(I)I" } : Jvm.MethodName)) ∈ wk_tbl := List.mem_append_left _ (List.mem_of_getElem? (i := 246) (by rfl))
set_option maxRecDepth 20000 in
theorem lk_247 : (Jvm.Cond.methodLink "DraftTree" (85 : Nat) ({ cls := "java/lang/Math", name := "min", desc := "(II)I" } : Jvm.MethodName)) ∈ wk_tbl := List.mem_append_left _ (List.mem_of_getElem? (i := 247) (by rfl))
set_option maxRecDepth 20000 in
theorem lk_248 : (Jvm.Cond.static ({ cls := "java/lang/Math", name := "min", desc := "(II)I" } : Jvm.MethodName)) ∈ wk_tbl := List.mem_append_left _ (List.mem_of_getElem? (i := 248) (by rfl))
set_option maxRecDepth 20000 in
theorem lk_249 : (Jvm.Cond.code ({ cls := "java/lang/Math", name := "min", desc := "(II)I" } : Jvm.MethodName) prog_13_method_69_code (2 : Nat) (Option.some Jvm.ClassFile.FieldType.int)) ∈ wk_tbl := List.mem_append_left _ (List.mem_of_getElem? (i := 249) (by rfl))
set_option maxRecDepth 20000 in
theorem lk_250 : (Jvm.Cond.code ({ cls := "DraftTree", name := "requirePlace", desc := "(I)V" } : Jvm.MethodName) prog_1_method_19_code (2 : Nat) (Option.none : Option Jvm.ClassFile.FieldType)) ∈ wk_tbl := List.mem_append_left _ (List.mem_of_getElem? (i := 250) (by rfl))
set_option maxRecDepth 20000 in
theorem lk_251 : (Jvm.Cond.methodLink "DraftTree" (88 : Nat) ({ cls := "DraftTree", name := "requirePlace", desc := "(I)V" } : Jvm.MethodName)) ∈ wk_tbl := List.mem_append_left _ (List.mem_of_getElem? (i := 251) (by rfl))
set_option maxRecDepth 20000 in
theorem lk_252 : (Jvm.Cond.instanceMethod ({ cls := "DraftTree", name := "requirePlace", desc := "(I)V" } : Jvm.MethodName)) ∈ wk_tbl := List.mem_append_left _ (List.mem_of_getElem? (i := 252) (by rfl))
set_option maxRecDepth 20000 in
theorem lk_253 : (Jvm.Cond.selects "DraftTree" ({ cls := "DraftTree", name := "requirePlace", desc := "(I)V" } : Jvm.MethodName) ({ cls := "DraftTree", name := "requirePlace", desc := "(I)V" } : Jvm.MethodName)) ∈ wk_tbl := List.mem_append_left _ (List.mem_of_getElem? (i := 253) (by rfl))
set_option maxRecDepth 20000 in
theorem lk_254 : (Jvm.Cond.code ({ cls := "DraftTree", name := "go", desc := "(IZ)V" } : Jvm.MethodName) prog_1_method_6_code (3 : Nat) (Option.none : Option Jvm.ClassFile.FieldType)) ∈ wk_tbl := List.mem_append_left _ (List.mem_of_getElem? (i := 254) (by rfl))
set_option maxRecDepth 20000 in
theorem lk_255 : (Jvm.Cond.methodLink "DraftTreeLaw" (19 : Nat) ({ cls := "DraftTree", name := "go", desc := "(IZ)V" } : Jvm.MethodName)) ∈ wk_tbl := List.mem_append_left _ (List.mem_of_getElem? (i := 255) (by rfl))
set_option maxRecDepth 20000 in
theorem lk_256 : (Jvm.Cond.instanceMethod ({ cls := "DraftTree", name := "go", desc := "(IZ)V" } : Jvm.MethodName)) ∈ wk_tbl := List.mem_append_left _ (List.mem_of_getElem? (i := 256) (by rfl))
set_option maxRecDepth 20000 in
theorem lk_257 : (Jvm.Cond.selects "DraftTree" ({ cls := "DraftTree", name := "go", desc := "(IZ)V" } : Jvm.MethodName) ({ cls := "DraftTree", name := "go", desc := "(IZ)V" } : Jvm.MethodName)) ∈ wk_tbl := List.mem_append_left _ (List.mem_of_getElem? (i := 257) (by rfl))
set_option maxRecDepth 20000 in
theorem lk_258 : (Jvm.Cond.codeWith ({ cls := "DraftTreeLaw", name := "go", desc := "(LDraftTree;IZ)I" } : Jvm.MethodName) method_5_code (4 : Nat) (Option.some Jvm.ClassFile.FieldType.int) [((0 : Nat), (6 : Nat), (9 : Nat), (23 : Nat))]) ∈ wk_tbl := List.mem_append_left _ (List.mem_of_getElem? (i := 258) (by rfl))
set_option maxRecDepth 20000 in
theorem lk_259 : (Jvm.Cond.methodLink "DraftTreeLaw" (88 : Nat) ({ cls := "DraftTreeLaw", name := "go", desc := "(LDraftTree;IZ)I" } : Jvm.MethodName)) ∈ wk_tbl := List.mem_append_left _ (List.mem_of_getElem? (i := 259) (by rfl))
set_option maxRecDepth 20000 in
theorem lk_260 : (Jvm.Cond.static ({ cls := "DraftTreeLaw", name := "go", desc := "(LDraftTree;IZ)I" } : Jvm.MethodName)) ∈ wk_tbl := List.mem_append_left _ (List.mem_of_getElem? (i := 260) (by rfl))
set_option maxRecDepth 20000 in
theorem lk_261 : (Jvm.Cond.code ({ cls := "DraftTreeModel", name := "go", desc := "(IZ)V" } : Jvm.MethodName) prog_6_method_17_code (3 : Nat) (Option.none : Option Jvm.ClassFile.FieldType)) ∈ wk_tbl := List.mem_append_left _ (List.mem_of_getElem? (i := 261) (by rfl))
set_option maxRecDepth 20000 in
theorem lk_262 : (Jvm.Cond.methodLink "DraftTreeLaw" (91 : Nat) ({ cls := "DraftTreeModel", name := "go", desc := "(IZ)V" } : Jvm.MethodName)) ∈ wk_tbl := List.mem_append_left _ (List.mem_of_getElem? (i := 262) (by rfl))
set_option maxRecDepth 20000 in
theorem lk_263 : (Jvm.Cond.instanceMethod ({ cls := "DraftTreeModel", name := "go", desc := "(IZ)V" } : Jvm.MethodName)) ∈ wk_tbl := List.mem_append_left _ (List.mem_of_getElem? (i := 263) (by rfl))
set_option maxRecDepth 20000 in
theorem lk_264 : (Jvm.Cond.selects "DraftTreeModel" ({ cls := "DraftTreeModel", name := "go", desc := "(IZ)V" } : Jvm.MethodName) ({ cls := "DraftTreeModel", name := "go", desc := "(IZ)V" } : Jvm.MethodName)) ∈ wk_tbl := List.mem_append_left _ (List.mem_of_getElem? (i := 264) (by rfl))
set_option maxRecDepth 20000 in
theorem lk_265 : (Jvm.Cond.classLink "DraftTree" (143 : Nat) "java/lang/IndexOutOfBoundsException") ∈ wk_tbl := List.mem_append_left _ (List.mem_of_getElem? (i := 265) (by rfl))
set_option maxRecDepth 20000 in
theorem lk_266 : (Jvm.Cond.initialized "java/lang/IndexOutOfBoundsException") ∈ wk_tbl := List.mem_append_left _ (List.mem_of_getElem? (i := 266) (by rfl))
set_option maxRecDepth 20000 in
theorem lk_267 : (Jvm.Cond.classLink "DraftTreeLaw" (23 : Nat) "java/lang/IndexOutOfBoundsException") ∈ wk_tbl := List.mem_append_left _ (List.mem_of_getElem? (i := 267) (by rfl))
set_option maxRecDepth 20000 in
theorem lk_268 : (Jvm.Cond.fieldLink "DraftTree$PatternReader" (35 : Nat) "DraftTree$PatternReader" "size" "I") ∈ wk_tbl := List.mem_append_left _ (List.mem_of_getElem? (i := 268) (by rfl))
set_option maxRecDepth 20000 in
theorem lk_269 : (Jvm.Cond.fieldLink "DraftTree$PatternReader" (39 : Nat) "DraftTree$PatternReader" "position" "I") ∈ wk_tbl := List.mem_append_left _ (List.mem_of_getElem? (i := 269) (by rfl))
set_option maxRecDepth 20000 in
theorem lk_270 : (Jvm.Cond.fieldLink "DraftTree$PatternReader" (42 : Nat) "DraftTree$PatternReader" "fault" "I") ∈ wk_tbl := List.mem_append_left _ (List.mem_of_getElem? (i := 270) (by rfl))
set_option maxRecDepth 20000 in
theorem lk_271 : (Jvm.Cond.fieldLink "DraftTree$PatternReader" (45 : Nat) "DraftTree$Automaton" "size" "I") ∈ wk_tbl := List.mem_append_left _ (List.mem_of_getElem? (i := 271) (by rfl))
set_option maxRecDepth 20000 in
theorem lk_272 : (Jvm.Cond.fieldLink "DraftTree$PatternReader" (46 : Nat) "DraftTree$PatternReader" "depth" "I") ∈ wk_tbl := List.mem_append_left _ (List.mem_of_getElem? (i := 272) (by rfl))
set_option maxRecDepth 20000 in
theorem lk_273 : (Jvm.Cond.fieldLink "DraftTree$Automaton" (28 : Nat) "DraftTree$Automaton" "size" "I") ∈ wk_tbl := List.mem_append_left _ (List.mem_of_getElem? (i := 273) (by rfl))
set_option maxRecDepth 20000 in
theorem lk_274 : (Jvm.Cond.code ({ cls := "DraftTree$Automaton", name := "addNode", desc := "(I)I" } : Jvm.MethodName) prog_2_method_2_code (3 : Nat) (Option.some Jvm.ClassFile.FieldType.int)) ∈ wk_tbl := List.mem_append_left _ (List.mem_of_getElem? (i := 274) (by rfl))
set_option maxRecDepth 20000 in
theorem lk_275 : (Jvm.Cond.methodLink "DraftTree$PatternReader" (113 : Nat) ({ cls := "DraftTree$Automaton", name := "addNode", desc := "(I)I" } : Jvm.MethodName)) ∈ wk_tbl := List.mem_append_left _ (List.mem_of_getElem? (i := 275) (by rfl))
set_option maxRecDepth 20000 in
theorem lk_276 : (Jvm.Cond.instanceMethod ({ cls := "DraftTree$Automaton", name := "addNode", desc := "(I)I" } : Jvm.MethodName)) ∈ wk_tbl := List.mem_append_left _ (List.mem_of_getElem? (i := 276) (by rfl))
set_option maxRecDepth 20000 in
theorem lk_277 : (Jvm.Cond.selects "DraftTree$Automaton" ({ cls := "DraftTree$Automaton", name := "addNode", desc := "(I)I" } : Jvm.MethodName) ({ cls := "DraftTree$Automaton", name := "addNode", desc := "(I)I" } : Jvm.MethodName)) ∈ wk_tbl := List.mem_append_left _ (List.mem_of_getElem? (i := 277) (by rfl))
set_option maxRecDepth 20000 in
theorem lk_278 : (Jvm.Cond.fieldLink "DraftTree$PatternReader" (126 : Nat) "DraftTree$PatternReader" "lead" "I") ∈ wk_tbl := List.mem_append_left _ (List.mem_of_getElem? (i := 278) (by rfl))
set_option maxRecDepth 20000 in
theorem lk_279 : (Jvm.Cond.fieldLink "DraftTree$PatternReader" (129 : Nat) "DraftTree$PatternReader" "first" "I") ∈ wk_tbl := List.mem_append_left _ (List.mem_of_getElem? (i := 279) (by rfl))
set_option maxRecDepth 20000 in
theorem lk_280 : (Jvm.Cond.fieldLink "DraftTree$PatternReader" (62 : Nat) "DraftTree$PatternReader" "tail" "I") ∈ wk_tbl := List.mem_append_left _ (List.mem_of_getElem? (i := 280) (by rfl))
set_option maxRecDepth 20000 in
theorem lk_281 : (Jvm.Cond.code ({ cls := "DraftTree$PatternReader", name := "beginRow", desc := "(I)V" } : Jvm.MethodName) prog_3_method_16_code (2 : Nat) (Option.none : Option Jvm.ClassFile.FieldType)) ∈ wk_tbl := List.mem_append_left _ (List.mem_of_getElem? (i := 281) (by rfl))
set_option maxRecDepth 20000 in
theorem lk_282 : (Jvm.Cond.methodLink "DraftTree$PatternReader" (116 : Nat) ({ cls := "DraftTree$PatternReader", name := "beginRow", desc := "(I)V" } : Jvm.MethodName)) ∈ wk_tbl := List.mem_append_left _ (List.mem_of_getElem? (i := 282) (by rfl))
set_option maxRecDepth 20000 in
theorem lk_283 : (Jvm.Cond.instanceMethod ({ cls := "DraftTree$PatternReader", name := "beginRow", desc := "(I)V" } : Jvm.MethodName)) ∈ wk_tbl := List.mem_append_left _ (List.mem_of_getElem? (i := 283) (by rfl))
set_option maxRecDepth 20000 in
theorem lk_284 : (Jvm.Cond.selects "DraftTree$PatternReader" ({ cls := "DraftTree$PatternReader", name := "beginRow", desc := "(I)V" } : Jvm.MethodName) ({ cls := "DraftTree$PatternReader", name := "beginRow", desc := "(I)V" } : Jvm.MethodName)) ∈ wk_tbl := List.mem_append_left _ (List.mem_of_getElem? (i := 284) (by rfl))
set_option maxRecDepth 20000 in
theorem lk_285 : (Jvm.Cond.code ({ cls := "DraftTree$PatternReader", name := "openChoice", desc := "(I)V" } : Jvm.MethodName) prog_3_method_12_code (3 : Nat) (Option.none : Option Jvm.ClassFile.FieldType)) ∈ wk_tbl := List.mem_append_left _ (List.mem_of_getElem? (i := 285) (by rfl))
set_option maxRecDepth 20000 in
theorem lk_286 : (Jvm.Cond.methodLink "DraftTree$PatternReader" (49 : Nat) ({ cls := "DraftTree$PatternReader", name := "openChoice", desc := "(I)V" } : Jvm.MethodName)) ∈ wk_tbl := List.mem_append_left _ (List.mem_of_getElem? (i := 286) (by rfl))
set_option maxRecDepth 20000 in
theorem lk_287 : (Jvm.Cond.instanceMethod ({ cls := "DraftTree$PatternReader", name := "openChoice", desc := "(I)V" } : Jvm.MethodName)) ∈ wk_tbl := List.mem_append_left _ (List.mem_of_getElem? (i := 287) (by rfl))
set_option maxRecDepth 20000 in
theorem lk_288 : (Jvm.Cond.selects "DraftTree$PatternReader" ({ cls := "DraftTree$PatternReader", name := "openChoice", desc := "(I)V" } : Jvm.MethodName) ({ cls := "DraftTree$PatternReader", name := "openChoice", desc := "(I)V" } : Jvm.MethodName)) ∈ wk_tbl := List.mem_append_left _ (List.mem_of_getElem? (i := 288) (by rfl))
set_option maxRecDepth 20000 in
theorem lk_289 : (Jvm.Cond.fieldLink "DraftTree$PatternReader" (59 : Nat) "DraftTree$Automaton" "next" "[I") ∈ wk_tbl := List.mem_append_left _ (List.mem_of_getElem? (i := 289) (by rfl))
set_option maxRecDepth 20000 in
theorem lk_290 : (Jvm.Cond.fieldLink "DraftTree$PatternReader" (65 : Nat) "DraftTree$Automaton" "start" "I") ∈ wk_tbl := List.mem_append_left _ (List.mem_of_getElem? (i := 290) (by rfl))
set_option maxRecDepth 20000 in
theorem lk_291 : (Jvm.Cond.fieldLink "DraftTree$PatternReader" (68 : Nat) "DraftTree$Automaton" "goal" "I") ∈ wk_tbl := List.mem_append_left _ (List.mem_of_getElem? (i := 291) (by rfl))
set_option maxRecDepth 20000 in
theorem lk_292 : (Jvm.Cond.code ({ cls := "DraftTree$PatternReader", name := "finish", desc := "()V" } : Jvm.MethodName) prog_3_method_4_code (1 : Nat) (Option.none : Option Jvm.ClassFile.FieldType)) ∈ wk_tbl := List.mem_append_left _ (List.mem_of_getElem? (i := 292) (by rfl))
set_option maxRecDepth 20000 in
theorem lk_293 : (Jvm.Cond.methodLink "DraftTree$PatternReader" (56 : Nat) ({ cls := "DraftTree$PatternReader", name := "finish", desc := "()V" } : Jvm.MethodName)) ∈ wk_tbl := List.mem_append_left _ (List.mem_of_getElem? (i := 293) (by rfl))
set_option maxRecDepth 20000 in
theorem lk_294 : (Jvm.Cond.instanceMethod ({ cls := "DraftTree$PatternReader", name := "finish", desc := "()V" } : Jvm.MethodName)) ∈ wk_tbl := List.mem_append_left _ (List.mem_of_getElem? (i := 294) (by rfl))
set_option maxRecDepth 20000 in
theorem lk_295 : (Jvm.Cond.selects "DraftTree$PatternReader" ({ cls := "DraftTree$PatternReader", name := "finish", desc := "()V" } : Jvm.MethodName) ({ cls := "DraftTree$PatternReader", name := "finish", desc := "()V" } : Jvm.MethodName)) ∈ wk_tbl := List.mem_append_left _ (List.mem_of_getElem? (i := 295) (by rfl))
set_option maxRecDepth 20000 in
theorem lk_296 : (Jvm.Cond.code ({ cls := "DraftTree$PatternReader", name := "read", desc := "([CI)I" } : Jvm.MethodName) prog_3_method_3_code (4 : Nat) (Option.some Jvm.ClassFile.FieldType.int)) ∈ wk_tbl := List.mem_append_left _ (List.mem_of_getElem? (i := 296) (by rfl))
set_option maxRecDepth 20000 in
theorem lk_297 : (Jvm.Cond.methodLink "DraftTree" (92 : Nat) ({ cls := "DraftTree$PatternReader", name := "read", desc := "([CI)I" } : Jvm.MethodName)) ∈ wk_tbl := List.mem_append_left _ (List.mem_of_getElem? (i := 297) (by rfl))
set_option maxRecDepth 20000 in
theorem lk_298 : (Jvm.Cond.instanceMethod ({ cls := "DraftTree$PatternReader", name := "read", desc := "([CI)I" } : Jvm.MethodName)) ∈ wk_tbl := List.mem_append_left _ (List.mem_of_getElem? (i := 298) (by rfl))
set_option maxRecDepth 20000 in
theorem lk_299 : (Jvm.Cond.selects "DraftTree$PatternReader" ({ cls := "DraftTree$PatternReader", name := "read", desc := "([CI)I" } : Jvm.MethodName) ({ cls := "DraftTree$PatternReader", name := "read", desc := "([CI)I" } : Jvm.MethodName)) ∈ wk_tbl := List.mem_append_left _ (List.mem_of_getElem? (i := 299) (by rfl))
set_option maxRecDepth 20000 in
theorem lk_300 : (Jvm.Cond.code ({ cls := "DraftTree$PatternReader", name := "handOver", desc := "(LDraftTree$Automaton;)LDraftTree$Automaton;" } : Jvm.MethodName) prog_3_method_2_code (3 : Nat) (Option.some (Jvm.ClassFile.FieldType.object "DraftTree$Automaton"))) ∈ wk_tbl := List.mem_append_left _ (List.mem_of_getElem? (i := 300) (by rfl))
set_option maxRecDepth 20000 in
theorem lk_301 : (Jvm.Cond.methodLink "DraftTree" (99 : Nat) ({ cls := "DraftTree$PatternReader", name := "handOver", desc := "(LDraftTree$Automaton;)LDraftTree$Automaton;" } : Jvm.MethodName)) ∈ wk_tbl := List.mem_append_left _ (List.mem_of_getElem? (i := 301) (by rfl))
set_option maxRecDepth 20000 in
theorem lk_302 : (Jvm.Cond.instanceMethod ({ cls := "DraftTree$PatternReader", name := "handOver", desc := "(LDraftTree$Automaton;)LDraftTree$Automaton;" } : Jvm.MethodName)) ∈ wk_tbl := List.mem_append_left _ (List.mem_of_getElem? (i := 302) (by rfl))
set_option maxRecDepth 20000 in
theorem lk_303 : (Jvm.Cond.selects "DraftTree$PatternReader" ({ cls := "DraftTree$PatternReader", name := "handOver", desc := "(LDraftTree$Automaton;)LDraftTree$Automaton;" } : Jvm.MethodName) ({ cls := "DraftTree$PatternReader", name := "handOver", desc := "(LDraftTree$Automaton;)LDraftTree$Automaton;" } : Jvm.MethodName)) ∈ wk_tbl := List.mem_append_left _ (List.mem_of_getElem? (i := 303) (by rfl))
set_option maxRecDepth 20000 in
theorem lk_304 : (Jvm.Cond.fieldLink "DraftTree" (103 : Nat) "DraftTree" "hasPattern" "Z") ∈ wk_tbl := List.mem_append_left _ (List.mem_of_getElem? (i := 304) (by rfl))
set_option maxRecDepth 20000 in
theorem lk_305 : (Jvm.Cond.code ({ cls := "DraftTree", name := "compile", desc := "()V" } : Jvm.MethodName) prog_1_method_7_code (1 : Nat) (Option.none : Option Jvm.ClassFile.FieldType)) ∈ wk_tbl := List.mem_append_left _ (List.mem_of_getElem? (i := 305) (by rfl))
set_option maxRecDepth 20000 in
theorem lk_306 : (Jvm.Cond.methodLink "DraftTreeLaw" (25 : Nat) ({ cls := "DraftTree", name := "compile", desc := "()V" } : Jvm.MethodName)) ∈ wk_tbl := List.mem_append_left _ (List.mem_of_getElem? (i := 306) (by rfl))
set_option maxRecDepth 20000 in
theorem lk_307 : (Jvm.Cond.instanceMethod ({ cls := "DraftTree", name := "compile", desc := "()V" } : Jvm.MethodName)) ∈ wk_tbl := List.mem_append_left _ (List.mem_of_getElem? (i := 307) (by rfl))
set_option maxRecDepth 20000 in
theorem lk_308 : (Jvm.Cond.selects "DraftTree" ({ cls := "DraftTree", name := "compile", desc := "()V" } : Jvm.MethodName) ({ cls := "DraftTree", name := "compile", desc := "()V" } : Jvm.MethodName)) ∈ wk_tbl := List.mem_append_left _ (List.mem_of_getElem? (i := 308) (by rfl))
set_option maxRecDepth 20000 in
theorem lk_309 : (Jvm.Cond.codeWith ({ cls := "DraftTreeLaw", name := "compile", desc := "(LDraftTree;)I" } : Jvm.MethodName) method_6_code (2 : Nat) (Option.some Jvm.ClassFile.FieldType.int) [((0 : Nat), (4 : Nat), (7 : Nat), (28 : Nat))]) ∈ wk_tbl := List.mem_append_left _ (List.mem_of_getElem? (i := 309) (by rfl))
set_option maxRecDepth 20000 in
theorem lk_310 : (Jvm.Cond.methodLink "DraftTreeLaw" (92 : Nat) ({ cls := "DraftTreeLaw", name := "compile", desc := "(LDraftTree;)I" } : Jvm.MethodName)) ∈ wk_tbl := List.mem_append_left _ (List.mem_of_getElem? (i := 310) (by rfl))
set_option maxRecDepth 20000 in
theorem lk_311 : (Jvm.Cond.static ({ cls := "DraftTreeLaw", name := "compile", desc := "(LDraftTree;)I" } : Jvm.MethodName)) ∈ wk_tbl := List.mem_append_left _ (List.mem_of_getElem? (i := 311) (by rfl))
set_option maxRecDepth 20000 in
theorem lk_312 : (Jvm.Cond.code ({ cls := "DraftTreeModel", name := "good", desc := "()I" } : Jvm.MethodName) prog_6_method_23_code (5 : Nat) (Option.some Jvm.ClassFile.FieldType.int)) ∈ wk_tbl := List.mem_append_left _ (List.mem_of_getElem? (i := 312) (by rfl))
set_option maxRecDepth 20000 in
theorem lk_313 : (Jvm.Cond.methodLink "DraftTreeModel" (187 : Nat) ({ cls := "DraftTreeModel", name := "good", desc := "()I" } : Jvm.MethodName)) ∈ wk_tbl := List.mem_append_left _ (List.mem_of_getElem? (i := 313) (by rfl))
set_option maxRecDepth 20000 in
theorem lk_314 : (Jvm.Cond.instanceMethod ({ cls := "DraftTreeModel", name := "good", desc := "()I" } : Jvm.MethodName)) ∈ wk_tbl := List.mem_append_left _ (List.mem_of_getElem? (i := 314) (by rfl))
set_option maxRecDepth 20000 in
theorem lk_315 : (Jvm.Cond.selects "DraftTreeModel" ({ cls := "DraftTreeModel", name := "good", desc := "()I" } : Jvm.MethodName) ({ cls := "DraftTreeModel", name := "good", desc := "()I" } : Jvm.MethodName)) ∈ wk_tbl := List.mem_append_left _ (List.mem_of_getElem? (i := 315) (by rfl))
set_option maxRecDepth 20000 in
theorem lk_316 : (Jvm.Cond.fieldLink "DraftTreeModel" (190 : Nat) "DraftTreeModel" "size" "I") ∈ wk_tbl := List.mem_append_left _ (List.mem_of_getElem? (i := 316) (by rfl))
set_option maxRecDepth 20000 in
theorem lk_317 : (Jvm.Cond.fieldLink "DraftTreeModel" (142 : Nat) "DraftTreeModel" "nodes" "I") ∈ wk_tbl := List.mem_append_left _ (List.mem_of_getElem? (i := 317) (by rfl))
set_option maxRecDepth 20000 in
theorem lk_318 : (Jvm.Cond.fieldLink "DraftTreeModel" (145 : Nat) "DraftTreeModel" "pieces" "I") ∈ wk_tbl := List.mem_append_left _ (List.mem_of_getElem? (i := 318) (by rfl))
set_option maxRecDepth 20000 in
theorem lk_319 : (Jvm.Cond.fieldLink "DraftTreeModel" (159 : Nat) "DraftTreeModel" "open" "I") ∈ wk_tbl := List.mem_append_left _ (List.mem_of_getElem? (i := 319) (by rfl))
set_option maxRecDepth 20000 in
theorem lk_320 : (Jvm.Cond.code ({ cls := "DraftTreeModel", name := "node", desc := "(III)I" } : Jvm.MethodName) prog_6_method_24_code (4 : Nat) (Option.some Jvm.ClassFile.FieldType.int)) ∈ wk_tbl := List.mem_append_left _ (List.mem_of_getElem? (i := 320) (by rfl))
set_option maxRecDepth 20000 in
theorem lk_321 : (Jvm.Cond.methodLink "DraftTreeModel" (148 : Nat) ({ cls := "DraftTreeModel", name := "node", desc := "(III)I" } : Jvm.MethodName)) ∈ wk_tbl := List.mem_append_left _ (List.mem_of_getElem? (i := 321) (by rfl))
set_option maxRecDepth 20000 in
theorem lk_322 : (Jvm.Cond.instanceMethod ({ cls := "DraftTreeModel", name := "node", desc := "(III)I" } : Jvm.MethodName)) ∈ wk_tbl := List.mem_append_left _ (List.mem_of_getElem? (i := 322) (by rfl))
set_option maxRecDepth 20000 in
theorem lk_323 : (Jvm.Cond.selects "DraftTreeModel" ({ cls := "DraftTreeModel", name := "node", desc := "(III)I" } : Jvm.MethodName) ({ cls := "DraftTreeModel", name := "node", desc := "(III)I" } : Jvm.MethodName)) ∈ wk_tbl := List.mem_append_left _ (List.mem_of_getElem? (i := 323) (by rfl))
set_option maxRecDepth 20000 in
theorem lk_324 : (Jvm.Cond.code ({ cls := "DraftTreeModel", name := "piece", desc := "(II)I" } : Jvm.MethodName) prog_6_method_26_code (3 : Nat) (Option.some Jvm.ClassFile.FieldType.int)) ∈ wk_tbl := List.mem_append_left _ (List.mem_of_getElem? (i := 324) (by rfl))
set_option maxRecDepth 20000 in
theorem lk_325 : (Jvm.Cond.methodLink "DraftTreeModel" (155 : Nat) ({ cls := "DraftTreeModel", name := "piece", desc := "(II)I" } : Jvm.MethodName)) ∈ wk_tbl := List.mem_append_left _ (List.mem_of_getElem? (i := 325) (by rfl))
set_option maxRecDepth 20000 in
theorem lk_326 : (Jvm.Cond.instanceMethod ({ cls := "DraftTreeModel", name := "piece", desc := "(II)I" } : Jvm.MethodName)) ∈ wk_tbl := List.mem_append_left _ (List.mem_of_getElem? (i := 326) (by rfl))
set_option maxRecDepth 20000 in
theorem lk_327 : (Jvm.Cond.selects "DraftTreeModel" ({ cls := "DraftTreeModel", name := "piece", desc := "(II)I" } : Jvm.MethodName) ({ cls := "DraftTreeModel", name := "piece", desc := "(II)I" } : Jvm.MethodName)) ∈ wk_tbl := List.mem_append_left _ (List.mem_of_getElem? (i := 327) (by rfl))
set_option maxRecDepth 20000 in
theorem lk_328 : (Jvm.Cond.code ({ cls := "DraftTreeModel", name := "nothing", desc := "()I" } : Jvm.MethodName) prog_6_method_28_code (2 : Nat) (Option.some Jvm.ClassFile.FieldType.int)) ∈ wk_tbl := List.mem_append_left _ (List.mem_of_getElem? (i := 328) (by rfl))
set_option maxRecDepth 20000 in
theorem lk_329 : (Jvm.Cond.methodLink "DraftTreeModel" (162 : Nat) ({ cls := "DraftTreeModel", name := "nothing", desc := "()I" } : Jvm.MethodName)) ∈ wk_tbl := List.mem_append_left _ (List.mem_of_getElem? (i := 329) (by rfl))
set_option maxRecDepth 20000 in
theorem lk_330 : (Jvm.Cond.instanceMethod ({ cls := "DraftTreeModel", name := "nothing", desc := "()I" } : Jvm.MethodName)) ∈ wk_tbl := List.mem_append_left _ (List.mem_of_getElem? (i := 330) (by rfl))
set_option maxRecDepth 20000 in
theorem lk_331 : (Jvm.Cond.selects "DraftTreeModel" ({ cls := "DraftTreeModel", name := "nothing", desc := "()I" } : Jvm.MethodName) ({ cls := "DraftTreeModel", name := "nothing", desc := "()I" } : Jvm.MethodName)) ∈ wk_tbl := List.mem_append_left _ (List.mem_of_getElem? (i := 331) (by rfl))
set_option maxRecDepth 20000 in
theorem lk_332 : (Jvm.Cond.code ({ cls := "DraftTreeModel", name := "openGroup", desc := "()V" } : Jvm.MethodName) prog_6_method_32_code (1 : Nat) (Option.none : Option Jvm.ClassFile.FieldType)) ∈ wk_tbl := List.mem_append_left _ (List.mem_of_getElem? (i := 332) (by rfl))
set_option maxRecDepth 20000 in
theorem lk_333 : (Jvm.Cond.methodLink "DraftTreeModel" (171 : Nat) ({ cls := "DraftTreeModel", name := "openGroup", desc := "()V" } : Jvm.MethodName)) ∈ wk_tbl := List.mem_append_left _ (List.mem_of_getElem? (i := 333) (by rfl))
set_option maxRecDepth 20000 in
theorem lk_334 : (Jvm.Cond.instanceMethod ({ cls := "DraftTreeModel", name := "openGroup", desc := "()V" } : Jvm.MethodName)) ∈ wk_tbl := List.mem_append_left _ (List.mem_of_getElem? (i := 334) (by rfl))
set_option maxRecDepth 20000 in
theorem lk_335 : (Jvm.Cond.selects "DraftTreeModel" ({ cls := "DraftTreeModel", name := "openGroup", desc := "()V" } : Jvm.MethodName) ({ cls := "DraftTreeModel", name := "openGroup", desc := "()V" } : Jvm.MethodName)) ∈ wk_tbl := List.mem_append_left _ (List.mem_of_getElem? (i := 335) (by rfl))
set_option maxRecDepth 20000 in
theorem lk_336 : (Jvm.Cond.code ({ cls := "DraftTreeModel", name := "behind", desc := "(II)I" } : Jvm.MethodName) prog_6_method_29_code (3 : Nat) (Option.some Jvm.ClassFile.FieldType.int)) ∈ wk_tbl := List.mem_append_left _ (List.mem_of_getElem? (i := 336) (by rfl))
set_option maxRecDepth 20000 in
theorem lk_337 : (Jvm.Cond.methodLink "DraftTreeModel" (165 : Nat) ({ cls := "DraftTreeModel", name := "behind", desc := "(II)I" } : Jvm.MethodName)) ∈ wk_tbl := List.mem_append_left _ (List.mem_of_getElem? (i := 337) (by rfl))
set_option maxRecDepth 20000 in
theorem lk_338 : (Jvm.Cond.instanceMethod ({ cls := "DraftTreeModel", name := "behind", desc := "(II)I" } : Jvm.MethodName)) ∈ wk_tbl := List.mem_append_left _ (List.mem_of_getElem? (i := 338) (by rfl))
set_option maxRecDepth 20000 in
theorem lk_339 : (Jvm.Cond.selects "DraftTreeModel" ({ cls := "DraftTreeModel", name := "behind", desc := "(II)I" } : Jvm.MethodName) ({ cls := "DraftTreeModel", name := "behind", desc := "(II)I" } : Jvm.MethodName)) ∈ wk_tbl := List.mem_append_left _ (List.mem_of_getElem? (i := 339) (by rfl))
set_option maxRecDepth 20000 in
theorem lk_340 : (Jvm.Cond.code ({ cls := "DraftTreeModel", name := "either", desc := "(II)I" } : Jvm.MethodName) prog_6_method_30_code (5 : Nat) (Option.some Jvm.ClassFile.FieldType.int)) ∈ wk_tbl := List.mem_append_left _ (List.mem_of_getElem? (i := 340) (by rfl))
set_option maxRecDepth 20000 in
theorem lk_341 : (Jvm.Cond.methodLink "DraftTreeModel" (168 : Nat) ({ cls := "DraftTreeModel", name := "either", desc := "(II)I" } : Jvm.MethodName)) ∈ wk_tbl := List.mem_append_left _ (List.mem_of_getElem? (i := 341) (by rfl))
set_option maxRecDepth 20000 in
theorem lk_342 : (Jvm.Cond.instanceMethod ({ cls := "DraftTreeModel", name := "either", desc := "(II)I" } : Jvm.MethodName)) ∈ wk_tbl := List.mem_append_left _ (List.mem_of_getElem? (i := 342) (by rfl))
set_option maxRecDepth 20000 in
theorem lk_343 : (Jvm.Cond.selects "DraftTreeModel" ({ cls := "DraftTreeModel", name := "either", desc := "(II)I" } : Jvm.MethodName) ({ cls := "DraftTreeModel", name := "either", desc := "(II)I" } : Jvm.MethodName)) ∈ wk_tbl := List.mem_append_left _ (List.mem_of_getElem? (i := 343) (by rfl))
set_option maxRecDepth 20000 in
theorem lk_344 : (Jvm.Cond.code ({ cls := "DraftTreeModel", name := "endRow", desc := "()V" } : Jvm.MethodName) prog_6_method_33_code (3 : Nat) (Option.none : Option Jvm.ClassFile.FieldType)) ∈ wk_tbl := List.mem_append_left _ (List.mem_of_getElem? (i := 344) (by rfl))
set_option maxRecDepth 20000 in
theorem lk_345 : (Jvm.Cond.methodLink "DraftTreeModel" (174 : Nat) ({ cls := "DraftTreeModel", name := "endRow", desc := "()V" } : Jvm.MethodName)) ∈ wk_tbl := List.mem_append_left _ (List.mem_of_getElem? (i := 345) (by rfl))
set_option maxRecDepth 20000 in
theorem lk_346 : (Jvm.Cond.instanceMethod ({ cls := "DraftTreeModel", name := "endRow", desc := "()V" } : Jvm.MethodName)) ∈ wk_tbl := List.mem_append_left _ (List.mem_of_getElem? (i := 346) (by rfl))
set_option maxRecDepth 20000 in
theorem lk_347 : (Jvm.Cond.selects "DraftTreeModel" ({ cls := "DraftTreeModel", name := "endRow", desc := "()V" } : Jvm.MethodName) ({ cls := "DraftTreeModel", name := "endRow", desc := "()V" } : Jvm.MethodName)) ∈ wk_tbl := List.mem_append_left _ (List.mem_of_getElem? (i := 347) (by rfl))
set_option maxRecDepth 20000 in
theorem lk_348 : (Jvm.Cond.fieldLink "DraftTreeModel" (197 : Nat) "DraftTreeModel" "first" "I") ∈ wk_tbl := List.mem_append_left _ (List.mem_of_getElem? (i := 348) (by rfl))
set_option maxRecDepth 20000 in
theorem lk_349 : (Jvm.Cond.fieldLink "DraftTreeModel" (200 : Nat) "DraftTreeModel" "last" "I") ∈ wk_tbl := List.mem_append_left _ (List.mem_of_getElem? (i := 349) (by rfl))
set_option maxRecDepth 20000 in
theorem lk_350 : (Jvm.Cond.fieldLink "DraftTreeModel" (203 : Nat) "DraftTreeModel" "compiled" "Z") ∈ wk_tbl := List.mem_append_left _ (List.mem_of_getElem? (i := 350) (by rfl))
set_option maxRecDepth 20000 in
theorem lk_351 : (Jvm.Cond.code ({ cls := "DraftTreeModel", name := "compile", desc := "()V" } : Jvm.MethodName) prog_6_method_36_code (4 : Nat) (Option.none : Option Jvm.ClassFile.FieldType)) ∈ wk_tbl := List.mem_append_left _ (List.mem_of_getElem? (i := 351) (by rfl))
set_option maxRecDepth 20000 in
theorem lk_352 : (Jvm.Cond.methodLink "DraftTreeLaw" (95 : Nat) ({ cls := "DraftTreeModel", name := "compile", desc := "()V" } : Jvm.MethodName)) ∈ wk_tbl := List.mem_append_left _ (List.mem_of_getElem? (i := 352) (by rfl))
set_option maxRecDepth 20000 in
theorem lk_353 : (Jvm.Cond.instanceMethod ({ cls := "DraftTreeModel", name := "compile", desc := "()V" } : Jvm.MethodName)) ∈ wk_tbl := List.mem_append_left _ (List.mem_of_getElem? (i := 353) (by rfl))
set_option maxRecDepth 20000 in
theorem lk_354 : (Jvm.Cond.selects "DraftTreeModel" ({ cls := "DraftTreeModel", name := "compile", desc := "()V" } : Jvm.MethodName) ({ cls := "DraftTreeModel", name := "compile", desc := "()V" } : Jvm.MethodName)) ∈ wk_tbl := List.mem_append_left _ (List.mem_of_getElem? (i := 354) (by rfl))
set_option maxRecDepth 20000 in
theorem lk_355 : (Jvm.Cond.code ({ cls := "DraftTree", name := "fault", desc := "()I" } : Jvm.MethodName) prog_1_method_8_code (1 : Nat) (Option.some Jvm.ClassFile.FieldType.int)) ∈ wk_tbl := List.mem_append_left _ (List.mem_of_getElem? (i := 355) (by rfl))
set_option maxRecDepth 20000 in
theorem lk_356 : (Jvm.Cond.methodLink "DraftTreeLaw" (96 : Nat) ({ cls := "DraftTree", name := "fault", desc := "()I" } : Jvm.MethodName)) ∈ wk_tbl := List.mem_append_left _ (List.mem_of_getElem? (i := 356) (by rfl))
set_option maxRecDepth 20000 in
theorem lk_357 : (Jvm.Cond.instanceMethod ({ cls := "DraftTree", name := "fault", desc := "()I" } : Jvm.MethodName)) ∈ wk_tbl := List.mem_append_left _ (List.mem_of_getElem? (i := 357) (by rfl))
set_option maxRecDepth 20000 in
theorem lk_358 : (Jvm.Cond.selects "DraftTree" ({ cls := "DraftTree", name := "fault", desc := "()I" } : Jvm.MethodName) ({ cls := "DraftTree", name := "fault", desc := "()I" } : Jvm.MethodName)) ∈ wk_tbl := List.mem_append_left _ (List.mem_of_getElem? (i := 358) (by rfl))
set_option maxRecDepth 20000 in
theorem lk_359 : (Jvm.Cond.code ({ cls := "DraftTreeModel", name := "fault", desc := "()I" } : Jvm.MethodName) prog_6_method_37_code (1 : Nat) (Option.some Jvm.ClassFile.FieldType.int)) ∈ wk_tbl := List.mem_append_left _ (List.mem_of_getElem? (i := 359) (by rfl))
set_option maxRecDepth 20000 in
theorem lk_360 : (Jvm.Cond.methodLink "DraftTreeLaw" (99 : Nat) ({ cls := "DraftTreeModel", name := "fault", desc := "()I" } : Jvm.MethodName)) ∈ wk_tbl := List.mem_append_left _ (List.mem_of_getElem? (i := 360) (by rfl))
set_option maxRecDepth 20000 in
theorem lk_361 : (Jvm.Cond.instanceMethod ({ cls := "DraftTreeModel", name := "fault", desc := "()I" } : Jvm.MethodName)) ∈ wk_tbl := List.mem_append_left _ (List.mem_of_getElem? (i := 361) (by rfl))
set_option maxRecDepth 20000 in
theorem lk_362 : (Jvm.Cond.selects "DraftTreeModel" ({ cls := "DraftTreeModel", name := "fault", desc := "()I" } : Jvm.MethodName) ({ cls := "DraftTreeModel", name := "fault", desc := "()I" } : Jvm.MethodName)) ∈ wk_tbl := List.mem_append_left _ (List.mem_of_getElem? (i := 362) (by rfl))
set_option maxRecDepth 20000 in
theorem lk_363 : (Jvm.Cond.classLink "DraftTree" (66 : Nat) "java/lang/IllegalStateException") ∈ wk_tbl := List.mem_append_left _ (List.mem_of_getElem? (i := 363) (by rfl))
set_option maxRecDepth 20000 in
theorem lk_364 : (Jvm.Cond.initialized "java/lang/IllegalStateException") ∈ wk_tbl := List.mem_append_left _ (List.mem_of_getElem? (i := 364) (by rfl))
set_option maxRecDepth 20000 in
theorem lk_365 : (Jvm.Cond.code ({ cls := "DraftTree", name := "find", desc := "(I)I" } : Jvm.MethodName) prog_1_method_9_code (2 : Nat) (Option.some Jvm.ClassFile.FieldType.int)) ∈ wk_tbl := List.mem_append_left _ (List.mem_of_getElem? (i := 365) (by rfl))
set_option maxRecDepth 20000 in
theorem lk_366 : (Jvm.Cond.methodLink "DraftTreeLaw" (30 : Nat) ({ cls := "DraftTree", name := "find", desc := "(I)I" } : Jvm.MethodName)) ∈ wk_tbl := List.mem_append_left _ (List.mem_of_getElem? (i := 366) (by rfl))
set_option maxRecDepth 20000 in
theorem lk_367 : (Jvm.Cond.instanceMethod ({ cls := "DraftTree", name := "find", desc := "(I)I" } : Jvm.MethodName)) ∈ wk_tbl := List.mem_append_left _ (List.mem_of_getElem? (i := 367) (by rfl))
set_option maxRecDepth 20000 in
theorem lk_368 : (Jvm.Cond.selects "DraftTree" ({ cls := "DraftTree", name := "find", desc := "(I)I" } : Jvm.MethodName) ({ cls := "DraftTree", name := "find", desc := "(I)I" } : Jvm.MethodName)) ∈ wk_tbl := List.mem_append_left _ (List.mem_of_getElem? (i := 368) (by rfl))
set_option maxRecDepth 20000 in
theorem lk_369 : (Jvm.Cond.classLink "DraftTreeLaw" (13 : Nat) "java/lang/IllegalStateException") ∈ wk_tbl := List.mem_append_left _ (List.mem_of_getElem? (i := 369) (by rfl))
set_option maxRecDepth 20000 in
theorem lk_370 : (Jvm.Cond.codeWith ({ cls := "DraftTreeLaw", name := "find", desc := "(LDraftTree;I[J)I" } : Jvm.MethodName) method_7_code (4 : Nat) (Option.some Jvm.ClassFile.FieldType.int) [((0 : Nat), (9 : Nat), (12 : Nat), (13 : Nat)), ((0 : Nat), (9 : Nat), (15 : Nat), (23 : Nat)), ((0 : Nat), (9 : Nat), (18 : Nat), (33 : Nat))]) ∈ wk_tbl := List.mem_append_left _ (List.mem_of_getElem? (i := 370) (by rfl))
set_option maxRecDepth 20000 in
theorem lk_371 : (Jvm.Cond.methodLink "DraftTreeLaw" (100 : Nat) ({ cls := "DraftTreeLaw", name := "find", desc := "(LDraftTree;I[J)I" } : Jvm.MethodName)) ∈ wk_tbl := List.mem_append_left _ (List.mem_of_getElem? (i := 371) (by rfl))
set_option maxRecDepth 20000 in
theorem lk_372 : (Jvm.Cond.static ({ cls := "DraftTreeLaw", name := "find", desc := "(LDraftTree;I[J)I" } : Jvm.MethodName)) ∈ wk_tbl := List.mem_append_left _ (List.mem_of_getElem? (i := 372) (by rfl))
set_option maxRecDepth 20000 in
theorem lk_373 : (Jvm.Cond.code ({ cls := "DraftTreeModel", name := "find", desc := "(I)I" } : Jvm.MethodName) prog_6_method_45_code (2 : Nat) (Option.some Jvm.ClassFile.FieldType.int)) ∈ wk_tbl := List.mem_append_left _ (List.mem_of_getElem? (i := 373) (by rfl))
set_option maxRecDepth 20000 in
theorem lk_374 : (Jvm.Cond.methodLink "DraftTreeLaw" (102 : Nat) ({ cls := "DraftTreeModel", name := "find", desc := "(I)I" } : Jvm.MethodName)) ∈ wk_tbl := List.mem_append_left _ (List.mem_of_getElem? (i := 374) (by rfl))
set_option maxRecDepth 20000 in
theorem lk_375 : (Jvm.Cond.instanceMethod ({ cls := "DraftTreeModel", name := "find", desc := "(I)I" } : Jvm.MethodName)) ∈ wk_tbl := List.mem_append_left _ (List.mem_of_getElem? (i := 375) (by rfl))
set_option maxRecDepth 20000 in
theorem lk_376 : (Jvm.Cond.selects "DraftTreeModel" ({ cls := "DraftTreeModel", name := "find", desc := "(I)I" } : Jvm.MethodName) ({ cls := "DraftTreeModel", name := "find", desc := "(I)I" } : Jvm.MethodName)) ∈ wk_tbl := List.mem_append_left _ (List.mem_of_getElem? (i := 376) (by rfl))
set_option maxRecDepth 20000 in
theorem lk_377 : (Jvm.Cond.code ({ cls := "DraftTree", name := "replace", desc := "()I" } : Jvm.MethodName) prog_1_method_10_code (3 : Nat) (Option.some Jvm.ClassFile.FieldType.int)) ∈ wk_tbl := List.mem_append_left _ (List.mem_of_getElem? (i := 377) (by rfl))
set_option maxRecDepth 20000 in
theorem lk_378 : (Jvm.Cond.methodLink "DraftTreeLaw" (35 : Nat) ({ cls := "DraftTree", name := "replace", desc := "()I" } : Jvm.MethodName)) ∈ wk_tbl := List.mem_append_left _ (List.mem_of_getElem? (i := 378) (by rfl))
set_option maxRecDepth 20000 in
theorem lk_379 : (Jvm.Cond.instanceMethod ({ cls := "DraftTree", name := "replace", desc := "()I" } : Jvm.MethodName)) ∈ wk_tbl := List.mem_append_left _ (List.mem_of_getElem? (i := 379) (by rfl))
set_option maxRecDepth 20000 in
theorem lk_380 : (Jvm.Cond.selects "DraftTree" ({ cls := "DraftTree", name := "replace", desc := "()I" } : Jvm.MethodName) ({ cls := "DraftTree", name := "replace", desc := "()I" } : Jvm.MethodName)) ∈ wk_tbl := List.mem_append_left _ (List.mem_of_getElem? (i := 380) (by rfl))
set_option maxRecDepth 20000 in
theorem lk_381 : (Jvm.Cond.codeWith ({ cls := "DraftTreeLaw", name := "replace", desc := "(LDraftTree;[J)I" } : Jvm.MethodName) method_8_code (3 : Nat) (Option.some Jvm.ClassFile.FieldType.int) [((0 : Nat), (8 : Nat), (11 : Nat), (13 : Nat))]) ∈ wk_tbl := List.mem_append_left _ (List.mem_of_getElem? (i := 381) (by rfl))
set_option maxRecDepth 20000 in
theorem lk_382 : (Jvm.Cond.methodLink "DraftTreeLaw" (103 : Nat) ({ cls := "DraftTreeLaw", name := "replace", desc := "(LDraftTree;[J)I" } : Jvm.MethodName)) ∈ wk_tbl := List.mem_append_left _ (List.mem_of_getElem? (i := 382) (by rfl))
set_option maxRecDepth 20000 in
theorem lk_383 : (Jvm.Cond.static ({ cls := "DraftTreeLaw", name := "replace", desc := "(LDraftTree;[J)I" } : Jvm.MethodName)) ∈ wk_tbl := List.mem_append_left _ (List.mem_of_getElem? (i := 383) (by rfl))
set_option maxRecDepth 20000 in
theorem lk_384 : (Jvm.Cond.code ({ cls := "DraftTreeModel", name := "replace", desc := "()I" } : Jvm.MethodName) prog_6_method_46_code (4 : Nat) (Option.some Jvm.ClassFile.FieldType.int)) ∈ wk_tbl := List.mem_append_left _ (List.mem_of_getElem? (i := 384) (by rfl))
set_option maxRecDepth 20000 in
theorem lk_385 : (Jvm.Cond.methodLink "DraftTreeLaw" (105 : Nat) ({ cls := "DraftTreeModel", name := "replace", desc := "()I" } : Jvm.MethodName)) ∈ wk_tbl := List.mem_append_left _ (List.mem_of_getElem? (i := 385) (by rfl))
set_option maxRecDepth 20000 in
theorem lk_386 : (Jvm.Cond.instanceMethod ({ cls := "DraftTreeModel", name := "replace", desc := "()I" } : Jvm.MethodName)) ∈ wk_tbl := List.mem_append_left _ (List.mem_of_getElem? (i := 386) (by rfl))
set_option maxRecDepth 20000 in
theorem lk_387 : (Jvm.Cond.selects "DraftTreeModel" ({ cls := "DraftTreeModel", name := "replace", desc := "()I" } : Jvm.MethodName) ({ cls := "DraftTreeModel", name := "replace", desc := "()I" } : Jvm.MethodName)) ∈ wk_tbl := List.mem_append_left _ (List.mem_of_getElem? (i := 387) (by rfl))
set_option maxRecDepth 20000 in
theorem lk_388 : (Jvm.Cond.fieldLink "DraftTree" (131 : Nat) "DraftTree$State" "origin" "I") ∈ wk_tbl := List.mem_append_left _ (List.mem_of_getElem? (i := 388) (by rfl))
set_option maxRecDepth 20000 in
theorem lk_389 : (Jvm.Cond.classLink "DraftTree" (111 : Nat) "java/util/NoSuchElementException") ∈ wk_tbl := List.mem_append_left _ (List.mem_of_getElem? (i := 389) (by rfl))
set_option maxRecDepth 20000 in
theorem lk_390 : (Jvm.Cond.initialized "java/util/NoSuchElementException") ∈ wk_tbl := List.mem_append_left _ (List.mem_of_getElem? (i := 390) (by rfl))
set_option maxRecDepth 20000 in
theorem lk_391 : (Jvm.Cond.code ({ cls := "DraftTree", name := "undo", desc := "()I" } : Jvm.MethodName) prog_1_method_11_code (2 : Nat) (Option.some Jvm.ClassFile.FieldType.int)) ∈ wk_tbl := List.mem_append_left _ (List.mem_of_getElem? (i := 391) (by rfl))
set_option maxRecDepth 20000 in
theorem lk_392 : (Jvm.Cond.methodLink "DraftTreeLaw" (38 : Nat) ({ cls := "DraftTree", name := "undo", desc := "()I" } : Jvm.MethodName)) ∈ wk_tbl := List.mem_append_left _ (List.mem_of_getElem? (i := 392) (by rfl))
set_option maxRecDepth 20000 in
theorem lk_393 : (Jvm.Cond.instanceMethod ({ cls := "DraftTree", name := "undo", desc := "()I" } : Jvm.MethodName)) ∈ wk_tbl := List.mem_append_left _ (List.mem_of_getElem? (i := 393) (by rfl))
set_option maxRecDepth 20000 in
theorem lk_394 : (Jvm.Cond.selects "DraftTree" ({ cls := "DraftTree", name := "undo", desc := "()I" } : Jvm.MethodName) ({ cls := "DraftTree", name := "undo", desc := "()I" } : Jvm.MethodName)) ∈ wk_tbl := List.mem_append_left _ (List.mem_of_getElem? (i := 394) (by rfl))
set_option maxRecDepth 20000 in
theorem lk_395 : (Jvm.Cond.classLink "DraftTreeLaw" (33 : Nat) "java/util/NoSuchElementException") ∈ wk_tbl := List.mem_append_left _ (List.mem_of_getElem? (i := 395) (by rfl))
set_option maxRecDepth 20000 in
theorem lk_396 : (Jvm.Cond.codeWith ({ cls := "DraftTreeLaw", name := "undo", desc := "(LDraftTree;[J)I" } : Jvm.MethodName) method_9_code (3 : Nat) (Option.some Jvm.ClassFile.FieldType.int) [((0 : Nat), (8 : Nat), (11 : Nat), (33 : Nat))]) ∈ wk_tbl := List.mem_append_left _ (List.mem_of_getElem? (i := 396) (by rfl))
set_option maxRecDepth 20000 in
theorem lk_397 : (Jvm.Cond.methodLink "DraftTreeLaw" (106 : Nat) ({ cls := "DraftTreeLaw", name := "undo", desc := "(LDraftTree;[J)I" } : Jvm.MethodName)) ∈ wk_tbl := List.mem_append_left _ (List.mem_of_getElem? (i := 397) (by rfl))
set_option maxRecDepth 20000 in
theorem lk_398 : (Jvm.Cond.static ({ cls := "DraftTreeLaw", name := "undo", desc := "(LDraftTree;[J)I" } : Jvm.MethodName)) ∈ wk_tbl := List.mem_append_left _ (List.mem_of_getElem? (i := 398) (by rfl))
set_option maxRecDepth 20000 in
theorem lk_399 : (Jvm.Cond.code ({ cls := "DraftTreeModel", name := "undo", desc := "()I" } : Jvm.MethodName) prog_6_method_18_code (1 : Nat) (Option.some Jvm.ClassFile.FieldType.int)) ∈ wk_tbl := List.mem_append_left _ (List.mem_of_getElem? (i := 399) (by rfl))
set_option maxRecDepth 20000 in
theorem lk_400 : (Jvm.Cond.methodLink "DraftTreeLaw" (108 : Nat) ({ cls := "DraftTreeModel", name := "undo", desc := "()I" } : Jvm.MethodName)) ∈ wk_tbl := List.mem_append_left _ (List.mem_of_getElem? (i := 400) (by rfl))
set_option maxRecDepth 20000 in
theorem lk_401 : (Jvm.Cond.instanceMethod ({ cls := "DraftTreeModel", name := "undo", desc := "()I" } : Jvm.MethodName)) ∈ wk_tbl := List.mem_append_left _ (List.mem_of_getElem? (i := 401) (by rfl))
set_option maxRecDepth 20000 in
theorem lk_402 : (Jvm.Cond.selects "DraftTreeModel" ({ cls := "DraftTreeModel", name := "undo", desc := "()I" } : Jvm.MethodName) ({ cls := "DraftTreeModel", name := "undo", desc := "()I" } : Jvm.MethodName)) ∈ wk_tbl := List.mem_append_left _ (List.mem_of_getElem? (i := 402) (by rfl))
set_option maxRecDepth 20000 in
theorem lk_403 : (Jvm.Cond.fieldLink "DraftTree" (137 : Nat) "DraftTree$State" "latestChild" "I") ∈ wk_tbl := List.mem_append_left _ (List.mem_of_getElem? (i := 403) (by rfl))
set_option maxRecDepth 20000 in
theorem lk_404 : (Jvm.Cond.code ({ cls := "DraftTree", name := "redo", desc := "()I" } : Jvm.MethodName) prog_1_method_12_code (2 : Nat) (Option.some Jvm.ClassFile.FieldType.int)) ∈ wk_tbl := List.mem_append_left _ (List.mem_of_getElem? (i := 404) (by rfl))
set_option maxRecDepth 20000 in
theorem lk_405 : (Jvm.Cond.methodLink "DraftTreeLaw" (41 : Nat) ({ cls := "DraftTree", name := "redo", desc := "()I" } : Jvm.MethodName)) ∈ wk_tbl := List.mem_append_left _ (List.mem_of_getElem? (i := 405) (by rfl))
set_option maxRecDepth 20000 in
theorem lk_406 : (Jvm.Cond.instanceMethod ({ cls := "DraftTree", name := "redo", desc := "()I" } : Jvm.MethodName)) ∈ wk_tbl := List.mem_append_left _ (List.mem_of_getElem? (i := 406) (by rfl))
set_option maxRecDepth 20000 in
theorem lk_407 : (Jvm.Cond.selects "DraftTree" ({ cls := "DraftTree", name := "redo", desc := "()I" } : Jvm.MethodName) ({ cls := "DraftTree", name := "redo", desc := "()I" } : Jvm.MethodName)) ∈ wk_tbl := List.mem_append_left _ (List.mem_of_getElem? (i := 407) (by rfl))
set_option maxRecDepth 20000 in
theorem lk_408 : (Jvm.Cond.codeWith ({ cls := "DraftTreeLaw", name := "redo", desc := "(LDraftTree;[J)I" } : Jvm.MethodName) method_10_code (3 : Nat) (Option.some Jvm.ClassFile.FieldType.int) [((0 : Nat), (8 : Nat), (11 : Nat), (33 : Nat))]) ∈ wk_tbl := List.mem_append_left _ (List.mem_of_getElem? (i := 408) (by rfl))
set_option maxRecDepth 20000 in
theorem lk_409 : (Jvm.Cond.methodLink "DraftTreeLaw" (109 : Nat) ({ cls := "DraftTreeLaw", name := "redo", desc := "(LDraftTree;[J)I" } : Jvm.MethodName)) ∈ wk_tbl := List.mem_append_left _ (List.mem_of_getElem? (i := 409) (by rfl))
set_option maxRecDepth 20000 in
theorem lk_410 : (Jvm.Cond.static ({ cls := "DraftTreeLaw", name := "redo", desc := "(LDraftTree;[J)I" } : Jvm.MethodName)) ∈ wk_tbl := List.mem_append_left _ (List.mem_of_getElem? (i := 410) (by rfl))
set_option maxRecDepth 20000 in
theorem lk_411 : (Jvm.Cond.code ({ cls := "DraftTreeModel", name := "redo", desc := "()I" } : Jvm.MethodName) prog_6_method_19_code (3 : Nat) (Option.some Jvm.ClassFile.FieldType.int)) ∈ wk_tbl := List.mem_append_left _ (List.mem_of_getElem? (i := 411) (by rfl))
set_option maxRecDepth 20000 in
theorem lk_412 : (Jvm.Cond.methodLink "DraftTreeLaw" (111 : Nat) ({ cls := "DraftTreeModel", name := "redo", desc := "()I" } : Jvm.MethodName)) ∈ wk_tbl := List.mem_append_left _ (List.mem_of_getElem? (i := 412) (by rfl))
set_option maxRecDepth 20000 in
theorem lk_413 : (Jvm.Cond.instanceMethod ({ cls := "DraftTreeModel", name := "redo", desc := "()I" } : Jvm.MethodName)) ∈ wk_tbl := List.mem_append_left _ (List.mem_of_getElem? (i := 413) (by rfl))
set_option maxRecDepth 20000 in
theorem lk_414 : (Jvm.Cond.selects "DraftTreeModel" ({ cls := "DraftTreeModel", name := "redo", desc := "()I" } : Jvm.MethodName) ({ cls := "DraftTreeModel", name := "redo", desc := "()I" } : Jvm.MethodName)) ∈ wk_tbl := List.mem_append_left _ (List.mem_of_getElem? (i := 414) (by rfl))
set_option maxRecDepth 20000 in
theorem lk_415 : (Jvm.Cond.code ({ cls := "DraftTree", name := "requireState", desc := "(I)V" } : Jvm.MethodName) prog_1_method_20_code (2 : Nat) (Option.none : Option Jvm.ClassFile.FieldType)) ∈ wk_tbl := List.mem_append_left _ (List.mem_of_getElem? (i := 415) (by rfl))
set_option maxRecDepth 20000 in
theorem lk_416 : (Jvm.Cond.methodLink "DraftTree" (140 : Nat) ({ cls := "DraftTree", name := "requireState", desc := "(I)V" } : Jvm.MethodName)) ∈ wk_tbl := List.mem_append_left _ (List.mem_of_getElem? (i := 416) (by rfl))
set_option maxRecDepth 20000 in
theorem lk_417 : (Jvm.Cond.instanceMethod ({ cls := "DraftTree", name := "requireState", desc := "(I)V" } : Jvm.MethodName)) ∈ wk_tbl := List.mem_append_left _ (List.mem_of_getElem? (i := 417) (by rfl))
set_option maxRecDepth 20000 in
theorem lk_418 : (Jvm.Cond.selects "DraftTree" ({ cls := "DraftTree", name := "requireState", desc := "(I)V" } : Jvm.MethodName) ({ cls := "DraftTree", name := "requireState", desc := "(I)V" } : Jvm.MethodName)) ∈ wk_tbl := List.mem_append_left _ (List.mem_of_getElem? (i := 418) (by rfl))
set_option maxRecDepth 20000 in
theorem lk_419 : (Jvm.Cond.fieldLink "DraftTree" (155 : Nat) "DraftTree$State" "place" "I") ∈ wk_tbl := List.mem_append_left _ (List.mem_of_getElem? (i := 419) (by rfl))
set_option maxRecDepth 20000 in
theorem lk_420 : (Jvm.Cond.fieldLink "DraftTree" (158 : Nat) "DraftTree$State" "text" "[C") ∈ wk_tbl := List.mem_append_left _ (List.mem_of_getElem? (i := 420) (by rfl))
set_option maxRecDepth 20000 in
theorem lk_421 : (Jvm.Cond.code ({ cls := "DraftTree", name := "moveTo", desc := "(I)V" } : Jvm.MethodName) prog_1_method_23_code (3 : Nat) (Option.none : Option Jvm.ClassFile.FieldType)) ∈ wk_tbl := List.mem_append_left _ (List.mem_of_getElem? (i := 421) (by rfl))
set_option maxRecDepth 20000 in
theorem lk_422 : (Jvm.Cond.methodLink "DraftTree" (134 : Nat) ({ cls := "DraftTree", name := "moveTo", desc := "(I)V" } : Jvm.MethodName)) ∈ wk_tbl := List.mem_append_left _ (List.mem_of_getElem? (i := 422) (by rfl))
set_option maxRecDepth 20000 in
theorem lk_423 : (Jvm.Cond.instanceMethod ({ cls := "DraftTree", name := "moveTo", desc := "(I)V" } : Jvm.MethodName)) ∈ wk_tbl := List.mem_append_left _ (List.mem_of_getElem? (i := 423) (by rfl))
set_option maxRecDepth 20000 in
theorem lk_424 : (Jvm.Cond.selects "DraftTree" ({ cls := "DraftTree", name := "moveTo", desc := "(I)V" } : Jvm.MethodName) ({ cls := "DraftTree", name := "moveTo", desc := "(I)V" } : Jvm.MethodName)) ∈ wk_tbl := List.mem_append_left _ (List.mem_of_getElem? (i := 424) (by rfl))
set_option maxRecDepth 20000 in
theorem lk_425 : (Jvm.Cond.code ({ cls := "DraftTree", name := "jump", desc := "(I)V" } : Jvm.MethodName) prog_1_method_13_code (2 : Nat) (Option.none : Option Jvm.ClassFile.FieldType)) ∈ wk_tbl := List.mem_append_left _ (List.mem_of_getElem? (i := 425) (by rfl))
set_option maxRecDepth 20000 in
theorem lk_426 : (Jvm.Cond.methodLink "DraftTreeLaw" (44 : Nat) ({ cls := "DraftTree", name := "jump", desc := "(I)V" } : Jvm.MethodName)) ∈ wk_tbl := List.mem_append_left _ (List.mem_of_getElem? (i := 426) (by rfl))
set_option maxRecDepth 20000 in
theorem lk_427 : (Jvm.Cond.instanceMethod ({ cls := "DraftTree", name := "jump", desc := "(I)V" } : Jvm.MethodName)) ∈ wk_tbl := List.mem_append_left _ (List.mem_of_getElem? (i := 427) (by rfl))
set_option maxRecDepth 20000 in
theorem lk_428 : (Jvm.Cond.selects "DraftTree" ({ cls := "DraftTree", name := "jump", desc := "(I)V" } : Jvm.MethodName) ({ cls := "DraftTree", name := "jump", desc := "(I)V" } : Jvm.MethodName)) ∈ wk_tbl := List.mem_append_left _ (List.mem_of_getElem? (i := 428) (by rfl))
set_option maxRecDepth 20000 in
theorem lk_429 : (Jvm.Cond.codeWith ({ cls := "DraftTreeLaw", name := "jump", desc := "(LDraftTree;I)I" } : Jvm.MethodName) method_11_code (3 : Nat) (Option.some Jvm.ClassFile.FieldType.int) [((0 : Nat), (5 : Nat), (8 : Nat), (28 : Nat))]) ∈ wk_tbl := List.mem_append_left _ (List.mem_of_getElem? (i := 429) (by rfl))
set_option maxRecDepth 20000 in
theorem lk_430 : (Jvm.Cond.methodLink "DraftTreeLaw" (112 : Nat) ({ cls := "DraftTreeLaw", name := "jump", desc := "(LDraftTree;I)I" } : Jvm.MethodName)) ∈ wk_tbl := List.mem_append_left _ (List.mem_of_getElem? (i := 430) (by rfl))
set_option maxRecDepth 20000 in
theorem lk_431 : (Jvm.Cond.static ({ cls := "DraftTreeLaw", name := "jump", desc := "(LDraftTree;I)I" } : Jvm.MethodName)) ∈ wk_tbl := List.mem_append_left _ (List.mem_of_getElem? (i := 431) (by rfl))
set_option maxRecDepth 20000 in
theorem lk_432 : (Jvm.Cond.fieldLink "DraftTreeModel" (98 : Nat) "DraftTreeModel" "clock" "I") ∈ wk_tbl := List.mem_append_left _ (List.mem_of_getElem? (i := 432) (by rfl))
set_option maxRecDepth 20000 in
theorem lk_433 : (Jvm.Cond.code ({ cls := "DraftTreeModel", name := "come", desc := "(I)V" } : Jvm.MethodName) prog_6_method_8_code (2 : Nat) (Option.none : Option Jvm.ClassFile.FieldType)) ∈ wk_tbl := List.mem_append_left _ (List.mem_of_getElem? (i := 433) (by rfl))
set_option maxRecDepth 20000 in
theorem lk_434 : (Jvm.Cond.methodLink "DraftTreeModel" (112 : Nat) ({ cls := "DraftTreeModel", name := "come", desc := "(I)V" } : Jvm.MethodName)) ∈ wk_tbl := List.mem_append_left _ (List.mem_of_getElem? (i := 434) (by rfl))
set_option maxRecDepth 20000 in
theorem lk_435 : (Jvm.Cond.instanceMethod ({ cls := "DraftTreeModel", name := "come", desc := "(I)V" } : Jvm.MethodName)) ∈ wk_tbl := List.mem_append_left _ (List.mem_of_getElem? (i := 435) (by rfl))
set_option maxRecDepth 20000 in
theorem lk_436 : (Jvm.Cond.selects "DraftTreeModel" ({ cls := "DraftTreeModel", name := "come", desc := "(I)V" } : Jvm.MethodName) ({ cls := "DraftTreeModel", name := "come", desc := "(I)V" } : Jvm.MethodName)) ∈ wk_tbl := List.mem_append_left _ (List.mem_of_getElem? (i := 436) (by rfl))
set_option maxRecDepth 20000 in
theorem lk_437 : (Jvm.Cond.code ({ cls := "DraftTreeModel", name := "jump", desc := "(I)V" } : Jvm.MethodName) prog_6_method_20_code (2 : Nat) (Option.none : Option Jvm.ClassFile.FieldType)) ∈ wk_tbl := List.mem_append_left _ (List.mem_of_getElem? (i := 437) (by rfl))
set_option maxRecDepth 20000 in
theorem lk_438 : (Jvm.Cond.methodLink "DraftTreeLaw" (115 : Nat) ({ cls := "DraftTreeModel", name := "jump", desc := "(I)V" } : Jvm.MethodName)) ∈ wk_tbl := List.mem_append_left _ (List.mem_of_getElem? (i := 438) (by rfl))
set_option maxRecDepth 20000 in
theorem lk_439 : (Jvm.Cond.instanceMethod ({ cls := "DraftTreeModel", name := "jump", desc := "(I)V" } : Jvm.MethodName)) ∈ wk_tbl := List.mem_append_left _ (List.mem_of_getElem? (i := 439) (by rfl))
set_option maxRecDepth 20000 in
theorem lk_440 : (Jvm.Cond.selects "DraftTreeModel" ({ cls := "DraftTreeModel", name := "jump", desc := "(I)V" } : Jvm.MethodName) ({ cls := "DraftTreeModel", name := "jump", desc := "(I)V" } : Jvm.MethodName)) ∈ wk_tbl := List.mem_append_left _ (List.mem_of_getElem? (i := 440) (by rfl))
set_option maxRecDepth 20000 in
theorem lk_441 : (Jvm.Cond.classLink "DraftTree" (96 : Nat) "java/lang/IllegalArgumentException") ∈ wk_tbl := List.mem_append_left _ (List.mem_of_getElem? (i := 441) (by rfl))
set_option maxRecDepth 20000 in
theorem lk_442 : (Jvm.Cond.initialized "java/lang/IllegalArgumentException") ∈ wk_tbl := List.mem_append_left _ (List.mem_of_getElem? (i := 442) (by rfl))
set_option maxRecDepth 20000 in
theorem lk_443 : (Jvm.Cond.classLink "DraftTreeLaw" (28 : Nat) "java/lang/IllegalArgumentException") ∈ wk_tbl := List.mem_append_left _ (List.mem_of_getElem? (i := 443) (by rfl))
set_option maxRecDepth 20000 in
theorem lk_444 : (Jvm.Cond.code ({ cls := "DraftTree", name := "length", desc := "()I" } : Jvm.MethodName) prog_1_method_14_code (1 : Nat) (Option.some Jvm.ClassFile.FieldType.int)) ∈ wk_tbl := List.mem_append_left _ (List.mem_of_getElem? (i := 444) (by rfl))
set_option maxRecDepth 20000 in
theorem lk_445 : (Jvm.Cond.methodLink "DraftTreeLaw" (116 : Nat) ({ cls := "DraftTree", name := "length", desc := "()I" } : Jvm.MethodName)) ∈ wk_tbl := List.mem_append_left _ (List.mem_of_getElem? (i := 445) (by rfl))
set_option maxRecDepth 20000 in
theorem lk_446 : (Jvm.Cond.instanceMethod ({ cls := "DraftTree", name := "length", desc := "()I" } : Jvm.MethodName)) ∈ wk_tbl := List.mem_append_left _ (List.mem_of_getElem? (i := 446) (by rfl))
set_option maxRecDepth 20000 in
theorem lk_447 : (Jvm.Cond.selects "DraftTree" ({ cls := "DraftTree", name := "length", desc := "()I" } : Jvm.MethodName) ({ cls := "DraftTree", name := "length", desc := "()I" } : Jvm.MethodName)) ∈ wk_tbl := List.mem_append_left _ (List.mem_of_getElem? (i := 447) (by rfl))
set_option maxRecDepth 20000 in
theorem lk_448 : (Jvm.Cond.code ({ cls := "DraftTreeModel", name := "length", desc := "()I" } : Jvm.MethodName) prog_6_method_47_code (1 : Nat) (Option.some Jvm.ClassFile.FieldType.int)) ∈ wk_tbl := List.mem_append_left _ (List.mem_of_getElem? (i := 448) (by rfl))
set_option maxRecDepth 20000 in
theorem lk_449 : (Jvm.Cond.methodLink "DraftTreeLaw" (119 : Nat) ({ cls := "DraftTreeModel", name := "length", desc := "()I" } : Jvm.MethodName)) ∈ wk_tbl := List.mem_append_left _ (List.mem_of_getElem? (i := 449) (by rfl))
set_option maxRecDepth 20000 in
theorem lk_450 : (Jvm.Cond.instanceMethod ({ cls := "DraftTreeModel", name := "length", desc := "()I" } : Jvm.MethodName)) ∈ wk_tbl := List.mem_append_left _ (List.mem_of_getElem? (i := 450) (by rfl))
set_option maxRecDepth 20000 in
theorem lk_451 : (Jvm.Cond.selects "DraftTreeModel" ({ cls := "DraftTreeModel", name := "length", desc := "()I" } : Jvm.MethodName) ({ cls := "DraftTreeModel", name := "length", desc := "()I" } : Jvm.MethodName)) ∈ wk_tbl := List.mem_append_left _ (List.mem_of_getElem? (i := 451) (by rfl))
set_option maxRecDepth 20000 in
theorem lk_452 : (Jvm.Cond.code ({ cls := "DraftTree", name := "at", desc := "(I)C" } : Jvm.MethodName) prog_1_method_15_code (2 : Nat) (Option.some Jvm.ClassFile.FieldType.char)) ∈ wk_tbl := List.mem_append_left _ (List.mem_of_getElem? (i := 452) (by rfl))
set_option maxRecDepth 20000 in
theorem lk_453 : (Jvm.Cond.methodLink "DraftTreeLaw" (48 : Nat) ({ cls := "DraftTree", name := "at", desc := "(I)C" } : Jvm.MethodName)) ∈ wk_tbl := List.mem_append_left _ (List.mem_of_getElem? (i := 453) (by rfl))
set_option maxRecDepth 20000 in
theorem lk_454 : (Jvm.Cond.instanceMethod ({ cls := "DraftTree", name := "at", desc := "(I)C" } : Jvm.MethodName)) ∈ wk_tbl := List.mem_append_left _ (List.mem_of_getElem? (i := 454) (by rfl))
set_option maxRecDepth 20000 in
theorem lk_455 : (Jvm.Cond.selects "DraftTree" ({ cls := "DraftTree", name := "at", desc := "(I)C" } : Jvm.MethodName) ({ cls := "DraftTree", name := "at", desc := "(I)C" } : Jvm.MethodName)) ∈ wk_tbl := List.mem_append_left _ (List.mem_of_getElem? (i := 455) (by rfl))
set_option maxRecDepth 20000 in
theorem lk_456 : (Jvm.Cond.codeWith ({ cls := "DraftTreeLaw", name := "at", desc := "(LDraftTree;I[J)I" } : Jvm.MethodName) method_12_code (4 : Nat) (Option.some Jvm.ClassFile.FieldType.int) [((0 : Nat), (9 : Nat), (12 : Nat), (23 : Nat))]) ∈ wk_tbl := List.mem_append_left _ (List.mem_of_getElem? (i := 456) (by rfl))
set_option maxRecDepth 20000 in
theorem lk_457 : (Jvm.Cond.methodLink "DraftTreeLaw" (120 : Nat) ({ cls := "DraftTreeLaw", name := "at", desc := "(LDraftTree;I[J)I" } : Jvm.MethodName)) ∈ wk_tbl := List.mem_append_left _ (List.mem_of_getElem? (i := 457) (by rfl))
set_option maxRecDepth 20000 in
theorem lk_458 : (Jvm.Cond.static ({ cls := "DraftTreeLaw", name := "at", desc := "(LDraftTree;I[J)I" } : Jvm.MethodName)) ∈ wk_tbl := List.mem_append_left _ (List.mem_of_getElem? (i := 458) (by rfl))
set_option maxRecDepth 20000 in
theorem lk_459 : (Jvm.Cond.code ({ cls := "DraftTreeModel", name := "at", desc := "(I)C" } : Jvm.MethodName) prog_6_method_48_code (2 : Nat) (Option.some Jvm.ClassFile.FieldType.char)) ∈ wk_tbl := List.mem_append_left _ (List.mem_of_getElem? (i := 459) (by rfl))
set_option maxRecDepth 20000 in
theorem lk_460 : (Jvm.Cond.methodLink "DraftTreeLaw" (122 : Nat) ({ cls := "DraftTreeModel", name := "at", desc := "(I)C" } : Jvm.MethodName)) ∈ wk_tbl := List.mem_append_left _ (List.mem_of_getElem? (i := 460) (by rfl))
set_option maxRecDepth 20000 in
theorem lk_461 : (Jvm.Cond.instanceMethod ({ cls := "DraftTreeModel", name := "at", desc := "(I)C" } : Jvm.MethodName)) ∈ wk_tbl := List.mem_append_left _ (List.mem_of_getElem? (i := 461) (by rfl))
set_option maxRecDepth 20000 in
theorem lk_462 : (Jvm.Cond.selects "DraftTreeModel" ({ cls := "DraftTreeModel", name := "at", desc := "(I)C" } : Jvm.MethodName) ({ cls := "DraftTreeModel", name := "at", desc := "(I)C" } : Jvm.MethodName)) ∈ wk_tbl := List.mem_append_left _ (List.mem_of_getElem? (i := 462) (by rfl))
set_option maxRecDepth 20000 in
theorem lk_463 : (Jvm.Cond.code ({ cls := "DraftTree", name := "breaksBefore", desc := "(I)I" } : Jvm.MethodName) prog_1_method_29_code (4 : Nat) (Option.some Jvm.ClassFile.FieldType.int)) ∈ wk_tbl := List.mem_append_left _ (List.mem_of_getElem? (i := 463) (by rfl))
set_option maxRecDepth 20000 in
theorem lk_464 : (Jvm.Cond.methodLink "DraftTree" (146 : Nat) ({ cls := "DraftTree", name := "breaksBefore", desc := "(I)I" } : Jvm.MethodName)) ∈ wk_tbl := List.mem_append_left _ (List.mem_of_getElem? (i := 464) (by rfl))
set_option maxRecDepth 20000 in
theorem lk_465 : (Jvm.Cond.instanceMethod ({ cls := "DraftTree", name := "breaksBefore", desc := "(I)I" } : Jvm.MethodName)) ∈ wk_tbl := List.mem_append_left _ (List.mem_of_getElem? (i := 465) (by rfl))
set_option maxRecDepth 20000 in
theorem lk_466 : (Jvm.Cond.selects "DraftTree" ({ cls := "DraftTree", name := "breaksBefore", desc := "(I)I" } : Jvm.MethodName) ({ cls := "DraftTree", name := "breaksBefore", desc := "(I)I" } : Jvm.MethodName)) ∈ wk_tbl := List.mem_append_left _ (List.mem_of_getElem? (i := 466) (by rfl))
set_option maxRecDepth 20000 in
theorem lk_467 : (Jvm.Cond.code ({ cls := "DraftTree", name := "line", desc := "(II)I" } : Jvm.MethodName) prog_1_method_16_code (3 : Nat) (Option.some Jvm.ClassFile.FieldType.int)) ∈ wk_tbl := List.mem_append_left _ (List.mem_of_getElem? (i := 467) (by rfl))
set_option maxRecDepth 20000 in
theorem lk_468 : (Jvm.Cond.methodLink "DraftTreeLaw" (52 : Nat) ({ cls := "DraftTree", name := "line", desc := "(II)I" } : Jvm.MethodName)) ∈ wk_tbl := List.mem_append_left _ (List.mem_of_getElem? (i := 468) (by rfl))
set_option maxRecDepth 20000 in
theorem lk_469 : (Jvm.Cond.instanceMethod ({ cls := "DraftTree", name := "line", desc := "(II)I" } : Jvm.MethodName)) ∈ wk_tbl := List.mem_append_left _ (List.mem_of_getElem? (i := 469) (by rfl))
set_option maxRecDepth 20000 in
theorem lk_470 : (Jvm.Cond.selects "DraftTree" ({ cls := "DraftTree", name := "line", desc := "(II)I" } : Jvm.MethodName) ({ cls := "DraftTree", name := "line", desc := "(II)I" } : Jvm.MethodName)) ∈ wk_tbl := List.mem_append_left _ (List.mem_of_getElem? (i := 470) (by rfl))
set_option maxRecDepth 20000 in
theorem lk_471 : (Jvm.Cond.codeWith ({ cls := "DraftTreeLaw", name := "line", desc := "(LDraftTree;II[J)I" } : Jvm.MethodName) method_13_code (5 : Nat) (Option.some Jvm.ClassFile.FieldType.int) [((0 : Nat), (10 : Nat), (13 : Nat), (28 : Nat)), ((0 : Nat), (10 : Nat), (17 : Nat), (23 : Nat))]) ∈ wk_tbl := List.mem_append_left _ (List.mem_of_getElem? (i := 471) (by rfl))
set_option maxRecDepth 20000 in
theorem lk_472 : (Jvm.Cond.methodLink "DraftTreeLaw" (123 : Nat) ({ cls := "DraftTreeLaw", name := "line", desc := "(LDraftTree;II[J)I" } : Jvm.MethodName)) ∈ wk_tbl := List.mem_append_left _ (List.mem_of_getElem? (i := 472) (by rfl))
set_option maxRecDepth 20000 in
theorem lk_473 : (Jvm.Cond.static ({ cls := "DraftTreeLaw", name := "line", desc := "(LDraftTree;II[J)I" } : Jvm.MethodName)) ∈ wk_tbl := List.mem_append_left _ (List.mem_of_getElem? (i := 473) (by rfl))
set_option maxRecDepth 20000 in
theorem lk_474 : (Jvm.Cond.code ({ cls := "DraftTreeModel", name := "breaks", desc := "(I)I" } : Jvm.MethodName) prog_6_method_49_code (4 : Nat) (Option.some Jvm.ClassFile.FieldType.int)) ∈ wk_tbl := List.mem_append_left _ (List.mem_of_getElem? (i := 474) (by rfl))
set_option maxRecDepth 20000 in
theorem lk_475 : (Jvm.Cond.methodLink "DraftTreeModel" (238 : Nat) ({ cls := "DraftTreeModel", name := "breaks", desc := "(I)I" } : Jvm.MethodName)) ∈ wk_tbl := List.mem_append_left _ (List.mem_of_getElem? (i := 475) (by rfl))
set_option maxRecDepth 20000 in
theorem lk_476 : (Jvm.Cond.instanceMethod ({ cls := "DraftTreeModel", name := "breaks", desc := "(I)I" } : Jvm.MethodName)) ∈ wk_tbl := List.mem_append_left _ (List.mem_of_getElem? (i := 476) (by rfl))
set_option maxRecDepth 20000 in
theorem lk_477 : (Jvm.Cond.selects "DraftTreeModel" ({ cls := "DraftTreeModel", name := "breaks", desc := "(I)I" } : Jvm.MethodName) ({ cls := "DraftTreeModel", name := "breaks", desc := "(I)I" } : Jvm.MethodName)) ∈ wk_tbl := List.mem_append_left _ (List.mem_of_getElem? (i := 477) (by rfl))
set_option maxRecDepth 20000 in
theorem lk_478 : (Jvm.Cond.code ({ cls := "DraftTreeModel", name := "line", desc := "(II)I" } : Jvm.MethodName) prog_6_method_51_code (7 : Nat) (Option.some Jvm.ClassFile.FieldType.int)) ∈ wk_tbl := List.mem_append_left _ (List.mem_of_getElem? (i := 478) (by rfl))
set_option maxRecDepth 20000 in
theorem lk_479 : (Jvm.Cond.methodLink "DraftTreeLaw" (126 : Nat) ({ cls := "DraftTreeModel", name := "line", desc := "(II)I" } : Jvm.MethodName)) ∈ wk_tbl := List.mem_append_left _ (List.mem_of_getElem? (i := 479) (by rfl))
set_option maxRecDepth 20000 in
theorem lk_480 : (Jvm.Cond.instanceMethod ({ cls := "DraftTreeModel", name := "line", desc := "(II)I" } : Jvm.MethodName)) ∈ wk_tbl := List.mem_append_left _ (List.mem_of_getElem? (i := 480) (by rfl))
set_option maxRecDepth 20000 in
theorem lk_481 : (Jvm.Cond.selects "DraftTreeModel" ({ cls := "DraftTreeModel", name := "line", desc := "(II)I" } : Jvm.MethodName) ({ cls := "DraftTreeModel", name := "line", desc := "(II)I" } : Jvm.MethodName)) ∈ wk_tbl := List.mem_append_left _ (List.mem_of_getElem? (i := 481) (by rfl))
set_option maxRecDepth 20000 in
theorem lk_482 : (Jvm.Cond.code ({ cls := "DraftTree", name := "lineBegin", desc := "(I)I" } : Jvm.MethodName) prog_1_method_30_code (4 : Nat) (Option.some Jvm.ClassFile.FieldType.int)) ∈ wk_tbl := List.mem_append_left _ (List.mem_of_getElem? (i := 482) (by rfl))
set_option maxRecDepth 20000 in
theorem lk_483 : (Jvm.Cond.methodLink "DraftTree" (149 : Nat) ({ cls := "DraftTree", name := "lineBegin", desc := "(I)I" } : Jvm.MethodName)) ∈ wk_tbl := List.mem_append_left _ (List.mem_of_getElem? (i := 483) (by rfl))
set_option maxRecDepth 20000 in
theorem lk_484 : (Jvm.Cond.instanceMethod ({ cls := "DraftTree", name := "lineBegin", desc := "(I)I" } : Jvm.MethodName)) ∈ wk_tbl := List.mem_append_left _ (List.mem_of_getElem? (i := 484) (by rfl))
set_option maxRecDepth 20000 in
theorem lk_485 : (Jvm.Cond.selects "DraftTree" ({ cls := "DraftTree", name := "lineBegin", desc := "(I)I" } : Jvm.MethodName) ({ cls := "DraftTree", name := "lineBegin", desc := "(I)I" } : Jvm.MethodName)) ∈ wk_tbl := List.mem_append_left _ (List.mem_of_getElem? (i := 485) (by rfl))
set_option maxRecDepth 20000 in
theorem lk_486 : (Jvm.Cond.code ({ cls := "DraftTreeModel", name := "lineStart", desc := "(I)I" } : Jvm.MethodName) prog_6_method_50_code (3 : Nat) (Option.some Jvm.ClassFile.FieldType.int)) ∈ wk_tbl := List.mem_append_left _ (List.mem_of_getElem? (i := 486) (by rfl))
set_option maxRecDepth 20000 in
theorem lk_487 : (Jvm.Cond.methodLink "DraftTreeModel" (241 : Nat) ({ cls := "DraftTreeModel", name := "lineStart", desc := "(I)I" } : Jvm.MethodName)) ∈ wk_tbl := List.mem_append_left _ (List.mem_of_getElem? (i := 487) (by rfl))
set_option maxRecDepth 20000 in
theorem lk_488 : (Jvm.Cond.instanceMethod ({ cls := "DraftTreeModel", name := "lineStart", desc := "(I)I" } : Jvm.MethodName)) ∈ wk_tbl := List.mem_append_left _ (List.mem_of_getElem? (i := 488) (by rfl))
set_option maxRecDepth 20000 in
theorem lk_489 : (Jvm.Cond.selects "DraftTreeModel" ({ cls := "DraftTreeModel", name := "lineStart", desc := "(I)I" } : Jvm.MethodName) ({ cls := "DraftTreeModel", name := "lineStart", desc := "(I)I" } : Jvm.MethodName)) ∈ wk_tbl := List.mem_append_left _ (List.mem_of_getElem? (i := 489) (by rfl))
set_option maxRecDepth 20000 in
theorem lk_490 : (Jvm.Cond.code ({ cls := "DraftTree", name := "lineSize", desc := "(I)I" } : Jvm.MethodName) prog_1_method_31_code (4 : Nat) (Option.some Jvm.ClassFile.FieldType.int)) ∈ wk_tbl := List.mem_append_left _ (List.mem_of_getElem? (i := 490) (by rfl))
set_option maxRecDepth 20000 in
theorem lk_491 : (Jvm.Cond.methodLink "DraftTree" (152 : Nat) ({ cls := "DraftTree", name := "lineSize", desc := "(I)I" } : Jvm.MethodName)) ∈ wk_tbl := List.mem_append_left _ (List.mem_of_getElem? (i := 491) (by rfl))
set_option maxRecDepth 20000 in
theorem lk_492 : (Jvm.Cond.instanceMethod ({ cls := "DraftTree", name := "lineSize", desc := "(I)I" } : Jvm.MethodName)) ∈ wk_tbl := List.mem_append_left _ (List.mem_of_getElem? (i := 492) (by rfl))
set_option maxRecDepth 20000 in
theorem lk_493 : (Jvm.Cond.selects "DraftTree" ({ cls := "DraftTree", name := "lineSize", desc := "(I)I" } : Jvm.MethodName) ({ cls := "DraftTree", name := "lineSize", desc := "(I)I" } : Jvm.MethodName)) ∈ wk_tbl := List.mem_append_left _ (List.mem_of_getElem? (i := 493) (by rfl))
set_option maxRecDepth 20000 in
theorem lk_494 : (Jvm.Cond.code ({ cls := "DraftTree", name := "figure", desc := "(I)I" } : Jvm.MethodName) prog_1_method_17_code (2 : Nat) (Option.some Jvm.ClassFile.FieldType.int)) ∈ wk_tbl := List.mem_append_left _ (List.mem_of_getElem? (i := 494) (by rfl))
set_option maxRecDepth 20000 in
theorem lk_495 : (Jvm.Cond.methodLink "DraftTreeLaw" (56 : Nat) ({ cls := "DraftTree", name := "figure", desc := "(I)I" } : Jvm.MethodName)) ∈ wk_tbl := List.mem_append_left _ (List.mem_of_getElem? (i := 495) (by rfl))
set_option maxRecDepth 20000 in
theorem lk_496 : (Jvm.Cond.instanceMethod ({ cls := "DraftTree", name := "figure", desc := "(I)I" } : Jvm.MethodName)) ∈ wk_tbl := List.mem_append_left _ (List.mem_of_getElem? (i := 496) (by rfl))
set_option maxRecDepth 20000 in
theorem lk_497 : (Jvm.Cond.selects "DraftTree" ({ cls := "DraftTree", name := "figure", desc := "(I)I" } : Jvm.MethodName) ({ cls := "DraftTree", name := "figure", desc := "(I)I" } : Jvm.MethodName)) ∈ wk_tbl := List.mem_append_left _ (List.mem_of_getElem? (i := 497) (by rfl))
set_option maxRecDepth 20000 in
theorem lk_498 : (Jvm.Cond.codeWith ({ cls := "DraftTreeLaw", name := "figure", desc := "(LDraftTree;I[J)I" } : Jvm.MethodName) method_14_code (4 : Nat) (Option.some Jvm.ClassFile.FieldType.int) [((0 : Nat), (9 : Nat), (12 : Nat), (28 : Nat))]) ∈ wk_tbl := List.mem_append_left _ (List.mem_of_getElem? (i := 498) (by rfl))
set_option maxRecDepth 20000 in
theorem lk_499 : (Jvm.Cond.methodLink "DraftTreeLaw" (127 : Nat) ({ cls := "DraftTreeLaw", name := "figure", desc := "(LDraftTree;I[J)I" } : Jvm.MethodName)) ∈ wk_tbl := List.mem_append_left _ (List.mem_of_getElem? (i := 499) (by rfl))
set_option maxRecDepth 20000 in
theorem lk_500 : (Jvm.Cond.static ({ cls := "DraftTreeLaw", name := "figure", desc := "(LDraftTree;I[J)I" } : Jvm.MethodName)) ∈ wk_tbl := List.mem_append_left _ (List.mem_of_getElem? (i := 500) (by rfl))
set_option maxRecDepth 20000 in
theorem lk_501 : (Jvm.Cond.code ({ cls := "DraftTreeModel", name := "figure", desc := "(I)I" } : Jvm.MethodName) prog_6_method_52_code (2 : Nat) (Option.some Jvm.ClassFile.FieldType.int)) ∈ wk_tbl := List.mem_append_left _ (List.mem_of_getElem? (i := 501) (by rfl))
set_option maxRecDepth 20000 in
theorem lk_502 : (Jvm.Cond.methodLink "DraftTreeLaw" (129 : Nat) ({ cls := "DraftTreeModel", name := "figure", desc := "(I)I" } : Jvm.MethodName)) ∈ wk_tbl := List.mem_append_left _ (List.mem_of_getElem? (i := 502) (by rfl))
set_option maxRecDepth 20000 in
theorem lk_503 : (Jvm.Cond.instanceMethod ({ cls := "DraftTreeModel", name := "figure", desc := "(I)I" } : Jvm.MethodName)) ∈ wk_tbl := List.mem_append_left _ (List.mem_of_getElem? (i := 503) (by rfl))
set_option maxRecDepth 20000 in
theorem lk_504 : (Jvm.Cond.selects "DraftTreeModel" ({ cls := "DraftTreeModel", name := "figure", desc := "(I)I" } : Jvm.MethodName) ({ cls := "DraftTreeModel", name := "figure", desc := "(I)I" } : Jvm.MethodName)) ∈ wk_tbl := List.mem_append_left _ (List.mem_of_getElem? (i := 504) (by rfl))
set_option maxRecDepth 20000 in
theorem lk_505 : (Jvm.Cond.code ({ cls := "DraftTree", name := "parent", desc := "(I)I" } : Jvm.MethodName) prog_1_method_18_code (2 : Nat) (Option.some Jvm.ClassFile.FieldType.int)) ∈ wk_tbl := List.mem_append_left _ (List.mem_of_getElem? (i := 505) (by rfl))
set_option maxRecDepth 20000 in
theorem lk_506 : (Jvm.Cond.methodLink "DraftTreeLaw" (59 : Nat) ({ cls := "DraftTree", name := "parent", desc := "(I)I" } : Jvm.MethodName)) ∈ wk_tbl := List.mem_append_left _ (List.mem_of_getElem? (i := 506) (by rfl))
set_option maxRecDepth 20000 in
theorem lk_507 : (Jvm.Cond.instanceMethod ({ cls := "DraftTree", name := "parent", desc := "(I)I" } : Jvm.MethodName)) ∈ wk_tbl := List.mem_append_left _ (List.mem_of_getElem? (i := 507) (by rfl))
set_option maxRecDepth 20000 in
theorem lk_508 : (Jvm.Cond.selects "DraftTree" ({ cls := "DraftTree", name := "parent", desc := "(I)I" } : Jvm.MethodName) ({ cls := "DraftTree", name := "parent", desc := "(I)I" } : Jvm.MethodName)) ∈ wk_tbl := List.mem_append_left _ (List.mem_of_getElem? (i := 508) (by rfl))
set_option maxRecDepth 20000 in
theorem lk_509 : (Jvm.Cond.codeWith ({ cls := "DraftTreeLaw", name := "parent", desc := "(LDraftTree;I[J)I" } : Jvm.MethodName) method_15_code (4 : Nat) (Option.some Jvm.ClassFile.FieldType.int) [((0 : Nat), (9 : Nat), (12 : Nat), (28 : Nat))]) ∈ wk_tbl := List.mem_append_left _ (List.mem_of_getElem? (i := 509) (by rfl))
set_option maxRecDepth 20000 in
theorem lk_510 : (Jvm.Cond.methodLink "DraftTreeLaw" (130 : Nat) ({ cls := "DraftTreeLaw", name := "parent", desc := "(LDraftTree;I[J)I" } : Jvm.MethodName)) ∈ wk_tbl := List.mem_append_left _ (List.mem_of_getElem? (i := 510) (by rfl))
set_option maxRecDepth 20000 in
theorem lk_511 : (Jvm.Cond.static ({ cls := "DraftTreeLaw", name := "parent", desc := "(LDraftTree;I[J)I" } : Jvm.MethodName)) ∈ wk_tbl := List.mem_append_left _ (List.mem_of_getElem? (i := 511) (by rfl))
set_option maxRecDepth 20000 in
theorem lk_512 : (Jvm.Cond.code ({ cls := "DraftTreeModel", name := "parent", desc := "(I)I" } : Jvm.MethodName) prog_6_method_53_code (2 : Nat) (Option.some Jvm.ClassFile.FieldType.int)) ∈ wk_tbl := List.mem_append_left _ (List.mem_of_getElem? (i := 512) (by rfl))
set_option maxRecDepth 20000 in
theorem lk_513 : (Jvm.Cond.methodLink "DraftTreeLaw" (132 : Nat) ({ cls := "DraftTreeModel", name := "parent", desc := "(I)I" } : Jvm.MethodName)) ∈ wk_tbl := List.mem_append_left _ (List.mem_of_getElem? (i := 513) (by rfl))
set_option maxRecDepth 20000 in
theorem lk_514 : (Jvm.Cond.instanceMethod ({ cls := "DraftTreeModel", name := "parent", desc := "(I)I" } : Jvm.MethodName)) ∈ wk_tbl := List.mem_append_left _ (List.mem_of_getElem? (i := 514) (by rfl))
set_option maxRecDepth 20000 in
theorem lk_515 : (Jvm.Cond.selects "DraftTreeModel" ({ cls := "DraftTreeModel", name := "parent", desc := "(I)I" } : Jvm.MethodName) ({ cls := "DraftTreeModel", name := "parent", desc := "(I)I" } : Jvm.MethodName)) ∈ wk_tbl := List.mem_append_left _ (List.mem_of_getElem? (i := 515) (by rfl))
theorem wk_good_l : wk_l.all goodWord = true := by decide +kernel
theorem wk_good : ∀ w ∈ wk_tbl, goodWord w = true := fun w h => (List.mem_append.mp h).elim (fun h => List.all_eq_true.mp wk_good_l w h) (fun h => (List.mem_append.mp h).elim (fun h => (List.mem_filter.mp h).2) (fun h => (List.mem_append.mp h).elim (fun h => (List.mem_filter.mp h).2) (fun h => (List.mem_append.mp h).elim (fun h => (List.mem_filter.mp h).2) (fun h => (List.mem_filter.mp h).2))))
theorem gd_c {c0 c1 : Cond} (h : c1 ∈ wk_tbl) : GoodIn (c0 :: wk_tbl) (c1 :: wk_tbl) := fun w hw => by
  have h1 : w ∈ wk_tbl := (List.mem_cons.mp hw).elim (fun e => by rw [e]; exact h) (fun z => z)
  exact ⟨List.mem_cons_of_mem _ h1, good_of_word (wk_good w h1)⟩
theorem gd_l {c0 : Cond} {ws : List Cond} (h : ∀ w ∈ ws, w ∈ wk_tbl) : GoodIn (c0 :: wk_tbl) ws := fun w hw => ⟨List.mem_cons_of_mem _ (h w hw), good_of_word (wk_good w (h w hw))⟩
theorem gd_v {c0 : Cond} {own C : String} {idx : Nat} {y : MethodName} {cw : Cond} (h1 : Cond.methodLink own idx y ∈ wk_tbl) (h2 : Cond.instanceMethod y ∈ wk_tbl) (h3 : Cond.selects C y y ∈ wk_tbl) (h4 : Cond.initialized C ∈ wk_tbl) (h5 : cw ∈ wk_tbl) : GoodIn (c0 :: wk_tbl) (wsV own idx C y (cw :: wk_tbl)) := gd_l (fun w hw => by
  rcases List.mem_append.mp hw with h | h
  · simp only [List.mem_cons, List.not_mem_nil, or_false] at h
    rcases h with rfl | rfl | rfl | rfl
    · exact h1
    · exact h2
    · exact h3
    · exact h4
  · exact (List.mem_cons.mp h).elim (fun e => by rw [e]; exact h5) (fun z => z))
theorem gd_s {c0 : Cond} {own : String} {idx : Nat} {y : MethodName} {cw : Cond} (h1 : Cond.methodLink own idx y ∈ wk_tbl) (h2 : Cond.static y ∈ wk_tbl) (h4 : Cond.initialized own ∈ wk_tbl) (h5 : cw ∈ wk_tbl) : GoodIn (c0 :: wk_tbl) (wsS own idx y (cw :: wk_tbl)) := gd_l (fun w hw => by
  rcases List.mem_append.mp hw with h | h
  · simp only [List.mem_cons, List.not_mem_nil, or_false] at h
    rcases h with rfl | rfl | rfl
    · exact h1
    · exact h2
    · exact h4
  · exact (List.mem_cons.mp h).elim (fun e => by rw [e]; exact h5) (fun z => z))
theorem in_D : ∀ w ∈ u_ws R_D F_D 14, w ∈ wk_tbl := by
  show ∀ w ∈ [(Jvm.Cond.laysFinal "DraftTree" "DraftTree" "slip" "[C"), (Jvm.Cond.lays "DraftTree" "DraftTree" "slipSize" "I"), (Jvm.Cond.laysFinal "DraftTree" "DraftTree" "states" "[LDraftTree$State;"), (Jvm.Cond.lays "DraftTree" "DraftTree" "stateCount" "I"), (Jvm.Cond.lays "DraftTree" "DraftTree" "present" "I"), (Jvm.Cond.lays "DraftTree" "DraftTree" "text" "[C"), (Jvm.Cond.lays "DraftTree" "DraftTree" "cursor" "I"), (Jvm.Cond.lays "DraftTree" "DraftTree" "mark" "I"), (Jvm.Cond.laysFinal "DraftTree" "DraftTree" "reader" "LDraftTree$PatternReader;"), (Jvm.Cond.lays "DraftTree" "DraftTree" "pattern" "LDraftTree$Automaton;"), (Jvm.Cond.lays "DraftTree" "DraftTree" "hasPattern" "Z"), (Jvm.Cond.lays "DraftTree" "DraftTree" "latestFault" "I"), (Jvm.Cond.laysFinal "DraftTree" "DraftTree" "matchStarts" "[I"), (Jvm.Cond.laysFinal "DraftTree" "DraftTree" "matchEnds" "[I")], w ∈ wk_tbl
  exact List.forall_mem_cons.mpr ⟨lk_0, List.forall_mem_cons.mpr ⟨lk_1, List.forall_mem_cons.mpr ⟨lk_2, List.forall_mem_cons.mpr ⟨lk_3, List.forall_mem_cons.mpr ⟨lk_4, List.forall_mem_cons.mpr ⟨lk_5, List.forall_mem_cons.mpr ⟨lk_6, List.forall_mem_cons.mpr ⟨lk_7, List.forall_mem_cons.mpr ⟨lk_8, List.forall_mem_cons.mpr ⟨lk_9, List.forall_mem_cons.mpr ⟨lk_10, List.forall_mem_cons.mpr ⟨lk_11, List.forall_mem_cons.mpr ⟨lk_12, List.forall_mem_cons.mpr ⟨lk_13, (fun _ h => absurd h List.not_mem_nil)⟩⟩⟩⟩⟩⟩⟩⟩⟩⟩⟩⟩⟩⟩
theorem in_S : ∀ w ∈ u_ws R_S F_S 4, w ∈ wk_tbl := by
  show ∀ w ∈ [(Jvm.Cond.laysFinal "DraftTree$State" "DraftTree$State" "text" "[C"), (Jvm.Cond.laysFinal "DraftTree$State" "DraftTree$State" "origin" "I"), (Jvm.Cond.lays "DraftTree$State" "DraftTree$State" "place" "I"), (Jvm.Cond.lays "DraftTree$State" "DraftTree$State" "latestChild" "I")], w ∈ wk_tbl
  exact List.forall_mem_cons.mpr ⟨lk_25, List.forall_mem_cons.mpr ⟨lk_26, List.forall_mem_cons.mpr ⟨lk_27, List.forall_mem_cons.mpr ⟨lk_28, (fun _ h => absurd h List.not_mem_nil)⟩⟩⟩⟩
theorem in_P : ∀ w ∈ u_ws R_P F_P 13, w ∈ wk_tbl := by
  show ∀ w ∈ [(Jvm.Cond.laysFinal "DraftTree$PatternReader" "DraftTree$PatternReader" "choiceStarts" "[I"), (Jvm.Cond.laysFinal "DraftTree$PatternReader" "DraftTree$PatternReader" "choiceEnds" "[I"), (Jvm.Cond.laysFinal "DraftTree$PatternReader" "DraftTree$PatternReader" "rowHeads" "[I"), (Jvm.Cond.laysFinal "DraftTree$PatternReader" "DraftTree$PatternReader" "outerTails" "[I"), (Jvm.Cond.lays "DraftTree$PatternReader" "DraftTree$PatternReader" "made" "LDraftTree$Automaton;"), (Jvm.Cond.lays "DraftTree$PatternReader" "DraftTree$PatternReader" "source" "[C"), (Jvm.Cond.lays "DraftTree$PatternReader" "DraftTree$PatternReader" "size" "I"), (Jvm.Cond.lays "DraftTree$PatternReader" "DraftTree$PatternReader" "position" "I"), (Jvm.Cond.lays "DraftTree$PatternReader" "DraftTree$PatternReader" "depth" "I"), (Jvm.Cond.lays "DraftTree$PatternReader" "DraftTree$PatternReader" "fault" "I"), (Jvm.Cond.lays "DraftTree$PatternReader" "DraftTree$PatternReader" "lead" "I"), (Jvm.Cond.lays "DraftTree$PatternReader" "DraftTree$PatternReader" "first" "I"), (Jvm.Cond.lays "DraftTree$PatternReader" "DraftTree$PatternReader" "tail" "I")], w ∈ wk_tbl
  exact List.forall_mem_cons.mpr ⟨lk_41, List.forall_mem_cons.mpr ⟨lk_42, List.forall_mem_cons.mpr ⟨lk_43, List.forall_mem_cons.mpr ⟨lk_44, List.forall_mem_cons.mpr ⟨lk_45, List.forall_mem_cons.mpr ⟨lk_46, List.forall_mem_cons.mpr ⟨lk_47, List.forall_mem_cons.mpr ⟨lk_48, List.forall_mem_cons.mpr ⟨lk_49, List.forall_mem_cons.mpr ⟨lk_50, List.forall_mem_cons.mpr ⟨lk_51, List.forall_mem_cons.mpr ⟨lk_52, List.forall_mem_cons.mpr ⟨lk_53, (fun _ h => absurd h List.not_mem_nil)⟩⟩⟩⟩⟩⟩⟩⟩⟩⟩⟩⟩⟩
theorem in_A : ∀ w ∈ u_ws R_A F_A 10, w ∈ wk_tbl := by
  show ∀ w ∈ [(Jvm.Cond.laysFinal "DraftTree$Automaton" "DraftTree$Automaton" "kinds" "[I"), (Jvm.Cond.laysFinal "DraftTree$Automaton" "DraftTree$Automaton" "next" "[I"), (Jvm.Cond.laysFinal "DraftTree$Automaton" "DraftTree$Automaton" "other" "[I"), (Jvm.Cond.laysFinal "DraftTree$Automaton" "DraftTree$Automaton" "lowCodes" "[J"), (Jvm.Cond.laysFinal "DraftTree$Automaton" "DraftTree$Automaton" "highCodes" "[J"), (Jvm.Cond.lays "DraftTree$Automaton" "DraftTree$Automaton" "size" "I"), (Jvm.Cond.lays "DraftTree$Automaton" "DraftTree$Automaton" "start" "I"), (Jvm.Cond.lays "DraftTree$Automaton" "DraftTree$Automaton" "goal" "I"), (Jvm.Cond.lays "DraftTree$Automaton" "DraftTree$Automaton" "matchStart" "I"), (Jvm.Cond.lays "DraftTree$Automaton" "DraftTree$Automaton" "matchEnd" "I")], w ∈ wk_tbl
  exact List.forall_mem_cons.mpr ⟨lk_63, List.forall_mem_cons.mpr ⟨lk_64, List.forall_mem_cons.mpr ⟨lk_65, List.forall_mem_cons.mpr ⟨lk_66, List.forall_mem_cons.mpr ⟨lk_67, List.forall_mem_cons.mpr ⟨lk_68, List.forall_mem_cons.mpr ⟨lk_69, List.forall_mem_cons.mpr ⟨lk_70, List.forall_mem_cons.mpr ⟨lk_71, List.forall_mem_cons.mpr ⟨lk_72, (fun _ h => absurd h List.not_mem_nil)⟩⟩⟩⟩⟩⟩⟩⟩⟩⟩
theorem in_M : ∀ w ∈ u_ws R_M F_M 38, w ∈ wk_tbl := by
  show ∀ w ∈ [(Jvm.Cond.lays "DraftTreeModel" "DraftTreeModel" "code" "I"), (Jvm.Cond.lays "DraftTreeModel" "DraftTreeModel" "typed" "I"), (Jvm.Cond.laysFinal "DraftTreeModel" "DraftTreeModel" "slip" "[C"), (Jvm.Cond.lays "DraftTreeModel" "DraftTreeModel" "states" "I"), (Jvm.Cond.lays "DraftTreeModel" "DraftTreeModel" "present" "I"), (Jvm.Cond.laysFinal "DraftTreeModel" "DraftTreeModel" "texts" "[C"), (Jvm.Cond.laysFinal "DraftTreeModel" "DraftTreeModel" "lengths" "[I"), (Jvm.Cond.laysFinal "DraftTreeModel" "DraftTreeModel" "places" "[I"), (Jvm.Cond.laysFinal "DraftTreeModel" "DraftTreeModel" "parents" "[I"), (Jvm.Cond.laysFinal "DraftTreeModel" "DraftTreeModel" "came" "[I"), (Jvm.Cond.lays "DraftTreeModel" "DraftTreeModel" "clock" "I"), (Jvm.Cond.lays "DraftTreeModel" "DraftTreeModel" "cursor" "I"), (Jvm.Cond.lays "DraftTreeModel" "DraftTreeModel" "mark" "I"), (Jvm.Cond.lays "DraftTreeModel" "DraftTreeModel" "compiled" "Z"), (Jvm.Cond.lays "DraftTreeModel" "DraftTreeModel" "wrongAt" "I"), (Jvm.Cond.lays "DraftTreeModel" "DraftTreeModel" "size" "I"), (Jvm.Cond.laysFinal "DraftTreeModel" "DraftTreeModel" "pattern" "[C"), (Jvm.Cond.lays "DraftTreeModel" "DraftTreeModel" "nodes" "I"), (Jvm.Cond.laysFinal "DraftTreeModel" "DraftTreeModel" "kind" "[I"), (Jvm.Cond.laysFinal "DraftTreeModel" "DraftTreeModel" "from" "[I"), (Jvm.Cond.laysFinal "DraftTreeModel" "DraftTreeModel" "to" "[I"), (Jvm.Cond.laysFinal "DraftTreeModel" "DraftTreeModel" "one" "[I"), (Jvm.Cond.laysFinal "DraftTreeModel" "DraftTreeModel" "two" "[I"), (Jvm.Cond.lays "DraftTreeModel" "DraftTreeModel" "first" "I"), (Jvm.Cond.lays "DraftTreeModel" "DraftTreeModel" "last" "I"), (Jvm.Cond.lays "DraftTreeModel" "DraftTreeModel" "pieces" "I"), (Jvm.Cond.laysFinal "DraftTreeModel" "DraftTreeModel" "head" "[I"), (Jvm.Cond.laysFinal "DraftTreeModel" "DraftTreeModel" "tail" "[I"), (Jvm.Cond.lays "DraftTreeModel" "DraftTreeModel" "open" "I"), (Jvm.Cond.laysFinal "DraftTreeModel" "DraftTreeModel" "choice" "[I"), (Jvm.Cond.laysFinal "DraftTreeModel" "DraftTreeModel" "row" "[I"), (Jvm.Cond.laysFinal "DraftTreeModel" "DraftTreeModel" "part" "[I"), (Jvm.Cond.laysFinal "DraftTreeModel" "DraftTreeModel" "here" "[Z"), (Jvm.Cond.laysFinal "DraftTreeModel" "DraftTreeModel" "then" "[Z"), (Jvm.Cond.lays "DraftTreeModel" "DraftTreeModel" "foundAt" "I"), (Jvm.Cond.lays "DraftTreeModel" "DraftTreeModel" "foundEnd" "I"), (Jvm.Cond.lays "DraftTreeModel" "DraftTreeModel" "made" "I"), (Jvm.Cond.laysFinal "DraftTreeModel" "DraftTreeModel" "draft" "[C")], w ∈ wk_tbl
  exact List.forall_mem_cons.mpr ⟨lk_101, List.forall_mem_cons.mpr ⟨lk_102, List.forall_mem_cons.mpr ⟨lk_103, List.forall_mem_cons.mpr ⟨lk_104, List.forall_mem_cons.mpr ⟨lk_105, List.forall_mem_cons.mpr ⟨lk_106, List.forall_mem_cons.mpr ⟨lk_107, List.forall_mem_cons.mpr ⟨lk_108, List.forall_mem_cons.mpr ⟨lk_109, List.forall_mem_cons.mpr ⟨lk_110, List.forall_mem_cons.mpr ⟨lk_111, List.forall_mem_cons.mpr ⟨lk_112, List.forall_mem_cons.mpr ⟨lk_113, List.forall_mem_cons.mpr ⟨lk_114, List.forall_mem_cons.mpr ⟨lk_115, List.forall_mem_cons.mpr ⟨lk_116, List.forall_mem_cons.mpr ⟨lk_117, List.forall_mem_cons.mpr ⟨lk_118, List.forall_mem_cons.mpr ⟨lk_119, List.forall_mem_cons.mpr ⟨lk_120, List.forall_mem_cons.mpr ⟨lk_121, List.forall_mem_cons.mpr ⟨lk_122, List.forall_mem_cons.mpr ⟨lk_123, List.forall_mem_cons.mpr ⟨lk_124, List.forall_mem_cons.mpr ⟨lk_125, List.forall_mem_cons.mpr ⟨lk_126, List.forall_mem_cons.mpr ⟨lk_127, List.forall_mem_cons.mpr ⟨lk_128, List.forall_mem_cons.mpr ⟨lk_129, List.forall_mem_cons.mpr ⟨lk_130, List.forall_mem_cons.mpr ⟨lk_131, List.forall_mem_cons.mpr ⟨lk_132, List.forall_mem_cons.mpr ⟨lk_133, List.forall_mem_cons.mpr ⟨lk_134, List.forall_mem_cons.mpr ⟨lk_135, List.forall_mem_cons.mpr ⟨lk_136, List.forall_mem_cons.mpr ⟨lk_137, List.forall_mem_cons.mpr ⟨lk_138, (fun _ h => absurd h List.not_mem_nil)⟩⟩⟩⟩⟩⟩⟩⟩⟩⟩⟩⟩⟩⟩⟩⟩⟩⟩⟩⟩⟩⟩⟩⟩⟩⟩⟩⟩⟩⟩⟩⟩⟩⟩⟩⟩⟩⟩
theorem oa_0 {args : Array Value} {s : State} {c0 : Cond} (hts : ∀ w ∈ (c0 :: wk_tbl), w.before args s = true) (hZ : th_Zs s) : ∀ a ∈ Bundle.ownAtoms0 "DraftTree" 145 "java/lang/IndexOutOfBoundsException" ["java/lang/RuntimeException", "java/lang/Exception"], a.before args s = true := by
  refine th_atoms hZ (fun w hw => ?_)
  cases hg : goodWord w with
  | true =>
    have h : w ∈ wk_at_oa_0 := List.mem_filter.mpr ⟨hw, hg⟩
    exact Or.inl (hts w (List.mem_cons_of_mem _ (List.mem_append_right _ (List.mem_append_left _ h))))
  | false =>
    have h : w ∈ (Bundle.ownAtoms0 "DraftTree" 145 "java/lang/IndexOutOfBoundsException" ["java/lang/RuntimeException", "java/lang/Exception"]).filter (fun w => !goodWord w) := List.mem_filter.mpr ⟨hw, by simp [hg]⟩
    have h9 : ∀ w ∈ (Bundle.ownAtoms0 "DraftTree" 145 "java/lang/IndexOutOfBoundsException" ["java/lang/RuntimeException", "java/lang/Exception"]).filter (fun w => !goodWord w), (w = .isRef (.static Bundle.tN "UNASSIGNED_STACK" Bundle.steD) ∨ w = .isRef (.static Bundle.tN "SUPPRESSED_SENTINEL" Bundle.listD) ∨ w = .laysStatic Bundle.tN "UNASSIGNED_STACK" Bundle.steD ∨ w = .laysStatic Bundle.tN "SUPPRESSED_SENTINEL" Bundle.listD ∨ w ∈ th_bad) := by decide +kernel
    exact Or.inr (h9 w h)
theorem oa_1 {args : Array Value} {s : State} {c0 : Cond} (hts : ∀ w ∈ (c0 :: wk_tbl), w.before args s = true) (hZ : th_Zs s) : ∀ a ∈ Bundle.ownAtoms0 "DraftTree" 68 "java/lang/IllegalStateException" ["java/lang/RuntimeException", "java/lang/Exception"], a.before args s = true := by
  refine th_atoms hZ (fun w hw => ?_)
  cases hg : goodWord w with
  | true =>
    have h : w ∈ wk_at_oa_1 := List.mem_filter.mpr ⟨hw, hg⟩
    exact Or.inl (hts w (List.mem_cons_of_mem _ (List.mem_append_right _ (List.mem_append_right _ (List.mem_append_left _ h)))))
  | false =>
    have h : w ∈ (Bundle.ownAtoms0 "DraftTree" 68 "java/lang/IllegalStateException" ["java/lang/RuntimeException", "java/lang/Exception"]).filter (fun w => !goodWord w) := List.mem_filter.mpr ⟨hw, by simp [hg]⟩
    have h9 : ∀ w ∈ (Bundle.ownAtoms0 "DraftTree" 68 "java/lang/IllegalStateException" ["java/lang/RuntimeException", "java/lang/Exception"]).filter (fun w => !goodWord w), (w = .isRef (.static Bundle.tN "UNASSIGNED_STACK" Bundle.steD) ∨ w = .isRef (.static Bundle.tN "SUPPRESSED_SENTINEL" Bundle.listD) ∨ w = .laysStatic Bundle.tN "UNASSIGNED_STACK" Bundle.steD ∨ w = .laysStatic Bundle.tN "SUPPRESSED_SENTINEL" Bundle.listD ∨ w ∈ th_bad) := by decide +kernel
    exact Or.inr (h9 w h)
theorem oa_2 {args : Array Value} {s : State} {c0 : Cond} (hts : ∀ w ∈ (c0 :: wk_tbl), w.before args s = true) (hZ : th_Zs s) : ∀ a ∈ Bundle.ownAtoms0 "DraftTree" 113 "java/util/NoSuchElementException" ["java/lang/RuntimeException", "java/lang/Exception"], a.before args s = true := by
  refine th_atoms hZ (fun w hw => ?_)
  cases hg : goodWord w with
  | true =>
    have h : w ∈ wk_at_oa_2 := List.mem_filter.mpr ⟨hw, hg⟩
    exact Or.inl (hts w (List.mem_cons_of_mem _ (List.mem_append_right _ (List.mem_append_right _ (List.mem_append_right _ (List.mem_append_left _ h))))))
  | false =>
    have h : w ∈ (Bundle.ownAtoms0 "DraftTree" 113 "java/util/NoSuchElementException" ["java/lang/RuntimeException", "java/lang/Exception"]).filter (fun w => !goodWord w) := List.mem_filter.mpr ⟨hw, by simp [hg]⟩
    have h9 : ∀ w ∈ (Bundle.ownAtoms0 "DraftTree" 113 "java/util/NoSuchElementException" ["java/lang/RuntimeException", "java/lang/Exception"]).filter (fun w => !goodWord w), (w = .isRef (.static Bundle.tN "UNASSIGNED_STACK" Bundle.steD) ∨ w = .isRef (.static Bundle.tN "SUPPRESSED_SENTINEL" Bundle.listD) ∨ w = .laysStatic Bundle.tN "UNASSIGNED_STACK" Bundle.steD ∨ w = .laysStatic Bundle.tN "SUPPRESSED_SENTINEL" Bundle.listD ∨ w ∈ th_bad) := by decide +kernel
    exact Or.inr (h9 w h)
theorem oa_3 {args : Array Value} {s : State} {c0 : Cond} (hts : ∀ w ∈ (c0 :: wk_tbl), w.before args s = true) (hZ : th_Zs s) : ∀ a ∈ Bundle.ownAtoms0 "DraftTree" 98 "java/lang/IllegalArgumentException" ["java/lang/RuntimeException", "java/lang/Exception"], a.before args s = true := by
  refine th_atoms hZ (fun w hw => ?_)
  cases hg : goodWord w with
  | true =>
    have h : w ∈ wk_at_oa_3 := List.mem_filter.mpr ⟨hw, hg⟩
    exact Or.inl (hts w (List.mem_cons_of_mem _ (List.mem_append_right _ (List.mem_append_right _ (List.mem_append_right _ (List.mem_append_right _ (h)))))))
  | false =>
    have h : w ∈ (Bundle.ownAtoms0 "DraftTree" 98 "java/lang/IllegalArgumentException" ["java/lang/RuntimeException", "java/lang/Exception"]).filter (fun w => !goodWord w) := List.mem_filter.mpr ⟨hw, by simp [hg]⟩
    have h9 : ∀ w ∈ (Bundle.ownAtoms0 "DraftTree" 98 "java/lang/IllegalArgumentException" ["java/lang/RuntimeException", "java/lang/Exception"]).filter (fun w => !goodWord w), (w = .isRef (.static Bundle.tN "UNASSIGNED_STACK" Bundle.steD) ∨ w = .isRef (.static Bundle.tN "SUPPRESSED_SENTINEL" Bundle.listD) ∨ w = .laysStatic Bundle.tN "UNASSIGNED_STACK" Bundle.steD ∨ w = .laysStatic Bundle.tN "SUPPRESSED_SENTINEL" Bundle.listD ∨ w ∈ th_bad) := by decide +kernel
    exact Or.inr (h9 w h)
abbrev w_A_addNode : List Cond := (Jvm.Cond.code ({ cls := "DraftTree$Automaton", name := "addNode", desc := "(I)I" } : Jvm.MethodName) prog_2_method_2_code (3 : Nat) (Option.some Jvm.ClassFile.FieldType.int)) :: wk_tbl
abbrev w_A_init : List Cond := (Jvm.Cond.code ({ cls := "DraftTree$Automaton", name := "<init>", desc := "()V" } : Jvm.MethodName) prog_2_method_1_code (1 : Nat) (Option.none : Option Jvm.ClassFile.FieldType)) :: wk_tbl
abbrev w_D_at : List Cond := (Jvm.Cond.code ({ cls := "DraftTree", name := "at", desc := "(I)C" } : Jvm.MethodName) prog_1_method_15_code (2 : Nat) (Option.some Jvm.ClassFile.FieldType.char)) :: wk_tbl
abbrev w_D_breaksBefore : List Cond := (Jvm.Cond.code ({ cls := "DraftTree", name := "breaksBefore", desc := "(I)I" } : Jvm.MethodName) prog_1_method_29_code (4 : Nat) (Option.some Jvm.ClassFile.FieldType.int)) :: wk_tbl
abbrev w_D_compile : List Cond := (Jvm.Cond.code ({ cls := "DraftTree", name := "compile", desc := "()V" } : Jvm.MethodName) prog_1_method_7_code (1 : Nat) (Option.none : Option Jvm.ClassFile.FieldType)) :: wk_tbl
abbrev w_D_erase : List Cond := (Jvm.Cond.code ({ cls := "DraftTree", name := "erase", desc := "(I)I" } : Jvm.MethodName) prog_1_method_5_code (4 : Nat) (Option.some Jvm.ClassFile.FieldType.int)) :: wk_tbl
abbrev w_D_fault : List Cond := (Jvm.Cond.code ({ cls := "DraftTree", name := "fault", desc := "()I" } : Jvm.MethodName) prog_1_method_8_code (1 : Nat) (Option.some Jvm.ClassFile.FieldType.int)) :: wk_tbl
abbrev w_D_figure : List Cond := (Jvm.Cond.code ({ cls := "DraftTree", name := "figure", desc := "(I)I" } : Jvm.MethodName) prog_1_method_17_code (2 : Nat) (Option.some Jvm.ClassFile.FieldType.int)) :: wk_tbl
abbrev w_D_find : List Cond := (Jvm.Cond.code ({ cls := "DraftTree", name := "find", desc := "(I)I" } : Jvm.MethodName) prog_1_method_9_code (2 : Nat) (Option.some Jvm.ClassFile.FieldType.int)) :: wk_tbl
abbrev w_D_go : List Cond := (Jvm.Cond.code ({ cls := "DraftTree", name := "go", desc := "(IZ)V" } : Jvm.MethodName) prog_1_method_6_code (3 : Nat) (Option.none : Option Jvm.ClassFile.FieldType)) :: wk_tbl
abbrev w_D_init : List Cond := (Jvm.Cond.code ({ cls := "DraftTree", name := "<init>", desc := "()V" } : Jvm.MethodName) prog_1_method_1_code (1 : Nat) (Option.none : Option Jvm.ClassFile.FieldType)) :: wk_tbl
abbrev w_D_insert : List Cond := (Jvm.Cond.code ({ cls := "DraftTree", name := "insert", desc := "()I" } : Jvm.MethodName) prog_1_method_4_code (3 : Nat) (Option.some Jvm.ClassFile.FieldType.int)) :: wk_tbl
abbrev w_D_jump : List Cond := (Jvm.Cond.code ({ cls := "DraftTree", name := "jump", desc := "(I)V" } : Jvm.MethodName) prog_1_method_13_code (2 : Nat) (Option.none : Option Jvm.ClassFile.FieldType)) :: wk_tbl
abbrev w_D_length : List Cond := (Jvm.Cond.code ({ cls := "DraftTree", name := "length", desc := "()I" } : Jvm.MethodName) prog_1_method_14_code (1 : Nat) (Option.some Jvm.ClassFile.FieldType.int)) :: wk_tbl
abbrev w_D_line : List Cond := (Jvm.Cond.code ({ cls := "DraftTree", name := "line", desc := "(II)I" } : Jvm.MethodName) prog_1_method_16_code (3 : Nat) (Option.some Jvm.ClassFile.FieldType.int)) :: wk_tbl
abbrev w_D_lineBegin : List Cond := (Jvm.Cond.code ({ cls := "DraftTree", name := "lineBegin", desc := "(I)I" } : Jvm.MethodName) prog_1_method_30_code (4 : Nat) (Option.some Jvm.ClassFile.FieldType.int)) :: wk_tbl
abbrev w_D_lineSize : List Cond := (Jvm.Cond.code ({ cls := "DraftTree", name := "lineSize", desc := "(I)I" } : Jvm.MethodName) prog_1_method_31_code (4 : Nat) (Option.some Jvm.ClassFile.FieldType.int)) :: wk_tbl
abbrev w_D_moveTo : List Cond := (Jvm.Cond.code ({ cls := "DraftTree", name := "moveTo", desc := "(I)V" } : Jvm.MethodName) prog_1_method_23_code (3 : Nat) (Option.none : Option Jvm.ClassFile.FieldType)) :: wk_tbl
abbrev w_D_parent : List Cond := (Jvm.Cond.code ({ cls := "DraftTree", name := "parent", desc := "(I)I" } : Jvm.MethodName) prog_1_method_18_code (2 : Nat) (Option.some Jvm.ClassFile.FieldType.int)) :: wk_tbl
abbrev w_D_redo : List Cond := (Jvm.Cond.code ({ cls := "DraftTree", name := "redo", desc := "()I" } : Jvm.MethodName) prog_1_method_12_code (2 : Nat) (Option.some Jvm.ClassFile.FieldType.int)) :: wk_tbl
abbrev w_D_replace : List Cond := (Jvm.Cond.code ({ cls := "DraftTree", name := "replace", desc := "()I" } : Jvm.MethodName) prog_1_method_10_code (3 : Nat) (Option.some Jvm.ClassFile.FieldType.int)) :: wk_tbl
abbrev w_D_requirePlace : List Cond := (Jvm.Cond.code ({ cls := "DraftTree", name := "requirePlace", desc := "(I)V" } : Jvm.MethodName) prog_1_method_19_code (2 : Nat) (Option.none : Option Jvm.ClassFile.FieldType)) :: wk_tbl
abbrev w_D_requireState : List Cond := (Jvm.Cond.code ({ cls := "DraftTree", name := "requireState", desc := "(I)V" } : Jvm.MethodName) prog_1_method_20_code (2 : Nat) (Option.none : Option Jvm.ClassFile.FieldType)) :: wk_tbl
abbrev w_D_selectionEnd : List Cond := (Jvm.Cond.code ({ cls := "DraftTree", name := "selectionEnd", desc := "()I" } : Jvm.MethodName) prog_1_method_22_code (1 : Nat) (Option.some Jvm.ClassFile.FieldType.int)) :: wk_tbl
abbrev w_D_selectionStart : List Cond := (Jvm.Cond.code ({ cls := "DraftTree", name := "selectionStart", desc := "()I" } : Jvm.MethodName) prog_1_method_21_code (1 : Nat) (Option.some Jvm.ClassFile.FieldType.int)) :: wk_tbl
abbrev w_D_type : List Cond := (Jvm.Cond.code ({ cls := "DraftTree", name := "type", desc := "(C)Z" } : Jvm.MethodName) prog_1_method_2_code (3 : Nat) (Option.some Jvm.ClassFile.FieldType.boolean)) :: wk_tbl
abbrev w_D_undo : List Cond := (Jvm.Cond.code ({ cls := "DraftTree", name := "undo", desc := "()I" } : Jvm.MethodName) prog_1_method_11_code (2 : Nat) (Option.some Jvm.ClassFile.FieldType.int)) :: wk_tbl
abbrev w_D_wipe : List Cond := (Jvm.Cond.code ({ cls := "DraftTree", name := "wipe", desc := "()I" } : Jvm.MethodName) prog_1_method_3_code (2 : Nat) (Option.some Jvm.ClassFile.FieldType.int)) :: wk_tbl
abbrev w_L_at : List Cond := (Jvm.Cond.codeWith ({ cls := "DraftTreeLaw", name := "at", desc := "(LDraftTree;I[J)I" } : Jvm.MethodName) method_12_code (4 : Nat) (Option.some Jvm.ClassFile.FieldType.int) [((0 : Nat), (9 : Nat), (12 : Nat), (23 : Nat))]) :: wk_tbl
abbrev w_L_compile : List Cond := (Jvm.Cond.codeWith ({ cls := "DraftTreeLaw", name := "compile", desc := "(LDraftTree;)I" } : Jvm.MethodName) method_6_code (2 : Nat) (Option.some Jvm.ClassFile.FieldType.int) [((0 : Nat), (4 : Nat), (7 : Nat), (28 : Nat))]) :: wk_tbl
abbrev w_L_erase : List Cond := (Jvm.Cond.codeWith ({ cls := "DraftTreeLaw", name := "erase", desc := "(LDraftTree;I[J)I" } : Jvm.MethodName) method_4_code (4 : Nat) (Option.some Jvm.ClassFile.FieldType.int) [((0 : Nat), (9 : Nat), (12 : Nat), (13 : Nat))]) :: wk_tbl
abbrev w_L_figure : List Cond := (Jvm.Cond.codeWith ({ cls := "DraftTreeLaw", name := "figure", desc := "(LDraftTree;I[J)I" } : Jvm.MethodName) method_14_code (4 : Nat) (Option.some Jvm.ClassFile.FieldType.int) [((0 : Nat), (9 : Nat), (12 : Nat), (28 : Nat))]) :: wk_tbl
abbrev w_L_find : List Cond := (Jvm.Cond.codeWith ({ cls := "DraftTreeLaw", name := "find", desc := "(LDraftTree;I[J)I" } : Jvm.MethodName) method_7_code (4 : Nat) (Option.some Jvm.ClassFile.FieldType.int) [((0 : Nat), (9 : Nat), (12 : Nat), (13 : Nat)), ((0 : Nat), (9 : Nat), (15 : Nat), (23 : Nat)), ((0 : Nat), (9 : Nat), (18 : Nat), (33 : Nat))]) :: wk_tbl
abbrev w_L_go : List Cond := (Jvm.Cond.codeWith ({ cls := "DraftTreeLaw", name := "go", desc := "(LDraftTree;IZ)I" } : Jvm.MethodName) method_5_code (4 : Nat) (Option.some Jvm.ClassFile.FieldType.int) [((0 : Nat), (6 : Nat), (9 : Nat), (23 : Nat))]) :: wk_tbl
abbrev w_L_insert : List Cond := (Jvm.Cond.codeWith ({ cls := "DraftTreeLaw", name := "insert", desc := "(LDraftTree;[J)I" } : Jvm.MethodName) method_3_code (3 : Nat) (Option.some Jvm.ClassFile.FieldType.int) [((0 : Nat), (8 : Nat), (11 : Nat), (13 : Nat))]) :: wk_tbl
abbrev w_L_jump : List Cond := (Jvm.Cond.codeWith ({ cls := "DraftTreeLaw", name := "jump", desc := "(LDraftTree;I)I" } : Jvm.MethodName) method_11_code (3 : Nat) (Option.some Jvm.ClassFile.FieldType.int) [((0 : Nat), (5 : Nat), (8 : Nat), (28 : Nat))]) :: wk_tbl
abbrev w_L_line : List Cond := (Jvm.Cond.codeWith ({ cls := "DraftTreeLaw", name := "line", desc := "(LDraftTree;II[J)I" } : Jvm.MethodName) method_13_code (5 : Nat) (Option.some Jvm.ClassFile.FieldType.int) [((0 : Nat), (10 : Nat), (13 : Nat), (28 : Nat)), ((0 : Nat), (10 : Nat), (17 : Nat), (23 : Nat))]) :: wk_tbl
abbrev w_L_parent : List Cond := (Jvm.Cond.codeWith ({ cls := "DraftTreeLaw", name := "parent", desc := "(LDraftTree;I[J)I" } : Jvm.MethodName) method_15_code (4 : Nat) (Option.some Jvm.ClassFile.FieldType.int) [((0 : Nat), (9 : Nat), (12 : Nat), (28 : Nat))]) :: wk_tbl
abbrev w_L_redo : List Cond := (Jvm.Cond.codeWith ({ cls := "DraftTreeLaw", name := "redo", desc := "(LDraftTree;[J)I" } : Jvm.MethodName) method_10_code (3 : Nat) (Option.some Jvm.ClassFile.FieldType.int) [((0 : Nat), (8 : Nat), (11 : Nat), (33 : Nat))]) :: wk_tbl
abbrev w_L_replace : List Cond := (Jvm.Cond.codeWith ({ cls := "DraftTreeLaw", name := "replace", desc := "(LDraftTree;[J)I" } : Jvm.MethodName) method_8_code (3 : Nat) (Option.some Jvm.ClassFile.FieldType.int) [((0 : Nat), (8 : Nat), (11 : Nat), (13 : Nat))]) :: wk_tbl
abbrev w_L_undo : List Cond := (Jvm.Cond.codeWith ({ cls := "DraftTreeLaw", name := "undo", desc := "(LDraftTree;[J)I" } : Jvm.MethodName) method_9_code (3 : Nat) (Option.some Jvm.ClassFile.FieldType.int) [((0 : Nat), (8 : Nat), (11 : Nat), (33 : Nat))]) :: wk_tbl
abbrev w_M_at : List Cond := (Jvm.Cond.code ({ cls := "DraftTreeModel", name := "at", desc := "(I)C" } : Jvm.MethodName) prog_6_method_48_code (2 : Nat) (Option.some Jvm.ClassFile.FieldType.char)) :: wk_tbl
abbrev w_M_behind : List Cond := (Jvm.Cond.code ({ cls := "DraftTreeModel", name := "behind", desc := "(II)I" } : Jvm.MethodName) prog_6_method_29_code (3 : Nat) (Option.some Jvm.ClassFile.FieldType.int)) :: wk_tbl
abbrev w_M_breaks : List Cond := (Jvm.Cond.code ({ cls := "DraftTreeModel", name := "breaks", desc := "(I)I" } : Jvm.MethodName) prog_6_method_49_code (4 : Nat) (Option.some Jvm.ClassFile.FieldType.int)) :: wk_tbl
abbrev w_M_come : List Cond := (Jvm.Cond.code ({ cls := "DraftTreeModel", name := "come", desc := "(I)V" } : Jvm.MethodName) prog_6_method_8_code (2 : Nat) (Option.none : Option Jvm.ClassFile.FieldType)) :: wk_tbl
abbrev w_M_compile : List Cond := (Jvm.Cond.code ({ cls := "DraftTreeModel", name := "compile", desc := "()V" } : Jvm.MethodName) prog_6_method_36_code (4 : Nat) (Option.none : Option Jvm.ClassFile.FieldType)) :: wk_tbl
abbrev w_M_either : List Cond := (Jvm.Cond.code ({ cls := "DraftTreeModel", name := "either", desc := "(II)I" } : Jvm.MethodName) prog_6_method_30_code (5 : Nat) (Option.some Jvm.ClassFile.FieldType.int)) :: wk_tbl
abbrev w_M_endRow : List Cond := (Jvm.Cond.code ({ cls := "DraftTreeModel", name := "endRow", desc := "()V" } : Jvm.MethodName) prog_6_method_33_code (3 : Nat) (Option.none : Option Jvm.ClassFile.FieldType)) :: wk_tbl
abbrev w_M_erase : List Cond := (Jvm.Cond.code ({ cls := "DraftTreeModel", name := "erase", desc := "(I)I" } : Jvm.MethodName) prog_6_method_16_code (5 : Nat) (Option.some Jvm.ClassFile.FieldType.int)) :: wk_tbl
abbrev w_M_fault : List Cond := (Jvm.Cond.code ({ cls := "DraftTreeModel", name := "fault", desc := "()I" } : Jvm.MethodName) prog_6_method_37_code (1 : Nat) (Option.some Jvm.ClassFile.FieldType.int)) :: wk_tbl
abbrev w_M_figure : List Cond := (Jvm.Cond.code ({ cls := "DraftTreeModel", name := "figure", desc := "(I)I" } : Jvm.MethodName) prog_6_method_52_code (2 : Nat) (Option.some Jvm.ClassFile.FieldType.int)) :: wk_tbl
abbrev w_M_find : List Cond := (Jvm.Cond.code ({ cls := "DraftTreeModel", name := "find", desc := "(I)I" } : Jvm.MethodName) prog_6_method_45_code (2 : Nat) (Option.some Jvm.ClassFile.FieldType.int)) :: wk_tbl
abbrev w_M_go : List Cond := (Jvm.Cond.code ({ cls := "DraftTreeModel", name := "go", desc := "(IZ)V" } : Jvm.MethodName) prog_6_method_17_code (3 : Nat) (Option.none : Option Jvm.ClassFile.FieldType)) :: wk_tbl
abbrev w_M_good : List Cond := (Jvm.Cond.code ({ cls := "DraftTreeModel", name := "good", desc := "()I" } : Jvm.MethodName) prog_6_method_23_code (5 : Nat) (Option.some Jvm.ClassFile.FieldType.int)) :: wk_tbl
abbrev w_M_high : List Cond := (Jvm.Cond.code ({ cls := "DraftTreeModel", name := "high", desc := "()I" } : Jvm.MethodName) prog_6_method_14_code (1 : Nat) (Option.some Jvm.ClassFile.FieldType.int)) :: wk_tbl
abbrev w_M_init : List Cond := (Jvm.Cond.code ({ cls := "DraftTreeModel", name := "<init>", desc := "()V" } : Jvm.MethodName) prog_6_method_1_code (1 : Nat) (Option.none : Option Jvm.ClassFile.FieldType)) :: wk_tbl
abbrev w_M_insert : List Cond := (Jvm.Cond.code ({ cls := "DraftTreeModel", name := "insert", desc := "()I" } : Jvm.MethodName) prog_6_method_15_code (5 : Nat) (Option.some Jvm.ClassFile.FieldType.int)) :: wk_tbl
abbrev w_M_isCharacter : List Cond := (Jvm.Cond.code ({ cls := "DraftTreeModel", name := "isCharacter", desc := "(C)Z" } : Jvm.MethodName) prog_6_method_3_code (1 : Nat) (Option.some Jvm.ClassFile.FieldType.boolean)) :: wk_tbl
abbrev w_M_jump : List Cond := (Jvm.Cond.code ({ cls := "DraftTreeModel", name := "jump", desc := "(I)V" } : Jvm.MethodName) prog_6_method_20_code (2 : Nat) (Option.none : Option Jvm.ClassFile.FieldType)) :: wk_tbl
abbrev w_M_length : List Cond := (Jvm.Cond.code ({ cls := "DraftTreeModel", name := "length", desc := "()I" } : Jvm.MethodName) prog_6_method_47_code (1 : Nat) (Option.some Jvm.ClassFile.FieldType.int)) :: wk_tbl
abbrev w_M_line : List Cond := (Jvm.Cond.code ({ cls := "DraftTreeModel", name := "line", desc := "(II)I" } : Jvm.MethodName) prog_6_method_51_code (7 : Nat) (Option.some Jvm.ClassFile.FieldType.int)) :: wk_tbl
abbrev w_M_lineStart : List Cond := (Jvm.Cond.code ({ cls := "DraftTreeModel", name := "lineStart", desc := "(I)I" } : Jvm.MethodName) prog_6_method_50_code (3 : Nat) (Option.some Jvm.ClassFile.FieldType.int)) :: wk_tbl
abbrev w_M_low : List Cond := (Jvm.Cond.code ({ cls := "DraftTreeModel", name := "low", desc := "()I" } : Jvm.MethodName) prog_6_method_13_code (1 : Nat) (Option.some Jvm.ClassFile.FieldType.int)) :: wk_tbl
abbrev w_M_node : List Cond := (Jvm.Cond.code ({ cls := "DraftTreeModel", name := "node", desc := "(III)I" } : Jvm.MethodName) prog_6_method_24_code (4 : Nat) (Option.some Jvm.ClassFile.FieldType.int)) :: wk_tbl
abbrev w_M_nothing : List Cond := (Jvm.Cond.code ({ cls := "DraftTreeModel", name := "nothing", desc := "()I" } : Jvm.MethodName) prog_6_method_28_code (2 : Nat) (Option.some Jvm.ClassFile.FieldType.int)) :: wk_tbl
abbrev w_M_openGroup : List Cond := (Jvm.Cond.code ({ cls := "DraftTreeModel", name := "openGroup", desc := "()V" } : Jvm.MethodName) prog_6_method_32_code (1 : Nat) (Option.none : Option Jvm.ClassFile.FieldType)) :: wk_tbl
abbrev w_M_parent : List Cond := (Jvm.Cond.code ({ cls := "DraftTreeModel", name := "parent", desc := "(I)I" } : Jvm.MethodName) prog_6_method_53_code (2 : Nat) (Option.some Jvm.ClassFile.FieldType.int)) :: wk_tbl
abbrev w_M_piece : List Cond := (Jvm.Cond.code ({ cls := "DraftTreeModel", name := "piece", desc := "(II)I" } : Jvm.MethodName) prog_6_method_26_code (3 : Nat) (Option.some Jvm.ClassFile.FieldType.int)) :: wk_tbl
abbrev w_M_redo : List Cond := (Jvm.Cond.code ({ cls := "DraftTreeModel", name := "redo", desc := "()I" } : Jvm.MethodName) prog_6_method_19_code (3 : Nat) (Option.some Jvm.ClassFile.FieldType.int)) :: wk_tbl
abbrev w_M_replace : List Cond := (Jvm.Cond.code ({ cls := "DraftTreeModel", name := "replace", desc := "()I" } : Jvm.MethodName) prog_6_method_46_code (4 : Nat) (Option.some Jvm.ClassFile.FieldType.int)) :: wk_tbl
abbrev w_M_textLength : List Cond := (Jvm.Cond.code ({ cls := "DraftTreeModel", name := "textLength", desc := "()I" } : Jvm.MethodName) prog_6_method_7_code (1 : Nat) (Option.some Jvm.ClassFile.FieldType.int)) :: wk_tbl
abbrev w_M_thrown : List Cond := (Jvm.Cond.code ({ cls := "DraftTreeModel", name := "thrown", desc := "()I" } : Jvm.MethodName) prog_6_method_2_code (1 : Nat) (Option.some Jvm.ClassFile.FieldType.int)) :: wk_tbl
abbrev w_M_type : List Cond := (Jvm.Cond.code ({ cls := "DraftTreeModel", name := "type", desc := "(C)Z" } : Jvm.MethodName) prog_6_method_4_code (2 : Nat) (Option.some Jvm.ClassFile.FieldType.boolean)) :: wk_tbl
abbrev w_M_undo : List Cond := (Jvm.Cond.code ({ cls := "DraftTreeModel", name := "undo", desc := "()I" } : Jvm.MethodName) prog_6_method_18_code (1 : Nat) (Option.some Jvm.ClassFile.FieldType.int)) :: wk_tbl
abbrev w_M_wipe : List Cond := (Jvm.Cond.code ({ cls := "DraftTreeModel", name := "wipe", desc := "()I" } : Jvm.MethodName) prog_6_method_5_code (2 : Nat) (Option.some Jvm.ClassFile.FieldType.int)) :: wk_tbl
abbrev w_P_beginRow : List Cond := (Jvm.Cond.code ({ cls := "DraftTree$PatternReader", name := "beginRow", desc := "(I)V" } : Jvm.MethodName) prog_3_method_16_code (2 : Nat) (Option.none : Option Jvm.ClassFile.FieldType)) :: wk_tbl
abbrev w_P_finish : List Cond := (Jvm.Cond.code ({ cls := "DraftTree$PatternReader", name := "finish", desc := "()V" } : Jvm.MethodName) prog_3_method_4_code (1 : Nat) (Option.none : Option Jvm.ClassFile.FieldType)) :: wk_tbl
abbrev w_P_handOver : List Cond := (Jvm.Cond.code ({ cls := "DraftTree$PatternReader", name := "handOver", desc := "(LDraftTree$Automaton;)LDraftTree$Automaton;" } : Jvm.MethodName) prog_3_method_2_code (3 : Nat) (Option.some (Jvm.ClassFile.FieldType.object "DraftTree$Automaton"))) :: wk_tbl
abbrev w_P_init : List Cond := (Jvm.Cond.code ({ cls := "DraftTree$PatternReader", name := "<init>", desc := "()V" } : Jvm.MethodName) prog_3_method_1_code (1 : Nat) (Option.none : Option Jvm.ClassFile.FieldType)) :: wk_tbl
abbrev w_P_openChoice : List Cond := (Jvm.Cond.code ({ cls := "DraftTree$PatternReader", name := "openChoice", desc := "(I)V" } : Jvm.MethodName) prog_3_method_12_code (3 : Nat) (Option.none : Option Jvm.ClassFile.FieldType)) :: wk_tbl
abbrev w_P_read : List Cond := (Jvm.Cond.code ({ cls := "DraftTree$PatternReader", name := "read", desc := "([CI)I" } : Jvm.MethodName) prog_3_method_3_code (4 : Nat) (Option.some Jvm.ClassFile.FieldType.int)) :: wk_tbl
abbrev w_S_init : List Cond := (Jvm.Cond.code ({ cls := "DraftTree$State", name := "<init>", desc := "([CII)V" } : Jvm.MethodName) prog_4_method_1_code (4 : Nat) (Option.none : Option Jvm.ClassFile.FieldType)) :: wk_tbl
end
