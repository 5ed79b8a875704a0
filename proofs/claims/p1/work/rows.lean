section
-- own rows: methods that throw, calls that throw, handlers
section ThrowKit
variable {p : Program} {l : Launch} {e : Env} {R : Room} {s : State} {m : MethodId} {args : Array Value} {below : List Frame} {meth : Method} {c : Code} {H : Heap} {locs : List Loc} {cells slots : Nat} {Q : State → Prop}
/-- how a throwing method leaves the machine: the thrown object's address, what the contract says of it, and the frame -/
def th_Q (below : List Frame) (Qc : Array Value → State → Addr → State → Prop) (a : Array Value) (s : State) (mc ms : Nat) (free : Addr → Prop) : State → Prop := fun t =>
  ∃ x, t.status = .running ∧ Ended t below (.threw x) ∧ Qc a s x t ∧ s.WarmedH t.vm ∧ ∃ L, s.sameButNew ({ t with vm := s.vm } : State) L mc ms ∧ ∀ q ∈ L, free q.base
/-- the contract of a method that throws -/
def th_Met (l : Launch) (y : MethodName) (ws : List Cond) (rm : Room) (Pc : Array Value → State → Prop) (Qc : Array Value → State → Addr → State → Prop) (mc ms : Nat) (free : Addr → Prop) : Prop :=
  MetFree l y (headSpec ws rm) Pc (fun _ _ _ _ _ => True) (fun a st o t => ∃ x, o = .threw x ∧ Qc a st x t ∧ st.WarmedH t.vm ∧ ∃ L, st.sameButNew ({ t with vm := st.vm } : State) L mc ms ∧ ∀ q ∈ L, free q.base)
theorem th_out {c : Code} (h : c.exceptionTable.isEmpty = true) (pc : Nat) : ∀ x ∈ c.exceptionTable.toList, covers x pc = false := by
  have h0 : c.exceptionTable.size = 0 := by simpa [Array.isEmpty] using h
  have h1 : c.exceptionTable.toList = [] := List.eq_nil_of_length_eq_zero (by simpa using h0)
  intro y hy
  rw [h1] at hy
  cases hy
theorem th_Met.ofW {y : MethodName} {ws ws' : List Cond} {rm : Room} {Pc : Array Value → State → Prop} {Qc : Array Value → State → Addr → State → Prop} {mc ms : Nat} {free : Addr → Prop} {cc : ByteArray} {maxL : Nat} {ret : Option FieldType}
    (hy : plainName y.cls = true) (hw : ws = Cond.code y cc maxL ret :: ws')
    (body : ∀ p e s m args below meth c s₁, BodyLoose p l y (headSpec ws rm) cc maxL ret e s m args below meth c s₁ → c.maxLocals = maxL → c.exceptionTable.isEmpty = true → Pc args s →
      W p l e (headSpec ws rm).room s m args below meth c s.heap [] 0 0 (th_Q below Qc args s mc ms free) (entryFrame m args maxL)) : th_Met l y ws rm Pc Qc mc ms free := by
  refine MetFree.of_bodyS (code := cc) (maxLocals := maxL) (ret := ret) hy ?_ ?_
  · intro args s m h hn
    obtain ⟨meth, c, h1, h2, h3, h4, h5, h6, -, -⟩ := Cond.code_spec hn (atoms_spec (ws := ws) h _ (by rw [hw]; exact List.mem_cons_self))
    exact ⟨meth, c, h1, h2, h3, h4, h5, h6⟩
  · intro p e s m args below meth c s₁ B hml hP _
    have hh0 : s₁.heap = s.heap := by rw [B.state]; rfl
    have hnh := B.noHandlers (atoms_spec (ws := ws) B.pre _ (by rw [hw]; exact List.mem_cons_self))
    obtain ⟨t, a1, x, b1, b2, b3⟩ := body p e s m args below meth c s₁ B hml hnh hP s₁ hh0 (Stand.of_body B)
    exact ⟨t, .threw x, a1, b1, b2, x, rfl, b3⟩
/-- nothing old has changed -/
theorem th_kept {s t : State} {k n : Nat} (h : s.sameButNew t [] k n) {a : Nat} {c : Cell} (hc : s.heap[a]? = some c) : t.heap[a]? = some c := by
  obtain ⟨-, -, -, -, -, h6⟩ := h
  obtain ⟨c', h1, h2, h3, h4⟩ := h6 a c hc
  have hs : c'.slots = c.slots := Array.ext_getElem? (fun i => h4 i (by simp))
  have : c' = c := by rw [h2, hs]
  rw [h1, this]
theorem th_keptq {s t : State} {k n : Nat} (h : s.sameButNew t [] k n) {a : Nat} (ha : a < s.heap.size) : t.heap[a]? = s.heap[a]? := by
  have h1 : s.heap[a]? = some s.heap[a] := Array.getElem?_eq_getElem ha
  rw [h1]
  exact th_kept h h1
/-- what is said of a thrown object: it is new, and of that class -/
def th_Is (C : String) (s : State) (x : Addr) (t : State) : Prop := s.heap.size ≤ x ∧ ∃ ce : Cell, t.heap[x]? = some ce ∧ ce.vm.isStatics = false ∧ s.vm.findClass C = some ce.cls ∧ s.vm.assignable ce.cls ce.cls = true
/-- the end of a method that throws a C: nothing old has changed -/
def th_Qn (C : String) : Array Value → State → Addr → State → Prop := fun _ st x t => th_Is C st x t ∧ va_F (fun _ => False) st t
/-- new X; dup; X(); athrow, where nothing has been written yet -/
theorem th_new {cc : ByteArray} (hexec : p.tables.exec = Jvm.exec) (hb : c.code = cc) (htr : e.platform.stackTraces = false) {own cls : String} {names : List String} {ix ic : Nat} (hown : s.vm.findClass own = some m.cls)
    (hcls : Bundle.fit cls = true) (hnames : ∀ n ∈ names, Bundle.fit n = true) (hat : ∀ a ∈ Bundle.ownAtoms0 own ic cls names, a.before args s = true)
    (hcl : (Cond.classLink own ix cls).before args s = true) (hini : (Cond.initialized cls).before args s = true)
    (hnh : c.exceptionTable.isEmpty = true) {pc : Nat} {ls : Array Slot} (hml : ls.size = c.maxLocals) {rest : List Value} (hsz : s.heap.size ≤ H.size)
    (hfr : names.length + 3 < R.frames) (hlo : 1 + (rest.map fun v => v.category).sum + (13 * (names.length + 1) + 41) ≤ R.locals) (hc : cells + 1 ≤ R.cells) (hsl : slots + 6 ≤ R.slots) {free : Addr → Prop}
    (hlocks : meth.locks = false)
    (hd0 : decode cc pc = .ok (.new ix, 3)) (hd3 : decode cc (pc + 3) = .ok (.dup, 1)) (hd4 : decode cc (pc + 4) = .ok (.invokespecial ic, 3)) (hd7 : decode cc (pc + 7) = .ok (.athrow, 1)) :
    W p l e R s m args below meth c H [] cells slots (th_Q below (th_Qn cls) args s (cells + 1) (slots + 6) free) (F0 m pc ls rest) := by
  refine W.newc hexec hb hown hcl (hat (.instantiable cls 6) (by simp [Bundle.ownAtoms0])) hini rfl hd0 hc hsl (fun cC kC h1 h2 h3 h4 => ?_)
  refine W.eq (g2 := F0 m (pc + 3) ls (.ref H.size :: rest)) rfl ?_
  refine lv_dup hexec hb hd3 rfl ?_
  refine W.eq (g2 := F0 m (pc + 4) ls (.ref H.size :: .ref H.size :: rest)) rfl ?_
  intro T hT X
  subst hb
  have hcell : T.heap[H.size]? = some (freshCell cC kC) := by
    rw [hT]
    simp [freshCell]
  obtain ⟨U, st, hrun, hend, hW, hsame, ce, hce, ho⟩ := X.ctorThrow0 hexec htr hown hcls hnames hat (fun x hx => by cases hx) h1 h2 hcell hsz (g := F0 m (pc + 4) ls (.ref H.size :: .ref H.size :: rest)) rfl hml rfl rfl (rest := rest) rfl hd4 hd7 (th_out hnh _) hfr
    (by simpa [JFrame.monitorRoom, Value.category, Nat.add_assoc] using hlo) hlocks
  exact ⟨U, st, H.size, hrun, hend, ⟨⟨hsz, ce, hce, by rw [ho.vm]; rfl, ho.cls, ho.self⟩, hsame.2.1, fun q hq _ => th_keptq hsame hq⟩, hW, [], hsame, fun q hq => by cases hq⟩
/-- a call of a method that throws: the walk stands again behind it, the note on top -/
def th_Run (p : Program) (l : Launch) (e : Env) (R : Room) (s : State) (m : MethodId) (args : Array Value) (below : List Frame) (meth : Method) (c : Code) (H : Heap) (locs : List Loc) (cells slots mc ms : Nat) (g : JFrame) (rest : List Value) (Qa : State → Addr → State → Prop) (free : Addr → Prop) : Prop :=
  ∀ T : State, T.heap = H → Stand p l e R s m args below meth c T locs cells slots → ∃ (x : Addr) (st₀ t T' : State) (L : List Loc), st₀.heap = H ∧ s.vm.Alike st₀.vm ∧ Stand p l e R s m args below meth c T' (locs ++ L) (cells + mc) (slots + ms) ∧ (∀ q ∈ L, free q.base) ∧ T'.heap = t.heap ∧ T'.vm = t.vm ∧ Qa st₀ x t ∧
    Steps p.tables e below (T.setTop g) ((T'.setTop { g with stack := rest }).pushFrame (.throwing x))
theorem th_back {y : MethodName} {ws : List Cond} {rm : Room} {Pc : Array Value → State → Prop} {Qc : Array Value → State → Addr → State → Prop} {mc ms : Nat} {free : Addr → Prop} {bytes : ByteArray} {maxL : Nat} {ret : Option FieldType} {own : String} {index n : Nat}
    (hM : th_Met l y ws rm Pc Qc mc ms free) (hbl : FrameBlind Pc) (cb : CallB R s args own index y bytes maxL ret ws rm mc ms n) {U : State}
    (X : Stand p l e R s m args below meth c U locs cells slots) {g : JFrame} (hg : g.method = m) (hsize : g.locals.size = c.maxLocals) {ig : Instr} {len : Nat} (hdg : decode c.code g.pc = .ok (ig, len))
    (hW : 2 * g.monitorRoom + (g.stack.map fun v => v.category).sum ≤ 8) {mk : MethodId} (hn : U.methodNamed? y = some mk) {a : Array Value} (hc : cells + mc ≤ R.cells) (hs : slots + ms ≤ R.slots) (hP : Pc a U) :
    ∃ (x : Addr) (T' t : State) (L : List Loc), Stand p l e R s m args below meth c T' (locs ++ L) (cells + mc) (slots + ms) ∧ T'.heap = t.heap ∧ T'.vm = t.vm ∧ (∀ q ∈ L, free q.base) ∧ Qc a (U.calling g mk a) x t ∧
      Steps p.tables e below (doInvoke e (U.setTop g) [] mk a).1 ((T'.setTop g).pushFrame (.throwing x)) := by
  obtain ⟨hrc, hrs, hfr, hlo, hws, hcw, -, hini, -⟩ := cb
  have h2 : (Cond.code y bytes maxL ret).before a U = true := hws _ hcw a U X.warmed
  have h1 : (headSpec ws rm).pre.before a U = true := atoms_intro fun w hw => hws w hw _ _ X.warmed
  have h3 : (Cond.initialized y.cls).before a U = true := word_at X.warmed (Or.inl (by first | rfl | simp [Cond.onTables, Cond.keeps, Cond.steady])) hini
  obtain ⟨methY, cY, hmY, hcY, -, hlY, -, -, -, -⟩ := Cond.code_spec hn h2
  obtain ⟨kY, hkY, -⟩ := className_of_methodNamed hn
  have hinitY : kY.init = .initialized := Cond.initialized_spec (findClass_of_methodNamed hn) hkY h3
  have h : At U g.method c below := by rw [hg]; exact X.here
  have happ : (headSpec ws rm).appliesLoose y e.platform (U.calling g mk a) = true :=
    Spec.appliesLoose_calling (g := g) h hdg hn hkY hinitY
      (X.room_calling (g := g) (R' := (headSpec ws rm).room) hsize hmY hcY hfr (by rw [hlY]; show _ + rm.locals ≤ _; omega) (by show cells + rm.cells ≤ _; rw [hrc]; exact hc) (by show slots + rm.slots ≤ _; rw [hrs]; exact hs)) h1
  obtain ⟨mid, hmid⟩ := h.above
  have hfr' : (U.setTop g).frames = (.java g :: mid) ++ below := by rw [State.frames_setTop' g h.top, hmid]; rfl
  obtain ⟨o, s₂, hsteps, -, hend, x, rfl, hq, hW₂, L, hsame, hL⟩ := Steps.callFree hM p X.admits X.cas X.clock (acts := []) hfr' happ (hbl _ _ _ _ hP) trivial
  rw [State.frames_setTop' g h.top, X.tail] at hend
  obtain ⟨T', X', -, -, ht⟩ := X.outOfThrown hg (mk := mk) (a := a) hend hW₂ hsame
  subst ht
  exact ⟨x, T', (T'.setTop g).pushFrame (.throwing x), L, X', rfl, rfl, hL, hq, hsteps⟩
section Runs
variable {y : MethodName} {bytes cc : ByteArray} {maxL nL mc ms n index : Nat} {ret : Option FieldType} {ws : List Cond} {rm : Room} {Pc : Array Value → State → Prop} {Qc : Array Value → State → Addr → State → Prop} {free : Addr → Prop} {Ts : List Cond} {own C : String} {b : Addr} {As rest : List Value} {g : JFrame}
theorem th_runV (S : CallFix p m c cc nL s args Ts own) (hM : th_Met l y ws rm Pc Qc mc ms free) (cw : CallW R s args own C index y bytes maxL ret ws rm mc ms n) (hp : PreV s H C b Pc As)
    (hg : g.method = m) (hn : As.length = n) (hsize : g.locals.size = nL) (hstack : g.stack = As.reverse ++ .ref b :: rest) (hW : 2 * g.monitorRoom + (rest.map fun v => v.category).sum ≤ 8) (hdg : decode cc g.pc = .ok (.invokevirtual index, 3)) (hf : cells + mc ≤ R.cells ∧ slots + ms ≤ R.slots) :
    th_Run p l e R s m args below meth c H locs cells slots mc ms g rest (Qc (Value.ref b :: As).toArray) free := by
  obtain ⟨hx, hb, hml, ho, -⟩ := S
  obtain ⟨hbl, ⟨cellB, hcB, hoB, hclB⟩, hPc⟩ := hp
  have cb := cw.1
  obtain ⟨⟨-, -, -, -, -, -, hcode, -, hy, hlen, hl⟩, hin, hse⟩ := cw
  intro T hT X
  obtain ⟨mk, methM, hnamed, hmethM, hstM, habM⟩ := Cond.instanceMethod_spec hin
  obtain ⟨methM', cM, hmethM', -, -, -, -, -, -, hsigM⟩ := Cond.code_spec hnamed hcode
  cases hmethM.symm.trans hmethM'
  obtain ⟨c2, r2, m2, q1, q2, q3, q4, kP, hkP, hkPi⟩ := Cond.selects_spec hse
  cases hclB.symm.trans q1
  cases (State.methodFound?_of_named hnamed hy).symm.trans q2
  cases hnamed.symm.trans q3
  have hselP : selectMethod e.platform s.vm cellB.cls mk = .method mk := by rw [Launch.admits_selectMethod X.admits]; exact q4
  subst hb
  obtain ⟨vm₁, X₁, hstep₁⟩ := X.invokevirtual hx ho hl hnamed hmethM hstM hkP hkPi hy (a := b) (cell := cellB) (by rw [hT]; exact hcB) (fun z h => by rw [h] at hoB; cases hoB) hselP hmethM habM hkP hkPi (g := g) hg (argsL := As) (rest := rest) (hn.trans (hlen _ hsigM)) hstack hdg
  obtain ⟨x, T', t, L, X', e1, e2, hL, hq, hsteps⟩ := th_back hM hbl cb X₁ (g := { g with stack := rest }) hg (hsize.trans hml.symm) hdg hW (X₁.named hnamed) hf.1 hf.2 (hPc (T.setVm vm₁) hT X₁.warmed)
  exact ⟨x, (T.setVm vm₁).calling { g with stack := rest } mk (Value.ref b :: As).toArray, t, T', L, hT, X₁.warmed.alike, X', hL, e1, e2, hq, hstep₁ _ fun acts => by rw [doInvoke_state]; exact hsteps⟩
end Runs
theorem th_Is.moved {C : String} {s st t u : State} {x : Addr} (hsz : s.heap.size ≤ st.heap.size) (hal : s.vm.Alike st.vm) (hu : u.heap = t.heap) (h : th_Is C st x t) : th_Is C s x u := by
  obtain ⟨h1, ce, h2, h3, h4, h5⟩ := h
  exact ⟨Nat.le_trans hsz h1, ce, by rw [hu]; exact h2, h3, by rw [← hal.findClass]; exact h4, by rw [← hal.assignable]; exact h5⟩
/-- the call throws, the caller has no handler: it throws too; nothing has been written before -/
theorem th_pass {C : String} {a : Array Value} {mc ms : Nat} {free free' : Addr → Prop} {pc : Nat} {ls : Array Slot} {st0 rest : List Value} (hr : th_Run p l e R s m args below meth c s.heap [] cells slots mc ms (F0 m pc ls st0) rest (th_Qn C a) free) (hnh : c.exceptionTable.isEmpty = true) (hlocks : meth.locks = false)
    (hf : ∀ q, free q → free' q) : W p l e R s m args below meth c s.heap [] cells slots (th_Q below (th_Qn C) args s (cells + mc) (slots + ms) free') (F0 m pc ls st0) := by
  intro T hT X
  obtain ⟨x, st₀, t, T', L, h0, hal, X', hL, e1, e2, ⟨hI, hz, hk⟩, st⟩ := hr T hT X
  obtain ⟨hw, hrun, hend, hW, hsame⟩ := X'.leaveThrown x (g := F0 m pc ls rest) rfl rfl rfl (th_out hnh _) hlocks
  refine ⟨_, st.trans hw, x, hrun, hend, ⟨hI.moved (by rw [h0]; exact Nat.le_refl _) hal e1, ?_, fun q hq _ => ?_⟩, hW, [] ++ L, hsame, fun q hq => hf _ (hL q (by simpa using hq))⟩
  · show s.heap.size ≤ T'.heap.size
    rw [e1]; rw [h0] at hz; exact hz
  · show T'.heap[q]? = s.heap[q]?
    rw [e1]
    have h9 := hk q (by rw [h0]; exact hq) (fun z => z)
    rw [h0] at h9
    exact h9
/-- the search gives a handler, at tables that it may have warmed -/
def th_Finds (e : Env) (s : State) (f : JFrame) (a : Addr) (pc : Nat) (vm' : Vm) : Prop :=
  ∀ (Q : Handler → Jvm.Pre) (E : Jvm.CtlPost) (d : Bool) (acts : List Action), Jvm.Sem.wp (findHandler f a) Q E e d acts s ↔ Q (.found pc) d acts (s.setVm vm')
theorem th_go {E : Jvm.CtlPost} {e : Env} {d : Bool} {acts : List Action} {t0 : State} {f : JFrame} {a : Addr} {Q : Handler → Jvm.Pre} {x : ExceptionTableEntry} {t : List ExceptionTableEntry} {cC : ClassId} {cell : Cell} {vm' : Vm} (hx : covers x f.pc = true) (h0 : x.catchType ≠ 0)
    (hg : (Jvm.resolveClass f.method.cls x.catchType).Gives e.toSetting t0.vm (.ok cC) vm') (hsz : vm'.classes.size ≤ t0.vm.classes.size) (hcell : t0.heap[a]? = some cell) (hobj : ∀ k, cell.vm ≠ .statics k) (hk : ∃ k, vm'.classes[cell.cls]? = some k) (hc : ∃ k, vm'.classes[cC]? = some k) :
    Jvm.Sem.wp (findHandler.go f a (x :: t)) Q E e d acts t0 ↔ if vm'.assignable cell.cls cC = true then Q (.found x.handlerPc) d acts (t0.setVm vm') else Jvm.Sem.wp (findHandler.go f a t) Q E e d acts (t0.setVm vm') := by
  simp only [covers] at hx
  obtain ⟨ha, ht⟩ := hg.op (op := VmOp.resolveClass f.method.cls x.catchType) rfl
  cases hfit : vm'.assignable cell.cls cC <;> simp [findHandler.go, hx, h0, ha, ht, hsz, hcell, hobj, hk, hc, hfit, VmOp.dirties, VmOp.acts]
theorem th_step {e : Env} {s : State} {a : Addr} {f : JFrame} {r : List Frame} {pc : Nat} {vm' : Vm} (hfind : th_Finds e s f a pc vm') :
    (stepThrowing e s a (.java f :: r)).Is ((s.setVm vm').setFrames (.java { f with pc := pc, stack := [.ref a] } :: r)) [] := by
  simp only [stepThrowing, searchFrame, vmDo]
  generalize hr : Sem.go _ e false [] s = res
  obtain ⟨as, rfl, ha⟩ := Sem.eq_ok_of hr (a := Handler.found pc) (s' := s.setVm vm') (acts' := []) (by simp [hfind _ _ _ _])
  exact ⟨rfl, ha⟩
theorem th_caught {tb : Tables} {e : Env} {s target : State} {g : JFrame} {c : Code} {below : List Frame} {a : Addr} {pc : Nat} {vm' : Vm} (h : At s g.method c below) (hfind : th_Finds e ((s.setTop g).pushFrame (.throwing a)) g a pc vm')
    (hrest : Steps tb e below ((s.setVm vm').setTop { g with pc := pc, stack := [.ref a] }) target) :
    Steps tb e below ((s.setTop g).pushFrame (.throwing a)) target := by
  obtain ⟨hgo, hw⟩ := h.throwing a
  refine Steps.head hgo hw ?_
  rw [stepThread_throwing (frames_entered h.top _), (th_step (s := (s.setTop g).pushFrame (.throwing a)) hfind).1]
  obtain ⟨g₀, hg⟩ := Option.isSome_iff_exists.mp h.top
  obtain ⟨r, hr⟩ := State.topJava?_eq_some.mp hg
  have hr' : (s.setVm vm').frames = .java g₀ :: r := hr
  rw [State.setTop_of_frames _ hr'] at hrest
  rw [State.pushFrame, State.setTop_of_frames _ hr, hr]
  have e1 : (((s.setFrames (.java g :: r)).setFrames (.throwing a :: (s.setFrames (.java g :: r)).frames)).setVm vm').setFrames (.java { g with pc := pc, stack := [.ref a] } :: r) = (s.setVm vm').setFrames (.java { g with pc := pc, stack := [.ref a] } :: r) := by
    rw [State.setFrames_setFrames]
    show ((s.setVm vm').setFrames _).setFrames _ = _
    rw [State.setFrames_setFrames]
  exact e1 ▸ hrest
/-- the table's entries ahead of the one that takes a C don't take it -/
def th_Tab (args : Array Value) (s : State) (own C : String) (pc hpc : Nat) : List (Nat × Nat × Nat × Nat) → Prop
  | [] => False
  | (a, b, h, t) :: r => (a ≤ pc ∧ pc < b ∧ t ≠ 0) ∧ ∃ D : String, (Cond.classLink own t D).before args s = true ∧ ((D = C ∧ h = hpc) ∨ (va_Nc C D s ∧ th_Tab args s own C pc hpc r))
theorem th_finds_go {own C : String} {pc hpc : Nat} (hadm : l.admits e) (hown : s.vm.findClass own = some m.cls) {ce : Cell} {x : Addr} (hstat : ce.vm.isStatics = false) (hC : s.vm.findClass C = some ce.cls) (hself : s.vm.assignable ce.cls ce.cls = true) {f : JFrame} (hfm : f.method = m) (hfp : f.pc = pc) : ∀ (tab : List (Nat × Nat × Nat × Nat)), th_Tab args s own C pc hpc tab → ∀ (t0 : State), s.WarmedH t0.vm → t0.heap[x]? = some ce →
    ∃ vm', s.WarmedH vm' ∧ ∀ (Q : Handler → Jvm.Pre) (E : Jvm.CtlPost) (d : Bool) (acts : List Action), Jvm.Sem.wp (findHandler.go f x (tableOf tab)) Q E e d acts t0 ↔ Q (.found hpc) d acts (t0.setVm vm') := by
  intro tab
  induction tab with
  | nil => intro h; exact h.elim
  | cons q r ih =>
    obtain ⟨a, b, hh, t⟩ := q
    intro hT t0 hW hce
    obtain ⟨⟨h1, h2, h3⟩, D, hcl, hd⟩ := hT
    have hpl : e.platform.magicAccessors = ({} : Platform).magicAccessors := by rw [hadm.platform]
    obtain ⟨cD, hfD, hlinks⟩ := Cond.classLink_spec hown hcl e.platform hpl
    obtain ⟨hg, hwarm, -⟩ := State.classEntry (e := e) hW hlinks
    have hal := hwarm.alike
    have hsz : (t0.vm.noted m.cls t (.cls cD)).classes.size ≤ t0.vm.classes.size := Nat.le_of_eq (by simp)
    generalize t0.vm.noted m.cls t (.cls cD) = vm1 at hg hwarm hal hsz
    have hkD : ∃ k, vm1.classes[cD]? = some k := Vm.classAt_of_findClass (name := D) (by rw [hal.findClass]; exact hfD)
    have hkC : ∃ k, vm1.classes[ce.cls]? = some k := Vm.classAt_of_findClass (name := C) (by rw [hal.findClass]; exact hC)
    have hgo := fun (Q : Handler → Jvm.Pre) (E : Jvm.CtlPost) (d : Bool) (acts : List Action) => th_go (E := E) (d := d) (acts := acts) (Q := Q) (e := e) (t0 := t0) (a := x) (t := tableOf r) (x := ⟨a, b, hh, t⟩) (f := f) (by simp [covers, hfp, h1, h2]) h3 (by rw [hfm]; exact hg) hsz hce (VmData.ne_statics_of hstat) hkC hkD
    rcases hd with ⟨rfl, rfl⟩ | ⟨hn, hr⟩
    · have hcc : cD = ce.cls := Option.some.inj (hfD.symm.trans hC)
      subst hcc
      refine ⟨vm1, hwarm, fun Q E d acts => (hgo Q E d acts).trans ?_⟩
      rw [if_pos (by rw [hal.assignable]; exact hself)]
    · obtain ⟨vm', hw', hih⟩ := ih hr (t0.setVm vm1) hwarm hce
      obtain ⟨c0, d0, g1, g2, g3⟩ := hn
      cases hC.symm.trans g1
      cases hfD.symm.trans g2
      refine ⟨vm', hw', fun Q E d acts => (hgo Q E d acts).trans ?_⟩
      rw [if_neg (by rw [hal.assignable, g3]; decide)]
      exact hih Q E d acts
/-- the call throws a C, and the table's entry for it goes on at hpc -/
theorem th_catch {own C : String} {tab : List (Nat × Nat × Nat × Nat)} {hpc mc ms pc : Nat} {free : Addr → Prop} {A0 A1 : Nat → Prop} {H0 : Heap} {Qa : State → Addr → State → Prop} {ls : Array Slot} {st0 rest : List Value}
    (hr : th_Run p l e R s m args below meth c H locs cells slots mc ms (F0 m pc ls st0) rest Qa free) (hown : s.vm.findClass own = some m.cls) (htab : c.exceptionTable.toList = tableOf tab) (hT : th_Tab args s own C pc hpc tab)
    (hI : ∀ st x t, Qa st x t → th_Is C st x t ∧ va_F A1 st t) (hS : va_S A0 H0 H locs) (hA : ∀ q, q < H.size → A1 q → A0 q) (hf : ∀ q, free q → A0 q)
    (kk : ∀ (x : Addr) (st₀ t : State) (H1 : Heap) (locs1 : List Loc), t.heap = H1 → s.vm.Alike t.vm → st₀.heap = H → Qa st₀ x t → H.size ≤ H1.size → (∀ q : Nat, q < H.size → ¬ A1 q → H1[q]? = H[q]?) → va_S A0 H0 H1 locs1 → W p l e R s m args below meth c H1 locs1 (cells + mc) (slots + ms) Q (F0 m hpc ls [.ref x])) :
    W p l e R s m args below meth c H locs cells slots Q (F0 m pc ls st0) := by
  intro T hT0 X
  obtain ⟨x, st₀, t, T', L, h0, hal, X', hL, e1, e2, hqa, st⟩ := hr T hT0 X
  obtain ⟨⟨hx1, ce, hx2, hx3, hx4, hx5⟩, hz, hk⟩ := hI _ _ _ hqa
  rw [h0] at hz hk
  obtain ⟨vm', hw', hfind⟩ := th_finds_go (args := args) X.admits hown hx3 (by rw [← hal.findClass]; exact hx4) (by rw [← hal.assignable]; exact hx5) (f := F0 m pc ls rest) rfl rfl tab hT ((T'.setTop (F0 m pc ls rest)).pushFrame (.throwing x)) X'.warmed (by show T'.heap[x]? = _; rw [e1]; exact hx2)
  have hF : th_Finds e ((T'.setTop (F0 m pc ls rest)).pushFrame (.throwing x)) (F0 m pc ls rest) x hpc vm' := fun Q E d acts => (Jvm.W.findHandler_eq (meth := meth) (code := c) X'.method' X'.code).trans (by rw [htab]; exact hfind Q E d acts)
  have X2 := X'.noted hw'
  obtain ⟨t2, a1, b1⟩ := kk x st₀ t T'.heap (locs ++ L) e1.symm (by rw [← e2]; exact X'.warmed.alike) h0 hqa (by rw [e1]; exact hz) (fun q h1 h2 => by rw [e1]; exact hk q h1 h2)
    ⟨Nat.le_trans hS.1 (by rw [e1]; exact hz), fun q h1 h2 => by rw [e1, hk q (Nat.lt_of_lt_of_le h1 hS.1) (fun z => h2 (hA q (Nat.lt_of_lt_of_le h1 hS.1) z))]; exact hS.2.1 q h1 h2, fun q hq => by
      rcases List.mem_append.mp hq with h | h
      · exact hS.2.2 q h
      · exact hf _ (hL q h)⟩ (T'.setVm vm') rfl X2
  exact ⟨t2, st.trans (th_caught (g := F0 m pc ls rest) X'.here hF a1), b1⟩
/-- a method with a table of handlers that returns -/
theorem th_ofWw {y : MethodName} {ws ws' : List Cond} {rm : Room} {Pc : Array Value → State → Prop} {Qc : Array Value → State → Outcome → State → Prop} {mc ms : Nat} {free : Addr → Prop} {cc : ByteArray} {maxL : Nat} {ret : Option FieldType} {tab : List (Nat × Nat × Nat × Nat)}
    (hy : plainName y.cls = true) (hw : ws = Cond.codeWith y cc maxL ret tab :: ws')
    (body : ∀ p e s m args below meth c s₁, BodyLoose p l y (headSpec ws rm) cc maxL ret e s m args below meth c s₁ → c.maxLocals = maxL → c.exceptionTable.toList = tableOf tab → Pc args s →
      W p l e (headSpec ws rm).room s m args below meth c s.heap [] 0 0 (MQ below Qc args s mc ms free) (entryFrame m args maxL)) : Met l y ws rm Pc Qc mc ms free := by
  refine MetFree.of_bodyS (code := cc) (maxLocals := maxL) (ret := ret) hy ?_ ?_
  · intro args s m h hn
    obtain ⟨m', meth, c, hn', h1, h2, h3, h4, -, h5, h6, -⟩ := Cond.codeWith_spec (atoms_spec (ws := ws) h _ (by rw [hw]; exact List.mem_cons_self))
    cases hn.symm.trans hn'
    exact ⟨meth, c, h1, h2, h3, h4, h5, h6⟩
  · intro p e s m args below meth c s₁ B hml hP _
    have hh0 : s₁.heap = s.heap := by rw [B.state]; rfl
    obtain ⟨m', meth', c', hn', h1, h2, -, -, ht, -, -, -⟩ := Cond.codeWith_spec (atoms_spec (ws := ws) B.pre _ (by rw [hw]; exact List.mem_cons_self))
    cases B.named.symm.trans hn'
    cases B.method.symm.trans h1
    cases (Stand.of_body B).code.symm.trans h2
    obtain ⟨t, a1, o, b1, b2, b3⟩ := body p e s m args below meth c s₁ B hml (by rw [← ht, table_eq]) hP s₁ hh0 (Stand.of_body B)
    exact ⟨t, o, a1, b1, b2, ⟨b3.1, b3.2⟩⟩
/-- a call of a static method with a table of handlers -/
theorem th_runSw {y : MethodName} {bytes cc : ByteArray} {maxL nL mc ms n index : Nat} {ret : Option FieldType} {ws ws' : List Cond} {rm : Room} {Pc : Array Value → State → Prop} {Qc : Array Value → State → Outcome → State → Prop} {free : Addr → Prop} {Ts : List Cond} {own : String} {As rest : List Value} {g : JFrame} {tab : List (Nat × Nat × Nat × Nat)}
    (S : CallFix p m c cc nL s args Ts own) (hM : Met l y ws rm Pc Qc mc ms free) (hG : GoodIn Ts ws) (hw : ws = Cond.codeWith y bytes maxL ret tab :: ws') (hrc : rm.cells = mc) (hrs : rm.slots = ms)
    (hini : (Cond.initialized y.cls).before args s = true) (hl : (Cond.methodLink own index y).before args s = true) (hstat : (Cond.static y).before args s = true)
    (hd : y.cls ≠ "java/lang/invoke/MethodHandle" ∧ y.cls ≠ "java/lang/invoke/VarHandle" ∧ (parseMethodDescriptor y.desc).map (fun d => d.parameters.length) = some n) (hR : rm.frames + 1 ≤ R.frames ∧ 8 + (maxL + 11) + rm.locals ≤ R.locals)
    (hp : PreS s H Pc As) (hg : g.method = m) (hn : As.length = n) (hsize : g.locals.size = nL) (hstack : g.stack = As.reverse ++ rest) (hW : 2 * g.monitorRoom + (rest.map fun v => v.category).sum ≤ 8) (hdg : decode cc g.pc = .ok (.invokestatic index, 3)) (hf : cells + mc ≤ R.cells ∧ slots + ms ≤ R.slots) :
    va_Run p l e R s m args below meth c H locs cells slots mc ms g rest (Qc As.toArray) free := by
  obtain ⟨hx, hb, hml, ho, hts⟩ := S
  have hws := pay_in hts hG
  have hcw : Cond.codeWith y bytes maxL ret tab ∈ ws := by rw [hw]; exact List.mem_cons_self
  have hK : Back l R p e below s args y 3 8 (PreOf R mc ms Pc) (PostOf Qc mc ms free) := by
    refine Back.of_freeWith (handlers := tab) (S := headSpec ws rm) (P := Pc) (K := fun _ _ _ _ _ => True) (Q := fun a st o t => Qc a st o t ∧ ∃ L, FrameEnd st o t L mc ms ∧ ∀ q ∈ L, free q.base) (bytes := bytes) (maxL := maxL) (ret := ret)
      (E := fun a st o t L k n => k = mc ∧ n = ms ∧ ∀ q ∈ L, free q.base) hM hR.1 hR.2 ?_ ?_ (fun _ _ _ _ _ _ _ _ _ => trivial) ?_ ?_
    · intro m meth c A a X hp
      exact ⟨atoms_intro fun w hw => hws w hw _ _ X.warmed, hws _ hcw _ _ X.warmed, word_at X.warmed (Or.inl (by first | rfl | simp [Cond.onTables, Cond.keeps, Cond.steady])) hini, by rw [show (headSpec ws rm).room.cells = mc from hrc]; exact hp.1, by rw [show (headSpec ws rm).room.slots = ms from hrs]; exact hp.2.1⟩
    · intro m meth c A a g mk X hp9
      exact hp.1 _ _ _ _ hp9.2.2
    · intro a st o t ⟨hq, L, hF, hL⟩
      exact ⟨L, mc, ms, hF, rfl, rfl, hL⟩
    · intro m meth c A a g mk v t L k n X hp hq hF ⟨e1, e2, hL⟩
      subst e1; subst e2
      exact ⟨g, mk, t, L, rfl, rfl, hq.1, rfl, hL, rfl, rfl⟩
  obtain ⟨mk, methM, cM, hnamed, hmethM, -, -, -, -, -, -, hsigM⟩ := Cond.codeWith_spec (hts _ (hG _ hcw).1)
  have hstatic : methM.isStatic = true := Cond.static_spec hnamed hmethM hstat
  obtain ⟨kP, hkP, -⟩ := className_of_methodNamed hnamed
  have hinitP : kP.init = .initialized := Cond.initialized_spec (findClass_of_methodNamed hnamed) hkP hini
  have hlen : n = methM.sig.parameters.length := by
    have h2 := hd.2.2
    rw [hsigM] at h2
    exact (Option.some.inj h2).symm
  intro T hT X
  subst hb
  obtain ⟨vm₁, X₁, hstep₁⟩ := X.invokestatic hx ho hl hnamed hmethM hstatic hkP hinitP ⟨hd.1, hd.2.1⟩ (g := g) hg (argsL := As) (rest := rest) (hn.trans hlen) hstack hdg
  obtain ⟨v, ⟨U', l2, c2, s2⟩, X', ⟨g', mk', t, L, e1, e2, hq, h1, hL, h2, h3⟩, st⟩ := hK m meth c ⟨T.setVm vm₁, locs, cells, slots⟩ { g with stack := rest } (.invokestatic index) mk As.toArray X₁ hg (hsize.trans hml.symm) hdg hW (X₁.named hnamed) ⟨hf.1, hf.2, hp.2 (T.setVm vm₁) hT X₁.warmed⟩
  dsimp only [Pt.U, Pt.locs, Pt.cells, Pt.slots] at X' e1 e2 h1 h2 h3 st
  subst h1; subst h2; subst h3
  exact ⟨v, (T.setVm vm₁).calling g' mk' As.toArray, t, U', L, hT, X', hL, e1, e2, hq, fun target h => hstep₁ _ fun acts => by rw [doInvoke_state]; exact st.trans h⟩
def vx_L (C n d : String) (A : Nat → Prop) (U : State) (H : Heap) : Prop := ∃ (c : ClassId) (k : Class) (i : Nat) (f : Field) (a : Nat) (cell : Cell), U.vm.findClass C = some c ∧ U.fieldFound? C n d = some (c, k, i, f) ∧ f.isStatic = true ∧ k.statics = some a ∧ H[a]? = some cell ∧ cell.vm.isStatics = true ∧ cell.cls = c ∧ f.slot < cell.slots.size ∧ k.staticTypes[f.slot]? = some f.type ∧ ¬ A a
theorem vx_L.moved {C n d : String} {A : Nat → Prop} {u U : State} {H : Heap} (hvm : u.vm.Alike U.vm) (h : vx_L C n d A u H) : vx_L C n d A U H := by
  obtain ⟨c, k, i, f, a, cell, h1, h2, h3, h4, h5, h6, h7, h8, h9, h10⟩ := h
  obtain ⟨k', hi', he⟩ := State.fieldFound?_setVm hvm h2
  exact ⟨c, k', i, f, a, cell, by rw [hvm.findClass]; exact h1, hi', h3, by rw [he]; exact h4, h5, h6, h7, h8, by rw [he]; exact h9, h10⟩
theorem vx_L.kept {C n d : String} {A : Nat → Prop} {U : State} {H H1 : Heap} (h : vx_L C n d A U H) (hq : ∀ a : Nat, a < H.size → ¬ A a → H1[a]? = H[a]?) : vx_L C n d A U H1 := by
  obtain ⟨c, k, i, f, a, cell, h1, h2, h3, h4, h5, h6, h7, h8, h9, h10⟩ := h
  exact ⟨c, k, i, f, a, cell, h1, h2, h3, h4, by rw [hq a (Array.getElem?_eq_some_iff.mp h5).1 h10]; exact h5, h6, h7, h8, h9, h10⟩
theorem vx_L.narrow {C n d : String} {A B : Nat → Prop} {U : State} {H : Heap} (h : vx_L C n d A U H) (hAB : ∀ q, B q → A q) : vx_L C n d B U H := by
  obtain ⟨c, k, i, f, a, cell, h1, h2, h3, h4, h5, h6, h7, h8, h9, h10⟩ := h
  exact ⟨c, k, i, f, a, cell, h1, h2, h3, h4, h5, h6, h7, h8, h9, fun z => h10 (hAB _ z)⟩
theorem vx_L.word {C n d : String} {A : Nat → Prop} {s : State} {args : Array Value} (h : vx_L C n d A s s.heap) : (Cond.laysStatic C n d).before args s = true := by
  obtain ⟨c, k, i, f, a, cell, h1, h2, h3, h4, h5, h6, h7, h8, h9, -⟩ := h
  show (Cond.laysStatic C n d).holds args s none s [] = true
  exact Cond.laysStatic_of h1 h2 h3 h4 h5 h6 h7 h8 h9
/-- .. and what it holds: null or some reference -/
def vx_Zq (C n d : String) (A : Nat → Prop) (U : State) (H : Heap) : Prop := va_Zq C n d A U H ∧ vx_L C n d A U H
theorem vx_Zq.moved {C n d : String} {A : Nat → Prop} {u U : State} {H : Heap} (hvm : u.vm.Alike U.vm) (h : vx_Zq C n d A u H) : vx_Zq C n d A U H := ⟨va_Zq.moved hvm h.1, vx_L.moved hvm h.2⟩
theorem vx_Zq.kept {C n d : String} {A : Nat → Prop} {U : State} {H H1 : Heap} (h : vx_Zq C n d A U H) (hq : ∀ a : Nat, a < H.size → ¬ A a → H1[a]? = H[a]?) : vx_Zq C n d A U H1 := ⟨va_Zq.kept h.1 hq, vx_L.kept h.2 hq⟩
theorem vx_Zq.narrow {C n d : String} {A B : Nat → Prop} {U : State} {H : Heap} (h : vx_Zq C n d A U H) (hAB : ∀ q, B q → A q) : vx_Zq C n d B U H := ⟨va_Zq.narrow h.1 hAB, vx_L.narrow h.2 hAB⟩
theorem vx_Zqof {args : Array Value} {s : State} {C n d : String} {A : Nat → Prop} (hl : (Cond.laysStatic C n d).before args s = true) (hini : (Cond.initialized C).before args s = true) (h : (Cond.isRef (.static C n d)).before args s = true) (hA : ∀ a : Nat, a < s.heap.size → ¬ A a) : vx_Zq C n d A s s.heap := by
  refine ⟨va_Zqof hl hini h hA, ?_⟩
  obtain ⟨c, k, i, f, a, cell, h1, h2, h3, h4, h5, h6, h7, h8, h9⟩ := Cond.laysStatic_spec hl
  exact ⟨c, k, i, f, a, cell, h1, h2, h3, h4, h5, h6, h7, h8, h9, hA a (Array.getElem?_eq_some_iff.mp h5).1⟩
theorem vx_isRef {C n d : String} {v : Value} {A : Nat → Prop} {s : State} {args : Array Value} (h : va_Z C n d v A s s.heap) (hv : v.isRef = true) : (Cond.isRef (.static C n d)).before args s = true := by
  obtain ⟨cf, kf, fi, f, a, cell, h1, h2, h3, h4, h5, h6, h7, -⟩ := h
  have he : (Term.static C n d).eval args s none [] s = some v := by
    simp [Term.eval, State.fieldNamed?, h1, h2, h4, h5, h6, h7]
  simp only [Cond.before, Cond.holds, Cond.value, he]
  cases v <;> simp_all [Value.isRef]
theorem vx_isRefq {C n d : String} {A : Nat → Prop} {s : State} {args : Array Value} (h : va_Zq C n d A s s.heap) : (Cond.isRef (.static C n d)).before args s = true := by
  rcases h with h | ⟨t, h⟩
  · exact vx_isRef h rfl
  · exact vx_isRef h rfl
/-- words that the tables alone decide, but that aren't among the good ones -/
def th_bad : List Cond := [.declares (Bundle.init0 "java/lang/RuntimeException"), .declares (Bundle.init0 "java/lang/Exception"), .declares (Bundle.init0 Bundle.tN), .castable "java/lang/IllegalStateException" "java/lang/IllegalStateException", .castable "java/lang/IllegalArgumentException" "java/lang/IllegalArgumentException", .castable "java/lang/IndexOutOfBoundsException" "java/lang/IndexOutOfBoundsException", .castable "java/util/NoSuchElementException" "java/util/NoSuchElementException"]
theorem th_bad_ok : ∀ w ∈ th_bad, w.onTables = true ∧ w.keepsFace = true := by decide
theorem th_face {args a' : Array Value} {s U : State} {w : Cond} (hW : s.WarmedH U.vm) (h1 : w.onTables = true) (h2 : w.keepsFace = true) (h : w.before args s = true) : w.before a' U = true :=
  va_tabs (u := s.setVm U.vm) h1 rfl (Cond.before_shiftedFace (State.Shifted.of_warmed hW) _ h2 h)
def th_N (U : State) : Prop := (∀ w ∈ th_bad, w.before #[] U = true) ∧ va_AO "DraftTree$State" U ∧ va_Nc "java/lang/IndexOutOfBoundsException" "java/lang/IllegalArgumentException" U
theorem th_N.warm {s U : State} (hW : s.WarmedH U.vm) (h : th_N s) : th_N U := ⟨fun w hw => th_face hW (th_bad_ok w hw).1 (th_bad_ok w hw).2 (h.1 w hw), va_AO.moved hW.alike h.2.1, va_Nc.moved hW.alike h.2.2⟩
theorem th_N.calling {U : State} {g : JFrame} {mk : MethodId} {a : Array Value} (h : th_N U) : th_N (U.calling g mk a) := ⟨fun w hw => va_tabs (u := U) (th_bad_ok w hw).1 rfl (h.1 w hw), va_AO.moved (u := U) (U := U.calling g mk a) (Vm.Alike.refl U.vm) h.2.1, va_Nc.moved (u := U) (U := U.calling g mk a) (Vm.Alike.refl U.vm) h.2.2⟩
/-- what a throw needs of the start: the two statics of Throwable hold references, and words of the tables -/
def th_Zs (U : State) : Prop := vx_Zq Bundle.tN "UNASSIGNED_STACK" Bundle.steD (fun _ => False) U U.heap ∧ vx_Zq Bundle.tN "SUPPRESSED_SENTINEL" Bundle.listD (fun _ => False) U U.heap ∧ th_N U
def th_ZA (A : Nat → Prop) (s : State) : Prop := vx_Zq Bundle.tN "UNASSIGNED_STACK" Bundle.steD A s s.heap ∧ vx_Zq Bundle.tN "SUPPRESSED_SENTINEL" Bundle.listD A s s.heap ∧ th_N s
theorem th_Zs.calling {U : State} {g : JFrame} {mk : MethodId} {a : Array Value} (h : th_Zs U) : th_Zs (U.calling g mk a) :=
  ⟨vx_Zq.moved (u := U) (U := U.calling g mk a) (Vm.Alike.refl U.vm) h.1, vx_Zq.moved (u := U) (U := U.calling g mk a) (Vm.Alike.refl U.vm) h.2.1, h.2.2.calling⟩
theorem th_Zs.same {s U : State} (h : th_Zs s) (hU : U.heap = s.heap) (hW : s.WarmedH U.vm) : th_Zs U := by
  refine ⟨?_, ?_, h.2.2.warm hW⟩
  · rw [hU]; exact vx_Zq.moved hW.alike h.1
  · rw [hU]; exact vx_Zq.moved hW.alike h.2.1
theorem th_ZA.of {A : Nat → Prop} {s U : State} {H : Heap} {locs : List Loc} (h : th_ZA A s) (hS : va_S A s.heap H locs) (hU : U.heap = H) (hW : s.WarmedH U.vm) : th_Zs U := by
  refine ⟨?_, ?_, h.2.2.warm hW⟩
  · rw [hU]; exact vx_Zq.moved hW.alike ((h.1.kept hS.2.1).narrow (fun _ z => z.elim))
  · rw [hU]; exact vx_Zq.moved hW.alike ((h.2.1.kept hS.2.1).narrow (fun _ z => z.elim))
/-- the words of a throw: the good ones, four of the heap, and those of th_bad -/
theorem th_atoms {args : Array Value} {s : State} (hZ : th_Zs s) {L : List Cond} (h : ∀ w ∈ L, w.before args s = true ∨ w = .isRef (.static Bundle.tN "UNASSIGNED_STACK" Bundle.steD) ∨ w = .isRef (.static Bundle.tN "SUPPRESSED_SENTINEL" Bundle.listD) ∨ w = .laysStatic Bundle.tN "UNASSIGNED_STACK" Bundle.steD ∨ w = .laysStatic Bundle.tN "SUPPRESSED_SENTINEL" Bundle.listD ∨ w ∈ th_bad) : ∀ w ∈ L, w.before args s = true := by
  intro w hw
  rcases h w hw with h | rfl | rfl | rfl | rfl | h
  · exact h
  · exact vx_isRefq hZ.1.1
  · exact vx_isRefq hZ.2.1.1
  · exact hZ.1.2.word
  · exact hZ.2.1.2.word
  · exact va_tabs (th_bad_ok w h).1 rfl (hZ.2.2.1 w h)
end ThrowKit
section WalkKit
variable {p : Program} {l : Launch} {e : Env} {R : Room} {s : State} {m : MethodId} {args : Array Value} {below : List Frame} {meth : Method} {c : Code} {H : Heap} {locs : List Loc} {cells slots : Nat} {Q : State → Prop}
theorem wk_top {v w : Value} {pc : Nat} {ls : Array Slot} {rest : List Value} (h : v = w) (k : W p l e R s m args below meth c H locs cells slots Q (F0 m pc ls (w :: rest))) : W p l e R s m args below meth c H locs cells slots Q (F0 m pc ls (v :: rest)) := by
  subst h
  exact k
theorem wk_in {x : Int32} {n : Nat} (h : decide (x < 0 ∨ n ≤ x.toNatClampNeg) = false) : vp_in x n := of_decide_eq_false h
theorem wk_eq {x c : Int32} (n : Int) (hc : c.toInt = n) : x = c ↔ x.toInt = n := by subst hc; exact Int32.toInt_inj.symm
theorem wk_qe {x c : Int32} (n : Int) (hc : c.toInt = n) : c = x ↔ x.toInt = n := by subst hc; exact ⟨fun h => by rw [h], fun h => (Int32.toInt_inj.mp h).symm⟩
theorem wk_lt {x c : Int32} (n : Int) (hc : c.toInt = n) : x < c ↔ x.toInt < n := by subst hc; exact Int32.lt_iff_toInt_lt
theorem wk_gt {x c : Int32} (n : Int) (hc : c.toInt = n) : c < x ↔ x.toInt > n := by subst hc; exact Int32.lt_iff_toInt_lt
theorem wk_le {x c : Int32} (n : Int) (hc : c.toInt = n) : x ≤ c ↔ x.toInt ≤ n := by subst hc; exact Int32.le_iff_toInt_le
theorem wk_ge {x c : Int32} (n : Int) (hc : c.toInt = n) : c ≤ x ↔ x.toInt ≥ n := by subst hc; exact Int32.le_iff_toInt_le
theorem wk_and31 (x : Int32) : ∃ z : Int32, x &&& 31 = z ∧ 0 ≤ z.toInt ∧ z.toInt ≤ 31 := by
  obtain ⟨j, hj, h⟩ := pk_andE x (m := 31) 5 (by decide)
  refine ⟨nI j, h, ?_⟩
  rw [nI_toInt (by omega)]
  omega
end WalkKit
end
section
abbrev R_D : String := "DraftTree"
def F_D : u_T := fun k => match k with
  | 0 => ("DraftTree", "slip", "[C", true)
  | 1 => ("DraftTree", "slipSize", "I", false)
  | 2 => ("DraftTree", "states", "[LDraftTree$State;", true)
  | 3 => ("DraftTree", "stateCount", "I", false)
  | 4 => ("DraftTree", "present", "I", false)
  | 5 => ("DraftTree", "text", "[C", false)
  | 6 => ("DraftTree", "cursor", "I", false)
  | 7 => ("DraftTree", "mark", "I", false)
  | 8 => ("DraftTree", "reader", "LDraftTree$PatternReader;", true)
  | 9 => ("DraftTree", "pattern", "LDraftTree$Automaton;", false)
  | 10 => ("DraftTree", "hasPattern", "Z", false)
  | 11 => ("DraftTree", "latestFault", "I", false)
  | 12 => ("DraftTree", "matchStarts", "[I", true)
  | _ => ("DraftTree", "matchEnds", "[I", true)
def t_D : Nat → FieldType := fun k => match k with
  | 0 => .array .char
  | 1 => .int
  | 2 => .array (.object "DraftTree$State")
  | 3 => .int
  | 4 => .int
  | 5 => .array .char
  | 6 => .int
  | 7 => .int
  | 8 => .object "DraftTree$PatternReader"
  | 9 => .object "DraftTree$Automaton"
  | 10 => .boolean
  | 11 => .int
  | 12 => .array .int
  | _ => .array .int
theorem n_D : ∀ a, a < 14 → ∀ b, b < 14 → a ≠ b → (F_D a).2.1 ≠ (F_D b).2.1 := by decide +kernel
theorem tk_D : ∀ k, k < 14 → parseFieldDescriptor (F_D k).2.2.1 = some (t_D k) := by decide +kernel
abbrev R_S : String := "DraftTree$State"
def F_S : u_T := fun k => match k with
  | 0 => ("DraftTree$State", "text", "[C", true)
  | 1 => ("DraftTree$State", "origin", "I", true)
  | 2 => ("DraftTree$State", "place", "I", false)
  | _ => ("DraftTree$State", "latestChild", "I", false)
def t_S : Nat → FieldType := fun k => match k with
  | 0 => .array .char
  | 1 => .int
  | 2 => .int
  | _ => .int
theorem n_S : ∀ a, a < 4 → ∀ b, b < 4 → a ≠ b → (F_S a).2.1 ≠ (F_S b).2.1 := by decide +kernel
theorem tk_S : ∀ k, k < 4 → parseFieldDescriptor (F_S k).2.2.1 = some (t_S k) := by decide +kernel
abbrev R_P : String := "DraftTree$PatternReader"
def F_P : u_T := fun k => match k with
  | 0 => ("DraftTree$PatternReader", "choiceStarts", "[I", true)
  | 1 => ("DraftTree$PatternReader", "choiceEnds", "[I", true)
  | 2 => ("DraftTree$PatternReader", "rowHeads", "[I", true)
  | 3 => ("DraftTree$PatternReader", "outerTails", "[I", true)
  | 4 => ("DraftTree$PatternReader", "made", "LDraftTree$Automaton;", false)
  | 5 => ("DraftTree$PatternReader", "source", "[C", false)
  | 6 => ("DraftTree$PatternReader", "size", "I", false)
  | 7 => ("DraftTree$PatternReader", "position", "I", false)
  | 8 => ("DraftTree$PatternReader", "depth", "I", false)
  | 9 => ("DraftTree$PatternReader", "fault", "I", false)
  | 10 => ("DraftTree$PatternReader", "lead", "I", false)
  | 11 => ("DraftTree$PatternReader", "first", "I", false)
  | _ => ("DraftTree$PatternReader", "tail", "I", false)
def t_P : Nat → FieldType := fun k => match k with
  | 0 => .array .int
  | 1 => .array .int
  | 2 => .array .int
  | 3 => .array .int
  | 4 => .object "DraftTree$Automaton"
  | 5 => .array .char
  | 6 => .int
  | 7 => .int
  | 8 => .int
  | 9 => .int
  | 10 => .int
  | 11 => .int
  | _ => .int
theorem n_P : ∀ a, a < 13 → ∀ b, b < 13 → a ≠ b → (F_P a).2.1 ≠ (F_P b).2.1 := by decide +kernel
theorem tk_P : ∀ k, k < 13 → parseFieldDescriptor (F_P k).2.2.1 = some (t_P k) := by decide +kernel
abbrev R_A : String := "DraftTree$Automaton"
def F_A : u_T := fun k => match k with
  | 0 => ("DraftTree$Automaton", "kinds", "[I", true)
  | 1 => ("DraftTree$Automaton", "next", "[I", true)
  | 2 => ("DraftTree$Automaton", "other", "[I", true)
  | 3 => ("DraftTree$Automaton", "lowCodes", "[J", true)
  | 4 => ("DraftTree$Automaton", "highCodes", "[J", true)
  | 5 => ("DraftTree$Automaton", "size", "I", false)
  | 6 => ("DraftTree$Automaton", "start", "I", false)
  | 7 => ("DraftTree$Automaton", "goal", "I", false)
  | 8 => ("DraftTree$Automaton", "matchStart", "I", false)
  | _ => ("DraftTree$Automaton", "matchEnd", "I", false)
def t_A : Nat → FieldType := fun k => match k with
  | 0 => .array .int
  | 1 => .array .int
  | 2 => .array .int
  | 3 => .array .long
  | 4 => .array .long
  | 5 => .int
  | 6 => .int
  | 7 => .int
  | 8 => .int
  | _ => .int
theorem n_A : ∀ a, a < 10 → ∀ b, b < 10 → a ≠ b → (F_A a).2.1 ≠ (F_A b).2.1 := by decide +kernel
theorem tk_A : ∀ k, k < 10 → parseFieldDescriptor (F_A k).2.2.1 = some (t_A k) := by decide +kernel
abbrev R_M : String := "DraftTreeModel"
def F_M : u_T := fun k => match k with
  | 0 => ("DraftTreeModel", "code", "I", false)
  | 1 => ("DraftTreeModel", "typed", "I", false)
  | 2 => ("DraftTreeModel", "slip", "[C", true)
  | 3 => ("DraftTreeModel", "states", "I", false)
  | 4 => ("DraftTreeModel", "present", "I", false)
  | 5 => ("DraftTreeModel", "texts", "[C", true)
  | 6 => ("DraftTreeModel", "lengths", "[I", true)
  | 7 => ("DraftTreeModel", "places", "[I", true)
  | 8 => ("DraftTreeModel", "parents", "[I", true)
  | 9 => ("DraftTreeModel", "came", "[I", true)
  | 10 => ("DraftTreeModel", "clock", "I", false)
  | 11 => ("DraftTreeModel", "cursor", "I", false)
  | 12 => ("DraftTreeModel", "mark", "I", false)
  | 13 => ("DraftTreeModel", "compiled", "Z", false)
  | 14 => ("DraftTreeModel", "wrongAt", "I", false)
  | 15 => ("DraftTreeModel", "size", "I", false)
  | 16 => ("DraftTreeModel", "pattern", "[C", true)
  | 17 => ("DraftTreeModel", "nodes", "I", false)
  | 18 => ("DraftTreeModel", "kind", "[I", true)
  | 19 => ("DraftTreeModel", "from", "[I", true)
  | 20 => ("DraftTreeModel", "to", "[I", true)
  | 21 => ("DraftTreeModel", "one", "[I", true)
  | 22 => ("DraftTreeModel", "two", "[I", true)
  | 23 => ("DraftTreeModel", "first", "I", false)
  | 24 => ("DraftTreeModel", "last", "I", false)
  | 25 => ("DraftTreeModel", "pieces", "I", false)
  | 26 => ("DraftTreeModel", "head", "[I", true)
  | 27 => ("DraftTreeModel", "tail", "[I", true)
  | 28 => ("DraftTreeModel", "open", "I", false)
  | 29 => ("DraftTreeModel", "choice", "[I", true)
  | 30 => ("DraftTreeModel", "row", "[I", true)
  | 31 => ("DraftTreeModel", "part", "[I", true)
  | 32 => ("DraftTreeModel", "here", "[Z", true)
  | 33 => ("DraftTreeModel", "then", "[Z", true)
  | 34 => ("DraftTreeModel", "foundAt", "I", false)
  | 35 => ("DraftTreeModel", "foundEnd", "I", false)
  | 36 => ("DraftTreeModel", "made", "I", false)
  | _ => ("DraftTreeModel", "draft", "[C", true)
def t_M : Nat → FieldType := fun k => match k with
  | 0 => .int
  | 1 => .int
  | 2 => .array .char
  | 3 => .int
  | 4 => .int
  | 5 => .array .char
  | 6 => .array .int
  | 7 => .array .int
  | 8 => .array .int
  | 9 => .array .int
  | 10 => .int
  | 11 => .int
  | 12 => .int
  | 13 => .boolean
  | 14 => .int
  | 15 => .int
  | 16 => .array .char
  | 17 => .int
  | 18 => .array .int
  | 19 => .array .int
  | 20 => .array .int
  | 21 => .array .int
  | 22 => .array .int
  | 23 => .int
  | 24 => .int
  | 25 => .int
  | 26 => .array .int
  | 27 => .array .int
  | 28 => .int
  | 29 => .array .int
  | 30 => .array .int
  | 31 => .array .int
  | 32 => .array .boolean
  | 33 => .array .boolean
  | 34 => .int
  | 35 => .int
  | 36 => .int
  | _ => .array .char
theorem n_M : ∀ a, a < 38 → ∀ b, b < 38 → a ≠ b → (F_M a).2.1 ≠ (F_M b).2.1 := by decide +kernel
theorem tk_M : ∀ k, k < 38 → parseFieldDescriptor (F_M k).2.2.1 = some (t_M k) := by decide +kernel
abbrev R_L : String := "DraftTreeLaw"
abbrev vwCl : List vw_C := [(R_D, F_D, 14), (R_S, F_S, 4), (R_P, F_P, 13), (R_A, F_A, 10), (R_M, F_M, 38)]
abbrev y_A_addNode : MethodName := ⟨"DraftTree$Automaton", "addNode", "(I)I"⟩
abbrev y_A_init : MethodName := ⟨"DraftTree$Automaton", "<init>", "()V"⟩
abbrev y_D_at : MethodName := ⟨"DraftTree", "at", "(I)C"⟩
abbrev y_D_breaksBefore : MethodName := ⟨"DraftTree", "breaksBefore", "(I)I"⟩
abbrev y_D_compile : MethodName := ⟨"DraftTree", "compile", "()V"⟩
abbrev y_D_erase : MethodName := ⟨"DraftTree", "erase", "(I)I"⟩
abbrev y_D_fault : MethodName := ⟨"DraftTree", "fault", "()I"⟩
abbrev y_D_figure : MethodName := ⟨"DraftTree", "figure", "(I)I"⟩
abbrev y_D_find : MethodName := ⟨"DraftTree", "find", "(I)I"⟩
abbrev y_D_go : MethodName := ⟨"DraftTree", "go", "(IZ)V"⟩
abbrev y_D_init : MethodName := ⟨"DraftTree", "<init>", "()V"⟩
abbrev y_D_insert : MethodName := ⟨"DraftTree", "insert", "()I"⟩
abbrev y_D_jump : MethodName := ⟨"DraftTree", "jump", "(I)V"⟩
abbrev y_D_length : MethodName := ⟨"DraftTree", "length", "()I"⟩
abbrev y_D_line : MethodName := ⟨"DraftTree", "line", "(II)I"⟩
abbrev y_D_lineBegin : MethodName := ⟨"DraftTree", "lineBegin", "(I)I"⟩
abbrev y_D_lineSize : MethodName := ⟨"DraftTree", "lineSize", "(I)I"⟩
abbrev y_D_moveTo : MethodName := ⟨"DraftTree", "moveTo", "(I)V"⟩
abbrev y_D_parent : MethodName := ⟨"DraftTree", "parent", "(I)I"⟩
abbrev y_D_redo : MethodName := ⟨"DraftTree", "redo", "()I"⟩
abbrev y_D_replace : MethodName := ⟨"DraftTree", "replace", "()I"⟩
abbrev y_D_requirePlace : MethodName := ⟨"DraftTree", "requirePlace", "(I)V"⟩
abbrev y_D_requireState : MethodName := ⟨"DraftTree", "requireState", "(I)V"⟩
abbrev y_D_selectionEnd : MethodName := ⟨"DraftTree", "selectionEnd", "()I"⟩
abbrev y_D_selectionStart : MethodName := ⟨"DraftTree", "selectionStart", "()I"⟩
abbrev y_D_type : MethodName := ⟨"DraftTree", "type", "(C)Z"⟩
abbrev y_D_undo : MethodName := ⟨"DraftTree", "undo", "()I"⟩
abbrev y_D_wipe : MethodName := ⟨"DraftTree", "wipe", "()I"⟩
abbrev y_L_at : MethodName := ⟨"DraftTreeLaw", "at", "(LDraftTree;I[J)I"⟩
abbrev y_L_compile : MethodName := ⟨"DraftTreeLaw", "compile", "(LDraftTree;)I"⟩
abbrev y_L_erase : MethodName := ⟨"DraftTreeLaw", "erase", "(LDraftTree;I[J)I"⟩
abbrev y_L_figure : MethodName := ⟨"DraftTreeLaw", "figure", "(LDraftTree;I[J)I"⟩
abbrev y_L_find : MethodName := ⟨"DraftTreeLaw", "find", "(LDraftTree;I[J)I"⟩
abbrev y_L_go : MethodName := ⟨"DraftTreeLaw", "go", "(LDraftTree;IZ)I"⟩
abbrev y_L_insert : MethodName := ⟨"DraftTreeLaw", "insert", "(LDraftTree;[J)I"⟩
abbrev y_L_jump : MethodName := ⟨"DraftTreeLaw", "jump", "(LDraftTree;I)I"⟩
abbrev y_L_line : MethodName := ⟨"DraftTreeLaw", "line", "(LDraftTree;II[J)I"⟩
abbrev y_L_parent : MethodName := ⟨"DraftTreeLaw", "parent", "(LDraftTree;I[J)I"⟩
abbrev y_L_redo : MethodName := ⟨"DraftTreeLaw", "redo", "(LDraftTree;[J)I"⟩
abbrev y_L_replace : MethodName := ⟨"DraftTreeLaw", "replace", "(LDraftTree;[J)I"⟩
abbrev y_L_undo : MethodName := ⟨"DraftTreeLaw", "undo", "(LDraftTree;[J)I"⟩
abbrev y_M_at : MethodName := ⟨"DraftTreeModel", "at", "(I)C"⟩
abbrev y_M_behind : MethodName := ⟨"DraftTreeModel", "behind", "(II)I"⟩
abbrev y_M_breaks : MethodName := ⟨"DraftTreeModel", "breaks", "(I)I"⟩
abbrev y_M_come : MethodName := ⟨"DraftTreeModel", "come", "(I)V"⟩
abbrev y_M_compile : MethodName := ⟨"DraftTreeModel", "compile", "()V"⟩
abbrev y_M_either : MethodName := ⟨"DraftTreeModel", "either", "(II)I"⟩
abbrev y_M_endRow : MethodName := ⟨"DraftTreeModel", "endRow", "()V"⟩
abbrev y_M_erase : MethodName := ⟨"DraftTreeModel", "erase", "(I)I"⟩
abbrev y_M_fault : MethodName := ⟨"DraftTreeModel", "fault", "()I"⟩
abbrev y_M_figure : MethodName := ⟨"DraftTreeModel", "figure", "(I)I"⟩
abbrev y_M_find : MethodName := ⟨"DraftTreeModel", "find", "(I)I"⟩
abbrev y_M_go : MethodName := ⟨"DraftTreeModel", "go", "(IZ)V"⟩
abbrev y_M_good : MethodName := ⟨"DraftTreeModel", "good", "()I"⟩
abbrev y_M_high : MethodName := ⟨"DraftTreeModel", "high", "()I"⟩
abbrev y_M_init : MethodName := ⟨"DraftTreeModel", "<init>", "()V"⟩
abbrev y_M_insert : MethodName := ⟨"DraftTreeModel", "insert", "()I"⟩
abbrev y_M_isCharacter : MethodName := ⟨"DraftTreeModel", "isCharacter", "(C)Z"⟩
abbrev y_M_jump : MethodName := ⟨"DraftTreeModel", "jump", "(I)V"⟩
abbrev y_M_length : MethodName := ⟨"DraftTreeModel", "length", "()I"⟩
abbrev y_M_line : MethodName := ⟨"DraftTreeModel", "line", "(II)I"⟩
abbrev y_M_lineStart : MethodName := ⟨"DraftTreeModel", "lineStart", "(I)I"⟩
abbrev y_M_low : MethodName := ⟨"DraftTreeModel", "low", "()I"⟩
abbrev y_M_node : MethodName := ⟨"DraftTreeModel", "node", "(III)I"⟩
abbrev y_M_nothing : MethodName := ⟨"DraftTreeModel", "nothing", "()I"⟩
abbrev y_M_openGroup : MethodName := ⟨"DraftTreeModel", "openGroup", "()V"⟩
abbrev y_M_parent : MethodName := ⟨"DraftTreeModel", "parent", "(I)I"⟩
abbrev y_M_piece : MethodName := ⟨"DraftTreeModel", "piece", "(II)I"⟩
abbrev y_M_redo : MethodName := ⟨"DraftTreeModel", "redo", "()I"⟩
abbrev y_M_replace : MethodName := ⟨"DraftTreeModel", "replace", "()I"⟩
abbrev y_M_textLength : MethodName := ⟨"DraftTreeModel", "textLength", "()I"⟩
abbrev y_M_thrown : MethodName := ⟨"DraftTreeModel", "thrown", "()I"⟩
abbrev y_M_type : MethodName := ⟨"DraftTreeModel", "type", "(C)Z"⟩
abbrev y_M_undo : MethodName := ⟨"DraftTreeModel", "undo", "()I"⟩
abbrev y_M_wipe : MethodName := ⟨"DraftTreeModel", "wipe", "()I"⟩
abbrev y_P_beginRow : MethodName := ⟨"DraftTree$PatternReader", "beginRow", "(I)V"⟩
abbrev y_P_finish : MethodName := ⟨"DraftTree$PatternReader", "finish", "()V"⟩
abbrev y_P_handOver : MethodName := ⟨"DraftTree$PatternReader", "handOver", "(LDraftTree$Automaton;)LDraftTree$Automaton;"⟩
abbrev y_P_init : MethodName := ⟨"DraftTree$PatternReader", "<init>", "()V"⟩
abbrev y_P_openChoice : MethodName := ⟨"DraftTree$PatternReader", "openChoice", "(I)V"⟩
abbrev y_P_read : MethodName := ⟨"DraftTree$PatternReader", "read", "([CI)I"⟩
abbrev y_S_init : MethodName := ⟨"DraftTree$State", "<init>", "([CII)V"⟩
end
section
def wk_l : List Cond := [
  (Jvm.Cond.laysFinal "DraftTree" "DraftTree" "slip" "[C"),
  (Jvm.Cond.lays "DraftTree" "DraftTree" "slipSize" "I"),
  (Jvm.Cond.laysFinal "DraftTree" "DraftTree" "states" "[LDraftTree$State;"),
  (Jvm.Cond.lays "DraftTree" "DraftTree" "stateCount" "I"),
  (Jvm.Cond.lays "DraftTree" "DraftTree" "present" "I"),
  (Jvm.Cond.lays "DraftTree" "DraftTree" "text" "[C"),
  (Jvm.Cond.lays "DraftTree" "DraftTree" "cursor" "I"),
  (Jvm.Cond.lays "DraftTree" "DraftTree" "mark" "I"),
  (Jvm.Cond.laysFinal "DraftTree" "DraftTree" "reader" "LDraftTree$PatternReader;"),
  (Jvm.Cond.lays "DraftTree" "DraftTree" "pattern" "LDraftTree$Automaton;"),
  (Jvm.Cond.lays "DraftTree" "DraftTree" "hasPattern" "Z"),
  (Jvm.Cond.lays "DraftTree" "DraftTree" "latestFault" "I"),
  (Jvm.Cond.laysFinal "DraftTree" "DraftTree" "matchStarts" "[I"),
  (Jvm.Cond.laysFinal "DraftTree" "DraftTree" "matchEnds" "[I"),
  (Jvm.Cond.classLink "DraftTreeLaw" (8 : Nat) "DraftTree"),
  (Jvm.Cond.instantiable "DraftTree" (14 : Nat)),
  (Jvm.Cond.initialized "DraftTree"),
  (Jvm.Cond.methodLink "DraftTree" (1 : Nat) ({ cls := "java/lang/Object", name := "<init>", desc := "()V" } : Jvm.MethodName)),
  (Jvm.Cond.instanceMethod ({ cls := "java/lang/Object", name := "<init>", desc := "()V" } : Jvm.MethodName)),
  (Jvm.Cond.code ({ cls := "java/lang/Object", name := "<init>", desc := "()V" } : Jvm.MethodName) object_method_1_code (1 : Nat) (Option.none : Option Jvm.ClassFile.FieldType)),
  (Jvm.Cond.arrayClass Jvm.ClassFile.FieldType.char),
  (Jvm.Cond.fieldLink "DraftTree" (9 : Nat) "DraftTree" "slip" "[C"),
  (Jvm.Cond.classLink "DraftTree" (13 : Nat) "DraftTree$State"),
  (Jvm.Cond.fieldLink "DraftTree" (15 : Nat) "DraftTree" "states" "[LDraftTree$State;"),
  (Jvm.Cond.fieldLink "DraftTree" (19 : Nat) "DraftTree" "text" "[C"),
  (Jvm.Cond.laysFinal "DraftTree$State" "DraftTree$State" "text" "[C"),
  (Jvm.Cond.laysFinal "DraftTree$State" "DraftTree$State" "origin" "I"),
  (Jvm.Cond.lays "DraftTree$State" "DraftTree$State" "place" "I"),
  (Jvm.Cond.lays "DraftTree$State" "DraftTree$State" "latestChild" "I"),
  (Jvm.Cond.instantiable "DraftTree$State" (4 : Nat)),
  (Jvm.Cond.initialized "DraftTree$State"),
  (Jvm.Cond.methodLink "DraftTree$State" (3 : Nat) ({ cls := "java/lang/Object", name := "<init>", desc := "()V" } : Jvm.MethodName)),
  (Jvm.Cond.fieldLink "DraftTree$State" (9 : Nat) "DraftTree$State" "text" "[C"),
  (Jvm.Cond.fieldLink "DraftTree$State" (15 : Nat) "DraftTree$State" "place" "I"),
  (Jvm.Cond.fieldLink "DraftTree$State" (19 : Nat) "DraftTree$State" "origin" "I"),
  (Jvm.Cond.fieldLink "DraftTree$State" (22 : Nat) "DraftTree$State" "latestChild" "I"),
  (Jvm.Cond.code ({ cls := "DraftTree$State", name := "<init>", desc := "([CII)V" } : Jvm.MethodName) prog_4_method_1_code (4 : Nat) (Option.none : Option Jvm.ClassFile.FieldType)),
  (Jvm.Cond.methodLink "DraftTree" (22 : Nat) ({ cls := "DraftTree$State", name := "<init>", desc := "([CII)V" } : Jvm.MethodName)),
  (Jvm.Cond.instanceMethod ({ cls := "DraftTree$State", name := "<init>", desc := "([CII)V" } : Jvm.MethodName)),
  (Jvm.Cond.fieldLink "DraftTree" (25 : Nat) "DraftTree" "stateCount" "I"),
  (Jvm.Cond.fieldLink "DraftTree" (29 : Nat) "DraftTree" "mark" "I"),
  (Jvm.Cond.laysFinal "DraftTree$PatternReader" "DraftTree$PatternReader" "choiceStarts" "[I"),
  (Jvm.Cond.laysFinal "DraftTree$PatternReader" "DraftTree$PatternReader" "choiceEnds" "[I"),
  (Jvm.Cond.laysFinal "DraftTree$PatternReader" "DraftTree$PatternReader" "rowHeads" "[I"),
  (Jvm.Cond.laysFinal "DraftTree$PatternReader" "DraftTree$PatternReader" "outerTails" "[I"),
  (Jvm.Cond.lays "DraftTree$PatternReader" "DraftTree$PatternReader" "made" "LDraftTree$Automaton;"),
  (Jvm.Cond.lays "DraftTree$PatternReader" "DraftTree$PatternReader" "source" "[C"),
  (Jvm.Cond.lays "DraftTree$PatternReader" "DraftTree$PatternReader" "size" "I"),
  (Jvm.Cond.lays "DraftTree$PatternReader" "DraftTree$PatternReader" "position" "I"),
  (Jvm.Cond.lays "DraftTree$PatternReader" "DraftTree$PatternReader" "depth" "I"),
  (Jvm.Cond.lays "DraftTree$PatternReader" "DraftTree$PatternReader" "fault" "I"),
  (Jvm.Cond.lays "DraftTree$PatternReader" "DraftTree$PatternReader" "lead" "I"),
  (Jvm.Cond.lays "DraftTree$PatternReader" "DraftTree$PatternReader" "first" "I"),
  (Jvm.Cond.lays "DraftTree$PatternReader" "DraftTree$PatternReader" "tail" "I"),
  (Jvm.Cond.classLink "DraftTree" (32 : Nat) "DraftTree$PatternReader"),
  (Jvm.Cond.instantiable "DraftTree$PatternReader" (13 : Nat)),
  (Jvm.Cond.initialized "DraftTree$PatternReader"),
  (Jvm.Cond.methodLink "DraftTree$PatternReader" (3 : Nat) ({ cls := "java/lang/Object", name := "<init>", desc := "()V" } : Jvm.MethodName)),
  (Jvm.Cond.arrayClass Jvm.ClassFile.FieldType.int),
  (Jvm.Cond.fieldLink "DraftTree$PatternReader" (9 : Nat) "DraftTree$PatternReader" "choiceStarts" "[I"),
  (Jvm.Cond.fieldLink "DraftTree$PatternReader" (15 : Nat) "DraftTree$PatternReader" "choiceEnds" "[I"),
  (Jvm.Cond.fieldLink "DraftTree$PatternReader" (18 : Nat) "DraftTree$PatternReader" "rowHeads" "[I"),
  (Jvm.Cond.fieldLink "DraftTree$PatternReader" (21 : Nat) "DraftTree$PatternReader" "outerTails" "[I"),
  (Jvm.Cond.laysFinal "DraftTree$Automaton" "DraftTree$Automaton" "kinds" "[I"),
  (Jvm.Cond.laysFinal "DraftTree$Automaton" "DraftTree$Automaton" "next" "[I"),
  (Jvm.Cond.laysFinal "DraftTree$Automaton" "DraftTree$Automaton" "other" "[I"),
  (Jvm.Cond.laysFinal "DraftTree$Automaton" "DraftTree$Automaton" "lowCodes" "[J"),
  (Jvm.Cond.laysFinal "DraftTree$Automaton" "DraftTree$Automaton" "highCodes" "[J"),
  (Jvm.Cond.lays "DraftTree$Automaton" "DraftTree$Automaton" "size" "I"),
  (Jvm.Cond.lays "DraftTree$Automaton" "DraftTree$Automaton" "start" "I"),
  (Jvm.Cond.lays "DraftTree$Automaton" "DraftTree$Automaton" "goal" "I"),
  (Jvm.Cond.lays "DraftTree$Automaton" "DraftTree$Automaton" "matchStart" "I"),
  (Jvm.Cond.lays "DraftTree$Automaton" "DraftTree$Automaton" "matchEnd" "I"),
  (Jvm.Cond.classLink "DraftTree$PatternReader" (24 : Nat) "DraftTree$Automaton"),
  (Jvm.Cond.instantiable "DraftTree$Automaton" (10 : Nat)),
  (Jvm.Cond.initialized "DraftTree$Automaton"),
  (Jvm.Cond.methodLink "DraftTree$Automaton" (3 : Nat) ({ cls := "java/lang/Object", name := "<init>", desc := "()V" } : Jvm.MethodName)),
  (Jvm.Cond.fieldLink "DraftTree$Automaton" (11 : Nat) "DraftTree$Automaton" "kinds" "[I"),
  (Jvm.Cond.fieldLink "DraftTree$Automaton" (15 : Nat) "DraftTree$Automaton" "next" "[I"),
  (Jvm.Cond.fieldLink "DraftTree$Automaton" (18 : Nat) "DraftTree$Automaton" "other" "[I"),
  (Jvm.Cond.arrayClass Jvm.ClassFile.FieldType.long),
  (Jvm.Cond.fieldLink "DraftTree$Automaton" (21 : Nat) "DraftTree$Automaton" "lowCodes" "[J"),
  (Jvm.Cond.fieldLink "DraftTree$Automaton" (25 : Nat) "DraftTree$Automaton" "highCodes" "[J"),
  (Jvm.Cond.code ({ cls := "DraftTree$Automaton", name := "<init>", desc := "()V" } : Jvm.MethodName) prog_2_method_1_code (1 : Nat) (Option.none : Option Jvm.ClassFile.FieldType)),
  (Jvm.Cond.methodLink "DraftTree$PatternReader" (26 : Nat) ({ cls := "DraftTree$Automaton", name := "<init>", desc := "()V" } : Jvm.MethodName)),
  (Jvm.Cond.instanceMethod ({ cls := "DraftTree$Automaton", name := "<init>", desc := "()V" } : Jvm.MethodName)),
  (Jvm.Cond.fieldLink "DraftTree$PatternReader" (27 : Nat) "DraftTree$PatternReader" "made" "LDraftTree$Automaton;"),
  (Jvm.Cond.fieldLink "DraftTree$PatternReader" (31 : Nat) "DraftTree$PatternReader" "source" "[C"),
  (Jvm.Cond.code ({ cls := "DraftTree$PatternReader", name := "<init>", desc := "()V" } : Jvm.MethodName) prog_3_method_1_code (1 : Nat) (Option.none : Option Jvm.ClassFile.FieldType)),
  (Jvm.Cond.methodLink "DraftTree" (34 : Nat) ({ cls := "DraftTree$PatternReader", name := "<init>", desc := "()V" } : Jvm.MethodName)),
  (Jvm.Cond.instanceMethod ({ cls := "DraftTree$PatternReader", name := "<init>", desc := "()V" } : Jvm.MethodName)),
  (Jvm.Cond.fieldLink "DraftTree" (35 : Nat) "DraftTree" "reader" "LDraftTree$PatternReader;"),
  (Jvm.Cond.classLink "DraftTree" (39 : Nat) "DraftTree$Automaton"),
  (Jvm.Cond.methodLink "DraftTree" (41 : Nat) ({ cls := "DraftTree$Automaton", name := "<init>", desc := "()V" } : Jvm.MethodName)),
  (Jvm.Cond.fieldLink "DraftTree" (42 : Nat) "DraftTree" "pattern" "LDraftTree$Automaton;"),
  (Jvm.Cond.fieldLink "DraftTree" (46 : Nat) "DraftTree" "latestFault" "I"),
  (Jvm.Cond.fieldLink "DraftTree" (49 : Nat) "DraftTree" "matchStarts" "[I"),
  (Jvm.Cond.fieldLink "DraftTree" (53 : Nat) "DraftTree" "matchEnds" "[I"),
  (Jvm.Cond.code ({ cls := "DraftTree", name := "<init>", desc := "()V" } : Jvm.MethodName) prog_1_method_1_code (1 : Nat) (Option.none : Option Jvm.ClassFile.FieldType)),
  (Jvm.Cond.methodLink "DraftTreeLaw" (62 : Nat) ({ cls := "DraftTree", name := "<init>", desc := "()V" } : Jvm.MethodName)),
  (Jvm.Cond.instanceMethod ({ cls := "DraftTree", name := "<init>", desc := "()V" } : Jvm.MethodName)),
  (Jvm.Cond.lays "DraftTreeModel" "DraftTreeModel" "code" "I"),
  (Jvm.Cond.lays "DraftTreeModel" "DraftTreeModel" "typed" "I"),
  (Jvm.Cond.laysFinal "DraftTreeModel" "DraftTreeModel" "slip" "[C"),
  (Jvm.Cond.lays "DraftTreeModel" "DraftTreeModel" "states" "I"),
  (Jvm.Cond.lays "DraftTreeModel" "DraftTreeModel" "present" "I"),
  (Jvm.Cond.laysFinal "DraftTreeModel" "DraftTreeModel" "texts" "[C"),
  (Jvm.Cond.laysFinal "DraftTreeModel" "DraftTreeModel" "lengths" "[I"),
  (Jvm.Cond.laysFinal "DraftTreeModel" "DraftTreeModel" "places" "[I"),
  (Jvm.Cond.laysFinal "DraftTreeModel" "DraftTreeModel" "parents" "[I"),
  (Jvm.Cond.laysFinal "DraftTreeModel" "DraftTreeModel" "came" "[I"),
  (Jvm.Cond.lays "DraftTreeModel" "DraftTreeModel" "clock" "I"),
  (Jvm.Cond.lays "DraftTreeModel" "DraftTreeModel" "cursor" "I"),
  (Jvm.Cond.lays "DraftTreeModel" "DraftTreeModel" "mark" "I"),
  (Jvm.Cond.lays "DraftTreeModel" "DraftTreeModel" "compiled" "Z"),
  (Jvm.Cond.lays "DraftTreeModel" "DraftTreeModel" "wrongAt" "I"),
  (Jvm.Cond.lays "DraftTreeModel" "DraftTreeModel" "size" "I"),
  (Jvm.Cond.laysFinal "DraftTreeModel" "DraftTreeModel" "pattern" "[C"),
  (Jvm.Cond.lays "DraftTreeModel" "DraftTreeModel" "nodes" "I"),
  (Jvm.Cond.laysFinal "DraftTreeModel" "DraftTreeModel" "kind" "[I"),
  (Jvm.Cond.laysFinal "DraftTreeModel" "DraftTreeModel" "from" "[I"),
  (Jvm.Cond.laysFinal "DraftTreeModel" "DraftTreeModel" "to" "[I"),
  (Jvm.Cond.laysFinal "DraftTreeModel" "DraftTreeModel" "one" "[I"),
  (Jvm.Cond.laysFinal "DraftTreeModel" "DraftTreeModel" "two" "[I"),
  (Jvm.Cond.lays "DraftTreeModel" "DraftTreeModel" "first" "I"),
  (Jvm.Cond.lays "DraftTreeModel" "DraftTreeModel" "last" "I"),
  (Jvm.Cond.lays "DraftTreeModel" "DraftTreeModel" "pieces" "I"),
  (Jvm.Cond.laysFinal "DraftTreeModel" "DraftTreeModel" "head" "[I"),
  (Jvm.Cond.laysFinal "DraftTreeModel" "DraftTreeModel" "tail" "[I"),
  (Jvm.Cond.lays "DraftTreeModel" "DraftTreeModel" "open" "I"),
  (Jvm.Cond.laysFinal "DraftTreeModel" "DraftTreeModel" "choice" "[I"),
  (Jvm.Cond.laysFinal "DraftTreeModel" "DraftTreeModel" "row" "[I"),
  (Jvm.Cond.laysFinal "DraftTreeModel" "DraftTreeModel" "part" "[I"),
  (Jvm.Cond.laysFinal "DraftTreeModel" "DraftTreeModel" "here" "[Z"),
  (Jvm.Cond.laysFinal "DraftTreeModel" "DraftTreeModel" "then" "[Z"),
  (Jvm.Cond.lays "DraftTreeModel" "DraftTreeModel" "foundAt" "I"),
  (Jvm.Cond.lays "DraftTreeModel" "DraftTreeModel" "foundEnd" "I"),
  (Jvm.Cond.lays "DraftTreeModel" "DraftTreeModel" "made" "I"),
  (Jvm.Cond.laysFinal "DraftTreeModel" "DraftTreeModel" "draft" "[C"),
  (Jvm.Cond.classLink "DraftTreeLaw" (63 : Nat) "DraftTreeModel"),
  (Jvm.Cond.instantiable "DraftTreeModel" (38 : Nat)),
  (Jvm.Cond.initialized "DraftTreeModel"),
  (Jvm.Cond.methodLink "DraftTreeModel" (1 : Nat) ({ cls := "java/lang/Object", name := "<init>", desc := "()V" } : Jvm.MethodName)),
  (Jvm.Cond.fieldLink "DraftTreeModel" (7 : Nat) "DraftTreeModel" "slip" "[C"),
  (Jvm.Cond.fieldLink "DraftTreeModel" (13 : Nat) "DraftTreeModel" "states" "I"),
  (Jvm.Cond.fieldLink "DraftTreeModel" (17 : Nat) "DraftTreeModel" "texts" "[C"),
  (Jvm.Cond.fieldLink "DraftTreeModel" (20 : Nat) "DraftTreeModel" "lengths" "[I"),
  (Jvm.Cond.fieldLink "DraftTreeModel" (24 : Nat) "DraftTreeModel" "places" "[I"),
  (Jvm.Cond.fieldLink "DraftTreeModel" (27 : Nat) "DraftTreeModel" "parents" "[I"),
  (Jvm.Cond.fieldLink "DraftTreeModel" (30 : Nat) "DraftTreeModel" "came" "[I"),
  (Jvm.Cond.fieldLink "DraftTreeModel" (33 : Nat) "DraftTreeModel" "mark" "I"),
  (Jvm.Cond.fieldLink "DraftTreeModel" (36 : Nat) "DraftTreeModel" "wrongAt" "I"),
  (Jvm.Cond.fieldLink "DraftTreeModel" (39 : Nat) "DraftTreeModel" "pattern" "[C"),
  (Jvm.Cond.fieldLink "DraftTreeModel" (42 : Nat) "DraftTreeModel" "kind" "[I"),
  (Jvm.Cond.fieldLink "DraftTreeModel" (45 : Nat) "DraftTreeModel" "from" "[I"),
  (Jvm.Cond.fieldLink "DraftTreeModel" (48 : Nat) "DraftTreeModel" "to" "[I"),
  (Jvm.Cond.fieldLink "DraftTreeModel" (51 : Nat) "DraftTreeModel" "one" "[I"),
  (Jvm.Cond.fieldLink "DraftTreeModel" (54 : Nat) "DraftTreeModel" "two" "[I"),
  (Jvm.Cond.fieldLink "DraftTreeModel" (57 : Nat) "DraftTreeModel" "head" "[I"),
  (Jvm.Cond.fieldLink "DraftTreeModel" (60 : Nat) "DraftTreeModel" "tail" "[I"),
  (Jvm.Cond.fieldLink "DraftTreeModel" (63 : Nat) "DraftTreeModel" "choice" "[I"),
  (Jvm.Cond.fieldLink "DraftTreeModel" (66 : Nat) "DraftTreeModel" "row" "[I"),
  (Jvm.Cond.fieldLink "DraftTreeModel" (69 : Nat) "DraftTreeModel" "part" "[I"),
  (Jvm.Cond.arrayClass Jvm.ClassFile.FieldType.boolean),
  (Jvm.Cond.fieldLink "DraftTreeModel" (72 : Nat) "DraftTreeModel" "here" "[Z"),
  (Jvm.Cond.fieldLink "DraftTreeModel" (76 : Nat) "DraftTreeModel" "then" "[Z"),
  (Jvm.Cond.fieldLink "DraftTreeModel" (79 : Nat) "DraftTreeModel" "draft" "[C"),
  (Jvm.Cond.code ({ cls := "DraftTreeModel", name := "<init>", desc := "()V" } : Jvm.MethodName) prog_6_method_1_code (1 : Nat) (Option.none : Option Jvm.ClassFile.FieldType)),
  (Jvm.Cond.methodLink "DraftTreeLaw" (65 : Nat) ({ cls := "DraftTreeModel", name := "<init>", desc := "()V" } : Jvm.MethodName)),
  (Jvm.Cond.instanceMethod ({ cls := "DraftTreeModel", name := "<init>", desc := "()V" } : Jvm.MethodName)),
  (Jvm.Cond.fieldLink "DraftTree" (56 : Nat) "DraftTree" "slipSize" "I"),
  (Jvm.Cond.code ({ cls := "DraftTree", name := "type", desc := "(C)Z" } : Jvm.MethodName) prog_1_method_2_code (3 : Nat) (Option.some Jvm.ClassFile.FieldType.boolean)),
  (Jvm.Cond.methodLink "DraftTreeLaw" (66 : Nat) ({ cls := "DraftTree", name := "type", desc := "(C)Z" } : Jvm.MethodName)),
  (Jvm.Cond.instanceMethod ({ cls := "DraftTree", name := "type", desc := "(C)Z" } : Jvm.MethodName)),
  (Jvm.Cond.selects "DraftTree" ({ cls := "DraftTree", name := "type", desc := "(C)Z" } : Jvm.MethodName) ({ cls := "DraftTree", name := "type", desc := "(C)Z" } : Jvm.MethodName)),
  (Jvm.Cond.fieldLink "DraftTreeModel" (82 : Nat) "DraftTreeModel" "code" "I"),
  (Jvm.Cond.code ({ cls := "DraftTreeModel", name := "isCharacter", desc := "(C)Z" } : Jvm.MethodName) prog_6_method_3_code (1 : Nat) (Option.some Jvm.ClassFile.FieldType.boolean)),
  (Jvm.Cond.methodLink "DraftTreeModel" (85 : Nat) ({ cls := "DraftTreeModel", name := "isCharacter", desc := "(C)Z" } : Jvm.MethodName)),
  (Jvm.Cond.static ({ cls := "DraftTreeModel", name := "isCharacter", desc := "(C)Z" } : Jvm.MethodName)),
  (Jvm.Cond.fieldLink "DraftTreeModel" (89 : Nat) "DraftTreeModel" "typed" "I"),
  (Jvm.Cond.code ({ cls := "DraftTreeModel", name := "type", desc := "(C)Z" } : Jvm.MethodName) prog_6_method_4_code (2 : Nat) (Option.some Jvm.ClassFile.FieldType.boolean)),
  (Jvm.Cond.methodLink "DraftTreeLaw" (70 : Nat) ({ cls := "DraftTreeModel", name := "type", desc := "(C)Z" } : Jvm.MethodName)),
  (Jvm.Cond.instanceMethod ({ cls := "DraftTreeModel", name := "type", desc := "(C)Z" } : Jvm.MethodName)),
  (Jvm.Cond.selects "DraftTreeModel" ({ cls := "DraftTreeModel", name := "type", desc := "(C)Z" } : Jvm.MethodName) ({ cls := "DraftTreeModel", name := "type", desc := "(C)Z" } : Jvm.MethodName)),
  (Jvm.Cond.code ({ cls := "DraftTree", name := "wipe", desc := "()I" } : Jvm.MethodName) prog_1_method_3_code (2 : Nat) (Option.some Jvm.ClassFile.FieldType.int)),
  (Jvm.Cond.methodLink "DraftTreeLaw" (71 : Nat) ({ cls := "DraftTree", name := "wipe", desc := "()I" } : Jvm.MethodName)),
  (Jvm.Cond.instanceMethod ({ cls := "DraftTree", name := "wipe", desc := "()I" } : Jvm.MethodName)),
  (Jvm.Cond.selects "DraftTree" ({ cls := "DraftTree", name := "wipe", desc := "()I" } : Jvm.MethodName) ({ cls := "DraftTree", name := "wipe", desc := "()I" } : Jvm.MethodName)),
  (Jvm.Cond.code ({ cls := "DraftTreeModel", name := "wipe", desc := "()I" } : Jvm.MethodName) prog_6_method_5_code (2 : Nat) (Option.some Jvm.ClassFile.FieldType.int)),
  (Jvm.Cond.methodLink "DraftTreeLaw" (74 : Nat) ({ cls := "DraftTreeModel", name := "wipe", desc := "()I" } : Jvm.MethodName)),
  (Jvm.Cond.instanceMethod ({ cls := "DraftTreeModel", name := "wipe", desc := "()I" } : Jvm.MethodName)),
  (Jvm.Cond.selects "DraftTreeModel" ({ cls := "DraftTreeModel", name := "wipe", desc := "()I" } : Jvm.MethodName) ({ cls := "DraftTreeModel", name := "wipe", desc := "()I" } : Jvm.MethodName)),
  (Jvm.Cond.fieldLink "DraftTree" (76 : Nat) "DraftTree" "cursor" "I"),
  (Jvm.Cond.code ({ cls := "DraftTree", name := "selectionStart", desc := "()I" } : Jvm.MethodName) prog_1_method_21_code (1 : Nat) (Option.some Jvm.ClassFile.FieldType.int)),
  (Jvm.Cond.methodLink "DraftTree" (59 : Nat) ({ cls := "DraftTree", name := "selectionStart", desc := "()I" } : Jvm.MethodName)),
  (Jvm.Cond.instanceMethod ({ cls := "DraftTree", name := "selectionStart", desc := "()I" } : Jvm.MethodName)),
  (Jvm.Cond.selects "DraftTree" ({ cls := "DraftTree", name := "selectionStart", desc := "()I" } : Jvm.MethodName) ({ cls := "DraftTree", name := "selectionStart", desc := "()I" } : Jvm.MethodName)),
  (Jvm.Cond.code ({ cls := "DraftTree", name := "selectionEnd", desc := "()I" } : Jvm.MethodName) prog_1_method_22_code (1 : Nat) (Option.some Jvm.ClassFile.FieldType.int)),
  (Jvm.Cond.methodLink "DraftTree" (63 : Nat) ({ cls := "DraftTree", name := "selectionEnd", desc := "()I" } : Jvm.MethodName)),
  (Jvm.Cond.instanceMethod ({ cls := "DraftTree", name := "selectionEnd", desc := "()I" } : Jvm.MethodName)),
  (Jvm.Cond.selects "DraftTree" ({ cls := "DraftTree", name := "selectionEnd", desc := "()I" } : Jvm.MethodName) ({ cls := "DraftTree", name := "selectionEnd", desc := "()I" } : Jvm.MethodName)),
  (Jvm.Cond.fieldLink "DraftTree" (73 : Nat) "DraftTree" "present" "I"),
  (Jvm.Cond.code ({ cls := "DraftTree", name := "insert", desc := "()I" } : Jvm.MethodName) prog_1_method_4_code (3 : Nat) (Option.some Jvm.ClassFile.FieldType.int)),
  (Jvm.Cond.methodLink "DraftTreeLaw" (7 : Nat) ({ cls := "DraftTree", name := "insert", desc := "()I" } : Jvm.MethodName)),
  (Jvm.Cond.instanceMethod ({ cls := "DraftTree", name := "insert", desc := "()I" } : Jvm.MethodName)),
  (Jvm.Cond.selects "DraftTree" ({ cls := "DraftTree", name := "insert", desc := "()I" } : Jvm.MethodName) ({ cls := "DraftTree", name := "insert", desc := "()I" } : Jvm.MethodName)),
  (Jvm.Cond.codeWith ({ cls := "DraftTreeLaw", name := "insert", desc := "(LDraftTree;[J)I" } : Jvm.MethodName) method_3_code (3 : Nat) (Option.some Jvm.ClassFile.FieldType.int) [((0 : Nat), (8 : Nat), (11 : Nat), (13 : Nat))]),
  (Jvm.Cond.initialized "DraftTreeLaw"),
  (Jvm.Cond.methodLink "DraftTreeLaw" (75 : Nat) ({ cls := "DraftTreeLaw", name := "insert", desc := "(LDraftTree;[J)I" } : Jvm.MethodName)),
  (Jvm.Cond.static ({ cls := "DraftTreeLaw", name := "insert", desc := "(LDraftTree;[J)I" } : Jvm.MethodName)),
  (Jvm.Cond.fieldLink "DraftTreeModel" (95 : Nat) "DraftTreeModel" "cursor" "I"),
  (Jvm.Cond.code ({ cls := "DraftTreeModel", name := "low", desc := "()I" } : Jvm.MethodName) prog_6_method_13_code (1 : Nat) (Option.some Jvm.ClassFile.FieldType.int)),
  (Jvm.Cond.methodLink "DraftTreeModel" (116 : Nat) ({ cls := "DraftTreeModel", name := "low", desc := "()I" } : Jvm.MethodName)),
  (Jvm.Cond.instanceMethod ({ cls := "DraftTreeModel", name := "low", desc := "()I" } : Jvm.MethodName)),
  (Jvm.Cond.selects "DraftTreeModel" ({ cls := "DraftTreeModel", name := "low", desc := "()I" } : Jvm.MethodName) ({ cls := "DraftTreeModel", name := "low", desc := "()I" } : Jvm.MethodName)),
  (Jvm.Cond.code ({ cls := "DraftTreeModel", name := "high", desc := "()I" } : Jvm.MethodName) prog_6_method_14_code (1 : Nat) (Option.some Jvm.ClassFile.FieldType.int)),
  (Jvm.Cond.methodLink "DraftTreeModel" (120 : Nat) ({ cls := "DraftTreeModel", name := "high", desc := "()I" } : Jvm.MethodName)),
  (Jvm.Cond.instanceMethod ({ cls := "DraftTreeModel", name := "high", desc := "()I" } : Jvm.MethodName)),
  (Jvm.Cond.selects "DraftTreeModel" ({ cls := "DraftTreeModel", name := "high", desc := "()I" } : Jvm.MethodName) ({ cls := "DraftTreeModel", name := "high", desc := "()I" } : Jvm.MethodName)),
  (Jvm.Cond.fieldLink "DraftTreeModel" (92 : Nat) "DraftTreeModel" "present" "I"),
  (Jvm.Cond.code ({ cls := "DraftTreeModel", name := "insert", desc := "()I" } : Jvm.MethodName) prog_6_method_15_code (5 : Nat) (Option.some Jvm.ClassFile.FieldType.int)),
  (Jvm.Cond.methodLink "DraftTreeLaw" (80 : Nat) ({ cls := "DraftTreeModel", name := "insert", desc := "()I" } : Jvm.MethodName)),
  (Jvm.Cond.instanceMethod ({ cls := "DraftTreeModel", name := "insert", desc := "()I" } : Jvm.MethodName)),
  (Jvm.Cond.selects "DraftTreeModel" ({ cls := "DraftTreeModel", name := "insert", desc := "()I" } : Jvm.MethodName) ({ cls := "DraftTreeModel", name := "insert", desc := "()I" } : Jvm.MethodName)),
  (Jvm.Cond.code ({ cls := "DraftTreeModel", name := "thrown", desc := "()I" } : Jvm.MethodName) prog_6_method_2_code (1 : Nat) (Option.some Jvm.ClassFile.FieldType.int)),
  (Jvm.Cond.methodLink "DraftTreeLaw" (81 : Nat) ({ cls := "DraftTreeModel", name := "thrown", desc := "()I" } : Jvm.MethodName)),
  (Jvm.Cond.instanceMethod ({ cls := "DraftTreeModel", name := "thrown", desc := "()I" } : Jvm.MethodName)),
  (Jvm.Cond.selects "DraftTreeModel" ({ cls := "DraftTreeModel", name := "thrown", desc := "()I" } : Jvm.MethodName) ({ cls := "DraftTreeModel", name := "thrown", desc := "()I" } : Jvm.MethodName)),
  (Jvm.Cond.methodLink "DraftTree" (79 : Nat) ({ cls := "java/lang/Math", name := "max", desc := "(II)I" } : Jvm.MethodName)),
  (Jvm.Cond.static ({ cls := "java/lang/Math", name := "max", desc := "(II)I" } : Jvm.MethodName)),
  (Jvm.Cond.initialized "java/lang/Math"),
  (Jvm.Cond.code ({ cls := "java/lang/Math", name := "max", desc := "(II)I" } : Jvm.MethodName) prog_13_method_65_code (2 : Nat) (Option.some Jvm.ClassFile.FieldType.int)),
  (Jvm.Cond.code ({ cls := "DraftTree", name := "erase", desc := "(I)I" } : Jvm.MethodName) prog_1_method_5_code (4 : Nat) (Option.some Jvm.ClassFile.FieldType.int)),
  (Jvm.Cond.methodLink "DraftTreeLaw" (15 : Nat) ({ cls := "DraftTree", name := "erase", desc := "(I)I" } : Jvm.MethodName)),
  (Jvm.Cond.instanceMethod ({ cls := "DraftTree", name := "erase", desc := "(I)I" } : Jvm.MethodName)),
  (Jvm.Cond.selects "DraftTree" ({ cls := "DraftTree", name := "erase", desc := "(I)I" } : Jvm.MethodName) ({ cls := "DraftTree", name := "erase", desc := "(I)I" } : Jvm.MethodName)),
  (Jvm.Cond.codeWith ({ cls := "DraftTreeLaw", name := "erase", desc := "(LDraftTree;I[J)I" } : Jvm.MethodName) method_4_code (4 : Nat) (Option.some Jvm.ClassFile.FieldType.int) [((0 : Nat), (9 : Nat), (12 : Nat), (13 : Nat))]),
  (Jvm.Cond.methodLink "DraftTreeLaw" (84 : Nat) ({ cls := "DraftTreeLaw", name := "erase", desc := "(LDraftTree;I[J)I" } : Jvm.MethodName)),
  (Jvm.Cond.static ({ cls := "DraftTreeLaw", name := "erase", desc := "(LDraftTree;I[J)I" } : Jvm.MethodName)),
  (Jvm.Cond.code ({ cls := "DraftTreeModel", name := "textLength", desc := "()I" } : Jvm.MethodName) prog_6_method_7_code (1 : Nat) (Option.some Jvm.ClassFile.FieldType.int)),
  (Jvm.Cond.methodLink "DraftTreeModel" (123 : Nat) ({ cls := "DraftTreeModel", name := "textLength", desc := "()I" } : Jvm.MethodName)),
  (Jvm.Cond.instanceMethod ({ cls := "DraftTreeModel", name := "textLength", desc := "()I" } : Jvm.MethodName)),
  (Jvm.Cond.selects "DraftTreeModel" ({ cls := "DraftTreeModel", name := "textLength", desc := "()I" } : Jvm.MethodName) ({ cls := "DraftTreeModel", name := "textLength", desc := "()I" } : Jvm.MethodName)),
  (Jvm.Cond.code ({ cls := "DraftTreeModel", name := "erase", desc := "(I)I" } : Jvm.MethodName) prog_6_method_16_code (5 : Nat) (Option.some Jvm.ClassFile.FieldType.int)),
  (Jvm.Cond.methodLink "DraftTreeLaw" (87 : Nat) ({ cls := "DraftTreeModel", name := "erase", desc := "(I)I" } : Jvm.MethodName)),
  (Jvm.Cond.instanceMethod ({ cls := "DraftTreeModel", name := "erase", desc := "(I)I" } : Jvm.MethodName)),
  (Jvm.Cond.selects "DraftTreeModel" ({ cls := "DraftTreeModel", name := "erase", desc := "(I)I" } : Jvm.MethodName) ({ cls := "DraftTreeModel", name := "erase", desc := "(I)I" } : Jvm.MethodName)),
  (Jvm.Cond.methodLink "DraftTree" (85 : Nat) ({ cls := "java/lang/Math", name := "min", desc := "(II)I" } : Jvm.MethodName)),
  (Jvm.Cond.static ({ cls := "java/lang/Math", name := "min", desc := "(II)I" } : Jvm.MethodName)),
  (Jvm.Cond.code ({ cls := "java/lang/Math", name := "min", desc := "(II)I" } : Jvm.MethodName) prog_13_method_69_code (2 : Nat) (Option.some Jvm.ClassFile.FieldType.int)),
  (Jvm.Cond.code ({ cls := "DraftTree", name := "requirePlace", desc := "(I)V" } : Jvm.MethodName) prog_1_method_19_code (2 : Nat) (Option.none : Option Jvm.ClassFile.FieldType)),
  (Jvm.Cond.methodLink "DraftTree" (88 : Nat) ({ cls := "DraftTree", name := "requirePlace", desc := "(I)V" } : Jvm.MethodName)),
  (Jvm.Cond.instanceMethod ({ cls := "DraftTree", name := "requirePlace", desc := "(I)V" } : Jvm.MethodName)),
  (Jvm.Cond.selects "DraftTree" ({ cls := "DraftTree", name := "requirePlace", desc := "(I)V" } : Jvm.MethodName) ({ cls := "DraftTree", name := "requirePlace", desc := "(I)V" } : Jvm.MethodName)),
  (Jvm.Cond.code ({ cls := "DraftTree", name := "go", desc := "(IZ)V" } : Jvm.MethodName) prog_1_method_6_code (3 : Nat) (Option.none : Option Jvm.ClassFile.FieldType)),
  (Jvm.Cond.methodLink "DraftTreeLaw" (19 : Nat) ({ cls := "DraftTree", name := "go", desc := "(IZ)V" } : Jvm.MethodName)),
  (Jvm.Cond.instanceMethod ({ cls := "DraftTree", name := "go", desc := "(IZ)V" } : Jvm.MethodName)),
  (Jvm.Cond.selects "DraftTree" ({ cls := "DraftTree", name := "go", desc := "(IZ)V" } : Jvm.MethodName) ({ cls := "DraftTree", name := "go", desc := "(IZ)V" } : Jvm.MethodName)),
  (Jvm.Cond.codeWith ({ cls := "DraftTreeLaw", name := "go", desc := "(LDraftTree;IZ)I" } : Jvm.MethodName) method_5_code (4 : Nat) (Option.some Jvm.ClassFile.FieldType.int) [((0 : Nat), (6 : Nat), (9 : Nat), (23 : Nat))]),
  (Jvm.Cond.methodLink "DraftTreeLaw" (88 : Nat) ({ cls := "DraftTreeLaw", name := "go", desc := "(LDraftTree;IZ)I" } : Jvm.MethodName)),
  (Jvm.Cond.static ({ cls := "DraftTreeLaw", name := "go", desc := "(LDraftTree;IZ)I" } : Jvm.MethodName)),
  (Jvm.Cond.code ({ cls := "DraftTreeModel", name := "go", desc := "(IZ)V" } : Jvm.MethodName) prog_6_method_17_code (3 : Nat) (Option.none : Option Jvm.ClassFile.FieldType)),
  (Jvm.Cond.methodLink "DraftTreeLaw" (91 : Nat) ({ cls := "DraftTreeModel", name := "go", desc := "(IZ)V" } : Jvm.MethodName)),
  (Jvm.Cond.instanceMethod ({ cls := "DraftTreeModel", name := "go", desc := "(IZ)V" } : Jvm.MethodName)),
  (Jvm.Cond.selects "DraftTreeModel" ({ cls := "DraftTreeModel", name := "go", desc := "(IZ)V" } : Jvm.MethodName) ({ cls := "DraftTreeModel", name := "go", desc := "(IZ)V" } : Jvm.MethodName)),
  (Jvm.Cond.classLink "DraftTree" (143 : Nat) "java/lang/IndexOutOfBoundsException"),
  (Jvm.Cond.initialized "java/lang/IndexOutOfBoundsException"),
  (Jvm.Cond.classLink "DraftTreeLaw" (23 : Nat) "java/lang/IndexOutOfBoundsException"),
  (Jvm.Cond.fieldLink "DraftTree$PatternReader" (35 : Nat) "DraftTree$PatternReader" "size" "I"),
  (Jvm.Cond.fieldLink "DraftTree$PatternReader" (39 : Nat) "DraftTree$PatternReader" "position" "I"),
  (Jvm.Cond.fieldLink "DraftTree$PatternReader" (42 : Nat) "DraftTree$PatternReader" "fault" "I"),
  (Jvm.Cond.fieldLink "DraftTree$PatternReader" (45 : Nat) "DraftTree$Automaton" "size" "I"),
  (Jvm.Cond.fieldLink "DraftTree$PatternReader" (46 : Nat) "DraftTree$PatternReader" "depth" "I"),
  (Jvm.Cond.fieldLink "DraftTree$Automaton" (28 : Nat) "DraftTree$Automaton" "size" "I"),
  (Jvm.Cond.code ({ cls := "DraftTree$Automaton", name := "addNode", desc := "(I)I" } : Jvm.MethodName) prog_2_method_2_code (3 : Nat) (Option.some Jvm.ClassFile.FieldType.int)),
  (Jvm.Cond.methodLink "DraftTree$PatternReader" (113 : Nat) ({ cls := "DraftTree$Automaton", name := "addNode", desc := "(I)I" } : Jvm.MethodName)),
  (Jvm.Cond.instanceMethod ({ cls := "DraftTree$Automaton", name := "addNode", desc := "(I)I" } : Jvm.MethodName)),
  (Jvm.Cond.selects "DraftTree$Automaton" ({ cls := "DraftTree$Automaton", name := "addNode", desc := "(I)I" } : Jvm.MethodName) ({ cls := "DraftTree$Automaton", name := "addNode", desc := "(I)I" } : Jvm.MethodName)),
  (Jvm.Cond.fieldLink "DraftTree$PatternReader" (126 : Nat) "DraftTree$PatternReader" "lead" "I"),
  (Jvm.Cond.fieldLink "DraftTree$PatternReader" (129 : Nat) "DraftTree$PatternReader" "first" "I"),
  (Jvm.Cond.fieldLink "DraftTree$PatternReader" (62 : Nat) "DraftTree$PatternReader" "tail" "I"),
  (Jvm.Cond.code ({ cls := "DraftTree$PatternReader", name := "beginRow", desc := "(I)V" } : Jvm.MethodName) prog_3_method_16_code (2 : Nat) (Option.none : Option Jvm.ClassFile.FieldType)),
  (Jvm.Cond.methodLink "DraftTree$PatternReader" (116 : Nat) ({ cls := "DraftTree$PatternReader", name := "beginRow", desc := "(I)V" } : Jvm.MethodName)),
  (Jvm.Cond.instanceMethod ({ cls := "DraftTree$PatternReader", name := "beginRow", desc := "(I)V" } : Jvm.MethodName)),
  (Jvm.Cond.selects "DraftTree$PatternReader" ({ cls := "DraftTree$PatternReader", name := "beginRow", desc := "(I)V" } : Jvm.MethodName) ({ cls := "DraftTree$PatternReader", name := "beginRow", desc := "(I)V" } : Jvm.MethodName)),
  (Jvm.Cond.code ({ cls := "DraftTree$PatternReader", name := "openChoice", desc := "(I)V" } : Jvm.MethodName) prog_3_method_12_code (3 : Nat) (Option.none : Option Jvm.ClassFile.FieldType)),
  (Jvm.Cond.methodLink "DraftTree$PatternReader" (49 : Nat) ({ cls := "DraftTree$PatternReader", name := "openChoice", desc := "(I)V" } : Jvm.MethodName)),
  (Jvm.Cond.instanceMethod ({ cls := "DraftTree$PatternReader", name := "openChoice", desc := "(I)V" } : Jvm.MethodName)),
  (Jvm.Cond.selects "DraftTree$PatternReader" ({ cls := "DraftTree$PatternReader", name := "openChoice", desc := "(I)V" } : Jvm.MethodName) ({ cls := "DraftTree$PatternReader", name := "openChoice", desc := "(I)V" } : Jvm.MethodName)),
  (Jvm.Cond.fieldLink "DraftTree$PatternReader" (59 : Nat) "DraftTree$Automaton" "next" "[I"),
  (Jvm.Cond.fieldLink "DraftTree$PatternReader" (65 : Nat) "DraftTree$Automaton" "start" "I"),
  (Jvm.Cond.fieldLink "DraftTree$PatternReader" (68 : Nat) "DraftTree$Automaton" "goal" "I"),
  (Jvm.Cond.code ({ cls := "DraftTree$PatternReader", name := "finish", desc := "()V" } : Jvm.MethodName) prog_3_method_4_code (1 : Nat) (Option.none : Option Jvm.ClassFile.FieldType)),
  (Jvm.Cond.methodLink "DraftTree$PatternReader" (56 : Nat) ({ cls := "DraftTree$PatternReader", name := "finish", desc := "()V" } : Jvm.MethodName)),
  (Jvm.Cond.instanceMethod ({ cls := "DraftTree$PatternReader", name := "finish", desc := "()V" } : Jvm.MethodName)),
  (Jvm.Cond.selects "DraftTree$PatternReader" ({ cls := "DraftTree$PatternReader", name := "finish", desc := "()V" } : Jvm.MethodName) ({ cls := "DraftTree$PatternReader", name := "finish", desc := "()V" } : Jvm.MethodName)),
  (Jvm.Cond.code ({ cls := "DraftTree$PatternReader", name := "read", desc := "([CI)I" } : Jvm.MethodName) prog_3_method_3_code (4 : Nat) (Option.some Jvm.ClassFile.FieldType.int)),
  (Jvm.Cond.methodLink "DraftTree" (92 : Nat) ({ cls := "DraftTree$PatternReader", name := "read", desc := "([CI)I" } : Jvm.MethodName)),
  (Jvm.Cond.instanceMethod ({ cls := "DraftTree$PatternReader", name := "read", desc := "([CI)I" } : Jvm.MethodName)),
  (Jvm.Cond.selects "DraftTree$PatternReader" ({ cls := "DraftTree$PatternReader", name := "read", desc := "([CI)I" } : Jvm.MethodName) ({ cls := "DraftTree$PatternReader", name := "read", desc := "([CI)I" } : Jvm.MethodName)),
  (Jvm.Cond.code ({ cls := "DraftTree$PatternReader", name := "handOver", desc := "(LDraftTree$Automaton;)LDraftTree$Automaton;" } : Jvm.MethodName) prog_3_method_2_code (3 : Nat) (Option.some (Jvm.ClassFile.FieldType.object "DraftTree$Automaton"))),
  (Jvm.Cond.methodLink "DraftTree" (99 : Nat) ({ cls := "DraftTree$PatternReader", name := "handOver", desc := "(LDraftTree$Automaton;)LDraftTree$Automaton;" } : Jvm.MethodName)),
  (Jvm.Cond.instanceMethod ({ cls := "DraftTree$PatternReader", name := "handOver", desc := "(LDraftTree$Automaton;)LDraftTree$Automaton;" } : Jvm.MethodName)),
  (Jvm.Cond.selects "DraftTree$PatternReader" ({ cls := "DraftTree$PatternReader", name := "handOver", desc := "(LDraftTree$Automaton;)LDraftTree$Automaton;" } : Jvm.MethodName) ({ cls := "DraftTree$PatternReader", name := "handOver", desc := "(LDraftTree$Automaton;)LDraftTree$Automaton;" } : Jvm.MethodName)),
  (Jvm.Cond.fieldLink "DraftTree" (103 : Nat) "DraftTree" "hasPattern" "Z"),
  (Jvm.Cond.code ({ cls := "DraftTree", name := "compile", desc := "()V" } : Jvm.MethodName) prog_1_method_7_code (1 : Nat) (Option.none : Option Jvm.ClassFile.FieldType)),
  (Jvm.Cond.methodLink "DraftTreeLaw" (25 : Nat) ({ cls := "DraftTree", name := "compile", desc := "()V" } : Jvm.MethodName)),
  (Jvm.Cond.instanceMethod ({ cls := "DraftTree", name := "compile", desc := "()V" } : Jvm.MethodName)),
  (Jvm.Cond.selects "DraftTree" ({ cls := "DraftTree", name := "compile", desc := "()V" } : Jvm.MethodName) ({ cls := "DraftTree", name := "compile", desc := "()V" } : Jvm.MethodName)),
  (Jvm.Cond.codeWith ({ cls := "DraftTreeLaw", name := "compile", desc := "(LDraftTree;)I" } : Jvm.MethodName) method_6_code (2 : Nat) (Option.some Jvm.ClassFile.FieldType.int) [((0 : Nat), (4 : Nat), (7 : Nat), (28 : Nat))]),
  (Jvm.Cond.methodLink "DraftTreeLaw" (92 : Nat) ({ cls := "DraftTreeLaw", name := "compile", desc := "(LDraftTree;)I" } : Jvm.MethodName)),
  (Jvm.Cond.static ({ cls := "DraftTreeLaw", name := "compile", desc := "(LDraftTree;)I" } : Jvm.MethodName)),
  (Jvm.Cond.code ({ cls := "DraftTreeModel", name := "good", desc := "()I" } : Jvm.MethodName) prog_6_method_23_code (5 : Nat) (Option.some Jvm.ClassFile.FieldType.int)),
  (Jvm.Cond.methodLink "DraftTreeModel" (187 : Nat) ({ cls := "DraftTreeModel", name := "good", desc := "()I" } : Jvm.MethodName)),
  (Jvm.Cond.instanceMethod ({ cls := "DraftTreeModel", name := "good", desc := "()I" } : Jvm.MethodName)),
  (Jvm.Cond.selects "DraftTreeModel" ({ cls := "DraftTreeModel", name := "good", desc := "()I" } : Jvm.MethodName) ({ cls := "DraftTreeModel", name := "good", desc := "()I" } : Jvm.MethodName)),
  (Jvm.Cond.fieldLink "DraftTreeModel" (190 : Nat) "DraftTreeModel" "size" "I"),
  (Jvm.Cond.fieldLink "DraftTreeModel" (142 : Nat) "DraftTreeModel" "nodes" "I"),
  (Jvm.Cond.fieldLink "DraftTreeModel" (145 : Nat) "DraftTreeModel" "pieces" "I"),
  (Jvm.Cond.fieldLink "DraftTreeModel" (159 : Nat) "DraftTreeModel" "open" "I"),
  (Jvm.Cond.code ({ cls := "DraftTreeModel", name := "node", desc := "(III)I" } : Jvm.MethodName) prog_6_method_24_code (4 : Nat) (Option.some Jvm.ClassFile.FieldType.int)),
  (Jvm.Cond.methodLink "DraftTreeModel" (148 : Nat) ({ cls := "DraftTreeModel", name := "node", desc := "(III)I" } : Jvm.MethodName)),
  (Jvm.Cond.instanceMethod ({ cls := "DraftTreeModel", name := "node", desc := "(III)I" } : Jvm.MethodName)),
  (Jvm.Cond.selects "DraftTreeModel" ({ cls := "DraftTreeModel", name := "node", desc := "(III)I" } : Jvm.MethodName) ({ cls := "DraftTreeModel", name := "node", desc := "(III)I" } : Jvm.MethodName)),
  (Jvm.Cond.code ({ cls := "DraftTreeModel", name := "piece", desc := "(II)I" } : Jvm.MethodName) prog_6_method_26_code (3 : Nat) (Option.some Jvm.ClassFile.FieldType.int)),
  (Jvm.Cond.methodLink "DraftTreeModel" (155 : Nat) ({ cls := "DraftTreeModel", name := "piece", desc := "(II)I" } : Jvm.MethodName)),
  (Jvm.Cond.instanceMethod ({ cls := "DraftTreeModel", name := "piece", desc := "(II)I" } : Jvm.MethodName)),
  (Jvm.Cond.selects "DraftTreeModel" ({ cls := "DraftTreeModel", name := "piece", desc := "(II)I" } : Jvm.MethodName) ({ cls := "DraftTreeModel", name := "piece", desc := "(II)I" } : Jvm.MethodName)),
  (Jvm.Cond.code ({ cls := "DraftTreeModel", name := "nothing", desc := "()I" } : Jvm.MethodName) prog_6_method_28_code (2 : Nat) (Option.some Jvm.ClassFile.FieldType.int)),
  (Jvm.Cond.methodLink "DraftTreeModel" (162 : Nat) ({ cls := "DraftTreeModel", name := "nothing", desc := "()I" } : Jvm.MethodName)),
  (Jvm.Cond.instanceMethod ({ cls := "DraftTreeModel", name := "nothing", desc := "()I" } : Jvm.MethodName)),
  (Jvm.Cond.selects "DraftTreeModel" ({ cls := "DraftTreeModel", name := "nothing", desc := "()I" } : Jvm.MethodName) ({ cls := "DraftTreeModel", name := "nothing", desc := "()I" } : Jvm.MethodName)),
  (Jvm.Cond.code ({ cls := "DraftTreeModel", name := "openGroup", desc := "()V" } : Jvm.MethodName) prog_6_method_32_code (1 : Nat) (Option.none : Option Jvm.ClassFile.FieldType)),
  (Jvm.Cond.methodLink "DraftTreeModel" (171 : Nat) ({ cls := "DraftTreeModel", name := "openGroup", desc := "()V" } : Jvm.MethodName)),
  (Jvm.Cond.instanceMethod ({ cls := "DraftTreeModel", name := "openGroup", desc := "()V" } : Jvm.MethodName)),
  (Jvm.Cond.selects "DraftTreeModel" ({ cls := "DraftTreeModel", name := "openGroup", desc := "()V" } : Jvm.MethodName) ({ cls := "DraftTreeModel", name := "openGroup", desc := "()V" } : Jvm.MethodName)),
  (Jvm.Cond.code ({ cls := "DraftTreeModel", name := "behind", desc := "(II)I" } : Jvm.MethodName) prog_6_method_29_code (3 : Nat) (Option.some Jvm.ClassFile.FieldType.int)),
  (Jvm.Cond.methodLink "DraftTreeModel" (165 : Nat) ({ cls := "DraftTreeModel", name := "behind", desc := "(II)I" } : Jvm.MethodName)),
  (Jvm.Cond.instanceMethod ({ cls := "DraftTreeModel", name := "behind", desc := "(II)I" } : Jvm.MethodName)),
  (Jvm.Cond.selects "DraftTreeModel" ({ cls := "DraftTreeModel", name := "behind", desc := "(II)I" } : Jvm.MethodName) ({ cls := "DraftTreeModel", name := "behind", desc := "(II)I" } : Jvm.MethodName)),
  (Jvm.Cond.code ({ cls := "DraftTreeModel", name := "either", desc := "(II)I" } : Jvm.MethodName) prog_6_method_30_code (5 : Nat) (Option.some Jvm.ClassFile.FieldType.int)),
  (Jvm.Cond.methodLink "DraftTreeModel" (168 : Nat) ({ cls := "DraftTreeModel", name := "either", desc := "(II)I" } : Jvm.MethodName)),
  (Jvm.Cond.instanceMethod ({ cls := "DraftTreeModel", name := "either", desc := "(II)I" } : Jvm.MethodName)),
  (Jvm.Cond.selects "DraftTreeModel" ({ cls := "DraftTreeModel", name := "either", desc := "(II)I" } : Jvm.MethodName) ({ cls := "DraftTreeModel", name := "either", desc := "(II)I" } : Jvm.MethodName)),
  (Jvm.Cond.code ({ cls := "DraftTreeModel", name := "endRow", desc := "()V" } : Jvm.MethodName) prog_6_method_33_code (3 : Nat) (Option.none : Option Jvm.ClassFile.FieldType)),
  (Jvm.Cond.methodLink "DraftTreeModel" (174 : Nat) ({ cls := "DraftTreeModel", name := "endRow", desc := "()V" } : Jvm.MethodName)),
  (Jvm.Cond.instanceMethod ({ cls := "DraftTreeModel", name := "endRow", desc := "()V" } : Jvm.MethodName)),
  (Jvm.Cond.selects "DraftTreeModel" ({ cls := "DraftTreeModel", name := "endRow", desc := "()V" } : Jvm.MethodName) ({ cls := "DraftTreeModel", name := "endRow", desc := "()V" } : Jvm.MethodName)),
  (Jvm.Cond.fieldLink "DraftTreeModel" (197 : Nat) "DraftTreeModel" "first" "I"),
  (Jvm.Cond.fieldLink "DraftTreeModel" (200 : Nat) "DraftTreeModel" "last" "I"),
  (Jvm.Cond.fieldLink "DraftTreeModel" (203 : Nat) "DraftTreeModel" "compiled" "Z"),
  (Jvm.Cond.code ({ cls := "DraftTreeModel", name := "compile", desc := "()V" } : Jvm.MethodName) prog_6_method_36_code (4 : Nat) (Option.none : Option Jvm.ClassFile.FieldType)),
  (Jvm.Cond.methodLink "DraftTreeLaw" (95 : Nat) ({ cls := "DraftTreeModel", name := "compile", desc := "()V" } : Jvm.MethodName)),
  (Jvm.Cond.instanceMethod ({ cls := "DraftTreeModel", name := "compile", desc := "()V" } : Jvm.MethodName)),
  (Jvm.Cond.selects "DraftTreeModel" ({ cls := "DraftTreeModel", name := "compile", desc := "()V" } : Jvm.MethodName) ({ cls := "DraftTreeModel", name := "compile", desc := "()V" } : Jvm.MethodName)),
  (Jvm.Cond.code ({ cls := "DraftTree", name := "fault", desc := "()I" } : Jvm.MethodName) prog_1_method_8_code (1 : Nat) (Option.some Jvm.ClassFile.FieldType.int)),
  (Jvm.Cond.methodLink "DraftTreeLaw" (96 : Nat) ({ cls := "DraftTree", name := "fault", desc := "()I" } : Jvm.MethodName)),
  (Jvm.Cond.instanceMethod ({ cls := "DraftTree", name := "fault", desc := "()I" } : Jvm.MethodName)),
  (Jvm.Cond.selects "DraftTree" ({ cls := "DraftTree", name := "fault", desc := "()I" } : Jvm.MethodName) ({ cls := "DraftTree", name := "fault", desc := "()I" } : Jvm.MethodName)),
  (Jvm.Cond.code ({ cls := "DraftTreeModel", name := "fault", desc := "()I" } : Jvm.MethodName) prog_6_method_37_code (1 : Nat) (Option.some Jvm.ClassFile.FieldType.int)),
  (Jvm.Cond.methodLink "DraftTreeLaw" (99 : Nat) ({ cls := "DraftTreeModel", name := "fault", desc := "()I" } : Jvm.MethodName)),
  (Jvm.Cond.instanceMethod ({ cls := "DraftTreeModel", name := "fault", desc := "()I" } : Jvm.MethodName)),
  (Jvm.Cond.selects "DraftTreeModel" ({ cls := "DraftTreeModel", name := "fault", desc := "()I" } : Jvm.MethodName) ({ cls := "DraftTreeModel", name := "fault", desc := "()I" } : Jvm.MethodName)),
  (Jvm.Cond.classLink "DraftTree" (66 : Nat) "java/lang/IllegalStateException"),
  (Jvm.Cond.initialized "java/lang/IllegalStateException"),
  (Jvm.Cond.code ({ cls := "DraftTree", name := "find", desc := "(I)I" } : Jvm.MethodName) prog_1_method_9_code (2 : Nat) (Option.some Jvm.ClassFile.FieldType.int)),
  (Jvm.Cond.methodLink "DraftTreeLaw" (30 : Nat) ({ cls := "DraftTree", name := "find", desc := "(I)I" } : Jvm.MethodName)),
  (Jvm.Cond.instanceMethod ({ cls := "DraftTree", name := "find", desc := "(I)I" } : Jvm.MethodName)),
  (Jvm.Cond.selects "DraftTree" ({ cls := "DraftTree", name := "find", desc := "(I)I" } : Jvm.MethodName) ({ cls := "DraftTree", name := "find", desc := "(I)I" } : Jvm.MethodName)),
  (Jvm.Cond.classLink "DraftTreeLaw" (13 : Nat) "java/lang/IllegalStateException"),
  (Jvm.Cond.codeWith ({ cls := "DraftTreeLaw", name := "find", desc := "(LDraftTree;I[J)I" } : Jvm.MethodName) method_7_code (4 : Nat) (Option.some Jvm.ClassFile.FieldType.int) [((0 : Nat), (9 : Nat), (12 : Nat), (13 : Nat)), ((0 : Nat), (9 : Nat), (15 : Nat), (23 : Nat)), ((0 : Nat), (9 : Nat), (18 : Nat), (33 : Nat))]),
  (Jvm.Cond.methodLink "DraftTreeLaw" (100 : Nat) ({ cls := "DraftTreeLaw", name := "find", desc := "(LDraftTree;I[J)I" } : Jvm.MethodName)),
  (Jvm.Cond.static ({ cls := "DraftTreeLaw", name := "find", desc := "(LDraftTree;I[J)I" } : Jvm.MethodName)),
  (Jvm.Cond.code ({ cls := "DraftTreeModel", name := "find", desc := "(I)I" } : Jvm.MethodName) prog_6_method_45_code (2 : Nat) (Option.some Jvm.ClassFile.FieldType.int)),
  (Jvm.Cond.methodLink "DraftTreeLaw" (102 : Nat) ({ cls := "DraftTreeModel", name := "find", desc := "(I)I" } : Jvm.MethodName)),
  (Jvm.Cond.instanceMethod ({ cls := "DraftTreeModel", name := "find", desc := "(I)I" } : Jvm.MethodName)),
  (Jvm.Cond.selects "DraftTreeModel" ({ cls := "DraftTreeModel", name := "find", desc := "(I)I" } : Jvm.MethodName) ({ cls := "DraftTreeModel", name := "find", desc := "(I)I" } : Jvm.MethodName)),
  (Jvm.Cond.code ({ cls := "DraftTree", name := "replace", desc := "()I" } : Jvm.MethodName) prog_1_method_10_code (3 : Nat) (Option.some Jvm.ClassFile.FieldType.int)),
  (Jvm.Cond.methodLink "DraftTreeLaw" (35 : Nat) ({ cls := "DraftTree", name := "replace", desc := "()I" } : Jvm.MethodName)),
  (Jvm.Cond.instanceMethod ({ cls := "DraftTree", name := "replace", desc := "()I" } : Jvm.MethodName)),
  (Jvm.Cond.selects "DraftTree" ({ cls := "DraftTree", name := "replace", desc := "()I" } : Jvm.MethodName) ({ cls := "DraftTree", name := "replace", desc := "()I" } : Jvm.MethodName)),
  (Jvm.Cond.codeWith ({ cls := "DraftTreeLaw", name := "replace", desc := "(LDraftTree;[J)I" } : Jvm.MethodName) method_8_code (3 : Nat) (Option.some Jvm.ClassFile.FieldType.int) [((0 : Nat), (8 : Nat), (11 : Nat), (13 : Nat))]),
  (Jvm.Cond.methodLink "DraftTreeLaw" (103 : Nat) ({ cls := "DraftTreeLaw", name := "replace", desc := "(LDraftTree;[J)I" } : Jvm.MethodName)),
  (Jvm.Cond.static ({ cls := "DraftTreeLaw", name := "replace", desc := "(LDraftTree;[J)I" } : Jvm.MethodName)),
  (Jvm.Cond.code ({ cls := "DraftTreeModel", name := "replace", desc := "()I" } : Jvm.MethodName) prog_6_method_46_code (4 : Nat) (Option.some Jvm.ClassFile.FieldType.int)),
  (Jvm.Cond.methodLink "DraftTreeLaw" (105 : Nat) ({ cls := "DraftTreeModel", name := "replace", desc := "()I" } : Jvm.MethodName)),
  (Jvm.Cond.instanceMethod ({ cls := "DraftTreeModel", name := "replace", desc := "()I" } : Jvm.MethodName)),
  (Jvm.Cond.selects "DraftTreeModel" ({ cls := "DraftTreeModel", name := "replace", desc := "()I" } : Jvm.MethodName) ({ cls := "DraftTreeModel", name := "replace", desc := "()I" } : Jvm.MethodName)),
  (Jvm.Cond.fieldLink "DraftTree" (131 : Nat) "DraftTree$State" "origin" "I"),
  (Jvm.Cond.classLink "DraftTree" (111 : Nat) "java/util/NoSuchElementException"),
  (Jvm.Cond.initialized "java/util/NoSuchElementException"),
  (Jvm.Cond.code ({ cls := "DraftTree", name := "undo", desc := "()I" } : Jvm.MethodName) prog_1_method_11_code (2 : Nat) (Option.some Jvm.ClassFile.FieldType.int)),
  (Jvm.Cond.methodLink "DraftTreeLaw" (38 : Nat) ({ cls := "DraftTree", name := "undo", desc := "()I" } : Jvm.MethodName)),
  (Jvm.Cond.instanceMethod ({ cls := "DraftTree", name := "undo", desc := "()I" } : Jvm.MethodName)),
  (Jvm.Cond.selects "DraftTree" ({ cls := "DraftTree", name := "undo", desc := "()I" } : Jvm.MethodName) ({ cls := "DraftTree", name := "undo", desc := "()I" } : Jvm.MethodName)),
  (Jvm.Cond.classLink "DraftTreeLaw" (33 : Nat) "java/util/NoSuchElementException"),
  (Jvm.Cond.codeWith ({ cls := "DraftTreeLaw", name := "undo", desc := "(LDraftTree;[J)I" } : Jvm.MethodName) method_9_code (3 : Nat) (Option.some Jvm.ClassFile.FieldType.int) [((0 : Nat), (8 : Nat), (11 : Nat), (33 : Nat))]),
  (Jvm.Cond.methodLink "DraftTreeLaw" (106 : Nat) ({ cls := "DraftTreeLaw", name := "undo", desc := "(LDraftTree;[J)I" } : Jvm.MethodName)),
  (Jvm.Cond.static ({ cls := "DraftTreeLaw", name := "undo", desc := "(LDraftTree;[J)I" } : Jvm.MethodName)),
  (Jvm.Cond.code ({ cls := "DraftTreeModel", name := "undo", desc := "()I" } : Jvm.MethodName) prog_6_method_18_code (1 : Nat) (Option.some Jvm.ClassFile.FieldType.int)),
  (Jvm.Cond.methodLink "DraftTreeLaw" (108 : Nat) ({ cls := "DraftTreeModel", name := "undo", desc := "()I" } : Jvm.MethodName)),
  (Jvm.Cond.instanceMethod ({ cls := "DraftTreeModel", name := "undo", desc := "()I" } : Jvm.MethodName)),
  (Jvm.Cond.selects "DraftTreeModel" ({ cls := "DraftTreeModel", name := "undo", desc := "()I" } : Jvm.MethodName) ({ cls := "DraftTreeModel", name := "undo", desc := "()I" } : Jvm.MethodName)),
  (Jvm.Cond.fieldLink "DraftTree" (137 : Nat) "DraftTree$State" "latestChild" "I"),
  (Jvm.Cond.code ({ cls := "DraftTree", name := "redo", desc := "()I" } : Jvm.MethodName) prog_1_method_12_code (2 : Nat) (Option.some Jvm.ClassFile.FieldType.int)),
  (Jvm.Cond.methodLink "DraftTreeLaw" (41 : Nat) ({ cls := "DraftTree", name := "redo", desc := "()I" } : Jvm.MethodName)),
  (Jvm.Cond.instanceMethod ({ cls := "DraftTree", name := "redo", desc := "()I" } : Jvm.MethodName)),
  (Jvm.Cond.selects "DraftTree" ({ cls := "DraftTree", name := "redo", desc := "()I" } : Jvm.MethodName) ({ cls := "DraftTree", name := "redo", desc := "()I" } : Jvm.MethodName)),
  (Jvm.Cond.codeWith ({ cls := "DraftTreeLaw", name := "redo", desc := "(LDraftTree;[J)I" } : Jvm.MethodName) method_10_code (3 : Nat) (Option.some Jvm.ClassFile.FieldType.int) [((0 : Nat), (8 : Nat), (11 : Nat), (33 : Nat))]),
  (Jvm.Cond.methodLink "DraftTreeLaw" (109 : Nat) ({ cls := "DraftTreeLaw", name := "redo", desc := "(LDraftTree;[J)I" } : Jvm.MethodName)),
  (Jvm.Cond.static ({ cls := "DraftTreeLaw", name := "redo", desc := "(LDraftTree;[J)I" } : Jvm.MethodName)),
  (Jvm.Cond.code ({ cls := "DraftTreeModel", name := "redo", desc := "()I" } : Jvm.MethodName) prog_6_method_19_code (3 : Nat) (Option.some Jvm.ClassFile.FieldType.int)),
  (Jvm.Cond.methodLink "DraftTreeLaw" (111 : Nat) ({ cls := "DraftTreeModel", name := "redo", desc := "()I" } : Jvm.MethodName)),
  (Jvm.Cond.instanceMethod ({ cls := "DraftTreeModel", name := "redo", desc := "()I" } : Jvm.MethodName)),
  (Jvm.Cond.selects "DraftTreeModel" ({ cls := "DraftTreeModel", name := "redo", desc := "()I" } : Jvm.MethodName) ({ cls := "DraftTreeModel", name := "redo", desc := "()I" } : Jvm.MethodName)),
  (Jvm.Cond.code ({ cls := "DraftTree", name := "requireState", desc := "(I)V" } : Jvm.MethodName) prog_1_method_20_code (2 : Nat) (Option.none : Option Jvm.ClassFile.FieldType)),
  (Jvm.Cond.methodLink "DraftTree" (140 : Nat) ({ cls := "DraftTree", name := "requireState", desc := "(I)V" } : Jvm.MethodName)),
  (Jvm.Cond.instanceMethod ({ cls := "DraftTree", name := "requireState", desc := "(I)V" } : Jvm.MethodName)),
  (Jvm.Cond.selects "DraftTree" ({ cls := "DraftTree", name := "requireState", desc := "(I)V" } : Jvm.MethodName) ({ cls := "DraftTree", name := "requireState", desc := "(I)V" } : Jvm.MethodName)),
  (Jvm.Cond.fieldLink "DraftTree" (155 : Nat) "DraftTree$State" "place" "I"),
  (Jvm.Cond.fieldLink "DraftTree" (158 : Nat) "DraftTree$State" "text" "[C"),
  (Jvm.Cond.code ({ cls := "DraftTree", name := "moveTo", desc := "(I)V" } : Jvm.MethodName) prog_1_method_23_code (3 : Nat) (Option.none : Option Jvm.ClassFile.FieldType)),
  (Jvm.Cond.methodLink "DraftTree" (134 : Nat) ({ cls := "DraftTree", name := "moveTo", desc := "(I)V" } : Jvm.MethodName)),
  (Jvm.Cond.instanceMethod ({ cls := "DraftTree", name := "moveTo", desc := "(I)V" } : Jvm.MethodName)),
  (Jvm.Cond.selects "DraftTree" ({ cls := "DraftTree", name := "moveTo", desc := "(I)V" } : Jvm.MethodName) ({ cls := "DraftTree", name := "moveTo", desc := "(I)V" } : Jvm.MethodName)),
  (Jvm.Cond.code ({ cls := "DraftTree", name := "jump", desc := "(I)V" } : Jvm.MethodName) prog_1_method_13_code (2 : Nat) (Option.none : Option Jvm.ClassFile.FieldType)),
  (Jvm.Cond.methodLink "DraftTreeLaw" (44 : Nat) ({ cls := "DraftTree", name := "jump", desc := "(I)V" } : Jvm.MethodName)),
  (Jvm.Cond.instanceMethod ({ cls := "DraftTree", name := "jump", desc := "(I)V" } : Jvm.MethodName)),
  (Jvm.Cond.selects "DraftTree" ({ cls := "DraftTree", name := "jump", desc := "(I)V" } : Jvm.MethodName) ({ cls := "DraftTree", name := "jump", desc := "(I)V" } : Jvm.MethodName)),
  (Jvm.Cond.codeWith ({ cls := "DraftTreeLaw", name := "jump", desc := "(LDraftTree;I)I" } : Jvm.MethodName) method_11_code (3 : Nat) (Option.some Jvm.ClassFile.FieldType.int) [((0 : Nat), (5 : Nat), (8 : Nat), (28 : Nat))]),
  (Jvm.Cond.methodLink "DraftTreeLaw" (112 : Nat) ({ cls := "DraftTreeLaw", name := "jump", desc := "(LDraftTree;I)I" } : Jvm.MethodName)),
  (Jvm.Cond.static ({ cls := "DraftTreeLaw", name := "jump", desc := "(LDraftTree;I)I" } : Jvm.MethodName)),
  (Jvm.Cond.fieldLink "DraftTreeModel" (98 : Nat) "DraftTreeModel" "clock" "I"),
  (Jvm.Cond.code ({ cls := "DraftTreeModel", name := "come", desc := "(I)V" } : Jvm.MethodName) prog_6_method_8_code (2 : Nat) (Option.none : Option Jvm.ClassFile.FieldType)),
  (Jvm.Cond.methodLink "DraftTreeModel" (112 : Nat) ({ cls := "DraftTreeModel", name := "come", desc := "(I)V" } : Jvm.MethodName)),
  (Jvm.Cond.instanceMethod ({ cls := "DraftTreeModel", name := "come", desc := "(I)V" } : Jvm.MethodName)),
  (Jvm.Cond.selects "DraftTreeModel" ({ cls := "DraftTreeModel", name := "come", desc := "(I)V" } : Jvm.MethodName) ({ cls := "DraftTreeModel", name := "come", desc := "(I)V" } : Jvm.MethodName)),
  (Jvm.Cond.code ({ cls := "DraftTreeModel", name := "jump", desc := "(I)V" } : Jvm.MethodName) prog_6_method_20_code (2 : Nat) (Option.none : Option Jvm.ClassFile.FieldType)),
  (Jvm.Cond.methodLink "DraftTreeLaw" (115 : Nat) ({ cls := "DraftTreeModel", name := "jump", desc := "(I)V" } : Jvm.MethodName)),
  (Jvm.Cond.instanceMethod ({ cls := "DraftTreeModel", name := "jump", desc := "(I)V" } : Jvm.MethodName)),
  (Jvm.Cond.selects "DraftTreeModel" ({ cls := "DraftTreeModel", name := "jump", desc := "(I)V" } : Jvm.MethodName) ({ cls := "DraftTreeModel", name := "jump", desc := "(I)V" } : Jvm.MethodName)),
  (Jvm.Cond.classLink "DraftTree" (96 : Nat) "java/lang/IllegalArgumentException"),
  (Jvm.Cond.initialized "java/lang/IllegalArgumentException"),
  (Jvm.Cond.classLink "DraftTreeLaw" (28 : Nat) "java/lang/IllegalArgumentException"),
  (Jvm.Cond.code ({ cls := "DraftTree", name := "length", desc := "()I" } : Jvm.MethodName) prog_1_method_14_code (1 : Nat) (Option.some Jvm.ClassFile.FieldType.int)),
  (Jvm.Cond.methodLink "DraftTreeLaw" (116 : Nat) ({ cls := "DraftTree", name := "length", desc := "()I" } : Jvm.MethodName)),
  (Jvm.Cond.instanceMethod ({ cls := "DraftTree", name := "length", desc := "()I" } : Jvm.MethodName)),
  (Jvm.Cond.selects "DraftTree" ({ cls := "DraftTree", name := "length", desc := "()I" } : Jvm.MethodName) ({ cls := "DraftTree", name := "length", desc := "()I" } : Jvm.MethodName)),
  (Jvm.Cond.code ({ cls := "DraftTreeModel", name := "length", desc := "()I" } : Jvm.MethodName) prog_6_method_47_code (1 : Nat) (Option.some Jvm.ClassFile.FieldType.int)),
  (Jvm.Cond.methodLink "DraftTreeLaw" (119 : Nat) ({ cls := "DraftTreeModel", name := "length", desc := "()I" } : Jvm.MethodName)),
  (Jvm.Cond.instanceMethod ({ cls := "DraftTreeModel", name := "length", desc := "()I" } : Jvm.MethodName)),
  (Jvm.Cond.selects "DraftTreeModel" ({ cls := "DraftTreeModel", name := "length", desc := "()I" } : Jvm.MethodName) ({ cls := "DraftTreeModel", name := "length", desc := "()I" } : Jvm.MethodName)),
  (Jvm.Cond.code ({ cls := "DraftTree", name := "at", desc := "(I)C" } : Jvm.MethodName) prog_1_method_15_code (2 : Nat) (Option.some Jvm.ClassFile.FieldType.char)),
  (Jvm.Cond.methodLink "DraftTreeLaw" (48 : Nat) ({ cls := "DraftTree", name := "at", desc := "(I)C" } : Jvm.MethodName)),
  (Jvm.Cond.instanceMethod ({ cls := "DraftTree", name := "at", desc := "(I)C" } : Jvm.MethodName)),
  (Jvm.Cond.selects "DraftTree" ({ cls := "DraftTree", name := "at", desc := "(I)C" } : Jvm.MethodName) ({ cls := "DraftTree", name := "at", desc := "(I)C" } : Jvm.MethodName)),
  (Jvm.Cond.codeWith ({ cls := "DraftTreeLaw", name := "at", desc := "(LDraftTree;I[J)I" } : Jvm.MethodName) method_12_code (4 : Nat) (Option.some Jvm.ClassFile.FieldType.int) [((0 : Nat), (9 : Nat), (12 : Nat), (23 : Nat))]),
  (Jvm.Cond.methodLink "DraftTreeLaw" (120 : Nat) ({ cls := "DraftTreeLaw", name := "at", desc := "(LDraftTree;I[J)I" } : Jvm.MethodName)),
  (Jvm.Cond.static ({ cls := "DraftTreeLaw", name := "at", desc := "(LDraftTree;I[J)I" } : Jvm.MethodName)),
  (Jvm.Cond.code ({ cls := "DraftTreeModel", name := "at", desc := "(I)C" } : Jvm.MethodName) prog_6_method_48_code (2 : Nat) (Option.some Jvm.ClassFile.FieldType.char)),
  (Jvm.Cond.methodLink "DraftTreeLaw" (122 : Nat) ({ cls := "DraftTreeModel", name := "at", desc := "(I)C" } : Jvm.MethodName)),
  (Jvm.Cond.instanceMethod ({ cls := "DraftTreeModel", name := "at", desc := "(I)C" } : Jvm.MethodName)),
  (Jvm.Cond.selects "DraftTreeModel" ({ cls := "DraftTreeModel", name := "at", desc := "(I)C" } : Jvm.MethodName) ({ cls := "DraftTreeModel", name := "at", desc := "(I)C" } : Jvm.MethodName)),
  (Jvm.Cond.code ({ cls := "DraftTree", name := "breaksBefore", desc := "(I)I" } : Jvm.MethodName) prog_1_method_29_code (4 : Nat) (Option.some Jvm.ClassFile.FieldType.int)),
  (Jvm.Cond.methodLink "DraftTree" (146 : Nat) ({ cls := "DraftTree", name := "breaksBefore", desc := "(I)I" } : Jvm.MethodName)),
  (Jvm.Cond.instanceMethod ({ cls := "DraftTree", name := "breaksBefore", desc := "(I)I" } : Jvm.MethodName)),
  (Jvm.Cond.selects "DraftTree" ({ cls := "DraftTree", name := "breaksBefore", desc := "(I)I" } : Jvm.MethodName) ({ cls := "DraftTree", name := "breaksBefore", desc := "(I)I" } : Jvm.MethodName)),
  (Jvm.Cond.code ({ cls := "DraftTree", name := "line", desc := "(II)I" } : Jvm.MethodName) prog_1_method_16_code (3 : Nat) (Option.some Jvm.ClassFile.FieldType.int)),
  (Jvm.Cond.methodLink "DraftTreeLaw" (52 : Nat) ({ cls := "DraftTree", name := "line", desc := "(II)I" } : Jvm.MethodName)),
  (Jvm.Cond.instanceMethod ({ cls := "DraftTree", name := "line", desc := "(II)I" } : Jvm.MethodName)),
  (Jvm.Cond.selects "DraftTree" ({ cls := "DraftTree", name := "line", desc := "(II)I" } : Jvm.MethodName) ({ cls := "DraftTree", name := "line", desc := "(II)I" } : Jvm.MethodName)),
  (Jvm.Cond.codeWith ({ cls := "DraftTreeLaw", name := "line", desc := "(LDraftTree;II[J)I" } : Jvm.MethodName) method_13_code (5 : Nat) (Option.some Jvm.ClassFile.FieldType.int) [((0 : Nat), (10 : Nat), (13 : Nat), (28 : Nat)), ((0 : Nat), (10 : Nat), (17 : Nat), (23 : Nat))]),
  (Jvm.Cond.methodLink "DraftTreeLaw" (123 : Nat) ({ cls := "DraftTreeLaw", name := "line", desc := "(LDraftTree;II[J)I" } : Jvm.MethodName)),
  (Jvm.Cond.static ({ cls := "DraftTreeLaw", name := "line", desc := "(LDraftTree;II[J)I" } : Jvm.MethodName)),
  (Jvm.Cond.code ({ cls := "DraftTreeModel", name := "breaks", desc := "(I)I" } : Jvm.MethodName) prog_6_method_49_code (4 : Nat) (Option.some Jvm.ClassFile.FieldType.int)),
  (Jvm.Cond.methodLink "DraftTreeModel" (238 : Nat) ({ cls := "DraftTreeModel", name := "breaks", desc := "(I)I" } : Jvm.MethodName)),
  (Jvm.Cond.instanceMethod ({ cls := "DraftTreeModel", name := "breaks", desc := "(I)I" } : Jvm.MethodName)),
  (Jvm.Cond.selects "DraftTreeModel" ({ cls := "DraftTreeModel", name := "breaks", desc := "(I)I" } : Jvm.MethodName) ({ cls := "DraftTreeModel", name := "breaks", desc := "(I)I" } : Jvm.MethodName)),
  (Jvm.Cond.code ({ cls := "DraftTreeModel", name := "line", desc := "(II)I" } : Jvm.MethodName) prog_6_method_51_code (7 : Nat) (Option.some Jvm.ClassFile.FieldType.int)),
  (Jvm.Cond.methodLink "DraftTreeLaw" (126 : Nat) ({ cls := "DraftTreeModel", name := "line", desc := "(II)I" } : Jvm.MethodName)),
  (Jvm.Cond.instanceMethod ({ cls := "DraftTreeModel", name := "line", desc := "(II)I" } : Jvm.MethodName)),
  (Jvm.Cond.selects "DraftTreeModel" ({ cls := "DraftTreeModel", name := "line", desc := "(II)I" } : Jvm.MethodName) ({ cls := "DraftTreeModel", name := "line", desc := "(II)I" } : Jvm.MethodName)),
  (Jvm.Cond.code ({ cls := "DraftTree", name := "lineBegin", desc := "(I)I" } : Jvm.MethodName) prog_1_method_30_code (4 : Nat) (Option.some Jvm.ClassFile.FieldType.int)),
  (Jvm.Cond.methodLink "DraftTree" (149 : Nat) ({ cls := "DraftTree", name := "lineBegin", desc := "(I)I" } : Jvm.MethodName)),
  (Jvm.Cond.instanceMethod ({ cls := "DraftTree", name := "lineBegin", desc := "(I)I" } : Jvm.MethodName)),
  (Jvm.Cond.selects "DraftTree" ({ cls := "DraftTree", name := "lineBegin", desc := "(I)I" } : Jvm.MethodName) ({ cls := "DraftTree", name := "lineBegin", desc := "(I)I" } : Jvm.MethodName)),
  (Jvm.Cond.code ({ cls := "DraftTreeModel", name := "lineStart", desc := "(I)I" } : Jvm.MethodName) prog_6_method_50_code (3 : Nat) (Option.some Jvm.ClassFile.FieldType.int)),
  (Jvm.Cond.methodLink "DraftTreeModel" (241 : Nat) ({ cls := "DraftTreeModel", name := "lineStart", desc := "(I)I" } : Jvm.MethodName)),
  (Jvm.Cond.instanceMethod ({ cls := "DraftTreeModel", name := "lineStart", desc := "(I)I" } : Jvm.MethodName)),
  (Jvm.Cond.selects "DraftTreeModel" ({ cls := "DraftTreeModel", name := "lineStart", desc := "(I)I" } : Jvm.MethodName) ({ cls := "DraftTreeModel", name := "lineStart", desc := "(I)I" } : Jvm.MethodName)),
  (Jvm.Cond.code ({ cls := "DraftTree", name := "lineSize", desc := "(I)I" } : Jvm.MethodName) prog_1_method_31_code (4 : Nat) (Option.some Jvm.ClassFile.FieldType.int)),
  (Jvm.Cond.methodLink "DraftTree" (152 : Nat) ({ cls := "DraftTree", name := "lineSize", desc := "(I)I" } : Jvm.MethodName)),
  (Jvm.Cond.instanceMethod ({ cls := "DraftTree", name := "lineSize", desc := "(I)I" } : Jvm.MethodName)),
  (Jvm.Cond.selects "DraftTree" ({ cls := "DraftTree", name := "lineSize", desc := "(I)I" } : Jvm.MethodName) ({ cls := "DraftTree", name := "lineSize", desc := "(I)I" } : Jvm.MethodName)),
  (Jvm.Cond.code ({ cls := "DraftTree", name := "figure", desc := "(I)I" } : Jvm.MethodName) prog_1_method_17_code (2 : Nat) (Option.some Jvm.ClassFile.FieldType.int)),
  (Jvm.Cond.methodLink "DraftTreeLaw" (56 : Nat) ({ cls := "DraftTree", name := "figure", desc := "(I)I" } : Jvm.MethodName)),
  (Jvm.Cond.instanceMethod ({ cls := "DraftTree", name := "figure", desc := "(I)I" } : Jvm.MethodName)),
  (Jvm.Cond.selects "DraftTree" ({ cls := "DraftTree", name := "figure", desc := "(I)I" } : Jvm.MethodName) ({ cls := "DraftTree", name := "figure", desc := "(I)I" } : Jvm.MethodName)),
  (Jvm.Cond.codeWith ({ cls := "DraftTreeLaw", name := "figure", desc := "(LDraftTree;I[J)I" } : Jvm.MethodName) method_14_code (4 : Nat) (Option.some Jvm.ClassFile.FieldType.int) [((0 : Nat), (9 : Nat), (12 : Nat), (28 : Nat))]),
  (Jvm.Cond.methodLink "DraftTreeLaw" (127 : Nat) ({ cls := "DraftTreeLaw", name := "figure", desc := "(LDraftTree;I[J)I" } : Jvm.MethodName)),
  (Jvm.Cond.static ({ cls := "DraftTreeLaw", name := "figure", desc := "(LDraftTree;I[J)I" } : Jvm.MethodName)),
  (Jvm.Cond.code ({ cls := "DraftTreeModel", name := "figure", desc := "(I)I" } : Jvm.MethodName) prog_6_method_52_code (2 : Nat) (Option.some Jvm.ClassFile.FieldType.int)),
  (Jvm.Cond.methodLink "DraftTreeLaw" (129 : Nat) ({ cls := "DraftTreeModel", name := "figure", desc := "(I)I" } : Jvm.MethodName)),
  (Jvm.Cond.instanceMethod ({ cls := "DraftTreeModel", name := "figure", desc := "(I)I" } : Jvm.MethodName)),
  (Jvm.Cond.selects "DraftTreeModel" ({ cls := "DraftTreeModel", name := "figure", desc := "(I)I" } : Jvm.MethodName) ({ cls := "DraftTreeModel", name := "figure", desc := "(I)I" } : Jvm.MethodName)),
  (Jvm.Cond.code ({ cls := "DraftTree", name := "parent", desc := "(I)I" } : Jvm.MethodName) prog_1_method_18_code (2 : Nat) (Option.some Jvm.ClassFile.FieldType.int)),
  (Jvm.Cond.methodLink "DraftTreeLaw" (59 : Nat) ({ cls := "DraftTree", name := "parent", desc := "(I)I" } : Jvm.MethodName)),
  (Jvm.Cond.instanceMethod ({ cls := "DraftTree", name := "parent", desc := "(I)I" } : Jvm.MethodName)),
  (Jvm.Cond.selects "DraftTree" ({ cls := "DraftTree", name := "parent", desc := "(I)I" } : Jvm.MethodName) ({ cls := "DraftTree", name := "parent", desc := "(I)I" } : Jvm.MethodName)),
  (Jvm.Cond.codeWith ({ cls := "DraftTreeLaw", name := "parent", desc := "(LDraftTree;I[J)I" } : Jvm.MethodName) method_15_code (4 : Nat) (Option.some Jvm.ClassFile.FieldType.int) [((0 : Nat), (9 : Nat), (12 : Nat), (28 : Nat))]),
  (Jvm.Cond.methodLink "DraftTreeLaw" (130 : Nat) ({ cls := "DraftTreeLaw", name := "parent", desc := "(LDraftTree;I[J)I" } : Jvm.MethodName)),
  (Jvm.Cond.static ({ cls := "DraftTreeLaw", name := "parent", desc := "(LDraftTree;I[J)I" } : Jvm.MethodName)),
  (Jvm.Cond.code ({ cls := "DraftTreeModel", name := "parent", desc := "(I)I" } : Jvm.MethodName) prog_6_method_53_code (2 : Nat) (Option.some Jvm.ClassFile.FieldType.int)),
  (Jvm.Cond.methodLink "DraftTreeLaw" (132 : Nat) ({ cls := "DraftTreeModel", name := "parent", desc := "(I)I" } : Jvm.MethodName)),
  (Jvm.Cond.instanceMethod ({ cls := "DraftTreeModel", name := "parent", desc := "(I)I" } : Jvm.MethodName)),
  (Jvm.Cond.selects "DraftTreeModel" ({ cls := "DraftTreeModel", name := "parent", desc := "(I)I" } : Jvm.MethodName) ({ cls := "DraftTreeModel", name := "parent", desc := "(I)I" } : Jvm.MethodName))]
def wk_at_oa_0 : List Cond := (Bundle.ownAtoms0 "DraftTree" 145 "java/lang/IndexOutOfBoundsException" ["java/lang/RuntimeException", "java/lang/Exception"]).filter goodWord
def wk_at_oa_1 : List Cond := (Bundle.ownAtoms0 "DraftTree" 68 "java/lang/IllegalStateException" ["java/lang/RuntimeException", "java/lang/Exception"]).filter goodWord
def wk_at_oa_2 : List Cond := (Bundle.ownAtoms0 "DraftTree" 113 "java/util/NoSuchElementException" ["java/lang/RuntimeException", "java/lang/Exception"]).filter goodWord
def wk_at_oa_3 : List Cond := (Bundle.ownAtoms0 "DraftTree" 98 "java/lang/IllegalArgumentException" ["java/lang/RuntimeException", "java/lang/Exception"]).filter goodWord
def wk_tbl : List Cond := wk_l ++ (wk_at_oa_0 ++ (wk_at_oa_1 ++ (wk_at_oa_2 ++ (wk_at_oa_3))))
set_option maxRecDepth 20000 in
theorem lk_0 : (Jvm.Cond.laysFinal "DraftTree" "DraftTree" "slip" "[C") ∈ wk_tbl := List.mem_append_left _ (List.mem_of_getElem? (i := 0) (by rfl))
set_option maxRecDepth 20000 in
theorem lk_1 : (Jvm.Cond.lays "DraftTree" "DraftTree" "slipSize" "I") ∈ wk_tbl := List.mem_append_left _ (List.mem_of_getElem? (i := 1) (by rfl))
set_option maxRecDepth 20000 in
theorem lk_2 : (Jvm.Cond.laysFinal "DraftTree" "DraftTree" "states" "[LDraftTree$State;") ∈ wk_tbl := List.mem_append_left _ (List.mem_of_getElem? (i := 2) (by rfl))
set_option maxRecDepth 20000 in
theorem lk_3 : (Jvm.Cond.lays "DraftTree" "DraftTree" "stateCount" "I") ∈ wk_tbl := List.mem_append_left _ (List.mem_of_getElem? (i := 3) (by rfl))
set_option maxRecDepth 20000 in
theorem lk_4 : (Jvm.Cond.lays "DraftTree" "DraftTree" "present" "I") ∈ wk_tbl := List.mem_append_left _ (List.mem_of_getElem? (i := 4) (by rfl))
set_option maxRecDepth 20000 in
theorem lk_5 : (Jvm.Cond.lays "DraftTree" "DraftTree" "text" "[C") ∈ wk_tbl := List.mem_append_left _ (List.mem_of_getElem? (i := 5) (by rfl))
set_option maxRecDepth 20000 in
theorem lk_6 : (Jvm.Cond.lays "DraftTree" "DraftTree" "cursor" "I") ∈ wk_tbl := List.mem_append_left _ (List.mem_of_getElem? (i := 6) (by rfl))
set_option maxRecDepth 20000 in
theorem lk_7 : (Jvm.Cond.lays "DraftTree" "DraftTree" "mark" "I") ∈ wk_tbl := List.mem_append_left _ (List.mem_of_getElem? (i := 7) (by rfl))
set_option maxRecDepth 20000 in
theorem lk_8 : (Jvm.Cond.laysFinal "DraftTree" "DraftTree" "reader" "LDraftTree$PatternReader;") ∈ wk_tbl := List.mem_append_left _ (List.mem_of_getElem? (i := 8) (by rfl))
set_option maxRecDepth 20000 in
theorem lk_9 : (Jvm.Cond.lays "DraftTree" "DraftTree" "pattern" "LDraftTree$Automaton;") ∈ wk_tbl := List.mem_append_left _ (List.mem_of_getElem? (i := 9) (by rfl))
set_option maxRecDepth 20000 in
theorem lk_10 : (Jvm.Cond.lays "DraftTree" "DraftTree" "hasPattern" "Z") ∈ wk_tbl := List.mem_append_left _ (List.mem_of_getElem? (i := 10) (by rfl))
set_option maxRecDepth 20000 in
theorem lk_11 : (Jvm.Cond.lays "DraftTree" "DraftTree" "latestFault" "I") ∈ wk_tbl := List.mem_append_left _ (List.mem_of_getElem? (i := 11) (by rfl))
set_option maxRecDepth 20000 in
theorem lk_12 : (Jvm.Cond.laysFinal "DraftTree" "DraftTree" "matchStarts" "[I") ∈ wk_tbl := List.mem_append_left _ (List.mem_of_getElem? (i := 12) (by rfl))
set_option maxRecDepth 20000 in
theorem lk_13 : (Jvm.Cond.laysFinal "DraftTree" "DraftTree" "matchEnds" "[I") ∈ wk_tbl := List.mem_append_left _ (List.mem_of_getElem? (i := 13) (by rfl))
set_option maxRecDepth 20000 in
theorem lk_14 : (Jvm.Cond.classLink "DraftTreeLaw" (8 : Nat) "DraftTree") ∈ wk_tbl := List.mem_append_left _ (List.mem_of_getElem? (i := 14) (by rfl))
set_option maxRecDepth 20000 in
theorem lk_15 : (Jvm.Cond.instantiable "DraftTree" (14 : Nat)) ∈ wk_tbl := List.mem_append_left _ (List.mem_of_getElem? (i := 15) (by rfl))
set_option maxRecDepth 20000 in
theorem lk_16 : (Jvm.Cond.initialized "DraftTree") ∈ wk_tbl := List.mem_append_left _ (List.mem_of_getElem? (i := 16) (by rfl))
set_option maxRecDepth 20000 in
theorem lk_17 : (Jvm.Cond.methodLink "DraftTree" (1 : Nat) ({ cls := "java/lang/Object", name := "<init>", desc := "()V" } : Jvm.MethodName)) ∈ wk_tbl := List.mem_append_left _ (List.mem_of_getElem? (i := 17) (by rfl))
set_option maxRecDepth 20000 in
theorem lk_18 : (Jvm.Cond.instanceMethod ({ cls := "java/lang/Object", name := "<init>", desc := "()V" } : Jvm.MethodName)) ∈ wk_tbl := List.mem_append_left _ (List.mem_of_getElem? (i := 18) (by rfl))
set_option maxRecDepth 20000 in
theorem lk_19 : (Jvm.Cond.code ({ cls := "java/lang/Object", name := "<init>", desc := "()V" } : Jvm.MethodName) object_method_1_code (1 : Nat) (Option.none : Option Jvm.ClassFile.FieldType)) ∈ wk_tbl := List.mem_append_left _ (List.mem_of_getElem? (i := 19) (by rfl))
set_option maxRecDepth 20000 in
theorem lk_20 : (Jvm.Cond.arrayClass Jvm.ClassFile.FieldType.char) ∈ wk_tbl := List.mem_append_left _ (List.mem_of_getElem? (i := 20) (by rfl))
set_option maxRecDepth 20000 in
theorem lk_21 : (Jvm.Cond.fieldLink "DraftTree" (9 : Nat) "DraftTree" "slip" "[C") ∈ wk_tbl := List.mem_append_left _ (List.mem_of_getElem? (i := 21) (by rfl))
set_option maxRecDepth 20000 in
theorem lk_22 : (Jvm.Cond.classLink "DraftTree" (13 : Nat) "DraftTree$State") ∈ wk_tbl := List.mem_append_left _ (List.mem_of_getElem? (i := 22) (by rfl))
set_option maxRecDepth 20000 in
theorem lk_23 : (Jvm.Cond.fieldLink "DraftTree" (15 : Nat) "DraftTree" "states" "[LDraftTree$State;") ∈ wk_tbl := List.mem_append_left _ (List.mem_of_getElem? (i := 23) (by rfl))
set_option maxRecDepth 20000 in
theorem lk_24 : (Jvm.Cond.fieldLink "DraftTree" (19 : Nat) "DraftTree" "text" "[C") ∈ wk_tbl := List.mem_append_left _ (List.mem_of_getElem? (i := 24) (by rfl))
set_option maxRecDepth 20000 in
theorem lk_25 : (Jvm.Cond.laysFinal "DraftTree$State" "DraftTree$State" "text" "[C") ∈ wk_tbl := List.mem_append_left _ (List.mem_of_getElem? (i := 25) (by rfl))
set_option maxRecDepth 20000 in
theorem lk_26 : (Jvm.Cond.laysFinal "DraftTree$State" "DraftTree$State" "origin" "I") ∈ wk_tbl := List.mem_append_left _ (List.mem_of_getElem? (i := 26) (by rfl))
set_option maxRecDepth 20000 in
theorem lk_27 : (Jvm.Cond.lays "DraftTree$State" "DraftTree$State" "place" "I") ∈ wk_tbl := List.mem_append_left _ (List.mem_of_getElem? (i := 27) (by rfl))
set_option maxRecDepth 20000 in
theorem lk_28 : (Jvm.Cond.lays "DraftTree$State" "DraftTree$State" "latestChild" "I") ∈ wk_tbl := List.mem_append_left _ (List.mem_of_getElem? (i := 28) (by rfl))
set_option maxRecDepth 20000 in
theorem lk_29 : (Jvm.Cond.instantiable "DraftTree$State" (4 : Nat)) ∈ wk_tbl := List.mem_append_left _ (List.mem_of_getElem? (i := 29) (by rfl))
set_option maxRecDepth 20000 in
theorem lk_30 : (Jvm.Cond.initialized "DraftTree$State") ∈ wk_tbl := List.mem_append_left _ (List.mem_of_getElem? (i := 30) (by rfl))
set_option maxRecDepth 20000 in
theorem lk_31 : (Jvm.Cond.methodLink "DraftTree$State" (3 : Nat) ({ cls := "java/lang/Object", name := "<init>", desc := "()V" } : Jvm.MethodName)) ∈ wk_tbl := List.mem_append_left _ (List.mem_of_getElem? (i := 31) (by rfl))
set_option maxRecDepth 20000 in
theorem lk_32 : (Jvm.Cond.fieldLink "DraftTree$State" (9 : Nat) "DraftTree$State" "text" "[C") ∈ wk_tbl := List.mem_append_left _ (List.mem_of_getElem? (i := 32) (by rfl))
set_option maxRecDepth 20000 in
theorem lk_33 : (Jvm.Cond.fieldLink "DraftTree$State" (15 : Nat) "DraftTree$State" "place" "I") ∈ wk_tbl := List.mem_append_left _ (List.mem_of_getElem? (i := 33) (by rfl))
set_option maxRecDepth 20000 in
theorem lk_34 : (Jvm.Cond.fieldLink "DraftTree$State" (19 : Nat) "DraftTree$State" "origin" "I") ∈ wk_tbl := List.mem_append_left _ (List.mem_of_getElem? (i := 34) (by rfl))
set_option maxRecDepth 20000 in
theorem lk_35 : (Jvm.Cond.fieldLink "DraftTree$State" (22 : Nat) "DraftTree$State" "latestChild" "I") ∈ wk_tbl := List.mem_append_left _ (List.mem_of_getElem? (i := 35) (by rfl))
set_option maxRecDepth 20000 in
theorem lk_36 : (Jvm.Cond.code ({ cls := "DraftTree$State", name := "<init>", desc := "([CII)V" } : Jvm.MethodName) prog_4_method_1_code (4 : Nat) (Option.none : Option Jvm.ClassFile.FieldType)) ∈ wk_tbl := List.mem_append_left _ (List.mem_of_getElem? (i := 36) (by rfl))
set_option maxRecDepth 20000 in
theorem lk_37 : (Jvm.Cond.methodLink "DraftTree" (22 : Nat) ({ cls := "DraftTree$State", name := "<init>", desc := "([CII)V" } : Jvm.MethodName)) ∈ wk_tbl := List.mem_append_left _ (List.mem_of_getElem? (i := 37) (by rfl))
set_option maxRecDepth 20000 in
theorem lk_38 : (Jvm.Cond.instanceMethod ({ cls := "DraftTree$State", name := "<init>", desc := "([CII)V" } : Jvm.MethodName)) ∈ wk_tbl := List.mem_append_left _ (List.mem_of_getElem? (i := 38) (by rfl))
set_option maxRecDepth 20000 in
theorem lk_39 : (Jvm.Cond.fieldLink "DraftTree" (25 : Nat) "DraftTree" "stateCount" "I") ∈ wk_tbl := List.mem_append_left _ (List.mem_of_getElem? (i := 39) (by rfl))
set_option maxRecDepth 20000 in
theorem lk_40 : (Jvm.Cond.fieldLink "DraftTree" (29 : Nat) "DraftTree" "mark" "I") ∈ wk_tbl := List.mem_append_left _ (List.mem_of_getElem? (i := 40) (by rfl))
set_option maxRecDepth 20000 in
theorem lk_41 : (Jvm.Cond.laysFinal "DraftTree$PatternReader" "DraftTree$PatternReader" "choiceStarts" "[I") ∈ wk_tbl := List.mem_append_left _ (List.mem_of_getElem? (i := 41) (by rfl))
set_option maxRecDepth 20000 in
theorem lk_42 : (Jvm.Cond.laysFinal "DraftTree$PatternReader" "DraftTree$PatternReader" "choiceEnds" "[I") ∈ wk_tbl := List.mem_append_left _ (List.mem_of_getElem? (i := 42) (by rfl))
set_option maxRecDepth 20000 in
theorem lk_43 : (Jvm.Cond.laysFinal "DraftTree$PatternReader" "DraftTree$PatternReader" "rowHeads" "[I") ∈ wk_tbl := List.mem_append_left _ (List.mem_of_getElem? (i := 43) (by rfl))
set_option maxRecDepth 20000 in
theorem lk_44 : (Jvm.Cond.laysFinal "DraftTree$PatternReader" "DraftTree$PatternReader" "outerTails" "[I") ∈ wk_tbl := List.mem_append_left _ (List.mem_of_getElem? (i := 44) (by rfl))
set_option maxRecDepth 20000 in
theorem lk_45 : (Jvm.Cond.lays "DraftTree$PatternReader" "DraftTree$PatternReader" "made" "LDraftTree$Automaton;") ∈ wk_tbl := List.mem_append_left _ (List.mem_of_getElem? (i := 45) (by rfl))
set_option maxRecDepth 20000 in
theorem lk_46 : (Jvm.Cond.lays "DraftTree$PatternReader" "DraftTree$PatternReader" "source" "[C") ∈ wk_tbl := List.mem_append_left _ (List.mem_of_getElem? (i := 46) (by rfl))
set_option maxRecDepth 20000 in
theorem lk_47 : (Jvm.Cond.lays "DraftTree$PatternReader" "DraftTree$PatternReader" "size" "I") ∈ wk_tbl := List.mem_append_left _ (List.mem_of_getElem? (i := 47) (by rfl))
set_option maxRecDepth 20000 in
theorem lk_48 : (Jvm.Cond.lays "DraftTree$PatternReader" "DraftTree$PatternReader" "position" "I") ∈ wk_tbl := List.mem_append_left _ (List.mem_of_getElem? (i := 48) (by rfl))
set_option maxRecDepth 20000 in
theorem lk_49 : (Jvm.Cond.lays "DraftTree$PatternReader" "DraftTree$PatternReader" "depth" "I") ∈ wk_tbl := List.mem_append_left _ (List.mem_of_getElem? (i := 49) (by rfl))
set_option maxRecDepth 20000 in
theorem lk_50 : (Jvm.Cond.lays "DraftTree$PatternReader" "DraftTree$PatternReader" "fault" "I") ∈ wk_tbl := List.mem_append_left _ (List.mem_of_getElem? (i := 50) (by rfl))
set_option maxRecDepth 20000 in
theorem lk_51 : (Jvm.Cond.lays "DraftTree$PatternReader" "DraftTree$PatternReader" "lead" "I") ∈ wk_tbl := List.mem_append_left _ (List.mem_of_getElem? (i := 51) (by rfl))
set_option maxRecDepth 20000 in
theorem lk_52 : (Jvm.Cond.lays "DraftTree$PatternReader" "DraftTree$PatternReader" "first" "I") ∈ wk_tbl := List.mem_append_left _ (List.mem_of_getElem? (i := 52) (by rfl))
set_option maxRecDepth 20000 in
theorem lk_53 : (Jvm.Cond.lays "DraftTree$PatternReader" "DraftTree$PatternReader" "tail" "I") ∈ wk_tbl := List.mem_append_left _ (List.mem_of_getElem? (i := 53) (by rfl))
set_option maxRecDepth 20000 in
theorem lk_54 : (Jvm.Cond.classLink "DraftTree" (32 : Nat) "DraftTree$PatternReader") ∈ wk_tbl := List.mem_append_left _ (List.mem_of_getElem? (i := 54) (by rfl))
set_option maxRecDepth 20000 in
theorem lk_55 : (Jvm.Cond.instantiable "DraftTree$PatternReader" (13 : Nat)) ∈ wk_tbl := List.mem_append_left _ (List.mem_of_getElem? (i := 55) (by rfl))
set_option maxRecDepth 20000 in
theorem lk_56 : (Jvm.Cond.initialized "DraftTree$PatternReader") ∈ wk_tbl := List.mem_append_left _ (List.mem_of_getElem? (i := 56) (by rfl))
set_option maxRecDepth 20000 in
theorem lk_57 : (Jvm.Cond.methodLink "DraftTree$PatternReader" (3 : Nat) ({ cls := "java/lang/Object", name := "<init>", desc := "()V" } : Jvm.MethodName)) ∈ wk_tbl := List.mem_append_left _ (List.mem_of_getElem? (i := 57) (by rfl))
set_option maxRecDepth 20000 in
theorem lk_58 : (Jvm.Cond.arrayClass Jvm.ClassFile.FieldType.int) ∈ wk_tbl := List.mem_append_left _ (List.mem_of_getElem? (i := 58) (by rfl))
set_option maxRecDepth 20000 in
theorem lk_59 : (Jvm.Cond.fieldLink "DraftTree$PatternReader" (9 : Nat) "DraftTree$PatternReader" "choiceStarts" "[I") ∈ wk_tbl := List.mem_append_left _ (List.mem_of_getElem? (i := 59) (by rfl))
set_option maxRecDepth 20000 in
theorem lk_60 : (Jvm.Cond.fieldLink "DraftTree$PatternReader" (15 : Nat) "DraftTree$PatternReader" "choiceEnds" "[I") ∈ wk_tbl := List.mem_append_left _ (List.mem_of_getElem? (i := 60) (by rfl))
set_option maxRecDepth 20000 in
theorem lk_61 : (Jvm.Cond.fieldLink "DraftTree$PatternReader" (18 : Nat) "DraftTree$PatternReader" "rowHeads" "[I") ∈ wk_tbl := List.mem_append_left _ (List.mem_of_getElem? (i := 61) (by rfl))
set_option maxRecDepth 20000 in
theorem lk_62 : (Jvm.Cond.fieldLink "DraftTree$PatternReader" (21 : Nat) "DraftTree$PatternReader" "outerTails" "[I") ∈ wk_tbl := List.mem_append_left _ (List.mem_of_getElem? (i := 62) (by rfl))
set_option maxRecDepth 20000 in
theorem lk_63 : (Jvm.Cond.laysFinal "DraftTree$Automaton" "DraftTree$Automaton" "kinds" "[I") ∈ wk_tbl := List.mem_append_left _ (List.mem_of_getElem? (i := 63) (by rfl))
set_option maxRecDepth 20000 in
theorem lk_64 : (Jvm.Cond.laysFinal "DraftTree$Automaton" "DraftTree$Automaton" "next" "[I") ∈ wk_tbl := List.mem_append_left _ (List.mem_of_getElem? (i := 64) (by rfl))
set_option maxRecDepth 20000 in
theorem lk_65 : (Jvm.Cond.laysFinal "DraftTree$Automaton" "DraftTree$Automaton" "other" "[I") ∈ wk_tbl := List.mem_append_left _ (List.mem_of_getElem? (i := 65) (by rfl))
set_option maxRecDepth 20000 in
theorem lk_66 : (Jvm.Cond.laysFinal "DraftTree$Automaton" "DraftTree$Automaton" "lowCodes" "[J") ∈ wk_tbl := List.mem_append_left _ (List.mem_of_getElem? (i := 66) (by rfl))
set_option maxRecDepth 20000 in
theorem lk_67 : (Jvm.Cond.laysFinal "DraftTree$Automaton" "DraftTree$Automaton" "highCodes" "[J") ∈ wk_tbl := List.mem_append_left _ (List.mem_of_getElem? (i := 67) (by rfl))
set_option maxRecDepth 20000 in
theorem lk_68 : (Jvm.Cond.lays "DraftTree$Automaton" "DraftTree$Automaton" "size" "I") ∈ wk_tbl := List.mem_append_left _ (List.mem_of_getElem? (i := 68) (by rfl))
set_option maxRecDepth 20000 in
theorem lk_69 : (Jvm.Cond.lays "DraftTree$Automaton" "DraftTree$Automaton" "start" "I") ∈ wk_tbl := List.mem_append_left _ (List.mem_of_getElem? (i := 69) (by rfl))
set_option maxRecDepth 20000 in
theorem lk_70 : (Jvm.Cond.lays "DraftTree$Automaton" "DraftTree$Automaton" "goal" "I") ∈ wk_tbl := List.mem_append_left _ (List.mem_of_getElem? (i := 70) (by rfl))
set_option maxRecDepth 20000 in
theorem lk_71 : (Jvm.Cond.lays "DraftTree$Automaton" "DraftTree$Automaton" "matchStart" "I") ∈ wk_tbl := List.mem_append_left _ (List.mem_of_getElem? (i := 71) (by rfl))
set_option maxRecDepth 20000 in
theorem lk_72 : (Jvm.Cond.lays "DraftTree$Automaton" "DraftTree$Automaton" "matchEnd" "I") ∈ wk_tbl := List.mem_append_left _ (List.mem_of_getElem? (i := 72) (by rfl))
set_option maxRecDepth 20000 in
theorem lk_73 : (Jvm.Cond.classLink "DraftTree$PatternReader" (24 : Nat) "DraftTree$Automaton") ∈ wk_tbl := List.mem_append_left _ (List.mem_of_getElem? (i := 73) (by rfl))
set_option maxRecDepth 20000 in
theorem lk_74 : (Jvm.Cond.instantiable "DraftTree$Automaton" (10 : Nat)) ∈ wk_tbl := List.mem_append_left _ (List.mem_of_getElem? (i := 74) (by rfl))
set_option maxRecDepth 20000 in
theorem lk_75 : (Jvm.Cond.initialized "DraftTree$Automaton") ∈ wk_tbl := List.mem_append_left _ (List.mem_of_getElem? (i := 75) (by rfl))
set_option maxRecDepth 20000 in
theorem lk_76 : (Jvm.Cond.methodLink "DraftTree$Automaton" (3 : Nat) ({ cls := "java/lang/Object", name := "<init>", desc := "()V" } : Jvm.MethodName)) ∈ wk_tbl := List.mem_append_left _ (List.mem_of_getElem? (i := 76) (by rfl))
set_option maxRecDepth 20000 in
theorem lk_77 : (Jvm.Cond.fieldLink "DraftTree$Automaton" (11 : Nat) "DraftTree$Automaton" "kinds" "[I") ∈ wk_tbl := List.mem_append_left _ (List.mem_of_getElem? (i := 77) (by rfl))
set_option maxRecDepth 20000 in
theorem lk_78 : (Jvm.Cond.fieldLink "DraftTree$Automaton" (15 : Nat) "DraftTree$Automaton" "next" "[I") ∈ wk_tbl := List.mem_append_left _ (List.mem_of_getElem? (i := 78) (by rfl))
set_option maxRecDepth 20000 in
theorem lk_79 : (Jvm.Cond.fieldLink "DraftTree$Automaton" (18 : Nat) "DraftTree$Automaton" "other" "[I") ∈ wk_tbl := List.mem_append_left _ (List.mem_of_getElem? (i := 79) (by rfl))
set_option maxRecDepth 20000 in
theorem lk_80 : (Jvm.Cond.arrayClass Jvm.ClassFile.FieldType.long) ∈ wk_tbl := List.mem_append_left _ (List.mem_of_getElem? (i := 80) (by rfl))
set_option maxRecDepth 20000 in
theorem lk_81 : (Jvm.Cond.fieldLink "DraftTree$Automaton" (21 : Nat) "DraftTree$Automaton" "lowCodes" "[J") ∈ wk_tbl := List.mem_append_left _ (List.mem_of_getElem? (i := 81) (by rfl))
set_option maxRecDepth 20000 in
theorem lk_82 : (Jvm.Cond.fieldLink "DraftTree$Automaton" (25 : Nat) "DraftTree$Automaton" "highCodes" "[J") ∈ wk_tbl := List.mem_append_left _ (List.mem_of_getElem? (i := 82) (by rfl))
set_option maxRecDepth 20000 in
theorem lk_83 : (Jvm.Cond.code ({ cls := "DraftTree$Automaton", name := "<init>", desc := "()V" } : Jvm.MethodName) prog_2_method_1_code (1 : Nat) (Option.none : Option Jvm.ClassFile.FieldType)) ∈ wk_tbl := List.mem_append_left _ (List.mem_of_getElem? (i := 83) (by rfl))
set_option maxRecDepth 20000 in
theorem lk_84 : (Jvm.Cond.methodLink "DraftTree$PatternReader" (26 : Nat) ({ cls := "DraftTree$Automaton", name := "<init>", desc := "()V" } : Jvm.MethodName)) ∈ wk_tbl := List.mem_append_left _ (List.mem_of_getElem? (i := 84) (by rfl))
set_option maxRecDepth 20000 in
theorem lk_85 : (Jvm.Cond.instanceMethod ({ cls := "DraftTree$Automaton", name := "<init>", desc := "()V" } : Jvm.MethodName)) ∈ wk_tbl := List.mem_append_left _ (List.mem_of_getElem? (i := 85) (by rfl))
set_option maxRecDepth 20000 in
theorem lk_86 : (Jvm.Cond.fieldLink "DraftTree$PatternReader" (27 : Nat) "DraftTree$PatternReader" "made" "LDraftTree$Automaton;") ∈ wk_tbl := List.mem_append_left _ (List.mem_of_getElem? (i := 86) (by rfl))
set_option maxRecDepth 20000 in
theorem lk_87 : (Jvm.Cond.fieldLink "DraftTree$PatternReader" (31 : Nat) "DraftTree$PatternReader" "source" "[C") ∈ wk_tbl := List.mem_append_left _ (List.mem_of_getElem? (i := 87) (by rfl))
set_option maxRecDepth 20000 in
theorem lk_88 : (Jvm.Cond.code ({ cls := "DraftTree$PatternReader", name := "<init>", desc := "()V" } : Jvm.MethodName) prog_3_method_1_code (1 : Nat) (Option.none : Option Jvm.ClassFile.FieldType)) ∈ wk_tbl := List.mem_append_left _ (List.mem_of_getElem? (i := 88) (by rfl))
set_option maxRecDepth 20000 in
theorem lk_89 : (Jvm.Cond.methodLink "DraftTree" (34 : Nat) ({ cls := "DraftTree$PatternReader", name := "<init>", desc := "()V" } : Jvm.MethodName)) ∈ wk_tbl := List.mem_append_left _ (List.mem_of_getElem? (i := 89) (by rfl))
set_option maxRecDepth 20000 in
theorem lk_90 : (Jvm.Cond.instanceMethod ({ cls := "DraftTree$PatternReader", name := "<init>", desc := "()V" } : Jvm.MethodName)) ∈ wk_tbl := List.mem_append_left _ (List.mem_of_getElem? (i := 90) (by rfl))
set_option maxRecDepth 20000 in
theorem lk_91 : (Jvm.Cond.fieldLink "DraftTree" (35 : Nat) "DraftTree" "reader" "LDraftTree$PatternReader;") ∈ wk_tbl := List.mem_append_left _ (List.mem_of_getElem? (i := 91) (by rfl))
set_option maxRecDepth 20000 in
theorem lk_92 : (Jvm.Cond.classLink "DraftTree" (39 : Nat) "DraftTree$Automaton") ∈ wk_tbl := List.mem_append_left _ (List.mem_of_getElem? (i := 92) (by rfl))
set_option maxRecDepth 20000 in
theorem lk_93 : (Jvm.Cond.methodLink "DraftTree" (41 : Nat) ({ cls := "DraftTree$Automaton", name := "<init>", desc := "()V" } : Jvm.MethodName)) ∈ wk_tbl := List.mem_append_left _ (List.mem_of_getElem? (i := 93) (by rfl))
set_option maxRecDepth 20000 in
theorem lk_94 : (Jvm.Cond.fieldLink "DraftTree" (42 : Nat) "DraftTree" "pattern" "LDraftTree$Automaton;") ∈ wk_tbl := List.mem_append_left _ (List.mem_of_getElem? (i := 94) (by rfl))
set_option maxRecDepth 20000 in
theorem lk_95 : (Jvm.Cond.fieldLink "DraftTree" (46 : Nat) "DraftTree" "latestFault" "I") ∈ wk_tbl := List.mem_append_left _ (List.mem_of_getElem? (i := 95) (by rfl))
set_option maxRecDepth 20000 in
theorem lk_96 : (Jvm.Cond.fieldLink "DraftTree" (49 : Nat) "DraftTree" "matchStarts" "[I") ∈ wk_tbl := List.mem_append_left _ (List.mem_of_getElem? (i := 96) (by rfl))
set_option maxRecDepth 20000 in
theorem lk_97 : (Jvm.Cond.fieldLink "DraftTree" (53 : Nat) "DraftTree" "matchEnds" "[I") ∈ wk_tbl := List.mem_append_left _ (List.mem_of_getElem? (i := 97) (by rfl))
set_option maxRecDepth 20000 in
theorem lk_98 : (Jvm.Cond.code ({ cls := "DraftTree", name := "<init>", desc := "()V" } : Jvm.MethodName) prog_1_method_1_code (1 : Nat) (Option.none : Option Jvm.ClassFile.FieldType)) ∈ wk_tbl := List.mem_append_left _ (List.mem_of_getElem? (i := 98) (by rfl))
set_option maxRecDepth 20000 in
theorem lk_99 : (Jvm.Cond.methodLink "DraftTreeLaw" (62 : Nat) ({ cls := "DraftTree", name := "<init>", desc := "()V" } : Jvm.MethodName)) ∈ wk_tbl := List.mem_append_left _ (List.mem_of_getElem? (i := 99) (by rfl))
set_option maxRecDepth 20000 in
theorem lk_100 : (Jvm.Cond.instanceMethod ({ cls := "DraftTree", name := "<init>", desc := "()V" } : Jvm.MethodName)) ∈ wk_tbl := List.mem_append_left _ (List.mem_of_getElem? (i := 100) (by rfl))
set_option maxRecDepth 20000 in
theorem lk_101 : (Jvm.Cond.lays "DraftTreeModel" "DraftTreeModel" "code" "I") ∈ wk_tbl := List.mem_append_left _ (List.mem_of_getElem? (i := 101) (by rfl))
set_option maxRecDepth 20000 in
theorem lk_102 : (Jvm.Cond.lays "DraftTreeModel" "DraftTreeModel" "typed" "I") ∈ wk_tbl := List.mem_append_left _ (List.mem_of_getElem? (i := 102) (by rfl))
set_option maxRecDepth 20000 in
theorem lk_103 : (Jvm.Cond.laysFinal "DraftTreeModel" "DraftTreeModel" "slip" "[C") ∈ wk_tbl := List.mem_append_left _ (List.mem_of_getElem? (i := 103) (by rfl))
set_option maxRecDepth 20000 in
theorem lk_104 : (Jvm.Cond.lays "DraftTreeModel" "DraftTreeModel" "states" "I") ∈ wk_tbl := List.mem_append_left _ (List.mem_of_getElem? (i := 104) (by rfl))
set_option maxRecDepth 20000 in
theorem lk_105 : (Jvm.Cond.lays "DraftTreeModel" "DraftTreeModel" "present" "I") ∈ wk_tbl := List.mem_append_left _ (List.mem_of_getElem? (i := 105) (by rfl))
set_option maxRecDepth 20000 in
theorem lk_106 : (Jvm.Cond.laysFinal "DraftTreeModel" "DraftTreeModel" "texts" "[C") ∈ wk_tbl := List.mem_append_left _ (List.mem_of_getElem? (i := 106) (by rfl))
set_option maxRecDepth 20000 in
theorem lk_107 : (Jvm.Cond.laysFinal "DraftTreeModel" "DraftTreeModel" "lengths" "[I") ∈ wk_tbl := List.mem_append_left _ (List.mem_of_getElem? (i := 107) (by rfl))
set_option maxRecDepth 20000 in
theorem lk_108 : (Jvm.Cond.laysFinal "DraftTreeModel" "DraftTreeModel" "places" "[I") ∈ wk_tbl := List.mem_append_left _ (List.mem_of_getElem? (i := 108) (by rfl))
set_option maxRecDepth 20000 in
theorem lk_109 : (Jvm.Cond.laysFinal "DraftTreeModel" "DraftTreeModel" "parents" "[I") ∈ wk_tbl := List.mem_append_left _ (List.mem_of_getElem? (i := 109) (by rfl))
set_option maxRecDepth 20000 in
theorem lk_110 : (Jvm.Cond.laysFinal "DraftTreeModel" "DraftTreeModel" "came" "[I") ∈ wk_tbl := List.mem_append_left _ (List.mem_of_getElem? (i := 110) (by rfl))
set_option maxRecDepth 20000 in
theorem lk_111 : (Jvm.Cond.lays "DraftTreeModel" "DraftTreeModel" "clock" "I") ∈ wk_tbl := List.mem_append_left _ (List.mem_of_getElem? (i := 111) (by rfl))
set_option maxRecDepth 20000 in
theorem lk_112 : (Jvm.Cond.lays "DraftTreeModel" "DraftTreeModel" "cursor" "I") ∈ wk_tbl := List.mem_append_left _ (List.mem_of_getElem? (i := 112) (by rfl))
set_option maxRecDepth 20000 in
theorem lk_113 : (Jvm.Cond.lays "DraftTreeModel" "DraftTreeModel" "mark" "I") ∈ wk_tbl := List.mem_append_left _ (List.mem_of_getElem? (i := 113) (by rfl))
set_option maxRecDepth 20000 in
theorem lk_114 : (Jvm.Cond.lays "DraftTreeModel" "DraftTreeModel" "compiled" "Z") ∈ wk_tbl := List.mem_append_left _ (List.mem_of_getElem? (i := 114) (by rfl))
set_option maxRecDepth 20000 in
theorem lk_115 : (Jvm.Cond.lays "DraftTreeModel" "DraftTreeModel" "wrongAt" "I") ∈ wk_tbl := List.mem_append_left _ (List.mem_of_getElem? (i := 115) (by rfl))
set_option maxRecDepth 20000 in
theorem lk_116 : (Jvm.Cond.lays "DraftTreeModel" "DraftTreeModel" "size" "I") ∈ wk_tbl := List.mem_append_left _ (List.mem_of_getElem? (i := 116) (by rfl))
set_option maxRecDepth 20000 in
theorem lk_117 : (Jvm.Cond.laysFinal "DraftTreeModel" "DraftTreeModel" "pattern" "[C") ∈ wk_tbl := List.mem_append_left _ (List.mem_of_getElem? (i := 117) (by rfl))
set_option maxRecDepth 20000 in
theorem lk_118 : (Jvm.Cond.lays "DraftTreeModel" "DraftTreeModel" "nodes" "I") ∈ wk_tbl := List.mem_append_left _ (List.mem_of_getElem? (i := 118) (by rfl))
set_option maxRecDepth 20000 in
theorem lk_119 : (Jvm.Cond.laysFinal "DraftTreeModel" "DraftTreeModel" "kind" "[I") ∈ wk_tbl := List.mem_append_left _ (List.mem_of_getElem? (i := 119) (by rfl))
set_option maxRecDepth 20000 in
theorem lk_120 : (Jvm.Cond.laysFinal "DraftTreeModel" "DraftTreeModel" "from" "[I") ∈ wk_tbl := List.mem_append_left _ (List.mem_of_getElem? (i := 120) (by rfl))
set_option maxRecDepth 20000 in
theorem lk_121 : (Jvm.Cond.laysFinal "DraftTreeModel" "DraftTreeModel" "to" "[I") ∈ wk_tbl := List.mem_append_left _ (List.mem_of_getElem? (i := 121) (by rfl))
set_option maxRecDepth 20000 in
theorem lk_122 : (Jvm.Cond.laysFinal "DraftTreeModel" "DraftTreeModel" "one" "[I") ∈ wk_tbl := List.mem_append_left _ (List.mem_of_getElem? (i := 122) (by rfl))
set_option maxRecDepth 20000 in
theorem lk_123 : (Jvm.Cond.laysFinal "DraftTreeModel" "DraftTreeModel" "two" "[I") ∈ wk_tbl := List.mem_append_left _ (List.mem_of_getElem? (i := 123) (by rfl))
set_option maxRecDepth 20000 in
theorem lk_124 : (Jvm.Cond.lays "DraftTreeModel" "DraftTreeModel" "first" "I") ∈ wk_tbl := List.mem_append_left _ (List.mem_of_getElem? (i := 124) (by rfl))
set_option maxRecDepth 20000 in
theorem lk_125 : (Jvm.Cond.lays "DraftTreeModel" "DraftTreeModel" "last" "I") ∈ wk_tbl := List.mem_append_left _ (List.mem_of_getElem? (i := 125) (by rfl))
set_option maxRecDepth 20000 in
theorem lk_126 : (Jvm.Cond.lays "DraftTreeModel" "DraftTreeModel" "pieces" "I") ∈ wk_tbl := List.mem_append_left _ (List.mem_of_getElem? (i := 126) (by rfl))
set_option maxRecDepth 20000 in
theorem lk_127 : (Jvm.Cond.laysFinal "DraftTreeModel" "DraftTreeModel" "head" "[I") ∈ wk_tbl := List.mem_append_left _ (List.mem_of_getElem? (i := 127) (by rfl))
set_option maxRecDepth 20000 in
theorem lk_128 : (Jvm.Cond.laysFinal "DraftTreeModel" "DraftTreeModel" "tail" "[I") ∈ wk_tbl := List.mem_append_left _ (List.mem_of_getElem? (i := 128) (by rfl))
set_option maxRecDepth 20000 in
theorem lk_129 : (Jvm.Cond.lays "DraftTreeModel" "DraftTreeModel" "open" "I") ∈ wk_tbl := List.mem_append_left _ (List.mem_of_getElem? (i := 129) (by rfl))
set_option maxRecDepth 20000 in
theorem lk_130 : (Jvm.Cond.laysFinal "DraftTreeModel" "DraftTreeModel" "choice" "[I") ∈ wk_tbl := List.mem_append_left _ (List.mem_of_getElem? (i := 130) (by rfl))
set_option maxRecDepth 20000 in
theorem lk_131 : (Jvm.Cond.laysFinal "DraftTreeModel" "DraftTreeModel" "row" "[I") ∈ wk_tbl := List.mem_append_left _ (List.mem_of_getElem? (i := 131) (by rfl))
set_option maxRecDepth 20000 in
theorem lk_132 : (Jvm.Cond.laysFinal "DraftTreeModel" "DraftTreeModel" "part" "[I") ∈ wk_tbl := List.mem_append_left _ (List.mem_of_getElem? (i := 132) (by rfl))
set_option maxRecDepth 20000 in
theorem lk_133 : (Jvm.Cond.laysFinal "DraftTreeModel" "DraftTreeModel" "here" "[Z") ∈ wk_tbl := List.mem_append_left _ (List.mem_of_getElem? (i := 133) (by rfl))
set_option maxRecDepth 20000 in
theorem lk_134 : (Jvm.Cond.laysFinal "DraftTreeModel" "DraftTreeModel" "then" "[Z") ∈ wk_tbl := List.mem_append_left _ (List.mem_of_getElem? (i := 134) (by rfl))
set_option maxRecDepth 20000 in
theorem lk_135 : (Jvm.Cond.lays "DraftTreeModel" "DraftTreeModel" "foundAt" "I") ∈ wk_tbl := List.mem_append_left _ (List.mem_of_getElem? (i := 135) (by rfl))
set_option maxRecDepth 20000 in
theorem lk_136 : (Jvm.Cond.lays "DraftTreeModel" "DraftTreeModel" "foundEnd" "I") ∈ wk_tbl := List.mem_append_left _ (List.mem_of_getElem? (i := 136) (by rfl))
set_option maxRecDepth 20000 in
theorem lk_137 : (Jvm.Cond.lays "DraftTreeModel" "DraftTreeModel" "made" "I") ∈ wk_tbl := List.mem_append_left _ (List.mem_of_getElem? (i := 137) (by rfl))
set_option maxRecDepth 20000 in
theorem lk_138 : (Jvm.Cond.laysFinal "DraftTreeModel" "DraftTreeModel" "draft" "[C") ∈ wk_tbl := List.mem_append_left _ (List.mem_of_getElem? (i := 138) (by rfl))
set_option maxRecDepth 20000 in
theorem lk_139 : (Jvm.Cond.classLink "DraftTreeLaw" (63 : Nat) "DraftTreeModel") ∈ wk_tbl := List.mem_append_left _ (List.mem_of_getElem? (i := 139) (by rfl))
set_option maxRecDepth 20000 in
theorem lk_140 : (Jvm.Cond.instantiable "DraftTreeModel" (38 : Nat)) ∈ wk_tbl := List.mem_append_left _ (List.mem_of_getElem? (i := 140) (by rfl))
set_option maxRecDepth 20000 in
theorem lk_141 : (Jvm.Cond.initialized "DraftTreeModel") ∈ wk_tbl := List.mem_append_left _ (List.mem_of_getElem? (i := 141) (by rfl))
set_option maxRecDepth 20000 in
theorem lk_142 : (Jvm.Cond.methodLink "DraftTreeModel" (1 : Nat) ({ cls := "java/lang/Object", name := "<init>", desc := "()V" } : Jvm.MethodName)) ∈ wk_tbl := List.mem_append_left _ (List.mem_of_getElem? (i := 142) (by rfl))
set_option maxRecDepth 20000 in
theorem lk_143 : (Jvm.Cond.fieldLink "DraftTreeModel" (7 : Nat) "DraftTreeModel" "slip" "[C") ∈ wk_tbl := List.mem_append_left _ (List.mem_of_getElem? (i := 143) (by rfl))
set_option maxRecDepth 20000 in
theorem lk_144 : (Jvm.Cond.fieldLink "DraftTreeModel" (13 : Nat) "DraftTreeModel" "states" "I") ∈ wk_tbl := List.mem_append_left _ (List.mem_of_getElem? (i := 144) (by rfl))
set_option maxRecDepth 20000 in
theorem lk_145 : (Jvm.Cond.fieldLink "DraftTreeModel" (17 : Nat) "DraftTreeModel" "texts" "[C") ∈ wk_tbl := List.mem_append_left _ (List.mem_of_getElem? (i := 145) (by rfl))
set_option maxRecDepth 20000 in
theorem lk_146 : (Jvm.Cond.fieldLink "DraftTreeModel" (20 : Nat) "DraftTreeModel" "lengths" "[I") ∈ wk_tbl := List.mem_append_left _ (List.mem_of_getElem? (i := 146) (by rfl))
set_option maxRecDepth 20000 in
theorem lk_147 : (Jvm.Cond.fieldLink "DraftTreeModel" (24 : Nat) "DraftTreeModel" "places" "[I") ∈ wk_tbl := List.mem_append_left _ (List.mem_of_getElem? (i := 147) (by rfl))
set_option maxRecDepth 20000 in
theorem lk_148 : (Jvm.Cond.fieldLink "DraftTreeModel" (27 : Nat) "DraftTreeModel" "parents" "[I") ∈ wk_tbl := List.mem_append_left _ (List.mem_of_getElem? (i := 148) (by rfl))
set_option maxRecDepth 20000 in
theorem lk_149 : (Jvm.Cond.fieldLink "DraftTreeModel" (30 : Nat) "DraftTreeModel" "came" "[I") ∈ wk_tbl := List.mem_append_left _ (List.mem_of_getElem? (i := 149) (by rfl))
set_option maxRecDepth 20000 in
theorem lk_150 : (Jvm.Cond.fieldLink "DraftTreeModel" (33 : Nat) "DraftTreeModel" "mark" "I") ∈ wk_tbl := List.mem_append_left _ (List.mem_of_getElem? (i := 150) (by rfl))
set_option maxRecDepth 20000 in
theorem lk_151 : (Jvm.Cond.fieldLink "DraftTreeModel" (36 : Nat) "DraftTreeModel" "wrongAt" "I") ∈ wk_tbl := List.mem_append_left _ (List.mem_of_getElem? (i := 151) (by rfl))
set_option maxRecDepth 20000 in
theorem lk_152 : (Jvm.Cond.fieldLink "DraftTreeModel" (39 : Nat) "DraftTreeModel" "pattern" "[C") ∈ wk_tbl := List.mem_append_left _ (List.mem_of_getElem? (i := 152) (by rfl))
set_option maxRecDepth 20000 in
theorem lk_153 : (Jvm.Cond.fieldLink "DraftTreeModel" (42 : Nat) "DraftTreeModel" "kind" "[I") ∈ wk_tbl := List.mem_append_left _ (List.mem_of_getElem? (i := 153) (by rfl))
set_option maxRecDepth 20000 in
theorem lk_154 : (Jvm.Cond.fieldLink "DraftTreeModel" (45 : Nat) "DraftTreeModel" "from" "[I") ∈ wk_tbl := List.mem_append_left _ (List.mem_of_getElem? (i := 154) (by rfl))
set_option maxRecDepth 20000 in
theorem lk_155 : (Jvm.Cond.fieldLink "DraftTreeModel" (48 : Nat) "DraftTreeModel" "to" "[I") ∈ wk_tbl := List.mem_append_left _ (List.mem_of_getElem? (i := 155) (by rfl))
set_option maxRecDepth 20000 in
theorem lk_156 : (Jvm.Cond.fieldLink "DraftTreeModel" (51 : Nat) "DraftTreeModel" "one" "[I") ∈ wk_tbl := List.mem_append_left _ (List.mem_of_getElem? (i := 156) (by rfl))
set_option maxRecDepth 20000 in
theorem lk_157 : (Jvm.Cond.fieldLink "DraftTreeModel" (54 : Nat) "DraftTreeModel" "two" "[I") ∈ wk_tbl := List.mem_append_left _ (List.mem_of_getElem? (i := 157) (by rfl))
set_option maxRecDepth 20000 in
theorem lk_158 : (Jvm.Cond.fieldLink "DraftTreeModel" (57 : Nat) "DraftTreeModel" "head" "[I") ∈ wk_tbl := List.mem_append_left _ (List.mem_of_getElem? (i := 158) (by rfl))
set_option maxRecDepth 20000 in
theorem lk_159 : (Jvm.Cond.fieldLink "DraftTreeModel" (60 : Nat) "DraftTreeModel" "tail" "[I") ∈ wk_tbl := List.mem_append_left _ (List.mem_of_getElem? (i := 159) (by rfl))
set_option maxRecDepth 20000 in
theorem lk_160 : (Jvm.Cond.fieldLink "DraftTreeModel" (63 : Nat) "DraftTreeModel" "choice" "[I") ∈ wk_tbl := List.mem_append_left _ (List.mem_of_getElem? (i := 160) (by rfl))
set_option maxRecDepth 20000 in
theorem lk_161 : (Jvm.Cond.fieldLink "DraftTreeModel" (66 : Nat) "DraftTreeModel" "row" "[I") ∈ wk_tbl := List.mem_append_left _ (List.mem_of_getElem? (i := 161) (by rfl))
set_option maxRecDepth 20000 in
theorem lk_162 : (Jvm.Cond.fieldLink "DraftTreeModel" (69 : Nat) "DraftTreeModel" "part" "[I") ∈ wk_tbl := List.mem_append_left _ (List.mem_of_getElem? (i := 162) (by rfl))
set_option maxRecDepth 20000 in
theorem lk_163 : (Jvm.Cond.arrayClass Jvm.ClassFile.FieldType.boolean) ∈ wk_tbl := List.mem_append_left _ (List.mem_of_getElem? (i := 163) (by rfl))
set_option maxRecDepth 20000 in
theorem lk_164 : (Jvm.Cond.fieldLink "DraftTreeModel" (72 : Nat) "DraftTreeModel" "here" "[Z") ∈ wk_tbl := List.mem_append_left _ (List.mem_of_getElem? (i := 164) (by rfl))
set_option maxRecDepth 20000 in
theorem lk_165 : (Jvm.Cond.fieldLink "DraftTreeModel" (76 : Nat) "DraftTreeModel" "then" "[Z") ∈ wk_tbl := List.mem_append_left _ (List.mem_of_getElem? (i := 165) (by rfl))
set_option maxRecDepth 20000 in
theorem lk_166 : (Jvm.Cond.fieldLink "DraftTreeModel" (79 : Nat) "DraftTreeModel" "draft" "[C") ∈ wk_tbl := List.mem_append_left _ (List.mem_of_getElem? (i := 166) (by rfl))
set_option maxRecDepth 20000 in
theorem lk_167 : (Jvm.Cond.code ({ cls := "DraftTreeModel", name := "<init>", desc := "()V" } : Jvm.MethodName) prog_6_method_1_code (1 : Nat) (Option.none : Option Jvm.ClassFile.FieldType)) ∈ wk_tbl := List.mem_append_left _ (List.mem_of_getElem? (i := 167) (by rfl))
set_option maxRecDepth 20000 in
theorem lk_168 : (Jvm.Cond.methodLink "DraftTreeLaw" (65 : Nat) ({ cls := "DraftTreeModel", name := "<init>", desc := "()V" } : Jvm.MethodName)) ∈ wk_tbl := List.mem_append_left _ (List.mem_of_getElem? (i := 168) (by rfl))
set_option maxRecDepth 20000 in
theorem lk_169 : (Jvm.Cond.instanceMethod ({ cls := "DraftTreeModel", name := "<init>", desc := "()V" } : Jvm.MethodName)) ∈ wk_tbl := List.mem_append_left _ (List.mem_of_getElem? (i := 169) (by rfl))
set_option maxRecDepth 20000 in
theorem lk_170 : (Jvm.Cond.fieldLink "DraftTree" (56 : Nat) "DraftTree" "slipSize" "I") ∈ wk_tbl := List.mem_append_left _ (List.mem_of_getElem? (i := 170) (by rfl))
set_option maxRecDepth 20000 in
theorem lk_171 : (Jvm.Cond.code ({ cls := "DraftTree", name := "type", desc := "(C)Z" } : Jvm.MethodName) prog_1_method_2_code (3 : Nat) (Option.some Jvm.ClassFile.FieldType.boolean)) ∈ wk_tbl := List.mem_append_left _ (List.mem_of_getElem? (i := 171) (by rfl))
set_option maxRecDepth 20000 in
theorem lk_172 : (Jvm.Cond.methodLink "DraftTreeLaw" (66 : Nat) ({ cls := "DraftTree", name := "type", desc := "(C)Z" } : Jvm.MethodName)) ∈ wk_tbl := List.mem_append_left _ (List.mem_of_getElem? (i := 172) (by rfl))
set_option maxRecDepth 20000 in
theorem lk_173 : (Jvm.Cond.instanceMethod ({ cls := "DraftTree", name := "type", desc := "(C)Z" } : Jvm.MethodName)) ∈ wk_tbl := List.mem_append_left _ (List.mem_of_getElem? (i := 173) (by rfl))
set_option maxRecDepth 20000 in
theorem lk_174 : (Jvm.Cond.selects "DraftTree" ({ cls := "DraftTree", name := "type", desc := "(C)Z" } : Jvm.MethodName) ({ cls := "DraftTree", name := "type", desc := "(C)Z" } : Jvm.MethodName)) ∈ wk_tbl := List.mem_append_left _ (List.mem_of_getElem? (i := 174) (by rfl))
set_option maxRecDepth 20000 in
theorem lk_175 : (Jvm.Cond.fieldLink "DraftTreeModel" (82 : Nat) "DraftTreeModel" "code" "I") ∈ wk_tbl := List.mem_append_left _ (List.mem_of_getElem? (i := 175) (by rfl))
set_option maxRecDepth 20000 in
theorem lk_176 : (Jvm.Cond.code ({ cls := "DraftTreeModel", name := "isCharacter", desc := "(C)Z" } : Jvm.MethodName) prog_6_method_3_code (1 : Nat) (Option.some Jvm.ClassFile.FieldType.boolean)) ∈ wk_tbl := List.mem_append_left _ (List.mem_of_getElem? (i := 176) (by rfl))
set_option maxRecDepth 20000 in
theorem lk_177 : (Jvm.Cond.methodLink "DraftTreeModel" (85 : Nat) ({ cls := "DraftTreeModel", name := "isCharacter", desc := "(C)Z" } : Jvm.MethodName)) ∈ wk_tbl := List.mem_append_left _ (List.mem_of_getElem? (i := 177) (by rfl))
set_option maxRecDepth 20000 in
theorem lk_178 : (Jvm.Cond.static ({ cls := "DraftTreeModel", name := "isCharacter", desc := "(C)Z" } : Jvm.MethodName)) ∈ wk_tbl := List.mem_append_left _ (List.mem_of_getElem? (i := 178) (by rfl))
set_option maxRecDepth 20000 in
theorem lk_179 : (Jvm.Cond.fieldLink "DraftTreeModel" (89 : Nat) "DraftTreeModel" "typed" "I") ∈ wk_tbl := List.mem_append_left _ (List.mem_of_getElem? (i := 179) (by rfl))
set_option maxRecDepth 20000 in
theorem lk_180 : (Jvm.Cond.code ({ cls := "DraftTreeModel", name := "type", desc := "(C)Z" } : Jvm.MethodName) prog_6_method_4_code (2 : Nat) (Option.some Jvm.ClassFile.FieldType.boolean)) ∈ wk_tbl := List.mem_append_left _ (List.mem_of_getElem? (i := 180) (by rfl))
set_option maxRecDepth 20000 in
theorem lk_181 : (Jvm.Cond.methodLink "DraftTreeLaw" (70 : Nat) ({ cls := "DraftTreeModel", name := "type", desc := "(C)Z" } : Jvm.MethodName)) ∈ wk_tbl := List.mem_append_left _ (List.mem_of_getElem? (i := 181) (by rfl))
set_option maxRecDepth 20000 in
theorem lk_182 : (Jvm.Cond.instanceMethod ({ cls := "DraftTreeModel", name := "type", desc := "(C)Z" } : Jvm.MethodName)) ∈ wk_tbl := List.mem_append_left _ (List.mem_of_getElem? (i := 182) (by rfl))
set_option maxRecDepth 20000 in
theorem lk_183 : (Jvm.Cond.selects "DraftTreeModel" ({ cls := "DraftTreeModel", name := "type", desc := "(C)Z" } : Jvm.MethodName) ({ cls := "DraftTreeModel", name := "type", desc := "(C)Z" } : Jvm.MethodName)) ∈ wk_tbl := List.mem_append_left _ (List.mem_of_getElem? (i := 183) (by rfl))
set_option maxRecDepth 20000 in
theorem lk_184 : (Jvm.Cond.code ({ cls := "DraftTree", name := "wipe", desc := "()I" } : Jvm.MethodName) prog_1_method_3_code (2 : Nat) (Option.some Jvm.ClassFile.FieldType.int)) ∈ wk_tbl := List.mem_append_left _ (List.mem_of_getElem? (i := 184) (by rfl))
set_option maxRecDepth 20000 in
theorem lk_185 : (Jvm.Cond.methodLink "DraftTreeLaw" (71 : Nat) ({ cls := "DraftTree", name := "wipe", desc := "()I" } : Jvm.MethodName)) ∈ wk_tbl := List.mem_append_left _ (List.mem_of_getElem? (i := 185) (by rfl))
set_option maxRecDepth 20000 in
theorem lk_186 : (Jvm.Cond.instanceMethod ({ cls := "DraftTree", name := "wipe", desc := "()I" } : Jvm.MethodName)) ∈ wk_tbl := List.mem_append_left _ (List.mem_of_getElem? (i := 186) (by rfl))
set_option maxRecDepth 20000 in
theorem lk_187 : (Jvm.Cond.selects "DraftTree" ({ cls := "DraftTree", name := "wipe", desc := "()I" } : Jvm.MethodName) ({ cls := "DraftTree", name := "wipe", desc := "()I" } : Jvm.MethodName)) ∈ wk_tbl := List.mem_append_left _ (List.mem_of_getElem? (i := 187) (by rfl))
set_option maxRecDepth 20000 in
theorem lk_188 : (Jvm.Cond.code ({ cls := "DraftTreeModel", name := "wipe", desc := "()I" } : Jvm.MethodName) prog_6_method_5_code (2 : Nat) (Option.some Jvm.ClassFile.FieldType.int)) ∈ wk_tbl := List.mem_append_left _ (List.mem_of_getElem? (i := 188) (by rfl))
set_option maxRecDepth 20000 in
theorem lk_189 : (Jvm.Cond.methodLink "DraftTreeLaw" (74 : Nat) ({ cls := "DraftTreeModel", name := "wipe", desc := "()I" } : Jvm.MethodName)) ∈ wk_tbl := List.mem_append_left _ (List.mem_of_getElem? (i := 189) (by rfl))
set_option maxRecDepth 20000 in
theorem lk_190 : (Jvm.Cond.instanceMethod ({ cls := "DraftTreeModel", name := "wipe", desc := "()I" } : Jvm.MethodName)) ∈ wk_tbl := List.mem_append_left _ (List.mem_of_getElem? (i := 190) (by rfl))
set_option maxRecDepth 20000 in
theorem lk_191 : (Jvm.Cond.selects "DraftTreeModel" ({ cls := "DraftTreeModel", name := "wipe", desc := "()I" } : Jvm.MethodName) ({ cls := "DraftTreeModel", name := "wipe", desc := "()I" } : Jvm.MethodName)) ∈ wk_tbl := List.mem_append_left _ (List.mem_of_getElem? (i := 191) (by rfl))
set_option maxRecDepth 20000 in
theorem lk_192 : (Jvm.Cond.fieldLink "DraftTree" (76 : Nat) "DraftTree" "cursor" "I") ∈ wk_tbl := List.mem_append_left _ (List.mem_of_getElem? (i := 192) (by rfl))
set_option maxRecDepth 20000 in
theorem lk_193 : (Jvm.Cond.code ({ cls := "DraftTree", name := "selectionStart", desc := "()I" } : Jvm.MethodName) prog_1_method_21_code (1 : Nat) (Option.some Jvm.ClassFile.FieldType.int)) ∈ wk_tbl := List.mem_append_left _ (List.mem_of_getElem? (i := 193) (by rfl))
set_option maxRecDepth 20000 in
theorem lk_194 : (Jvm.Cond.methodLink "DraftTree" (59 : Nat) ({ cls := "DraftTree", name := "selectionStart", desc := "()I" } : Jvm.MethodName)) ∈ wk_tbl := List.mem_append_left _ (List.mem_of_getElem? (i := 194) (by rfl))
set_option maxRecDepth 20000 in
theorem lk_195 : (Jvm.Cond.instanceMethod ({ cls := "DraftTree", name := "selectionStart", desc := "()I" } : Jvm.MethodName)) ∈ wk_tbl := List.mem_append_left _ (List.mem_of_getElem? (i := 195) (by rfl))
set_option maxRecDepth 20000 in
theorem lk_196 : (Jvm.Cond.selects "DraftTree" ({ cls := "DraftTree", name := "selectionStart", desc := "()I" } : Jvm.MethodName) ({ cls := "DraftTree", name := "selectionStart", desc := "()I" } : Jvm.MethodName)) ∈ wk_tbl := List.mem_append_left _ (List.mem_of_getElem? (i := 196) (by rfl))
set_option maxRecDepth 20000 in
theorem lk_197 : (Jvm.Cond.code ({ cls := "DraftTree", name := "selectionEnd", desc := "()I" } : Jvm.MethodName) prog_1_method_22_code (1 : Nat) (Option.some Jvm.ClassFile.FieldType.int)) ∈ wk_tbl := List.mem_append_left _ (List.mem_of_getElem? (i := 197) (by rfl))
set_option maxRecDepth 20000 in
theorem lk_198 : (Jvm.Cond.methodLink "DraftTree" (63 : Nat) ({ cls := "DraftTree", name := "selectionEnd", desc := "()I" } : Jvm.MethodName)) ∈ wk_tbl := List.mem_append_left _ (List.mem_of_getElem? (i := 198) (by rfl))
set_option maxRecDepth 20000 in
theorem lk_199 : (Jvm.Cond.instanceMethod ({ cls := "DraftTree", name := "selectionEnd", desc := "()I" } : Jvm.MethodName)) ∈ wk_tbl := List.mem_append_left _ (List.mem_of_getElem? (i := 199) (by rfl))
set_option maxRecDepth 20000 in
theorem lk_200 : (Jvm.Cond.selects "DraftTree" ({ cls := "DraftTree", name := "selectionEnd", desc := "()I" } : Jvm.MethodName) ({ cls := "DraftTree", name := "selectionEnd", desc := "()I" } : Jvm.MethodName)) ∈ wk_tbl := List.mem_append_left _ (List.mem_of_getElem? (i := 200) (by rfl))
set_option maxRecDepth 20000 in
theorem lk_201 : (Jvm.Cond.fieldLink "DraftTree" (73 : Nat) "DraftTree" "present" "I") ∈ wk_tbl := List.mem_append_left _ (List.mem_of_getElem? (i := 201) (by rfl))
set_option maxRecDepth 20000 in
theorem lk_202 : (Jvm.Cond.code ({ cls := "DraftTree", name := "insert", desc := "()I" } : Jvm.MethodName) prog_1_method_4_code (3 : Nat) (Option.some Jvm.ClassFile.FieldType.int)) ∈ wk_tbl := List.mem_append_left _ (List.mem_of_getElem? (i := 202) (by rfl))
set_option maxRecDepth 20000 in
theorem lk_203 : (Jvm.Cond.methodLink "DraftTreeLaw" (7 : Nat) ({ cls := "DraftTree", name := "insert", desc := "()I" } : Jvm.MethodName)) ∈ wk_tbl := List.mem_append_left _ (List.mem_of_getElem? (i := 203) (by rfl))
set_option maxRecDepth 20000 in
theorem lk_204 : (Jvm.Cond.instanceMethod ({ cls := "DraftTree", name := "insert", desc := "()I" } : Jvm.MethodName)) ∈ wk_tbl := List.mem_append_left _ (List.mem_of_getElem? (i := 204) (by rfl))
set_option maxRecDepth 20000 in
theorem lk_205 : (Jvm.Cond.selects "DraftTree" ({ cls := "DraftTree", name := "insert", desc := "()I" } : Jvm.MethodName) ({ cls := "DraftTree", name := "insert", desc := "()I" } : Jvm.MethodName)) ∈ wk_tbl := List.mem_append_left _ (List.mem_of_getElem? (i := 205) (by rfl))
set_option maxRecDepth 20000 in
theorem lk_206 : (Jvm.Cond.codeWith ({ cls := "DraftTreeLaw", name := "insert", desc := "(LDraftTree;[J)I" } : Jvm.MethodName) method_3_code (3 : Nat) (Option.some Jvm.ClassFile.FieldType.int) [((0 : Nat), (8 : Nat), (11 : Nat), (13 : Nat))]) ∈ wk_tbl := List.mem_append_left _ (List.mem_of_getElem? (i := 206) (by rfl))
set_option maxRecDepth 20000 in
theorem lk_207 : (Jvm.Cond.initialized "DraftTreeLaw") ∈ wk_tbl := List.mem_append_left _ (List.mem_of_getElem? (i := 207) (by rfl))
set_option maxRecDepth 20000 in
theorem lk_208 : (Jvm.Cond.methodLink "DraftTreeLaw" (75 : Nat) ({ cls := "DraftTreeLaw", name := "insert", desc := "(LDraftTree;[J)I" } : Jvm.MethodName)) ∈ wk_tbl := List.mem_append_left _ (List.mem_of_getElem? (i := 208) (by rfl))
set_option maxRecDepth 20000 in
theorem lk_209 : (Jvm.Cond.static ({ cls := "DraftTreeLaw", name := "insert", desc := "(LDraftTree;[J)I" } : Jvm.MethodName)) ∈ wk_tbl := List.mem_append_left _ (List.mem_of_getElem? (i := 209) (by rfl))
set_option maxRecDepth 20000 in
theorem lk_210 : (Jvm.Cond.fieldLink "DraftTreeModel" (95 : Nat) "DraftTreeModel" "cursor" "I") ∈ wk_tbl := List.mem_append_left _ (List.mem_of_getElem? (i := 210) (by rfl))
set_option maxRecDepth 20000 in
theorem lk_211 : (Jvm.Cond.code ({ cls := "DraftTreeModel", name := "low", desc := "()I" } : Jvm.MethodName) prog_6_method_13_code (1 : Nat) (Option.some Jvm.ClassFile.FieldType.int)) ∈ wk_tbl := List.mem_append_left _ (List.mem_of_getElem? (i := 211) (by rfl))
set_option maxRecDepth 20000 in
theorem lk_212 : (Jvm.Cond.methodLink "DraftTreeModel" (116 : Nat) ({ cls := "DraftTreeModel", name := "low", desc := "()I" } : Jvm.MethodName)) ∈ wk_tbl := List.mem_append_left _ (List.mem_of_getElem? (i := 212) (by rfl))
set_option maxRecDepth 20000 in
theorem lk_213 : (Jvm.Cond.instanceMethod ({ cls := "DraftTreeModel", name := "low", desc := "()I" } : Jvm.MethodName)) ∈ wk_tbl := List.mem_append_left _ (List.mem_of_getElem? (i := 213) (by rfl))
set_option maxRecDepth 20000 in
theorem lk_214 : (Jvm.Cond.selects "DraftTreeModel" ({ cls := "DraftTreeModel", name := "low", desc := "()I" } : Jvm.MethodName) ({ cls := "DraftTreeModel", name := "low", desc := "()I" } : Jvm.MethodName)) ∈ wk_tbl := List.mem_append_left _ (List.mem_of_getElem? (i := 214) (by rfl))
set_option maxRecDepth 20000 in
theorem lk_215 : (Jvm.Cond.code ({ cls := "DraftTreeModel", name := "high", desc := "()I" } : Jvm.MethodName) prog_6_method_14_code (1 : Nat) (Option.some Jvm.ClassFile.FieldType.int)) ∈ wk_tbl := List.mem_append_left _ (List.mem_of_getElem? (i := 215) (by rfl))
set_option maxRecDepth 20000 in
theorem lk_216 : (Jvm.Cond.methodLink "DraftTreeModel" (120 : Nat) ({ cls := "DraftTreeModel", name := "high", desc := "()I" } : Jvm.MethodName)) ∈ wk_tbl := List.mem_append_left _ (List.mem_of_getElem? (i := 216) (by rfl))
set_option maxRecDepth 20000 in
theorem lk_217 : (Jvm.Cond.instanceMethod ({ cls := "DraftTreeModel", name := "high", desc := "()I" } : Jvm.MethodName)) ∈ wk_tbl := List.mem_append_left _ (List.mem_of_getElem? (i := 217) (by rfl))
set_option maxRecDepth 20000 in
theorem lk_218 : (Jvm.Cond.selects "DraftTreeModel" ({ cls := "DraftTreeModel", name := "high", desc := "()I" } : Jvm.MethodName) ({ cls := "DraftTreeModel", name := "high", desc := "()I" } : Jvm.MethodName)) ∈ wk_tbl := List.mem_append_left _ (List.mem_of_getElem? (i := 218) (by rfl))
set_option maxRecDepth 20000 in
theorem lk_219 : (Jvm.Cond.fieldLink "DraftTreeModel" (92 : Nat) "DraftTreeModel" "present" "I") ∈ wk_tbl := List.mem_append_left _ (List.mem_of_getElem? (i := 219) (by rfl))
set_option maxRecDepth 20000 in
theorem lk_220 : (Jvm.Cond.code ({ cls := "DraftTreeModel", name := "insert", desc := "()I" } : Jvm.MethodName) prog_6_method_15_code (5 : Nat) (Option.some Jvm.ClassFile.FieldType.int)) ∈ wk_tbl := List.mem_append_left _ (List.mem_of_getElem? (i := 220) (by rfl))
set_option maxRecDepth 20000 in
theorem lk_221 : (Jvm.Cond.methodLink "DraftTreeLaw" (80 : Nat) ({ cls := "DraftTreeModel", name := "insert", desc := "()I" } : Jvm.MethodName)) ∈ wk_tbl := List.mem_append_left _ (List.mem_of_getElem? (i := 221) (by rfl))
set_option maxRecDepth 20000 in
theorem lk_222 : (Jvm.Cond.instanceMethod ({ cls := "DraftTreeModel", name := "insert", desc := "()I" } : Jvm.MethodName)) ∈ wk_tbl := List.mem_append_left _ (List.mem_of_getElem? (i := 222) (by rfl))
set_option maxRecDepth 20000 in
theorem lk_223 : (Jvm.Cond.selects "DraftTreeModel" ({ cls := "DraftTreeModel", name := "insert", desc := "()I" } : Jvm.MethodName) ({ cls := "DraftTreeModel", name := "insert", desc := "()I" } : Jvm.MethodName)) ∈ wk_tbl := List.mem_append_left _ (List.mem_of_getElem? (i := 223) (by rfl))
set_option maxRecDepth 20000 in
theorem lk_224 : (Jvm.Cond.code ({ cls := "DraftTreeModel", name := "thrown", desc := "()I" } : Jvm.MethodName) prog_6_method_2_code (1 : Nat) (Option.some Jvm.ClassFile.FieldType.int)) ∈ wk_tbl := List.mem_append_left _ (List.mem_of_getElem? (i := 224) (by rfl))
set_option maxRecDepth 20000 in
theorem lk_225 : (Jvm.Cond.methodLink "DraftTreeLaw" (81 : Nat) ({ cls := "DraftTreeModel", name := "thrown", desc := "()I" } : Jvm.MethodName)) ∈ wk_tbl := List.mem_append_left _ (List.mem_of_getElem? (i := 225) (by rfl))
set_option maxRecDepth 20000 in
theorem lk_226 : (Jvm.Cond.instanceMethod ({ cls := "DraftTreeModel", name := "thrown", desc := "()I" } : Jvm.MethodName)) ∈ wk_tbl := List.mem_append_left _ (List.mem_of_getElem? (i := 226) (by rfl))
set_option maxRecDepth 20000 in
theorem lk_227 : (Jvm.Cond.selects "DraftTreeModel" ({ cls := "DraftTreeModel", name := "thrown", desc := "()I" } : Jvm.MethodName) ({ cls := "DraftTreeModel", name := "thrown", desc := "()I" } : Jvm.MethodName)) ∈ wk_tbl := List.mem_append_left _ (List.mem_of_getElem? (i := 227) (by rfl))
set_option maxRecDepth 20000 in
theorem lk_228 : (Jvm.Cond.methodLink "DraftTree" (79 : Nat) ({ cls := "java/lang/Math", name := "max", desc := "(II)I" } : Jvm.MethodName)) ∈ wk_tbl := List.mem_append_left _ (List.mem_of_getElem? (i := 228) (by rfl))
set_option maxRecDepth 20000 in
theorem lk_229 : (Jvm.Cond.static ({ cls := "java/lang/Math", name := "max", desc := "(II)I" } : Jvm.MethodName)) ∈ wk_tbl := List.mem_append_left _ (List.mem_of_getElem? (i := 229) (by rfl))
set_option maxRecDepth 20000 in
theorem lk_230 : (Jvm.Cond.initialized "java/lang/Math") ∈ wk_tbl := List.mem_append_left _ (List.mem_of_getElem? (i := 230) (by rfl))
set_option maxRecDepth 20000 in
theorem lk_231 : (Jvm.Cond.code ({ cls := "java/lang/Math", name := "max", desc := "(II)I" } : Jvm.MethodName) prog_13_method_65_code (2 : Nat) (Option.some Jvm.ClassFile.FieldType.int)) ∈ wk_tbl := List.mem_append_left _ (List.mem_of_getElem? (i := 231) (by rfl))
set_option maxRecDepth 20000 in
theorem lk_232 : (Jvm.Cond.code ({ cls := "DraftTree", name := "erase", desc := "(I)I" } : Jvm.MethodName) prog_1_method_5_code (4 : Nat) (Option.some Jvm.ClassFile.FieldType.int)) ∈ wk_tbl := List.mem_append_left _ (List.mem_of_getElem? (i := 232) (by rfl))
set_option maxRecDepth 20000 in
theorem lk_233 : (Jvm.Cond.methodLink "DraftTreeLaw" (15 : Nat) ({ cls := "DraftTree", name := "erase", desc := "(I)I" } : Jvm.MethodName)) ∈ wk_tbl := List.mem_append_left _ (List.mem_of_getElem? (i := 233) (by rfl))
set_option maxRecDepth 20000 in
theorem lk_234 : (Jvm.Cond.instanceMethod ({ cls := "DraftTree", name := "erase", desc := "(I)I" } : Jvm.MethodName)) ∈ wk_tbl := List.mem_append_left _ (List.mem_of_getElem? (i := 234) (by rfl))
set_option maxRecDepth 20000 in
theorem lk_235 : (Jvm.Cond.selects "DraftTree" ({ cls := "DraftTree", name := "erase", desc := "(I)I" } : Jvm.MethodName) ({ cls := "DraftTree", name := "erase", desc := "(I)I" } : Jvm.MethodName)) ∈ wk_tbl := List.mem_append_left _ (List.mem_of_getElem? (i := 235) (by rfl))
set_option maxRecDepth 20000 in
theorem lk_236 : (Jvm.Cond.codeWith ({ cls := "DraftTreeLaw", name := "erase", desc := "(LDraftTree;I[J)I" } : Jvm.MethodName) method_4_code (4 : Nat) (Option.some Jvm.ClassFile.FieldType.int) [((0 : Nat), (9 : Nat), (12 : Nat), (13 : Nat))]) ∈ wk_tbl := List.mem_append_left _ (List.mem_of_getElem? (i := 236) (by rfl))
set_option maxRecDepth 20000 in
theorem lk_237 : (Jvm.Cond.methodLink "DraftTreeLaw" (84 : Nat) ({ cls := "DraftTreeLaw", name := "erase", desc := "(LDraftTree;I[J)I" } : Jvm.MethodName)) ∈ wk_tbl := List.mem_append_left _ (List.mem_of_getElem? (i := 237) (by rfl))
set_option maxRecDepth 20000 in
theorem lk_238 : (Jvm.Cond.static ({ cls := "DraftTreeLaw", name := "erase", desc := "(LDraftTree;I[J)I" } : Jvm.MethodName)) ∈ wk_tbl := List.mem_append_left _ (List.mem_of_getElem? (i := 238) (by rfl))
set_option maxRecDepth 20000 in
theorem lk_239 : (Jvm.Cond.code ({ cls := "DraftTreeModel", name := "textLength", desc := "()I" } : Jvm.MethodName) prog_6_method_7_code (1 : Nat) (Option.some Jvm.ClassFile.FieldType.int)) ∈ wk_tbl := List.mem_append_left _ (List.mem_of_getElem? (i := 239) (by rfl))
set_option maxRecDepth 20000 in
theorem lk_240 : (Jvm.Cond.methodLink "DraftTreeModel" (123 : Nat) ({ cls := "DraftTreeModel", name := "textLength", desc := "()I" } : Jvm.MethodName)) ∈ wk_tbl := List.mem_append_left _ (List.mem_of_getElem? (i := 240) (by rfl))
set_option maxRecDepth 20000 in
theorem lk_241 : (Jvm.Cond.instanceMethod ({ cls := "DraftTreeModel", name := "textLength", desc := "()I" } : Jvm.MethodName)) ∈ wk_tbl := List.mem_append_left _ (List.mem_of_getElem? (i := 241) (by rfl))
set_option maxRecDepth 20000 in
theorem lk_242 : (Jvm.Cond.selects "DraftTreeModel" ({ cls := "DraftTreeModel", name := "textLength", desc := "()I" } : Jvm.MethodName) ({ cls := "DraftTreeModel", name := "textLength", desc := "()I" } : Jvm.MethodName)) ∈ wk_tbl := List.mem_append_left _ (List.mem_of_getElem? (i := 242) (by rfl))
set_option maxRecDepth 20000 in
theorem lk_243 : (Jvm.Cond.code ({ cls := "DraftTreeModel", name := "erase", desc := "(I)I" } : Jvm.MethodName) prog_6_method_16_code (5 : Nat) (Option.some Jvm.ClassFile.FieldType.int)) ∈ wk_tbl := List.mem_append_left _ (List.mem_of_getElem? (i := 243) (by rfl))
set_option maxRecDepth 20000 in
theorem lk_244 : (Jvm.Cond.methodLink "DraftTreeLaw" (87 : Nat) ({ cls := "DraftTreeModel", name := "erase", desc := "(I)I" } : Jvm.MethodName)) ∈ wk_tbl := List.mem_append_left _ (List.mem_of_getElem? (i := 244) (by rfl))
set_option maxRecDepth 20000 in
theorem lk_245 : (Jvm.Cond.instanceMethod ({ cls := "DraftTreeModel", name := "erase", desc := "(I)I" } : Jvm.MethodName)) ∈ wk_tbl := List.mem_append_left _ (List.mem_of_getElem? (i := 245) (by rfl))
set_option maxRecDepth 20000 in
theorem lk_246 : (Jvm.Cond.selects "DraftTreeModel" ({ cls := "DraftTreeModel", name := "erase", desc := "(I)I" } : Jvm.MethodName) ({ cls := "DraftTreeModel", name := "erase", desc := "(I)I" } : Jvm.MethodName)) ∈ wk_tbl := List.mem_append_left _ (List.mem_of_getElem? (i := 246) (by rfl))
set_option maxRecDepth 20000 in
theorem lk_247 : (Jvm.Cond.methodLink "DraftTree" (85 : Nat) ({ cls := "java/lang/Math", name := "min", desc := "(II)I" } : Jvm.MethodName)) ∈ wk_tbl := List.mem_append_left _ (List.mem_of_getElem? (i := 247) (by rfl))
set_option maxRecDepth 20000 in
theorem lk_248 : (Jvm.Cond.static ({ cls := "java/lang/Math", name := "min", desc := "(II)I" } : Jvm.MethodName)) ∈ wk_tbl := List.mem_append_left _ (List.mem_of_getElem? (i := 248) (by rfl))
set_option maxRecDepth 20000 in
theorem lk_249 : (Jvm.Cond.code ({ cls := "java/lang/Math", name := "min", desc := "(II)I" } : Jvm.MethodName) prog_13_method_69_code (2 : Nat) (Option.some Jvm.ClassFile.FieldType.int)) ∈ wk_tbl := List.mem_append_left _ (List.mem_of_getElem? (i := 249) (by rfl))
set_option maxRecDepth 20000 in
theorem lk_250 : (Jvm.Cond.code ({ cls := "DraftTree", name := "requirePlace", desc := "(I)V" } : Jvm.MethodName) prog_1_method_19_code (2 : Nat) (Option.none : Option Jvm.ClassFile.FieldType)) ∈ wk_tbl := List.mem_append_left _ (List.mem_of_getElem? (i := 250) (by rfl))
set_option maxRecDepth 20000 in
theorem lk_251 : (Jvm.Cond.methodLink "DraftTree" (88 : Nat) ({ cls := "DraftTree", name := "requirePlace", desc := "(I)V" } : Jvm.MethodName)) ∈ wk_tbl := List.mem_append_left _ (List.mem_of_getElem? (i := 251) (by rfl))
set_option maxRecDepth 20000 in
theorem lk_252 : (Jvm.Cond.instanceMethod ({ cls := "DraftTree", name := "requirePlace", desc := "(I)V" } : Jvm.MethodName)) ∈ wk_tbl := List.mem_append_left _ (List.mem_of_getElem? (i := 252) (by rfl))
set_option maxRecDepth 20000 in
theorem lk_253 : (Jvm.Cond.selects "DraftTree" ({ cls := "DraftTree", name := "requirePlace", desc := "(I)V" } : Jvm.MethodName) ({ cls := "DraftTree", name := "requirePlace", desc := "(I)V" } : Jvm.MethodName)) ∈ wk_tbl := List.mem_append_left _ (List.mem_of_getElem? (i := 253) (by rfl))
set_option maxRecDepth 20000 in
theorem lk_254 : (Jvm.Cond.code ({ cls := "DraftTree", name := "go", desc := "(IZ)V" } : Jvm.MethodName) prog_1_method_6_code (3 : Nat) (Option.none : Option Jvm.ClassFile.FieldType)) ∈ wk_tbl := List.mem_append_left _ (List.mem_of_getElem? (i := 254) (by rfl))
set_option maxRecDepth 20000 in
theorem lk_255 : (Jvm.Cond.methodLink "DraftTreeLaw" (19 : Nat) ({ cls := "DraftTree", name := "go", desc := "(IZ)V" } : Jvm.MethodName)) ∈ wk_tbl := List.mem_append_left _ (List.mem_of_getElem? (i := 255) (by rfl))
set_option maxRecDepth 20000 in
theorem lk_256 : (Jvm.Cond.instanceMethod ({ cls := "DraftTree", name := "go", desc := "(IZ)V" } : Jvm.MethodName)) ∈ wk_tbl := List.mem_append_left _ (List.mem_of_getElem? (i := 256) (by rfl))
set_option maxRecDepth 20000 in
theorem lk_257 : (Jvm.Cond.selects "DraftTree" ({ cls := "DraftTree", name := "go", desc := "(IZ)V" } : Jvm.MethodName) ({ cls := "DraftTree", name := "go", desc := "(IZ)V" } : Jvm.MethodName)) ∈ wk_tbl := List.mem_append_left _ (List.mem_of_getElem? (i := 257) (by rfl))
set_option maxRecDepth 20000 in
theorem lk_258 : (Jvm.Cond.codeWith ({ cls := "DraftTreeLaw", name := "go", desc := "(LDraftTree;IZ)I" } : Jvm.MethodName) method_5_code (4 : Nat) (Option.some Jvm.ClassFile.FieldType.int) [((0 : Nat), (6 : Nat), (9 : Nat), (23 : Nat))]) ∈ wk_tbl := List.mem_append_left _ (List.mem_of_getElem? (i := 258) (by rfl))
set_option maxRecDepth 20000 in
theorem lk_259 : (Jvm.Cond.methodLink "DraftTreeLaw" (88 : Nat) ({ cls := "DraftTreeLaw", name := "go", desc := "(LDraftTree;IZ)I" } : Jvm.MethodName)) ∈ wk_tbl := List.mem_append_left _ (List.mem_of_getElem? (i := 259) (by rfl))
set_option maxRecDepth 20000 in
theorem lk_260 : (Jvm.Cond.static ({ cls := "DraftTreeLaw", name := "go", desc := "(LDraftTree;IZ)I" } : Jvm.MethodName)) ∈ wk_tbl := List.mem_append_left _ (List.mem_of_getElem? (i := 260) (by rfl))
set_option maxRecDepth 20000 in
theorem lk_261 : (Jvm.Cond.code ({ cls := "DraftTreeModel", name := "go", desc := "(IZ)V" } : Jvm.MethodName) prog_6_method_17_code (3 : Nat) (Option.none : Option Jvm.ClassFile.FieldType)) ∈ wk_tbl := List.mem_append_left _ (List.mem_of_getElem? (i := 261) (by rfl))
set_option maxRecDepth 20000 in
theorem lk_262 : (Jvm.Cond.methodLink "DraftTreeLaw" (91 : Nat) ({ cls := "DraftTreeModel", name := "go", desc := "(IZ)V" } : Jvm.MethodName)) ∈ wk_tbl := List.mem_append_left _ (List.mem_of_getElem? (i := 262) (by rfl))
set_option maxRecDepth 20000 in
theorem lk_263 : (Jvm.Cond.instanceMethod ({ cls := "DraftTreeModel", name := "go", desc := "(IZ)V" } : Jvm.MethodName)) ∈ wk_tbl := List.mem_append_left _ (List.mem_of_getElem? (i := 263) (by rfl))
set_option maxRecDepth 20000 in
theorem lk_264 : (Jvm.Cond.selects "DraftTreeModel" ({ cls := "DraftTreeModel", name := "go", desc := "(IZ)V" } : Jvm.MethodName) ({ cls := "DraftTreeModel", name := "go", desc := "(IZ)V" } : Jvm.MethodName)) ∈ wk_tbl := List.mem_append_left _ (List.mem_of_getElem? (i := 264) (by rfl))
set_option maxRecDepth 20000 in
theorem lk_265 : (Jvm.Cond.classLink "DraftTree" (143 : Nat) "java/lang/IndexOutOfBoundsException") ∈ wk_tbl := List.mem_append_left _ (List.mem_of_getElem? (i := 265) (by rfl))
set_option maxRecDepth 20000 in
theorem lk_266 : (Jvm.Cond.initialized "java/lang/IndexOutOfBoundsException") ∈ wk_tbl := List.mem_append_left _ (List.mem_of_getElem? (i := 266) (by rfl))
set_option maxRecDepth 20000 in
theorem lk_267 : (Jvm.Cond.classLink "DraftTreeLaw" (23 : Nat) "java/lang/IndexOutOfBoundsException") ∈ wk_tbl := List.mem_append_left _ (List.mem_of_getElem? (i := 267) (by rfl))
set_option maxRecDepth 20000 in
theorem lk_268 : (Jvm.Cond.fieldLink "DraftTree$PatternReader" (35 : Nat) "DraftTree$PatternReader" "size" "I") ∈ wk_tbl := List.mem_append_left _ (List.mem_of_getElem? (i := 268) (by rfl))
set_option maxRecDepth 20000 in
theorem lk_269 : (Jvm.Cond.fieldLink "DraftTree$PatternReader" (39 : Nat) "DraftTree$PatternReader" "position" "I") ∈ wk_tbl := List.mem_append_left _ (List.mem_of_getElem? (i := 269) (by rfl))
set_option maxRecDepth 20000 in
theorem lk_270 : (Jvm.Cond.fieldLink "DraftTree$PatternReader" (42 : Nat) "DraftTree$PatternReader" "fault" "I") ∈ wk_tbl := List.mem_append_left _ (List.mem_of_getElem? (i := 270) (by rfl))
set_option maxRecDepth 20000 in
theorem lk_271 : (Jvm.Cond.fieldLink "DraftTree$PatternReader" (45 : Nat) "DraftTree$Automaton" "size" "I") ∈ wk_tbl := List.mem_append_left _ (List.mem_of_getElem? (i := 271) (by rfl))
set_option maxRecDepth 20000 in
theorem lk_272 : (Jvm.Cond.fieldLink "DraftTree$PatternReader" (46 : Nat) "DraftTree$PatternReader" "depth" "I") ∈ wk_tbl := List.mem_append_left _ (List.mem_of_getElem? (i := 272) (by rfl))
set_option maxRecDepth 20000 in
theorem lk_273 : (Jvm.Cond.fieldLink "DraftTree$Automaton" (28 : Nat) "DraftTree$Automaton" "size" "I") ∈ wk_tbl := List.mem_append_left _ (List.mem_of_getElem? (i := 273) (by rfl))
set_option maxRecDepth 20000 in
theorem lk_274 : (Jvm.Cond.code ({ cls := "DraftTree$Automaton", name := "addNode", desc := "(I)I" } : Jvm.MethodName) prog_2_method_2_code (3 : Nat) (Option.some Jvm.ClassFile.FieldType.int)) ∈ wk_tbl := List.mem_append_left _ (List.mem_of_getElem? (i := 274) (by rfl))
set_option maxRecDepth 20000 in
theorem lk_275 : (Jvm.Cond.methodLink "DraftTree$PatternReader" (113 : Nat) ({ cls := "DraftTree$Automaton", name := "addNode", desc := "(I)I" } : Jvm.MethodName)) ∈ wk_tbl := List.mem_append_left _ (List.mem_of_getElem? (i := 275) (by rfl))
set_option maxRecDepth 20000 in
theorem lk_276 : (Jvm.Cond.instanceMethod ({ cls := "DraftTree$Automaton", name := "addNode", desc := "(I)I" } : Jvm.MethodName)) ∈ wk_tbl := List.mem_append_left _ (List.mem_of_getElem? (i := 276) (by rfl))
set_option maxRecDepth 20000 in
theorem lk_277 : (Jvm.Cond.selects "DraftTree$Automaton" ({ cls := "DraftTree$Automaton", name := "addNode", desc := "(I)I" } : Jvm.MethodName) ({ cls := "DraftTree$Automaton", name := "addNode", desc := "(I)I" } : Jvm.MethodName)) ∈ wk_tbl := List.mem_append_left _ (List.mem_of_getElem? (i := 277) (by rfl))
set_option maxRecDepth 20000 in
theorem lk_278 : (Jvm.Cond.fieldLink "DraftTree$PatternReader" (126 : Nat) "DraftTree$PatternReader" "lead" "I") ∈ wk_tbl := List.mem_append_left _ (List.mem_of_getElem? (i := 278) (by rfl))
set_option maxRecDepth 20000 in
theorem lk_279 : (Jvm.Cond.fieldLink "DraftTree$PatternReader" (129 : Nat) "DraftTree$PatternReader" "first" "I") ∈ wk_tbl := List.mem_append_left _ (List.mem_of_getElem? (i := 279) (by rfl))
set_option maxRecDepth 20000 in
theorem lk_280 : (Jvm.Cond.fieldLink "DraftTree$PatternReader" (62 : Nat) "DraftTree$PatternReader" "tail" "I") ∈ wk_tbl := List.mem_append_left _ (List.mem_of_getElem? (i := 280) (by rfl))
set_option maxRecDepth 20000 in
theorem lk_281 : (Jvm.Cond.code ({ cls := "DraftTree$PatternReader", name := "beginRow", desc := "(I)V" } : Jvm.MethodName) prog_3_method_16_code (2 : Nat) (Option.none : Option Jvm.ClassFile.FieldType)) ∈ wk_tbl := List.mem_append_left _ (List.mem_of_getElem? (i := 281) (by rfl))
set_option maxRecDepth 20000 in
theorem lk_282 : (Jvm.Cond.methodLink "DraftTree$PatternReader" (116 : Nat) ({ cls := "DraftTree$PatternReader", name := "beginRow", desc := "(I)V" } : Jvm.MethodName)) ∈ wk_tbl := List.mem_append_left _ (List.mem_of_getElem? (i := 282) (by rfl))
set_option maxRecDepth 20000 in
theorem lk_283 : (Jvm.Cond.instanceMethod ({ cls := "DraftTree$PatternReader", name := "beginRow", desc := "(I)V" } : Jvm.MethodName)) ∈ wk_tbl := List.mem_append_left _ (List.mem_of_getElem? (i := 283) (by rfl))
set_option maxRecDepth 20000 in
theorem lk_284 : (Jvm.Cond.selects "DraftTree$PatternReader" ({ cls := "DraftTree$PatternReader", name := "beginRow", desc := "(I)V" } : Jvm.MethodName) ({ cls := "DraftTree$PatternReader", name := "beginRow", desc := "(I)V" } : Jvm.MethodName)) ∈ wk_tbl := List.mem_append_left _ (List.mem_of_getElem? (i := 284) (by rfl))
set_option maxRecDepth 20000 in
theorem lk_285 : (Jvm.Cond.code ({ cls := "DraftTree$PatternReader", name := "openChoice", desc := "(I)V" } : Jvm.MethodName) prog_3_method_12_code (3 : Nat) (Option.none : Option Jvm.ClassFile.FieldType)) ∈ wk_tbl := List.mem_append_left _ (List.mem_of_getElem? (i := 285) (by rfl))
set_option maxRecDepth 20000 in
theorem lk_286 : (Jvm.Cond.methodLink "DraftTree$PatternReader" (49 : Nat) ({ cls := "DraftTree$PatternReader", name := "openChoice", desc := "(I)V" } : Jvm.MethodName)) ∈ wk_tbl := List.mem_append_left _ (List.mem_of_getElem? (i := 286) (by rfl))
set_option maxRecDepth 20000 in
theorem lk_287 : (Jvm.Cond.instanceMethod ({ cls := "DraftTree$PatternReader", name := "openChoice", desc := "(I)V" } : Jvm.MethodName)) ∈ wk_tbl := List.mem_append_left _ (List.mem_of_getElem? (i := 287) (by rfl))
set_option maxRecDepth 20000 in
theorem lk_288 : (Jvm.Cond.selects "DraftTree$PatternReader" ({ cls := "DraftTree$PatternReader", name := "openChoice", desc := "(I)V" } : Jvm.MethodName) ({ cls := "DraftTree$PatternReader", name := "openChoice", desc := "(I)V" } : Jvm.MethodName)) ∈ wk_tbl := List.mem_append_left _ (List.mem_of_getElem? (i := 288) (by rfl))
set_option maxRecDepth 20000 in
theorem lk_289 : (Jvm.Cond.fieldLink "DraftTree$PatternReader" (59 : Nat) "DraftTree$Automaton" "next" "[I") ∈ wk_tbl := List.mem_append_left _ (List.mem_of_getElem? (i := 289) (by rfl))
set_option maxRecDepth 20000 in
theorem lk_290 : (Jvm.Cond.fieldLink "DraftTree$PatternReader" (65 : Nat) "DraftTree$Automaton" "start" "I") ∈ wk_tbl := List.mem_append_left _ (List.mem_of_getElem? (i := 290) (by rfl))
set_option maxRecDepth 20000 in
theorem lk_291 : (Jvm.Cond.fieldLink "DraftTree$PatternReader" (68 : Nat) "DraftTree$Automaton" "goal" "I") ∈ wk_tbl := List.mem_append_left _ (List.mem_of_getElem? (i := 291) (by rfl))
set_option maxRecDepth 20000 in
theorem lk_292 : (Jvm.Cond.code ({ cls := "DraftTree$PatternReader", name := "finish", desc := "()V" } : Jvm.MethodName) prog_3_method_4_code (1 : Nat) (Option.none : Option Jvm.ClassFile.FieldType)) ∈ wk_tbl := List.mem_append_left _ (List.mem_of_getElem? (i := 292) (by rfl))
set_option maxRecDepth 20000 in
theorem lk_293 : (Jvm.Cond.methodLink "DraftTree$PatternReader" (56 : Nat) ({ cls := "DraftTree$PatternReader", name := "finish", desc := "()V" } : Jvm.MethodName)) ∈ wk_tbl := List.mem_append_left _ (List.mem_of_getElem? (i := 293) (by rfl))
set_option maxRecDepth 20000 in
theorem lk_294 : (Jvm.Cond.instanceMethod ({ cls := "DraftTree$PatternReader", name := "finish", desc := "()V" } : Jvm.MethodName)) ∈ wk_tbl := List.mem_append_left _ (List.mem_of_getElem? (i := 294) (by rfl))
set_option maxRecDepth 20000 in
theorem lk_295 : (Jvm.Cond.selects "DraftTree$PatternReader" ({ cls := "DraftTree$PatternReader", name := "finish", desc := "()V" } : Jvm.MethodName) ({ cls := "DraftTree$PatternReader", name := "finish", desc := "()V" } : Jvm.MethodName)) ∈ wk_tbl := List.mem_append_left _ (List.mem_of_getElem? (i := 295) (by rfl))
set_option maxRecDepth 20000 in
theorem lk_296 : (Jvm.Cond.code ({ cls := "DraftTree$PatternReader", name := "read", desc := "([CI)I" } : Jvm.MethodName) prog_3_method_3_code (4 : Nat) (Option.some Jvm.ClassFile.FieldType.int)) ∈ wk_tbl := List.mem_append_left _ (List.mem_of_getElem? (i := 296) (by rfl))
set_option maxRecDepth 20000 in
theorem lk_297 : (Jvm.Cond.methodLink "DraftTree" (92 : Nat) ({ cls := "DraftTree$PatternReader", name := "read", desc := "([CI)I" } : Jvm.MethodName)) ∈ wk_tbl := List.mem_append_left _ (List.mem_of_getElem? (i := 297) (by rfl))
set_option maxRecDepth 20000 in
theorem lk_298 : (Jvm.Cond.instanceMethod ({ cls := "DraftTree$PatternReader", name := "read", desc := "([CI)I" } : Jvm.MethodName)) ∈ wk_tbl := List.mem_append_left _ (List.mem_of_getElem? (i := 298) (by rfl))
set_option maxRecDepth 20000 in
theorem lk_299 : (Jvm.Cond.selects "DraftTree$PatternReader" ({ cls := "DraftTree$PatternReader", name := "read", desc := "([CI)I" } : Jvm.MethodName) ({ cls := "DraftTree$PatternReader", name := "read", desc := "([CI)I" } : Jvm.MethodName)) ∈ wk_tbl := List.mem_append_left _ (List.mem_of_getElem? (i := 299) (by rfl))
set_option maxRecDepth 20000 in
theorem lk_300 : (Jvm.Cond.code ({ cls := "DraftTree$PatternReader", name := "handOver", desc := "(LDraftTree$Automaton;)LDraftTree$Automaton;" } : Jvm.MethodName) prog_3_method_2_code (3 : Nat) (Option.some (Jvm.ClassFile.FieldType.object "DraftTree$Automaton"))) ∈ wk_tbl := List.mem_append_left _ (List.mem_of_getElem? (i := 300) (by rfl))
set_option maxRecDepth 20000 in
theorem lk_301 : (Jvm.Cond.methodLink "DraftTree" (99 : Nat) ({ cls := "DraftTree$PatternReader", name := "handOver", desc := "(LDraftTree$Automaton;)LDraftTree$Automaton;" } : Jvm.MethodName)) ∈ wk_tbl := List.mem_append_left _ (List.mem_of_getElem? (i := 301) (by rfl))
set_option maxRecDepth 20000 in
theorem lk_302 : (Jvm.Cond.instanceMethod ({ cls := "DraftTree$PatternReader", name := "handOver", desc := "(LDraftTree$Automaton;)LDraftTree$Automaton;" } : Jvm.MethodName)) ∈ wk_tbl := List.mem_append_left _ (List.mem_of_getElem? (i := 302) (by rfl))
set_option maxRecDepth 20000 in
theorem lk_303 : (Jvm.Cond.selects "DraftTree$PatternReader" ({ cls := "DraftTree$PatternReader", name := "handOver", desc := "(LDraftTree$Automaton;)LDraftTree$Automaton;" } : Jvm.MethodName) ({ cls := "DraftTree$PatternReader", name := "handOver", desc := "(LDraftTree$Automaton;)LDraftTree$Automaton;" } : Jvm.MethodName)) ∈ wk_tbl := List.mem_append_left _ (List.mem_of_getElem? (i := 303) (by rfl))
set_option maxRecDepth 20000 in
theorem lk_304 : (Jvm.Cond.fieldLink "DraftTree" (103 : Nat) "DraftTree" "hasPattern" "Z") ∈ wk_tbl := List.mem_append_left _ (List.mem_of_getElem? (i := 304) (by rfl))
set_option maxRecDepth 20000 in
theorem lk_305 : (Jvm.Cond.code ({ cls := "DraftTree", name := "compile", desc := "()V" } : Jvm.MethodName) prog_1_method_7_code (1 : Nat) (Option.none : Option Jvm.ClassFile.FieldType)) ∈ wk_tbl := List.mem_append_left _ (List.mem_of_getElem? (i := 305) (by rfl))
set_option maxRecDepth 20000 in
theorem lk_306 : (Jvm.Cond.methodLink "DraftTreeLaw" (25 : Nat) ({ cls := "DraftTree", name := "compile", desc := "()V" } : Jvm.MethodName)) ∈ wk_tbl := List.mem_append_left _ (List.mem_of_getElem? (i := 306) (by rfl))
set_option maxRecDepth 20000 in
theorem lk_307 : (Jvm.Cond.instanceMethod ({ cls := "DraftTree", name := "compile", desc := "()V" } : Jvm.MethodName)) ∈ wk_tbl := List.mem_append_left _ (List.mem_of_getElem? (i := 307) (by rfl))
set_option maxRecDepth 20000 in
theorem lk_308 : (Jvm.Cond.selects "DraftTree" ({ cls := "DraftTree", name := "compile", desc := "()V" } : Jvm.MethodName) ({ cls := "DraftTree", name := "compile", desc := "()V" } : Jvm.MethodName)) ∈ wk_tbl := List.mem_append_left _ (List.mem_of_getElem? (i := 308) (by rfl))
set_option maxRecDepth 20000 in
theorem lk_309 : (Jvm.Cond.codeWith ({ cls := "DraftTreeLaw", name := "compile", desc := "(LDraftTree;)I" } : Jvm.MethodName) method_6_code (2 : Nat) (Option.some Jvm.ClassFile.FieldType.int) [((0 : Nat), (4 : Nat), (7 : Nat), (28 : Nat))]) ∈ wk_tbl := List.mem_append_left _ (List.mem_of_getElem? (i := 309) (by rfl))
set_option maxRecDepth 20000 in
theorem lk_310 : (Jvm.Cond.methodLink "DraftTreeLaw" (92 : Nat) ({ cls := "DraftTreeLaw", name := "compile", desc := "(LDraftTree;)I" } : Jvm.MethodName)) ∈ wk_tbl := List.mem_append_left _ (List.mem_of_getElem? (i := 310) (by rfl))
set_option maxRecDepth 20000 in
theorem lk_311 : (Jvm.Cond.static ({ cls := "DraftTreeLaw", name := "compile", desc := "(LDraftTree;)I" } : Jvm.MethodName)) ∈ wk_tbl := List.mem_append_left _ (List.mem_of_getElem? (i := 311) (by rfl))
set_option maxRecDepth 20000 in
theorem lk_312 : (Jvm.Cond.code ({ cls := "DraftTreeModel", name := "good", desc := "()I" } : Jvm.MethodName) prog_6_method_23_code (5 : Nat) (Option.some Jvm.ClassFile.FieldType.int)) ∈ wk_tbl := List.mem_append_left _ (List.mem_of_getElem? (i := 312) (by rfl))
set_option maxRecDepth 20000 in
theorem lk_313 : (Jvm.Cond.methodLink "DraftTreeModel" (187 : Nat) ({ cls := "DraftTreeModel", name := "good", desc := "()I" } : Jvm.MethodName)) ∈ wk_tbl := List.mem_append_left _ (List.mem_of_getElem? (i := 313) (by rfl))
set_option maxRecDepth 20000 in
theorem lk_314 : (Jvm.Cond.instanceMethod ({ cls := "DraftTreeModel", name := "good", desc := "()I" } : Jvm.MethodName)) ∈ wk_tbl := List.mem_append_left _ (List.mem_of_getElem? (i := 314) (by rfl))
set_option maxRecDepth 20000 in
theorem lk_315 : (Jvm.Cond.selects "DraftTreeModel" ({ cls := "DraftTreeModel", name := "good", desc := "()I" } : Jvm.MethodName) ({ cls := "DraftTreeModel", name := "good", desc := "()I" } : Jvm.MethodName)) ∈ wk_tbl := List.mem_append_left _ (List.mem_of_getElem? (i := 315) (by rfl))
set_option maxRecDepth 20000 in
theorem lk_316 : (Jvm.Cond.fieldLink "DraftTreeModel" (190 : Nat) "DraftTreeModel" "size" "I") ∈ wk_tbl := List.mem_append_left _ (List.mem_of_getElem? (i := 316) (by rfl))
set_option maxRecDepth 20000 in
theorem lk_317 : (Jvm.Cond.fieldLink "DraftTreeModel" (142 : Nat) "DraftTreeModel" "nodes" "I") ∈ wk_tbl := List.mem_append_left _ (List.mem_of_getElem? (i := 317) (by rfl))
set_option maxRecDepth 20000 in
theorem lk_318 : (Jvm.Cond.fieldLink "DraftTreeModel" (145 : Nat) "DraftTreeModel" "pieces" "I") ∈ wk_tbl := List.mem_append_left _ (List.mem_of_getElem? (i := 318) (by rfl))
set_option maxRecDepth 20000 in
theorem lk_319 : (Jvm.Cond.fieldLink "DraftTreeModel" (159 : Nat) "DraftTreeModel" "open" "I") ∈ wk_tbl := List.mem_append_left _ (List.mem_of_getElem? (i := 319) (by rfl))
set_option maxRecDepth 20000 in
theorem lk_320 : (Jvm.Cond.code ({ cls := "DraftTreeModel", name := "node", desc := "(III)I" } : Jvm.MethodName) prog_6_method_24_code (4 : Nat) (Option.some Jvm.ClassFile.FieldType.int)) ∈ wk_tbl := List.mem_append_left _ (List.mem_of_getElem? (i := 320) (by rfl))
set_option maxRecDepth 20000 in
theorem lk_321 : (Jvm.Cond.methodLink "DraftTreeModel" (148 : Nat) ({ cls := "DraftTreeModel", name := "node", desc := "(III)I" } : Jvm.MethodName)) ∈ wk_tbl := List.mem_append_left _ (List.mem_of_getElem? (i := 321) (by rfl))
set_option maxRecDepth 20000 in
theorem lk_322 : (Jvm.Cond.instanceMethod ({ cls := "DraftTreeModel", name := "node", desc := "(III)I" } : Jvm.MethodName)) ∈ wk_tbl := List.mem_append_left _ (List.mem_of_getElem? (i := 322) (by rfl))
set_option maxRecDepth 20000 in
theorem lk_323 : (Jvm.Cond.selects "DraftTreeModel" ({ cls := "DraftTreeModel", name := "node", desc := "(III)I" } : Jvm.MethodName) ({ cls := "DraftTreeModel", name := "node", desc := "(III)I" } : Jvm.MethodName)) ∈ wk_tbl := List.mem_append_left _ (List.mem_of_getElem? (i := 323) (by rfl))
set_option maxRecDepth 20000 in
theorem lk_324 : (Jvm.Cond.code ({ cls := "DraftTreeModel", name := "piece", desc := "(II)I" } : Jvm.MethodName) prog_6_method_26_code (3 : Nat) (Option.some Jvm.ClassFile.FieldType.int)) ∈ wk_tbl := List.mem_append_left _ (List.mem_of_getElem? (i := 324) (by rfl))
set_option maxRecDepth 20000 in
theorem lk_325 : (Jvm.Cond.methodLink "DraftTreeModel" (155 : Nat) ({ cls := "DraftTreeModel", name := "piece", desc := "(II)I" } : Jvm.MethodName)) ∈ wk_tbl := List.mem_append_left _ (List.mem_of_getElem? (i := 325) (by rfl))
set_option maxRecDepth 20000 in
theorem lk_326 : (Jvm.Cond.instanceMethod ({ cls := "DraftTreeModel", name := "piece", desc := "(II)I" } : Jvm.MethodName)) ∈ wk_tbl := List.mem_append_left _ (List.mem_of_getElem? (i := 326) (by rfl))
set_option maxRecDepth 20000 in
theorem lk_327 : (Jvm.Cond.selects "DraftTreeModel" ({ cls := "DraftTreeModel", name := "piece", desc := "(II)I" } : Jvm.MethodName) ({ cls := "DraftTreeModel", name := "piece", desc := "(II)I" } : Jvm.MethodName)) ∈ wk_tbl := List.mem_append_left _ (List.mem_of_getElem? (i := 327) (by rfl))
set_option maxRecDepth 20000 in
theorem lk_328 : (Jvm.Cond.code ({ cls := "DraftTreeModel", name := "nothing", desc := "()I" } : Jvm.MethodName) prog_6_method_28_code (2 : Nat) (Option.some Jvm.ClassFile.FieldType.int)) ∈ wk_tbl := List.mem_append_left _ (List.mem_of_getElem? (i := 328) (by rfl))
set_option maxRecDepth 20000 in
theorem lk_329 : (Jvm.Cond.methodLink "DraftTreeModel" (162 : Nat) ({ cls := "DraftTreeModel", name := "nothing", desc := "()I" } : Jvm.MethodName)) ∈ wk_tbl := List.mem_append_left _ (List.mem_of_getElem? (i := 329) (by rfl))
set_option maxRecDepth 20000 in
theorem lk_330 : (Jvm.Cond.instanceMethod ({ cls := "DraftTreeModel", name := "nothing", desc := "()I" } : Jvm.MethodName)) ∈ wk_tbl := List.mem_append_left _ (List.mem_of_getElem? (i := 330) (by rfl))
set_option maxRecDepth 20000 in
theorem lk_331 : (Jvm.Cond.selects "DraftTreeModel" ({ cls := "DraftTreeModel", name := "nothing", desc := "()I" } : Jvm.MethodName) ({ cls := "DraftTreeModel", name := "nothing", desc := "()I" } : Jvm.MethodName)) ∈ wk_tbl := List.mem_append_left _ (List.mem_of_getElem? (i := 331) (by rfl))
set_option maxRecDepth 20000 in
theorem lk_332 : (Jvm.Cond.code ({ cls := "DraftTreeModel", name := "openGroup", desc := "()V" } : Jvm.MethodName) prog_6_method_32_code (1 : Nat) (Option.none : Option Jvm.ClassFile.FieldType)) ∈ wk_tbl := List.mem_append_left _ (List.mem_of_getElem? (i := 332) (by rfl))
set_option maxRecDepth 20000 in
theorem lk_333 : (Jvm.Cond.methodLink "DraftTreeModel" (171 : Nat) ({ cls := "DraftTreeModel", name := "openGroup", desc := "()V" } : Jvm.MethodName)) ∈ wk_tbl := List.mem_append_left _ (List.mem_of_getElem? (i := 333) (by rfl))
set_option maxRecDepth 20000 in
theorem lk_334 : (Jvm.Cond.instanceMethod ({ cls := "DraftTreeModel", name := "openGroup", desc := "()V" } : Jvm.MethodName)) ∈ wk_tbl := List.mem_append_left _ (List.mem_of_getElem? (i := 334) (by rfl))
set_option maxRecDepth 20000 in
theorem lk_335 : (Jvm.Cond.selects "DraftTreeModel" ({ cls := "DraftTreeModel", name := "openGroup", desc := "()V" } : Jvm.MethodName) ({ cls := "DraftTreeModel", name := "openGroup", desc := "()V" } : Jvm.MethodName)) ∈ wk_tbl := List.mem_append_left _ (List.mem_of_getElem? (i := 335) (by rfl))
set_option maxRecDepth 20000 in
theorem lk_336 : (Jvm.Cond.code ({ cls := "DraftTreeModel", name := "behind", desc := "(II)I" } : Jvm.MethodName) prog_6_method_29_code (3 : Nat) (Option.some Jvm.ClassFile.FieldType.int)) ∈ wk_tbl := List.mem_append_left _ (List.mem_of_getElem? (i := 336) (by rfl))
set_option maxRecDepth 20000 in
theorem lk_337 : (Jvm.Cond.methodLink "DraftTreeModel" (165 : Nat) ({ cls := "DraftTreeModel", name := "behind", desc := "(II)I" } : Jvm.MethodName)) ∈ wk_tbl := List.mem_append_left _ (List.mem_of_getElem? (i := 337) (by rfl))
set_option maxRecDepth 20000 in
theorem lk_338 : (Jvm.Cond.instanceMethod ({ cls := "DraftTreeModel", name := "behind", desc := "(II)I" } : Jvm.MethodName)) ∈ wk_tbl := List.mem_append_left _ (List.mem_of_getElem? (i := 338) (by rfl))
set_option maxRecDepth 20000 in
theorem lk_339 : (Jvm.Cond.selects "DraftTreeModel" ({ cls := "DraftTreeModel", name := "behind", desc := "(II)I" } : Jvm.MethodName) ({ cls := "DraftTreeModel", name := "behind", desc := "(II)I" } : Jvm.MethodName)) ∈ wk_tbl := List.mem_append_left _ (List.mem_of_getElem? (i := 339) (by rfl))
set_option maxRecDepth 20000 in
theorem lk_340 : (Jvm.Cond.code ({ cls := "DraftTreeModel", name := "either", desc := "(II)I" } : Jvm.MethodName) prog_6_method_30_code (5 : Nat) (Option.some Jvm.ClassFile.FieldType.int)) ∈ wk_tbl := List.mem_append_left _ (List.mem_of_getElem? (i := 340) (by rfl))
set_option maxRecDepth 20000 in
theorem lk_341 : (Jvm.Cond.methodLink "DraftTreeModel" (168 : Nat) ({ cls := "DraftTreeModel", name := "either", desc := "(II)I" } : Jvm.MethodName)) ∈ wk_tbl := List.mem_append_left _ (List.mem_of_getElem? (i := 341) (by rfl))
set_option maxRecDepth 20000 in
theorem lk_342 : (Jvm.Cond.instanceMethod ({ cls := "DraftTreeModel", name := "either", desc := "(II)I" } : Jvm.MethodName)) ∈ wk_tbl := List.mem_append_left _ (List.mem_of_getElem? (i := 342) (by rfl))
set_option maxRecDepth 20000 in
theorem lk_343 : (Jvm.Cond.selects "DraftTreeModel" ({ cls := "DraftTreeModel", name := "either", desc := "(II)I" } : Jvm.MethodName) ({ cls := "DraftTreeModel", name := "either", desc := "(II)I" } : Jvm.MethodName)) ∈ wk_tbl := List.mem_append_left _ (List.mem_of_getElem? (i := 343) (by rfl))
set_option maxRecDepth 20000 in
theorem lk_344 : (Jvm.Cond.code ({ cls := "DraftTreeModel", name := "endRow", desc := "()V" } : Jvm.MethodName) prog_6_method_33_code (3 : Nat) (Option.none : Option Jvm.ClassFile.FieldType)) ∈ wk_tbl := List.mem_append_left _ (List.mem_of_getElem? (i := 344) (by rfl))
set_option maxRecDepth 20000 in
theorem lk_345 : (Jvm.Cond.methodLink "DraftTreeModel" (174 : Nat) ({ cls := "DraftTreeModel", name := "endRow", desc := "()V" } : Jvm.MethodName)) ∈ wk_tbl := List.mem_append_left _ (List.mem_of_getElem? (i := 345) (by rfl))
set_option maxRecDepth 20000 in
theorem lk_346 : (Jvm.Cond.instanceMethod ({ cls := "DraftTreeModel", name := "endRow", desc := "()V" } : Jvm.MethodName)) ∈ wk_tbl := List.mem_append_left _ (List.mem_of_getElem? (i := 346) (by rfl))
set_option maxRecDepth 20000 in
theorem lk_347 : (Jvm.Cond.selects "DraftTreeModel" ({ cls := "DraftTreeModel", name := "endRow", desc := "()V" } : Jvm.MethodName) ({ cls := "DraftTreeModel", name := "endRow", desc := "()V" } : Jvm.MethodName)) ∈ wk_tbl := List.mem_append_left _ (List.mem_of_getElem? (i := 347) (by rfl))
set_option maxRecDepth 20000 in
theorem lk_348 : (Jvm.Cond.fieldLink "DraftTreeModel" (197 : Nat) "DraftTreeModel" "first" "I") ∈ wk_tbl := List.mem_append_left _ (List.mem_of_getElem? (i := 348) (by rfl))
set_option maxRecDepth 20000 in
theorem lk_349 : (Jvm.Cond.fieldLink "DraftTreeModel" (200 : Nat) "DraftTreeModel" "last" "I") ∈ wk_tbl := List.mem_append_left _ (List.mem_of_getElem? (i := 349) (by rfl))
set_option maxRecDepth 20000 in
theorem lk_350 : (Jvm.Cond.fieldLink "DraftTreeModel" (203 : Nat) "DraftTreeModel" "compiled" "Z") ∈ wk_tbl := List.mem_append_left _ (List.mem_of_getElem? (i := 350) (by rfl))
set_option maxRecDepth 20000 in
theorem lk_351 : (Jvm.Cond.code ({ cls := "DraftTreeModel", name := "compile", desc := "()V" } : Jvm.MethodName) prog_6_method_36_code (4 : Nat) (Option.none : Option Jvm.ClassFile.FieldType)) ∈ wk_tbl := List.mem_append_left _ (List.mem_of_getElem? (i := 351) (by rfl))
set_option maxRecDepth 20000 in
theorem lk_352 : (Jvm.Cond.methodLink "DraftTreeLaw" (95 : Nat) ({ cls := "DraftTreeModel", name := "compile", desc := "()V" } : Jvm.MethodName)) ∈ wk_tbl := List.mem_append_left _ (List.mem_of_getElem? (i := 352) (by rfl))
set_option maxRecDepth 20000 in
theorem lk_353 : (Jvm.Cond.instanceMethod ({ cls := "DraftTreeModel", name := "compile", desc := "()V" } : Jvm.MethodName)) ∈ wk_tbl := List.mem_append_left _ (List.mem_of_getElem? (i := 353) (by rfl))
set_option maxRecDepth 20000 in
theorem lk_354 : (Jvm.Cond.selects "DraftTreeModel" ({ cls := "DraftTreeModel", name := "compile", desc := "()V" } : Jvm.MethodName) ({ cls := "DraftTreeModel", name := "compile", desc := "()V" } : Jvm.MethodName)) ∈ wk_tbl := List.mem_append_left _ (List.mem_of_getElem? (i := 354) (by rfl))
set_option maxRecDepth 20000 in
theorem lk_355 : (Jvm.Cond.code ({ cls := "DraftTree", name := "fault", desc := "()I" } : Jvm.MethodName) prog_1_method_8_code (1 : Nat) (Option.some Jvm.ClassFile.FieldType.int)) ∈ wk_tbl := List.mem_append_left _ (List.mem_of_getElem? (i := 355) (by rfl))
set_option maxRecDepth 20000 in
theorem lk_356 : (Jvm.Cond.methodLink "DraftTreeLaw" (96 : Nat) ({ cls := "DraftTree", name := "fault", desc := "()I" } : Jvm.MethodName)) ∈ wk_tbl := List.mem_append_left _ (List.mem_of_getElem? (i := 356) (by rfl))
set_option maxRecDepth 20000 in
theorem lk_357 : (Jvm.Cond.instanceMethod ({ cls := "DraftTree", name := "fault", desc := "()I" } : Jvm.MethodName)) ∈ wk_tbl := List.mem_append_left _ (List.mem_of_getElem? (i := 357) (by rfl))
set_option maxRecDepth 20000 in
theorem lk_358 : (Jvm.Cond.selects "DraftTree" ({ cls := "DraftTree", name := "fault", desc := "()I" } : Jvm.MethodName) ({ cls := "DraftTree", name := "fault", desc := "()I" } : Jvm.MethodName)) ∈ wk_tbl := List.mem_append_left _ (List.mem_of_getElem? (i := 358) (by rfl))
set_option maxRecDepth 20000 in
theorem lk_359 : (Jvm.Cond.code ({ cls := "DraftTreeModel", name := "fault", desc := "()I" } : Jvm.MethodName) prog_6_method_37_code (1 : Nat) (Option.some Jvm.ClassFile.FieldType.int)) ∈ wk_tbl := List.mem_append_left _ (List.mem_of_getElem? (i := 359) (by rfl))
set_option maxRecDepth 20000 in
theorem lk_360 : (Jvm.Cond.methodLink "DraftTreeLaw" (99 : Nat) ({ cls := "DraftTreeModel", name := "fault", desc := "()I" } : Jvm.MethodName)) ∈ wk_tbl := List.mem_append_left _ (List.mem_of_getElem? (i := 360) (by rfl))
set_option maxRecDepth 20000 in
theorem lk_361 : (Jvm.Cond.instanceMethod ({ cls := "DraftTreeModel", name := "fault", desc := "()I" } : Jvm.MethodName)) ∈ wk_tbl := List.mem_append_left _ (List.mem_of_getElem? (i := 361) (by rfl))
set_option maxRecDepth 20000 in
theorem lk_362 : (Jvm.Cond.selects "DraftTreeModel" ({ cls := "DraftTreeModel", name := "fault", desc := "()I" } : Jvm.MethodName) ({ cls := "DraftTreeModel", name := "fault", desc := "()I" } : Jvm.MethodName)) ∈ wk_tbl := List.mem_append_left _ (List.mem_of_getElem? (i := 362) (by rfl))
set_option maxRecDepth 20000 in
theorem lk_363 : (Jvm.Cond.classLink "DraftTree" (66 : Nat) "java/lang/IllegalStateException") ∈ wk_tbl := List.mem_append_left _ (List.mem_of_getElem? (i := 363) (by rfl))
set_option maxRecDepth 20000 in
theorem lk_364 : (Jvm.Cond.initialized "java/lang/IllegalStateException") ∈ wk_tbl := List.mem_append_left _ (List.mem_of_getElem? (i := 364) (by rfl))
set_option maxRecDepth 20000 in
theorem lk_365 : (Jvm.Cond.code ({ cls := "DraftTree", name := "find", desc := "(I)I" } : Jvm.MethodName) prog_1_method_9_code (2 : Nat) (Option.some Jvm.ClassFile.FieldType.int)) ∈ wk_tbl := List.mem_append_left _ (List.mem_of_getElem? (i := 365) (by rfl))
set_option maxRecDepth 20000 in
theorem lk_366 : (Jvm.Cond.methodLink "DraftTreeLaw" (30 : Nat) ({ cls := "DraftTree", name := "find", desc := "(I)I" } : Jvm.MethodName)) ∈ wk_tbl := List.mem_append_left _ (List.mem_of_getElem? (i := 366) (by rfl))
set_option maxRecDepth 20000 in
theorem lk_367 : (Jvm.Cond.instanceMethod ({ cls := "DraftTree", name := "find", desc := "(I)I" } : Jvm.MethodName)) ∈ wk_tbl := List.mem_append_left _ (List.mem_of_getElem? (i := 367) (by rfl))
set_option maxRecDepth 20000 in
theorem lk_368 : (Jvm.Cond.selects "DraftTree" ({ cls := "DraftTree", name := "find", desc := "(I)I" } : Jvm.MethodName) ({ cls := "DraftTree", name := "find", desc := "(I)I" } : Jvm.MethodName)) ∈ wk_tbl := List.mem_append_left _ (List.mem_of_getElem? (i := 368) (by rfl))
set_option maxRecDepth 20000 in
theorem lk_369 : (Jvm.Cond.classLink "DraftTreeLaw" (13 : Nat) "java/lang/IllegalStateException") ∈ wk_tbl := List.mem_append_left _ (List.mem_of_getElem? (i := 369) (by rfl))
set_option maxRecDepth 20000 in
theorem lk_370 : (Jvm.Cond.codeWith ({ cls := "DraftTreeLaw", name := "find", desc := "(LDraftTree;I[J)I" } : Jvm.MethodName) method_7_code (4 : Nat) (Option.some Jvm.ClassFile.FieldType.int) [((0 : Nat), (9 : Nat), (12 : Nat), (13 : Nat)), ((0 : Nat), (9 : Nat), (15 : Nat), (23 : Nat)), ((0 : Nat), (9 : Nat), (18 : Nat), (33 : Nat))]) ∈ wk_tbl := List.mem_append_left _ (List.mem_of_getElem? (i := 370) (by rfl))
set_option maxRecDepth 20000 in
theorem lk_371 : (Jvm.Cond.methodLink "DraftTreeLaw" (100 : Nat) ({ cls := "DraftTreeLaw", name := "find", desc := "(LDraftTree;I[J)I" } : Jvm.MethodName)) ∈ wk_tbl := List.mem_append_left _ (List.mem_of_getElem? (i := 371) (by rfl))
set_option maxRecDepth 20000 in
theorem lk_372 : (Jvm.Cond.static ({ cls := "DraftTreeLaw", name := "find", desc := "(LDraftTree;I[J)I" } : Jvm.MethodName)) ∈ wk_tbl := List.mem_append_left _ (List.mem_of_getElem? (i := 372) (by rfl))
set_option maxRecDepth 20000 in
theorem lk_373 : (Jvm.Cond.code ({ cls := "DraftTreeModel", name := "find", desc := "(I)I" } : Jvm.MethodName) prog_6_method_45_code (2 : Nat) (Option.some Jvm.ClassFile.FieldType.int)) ∈ wk_tbl := List.mem_append_left _ (List.mem_of_getElem? (i := 373) (by rfl))
set_option maxRecDepth 20000 in
theorem lk_374 : (Jvm.Cond.methodLink "DraftTreeLaw" (102 : Nat) ({ cls := "DraftTreeModel", name := "find", desc := "(I)I" } : Jvm.MethodName)) ∈ wk_tbl := List.mem_append_left _ (List.mem_of_getElem? (i := 374) (by rfl))
set_option maxRecDepth 20000 in
theorem lk_375 : (Jvm.Cond.instanceMethod ({ cls := "DraftTreeModel", name := "find", desc := "(I)I" } : Jvm.MethodName)) ∈ wk_tbl := List.mem_append_left _ (List.mem_of_getElem? (i := 375) (by rfl))
set_option maxRecDepth 20000 in
theorem lk_376 : (Jvm.Cond.selects "DraftTreeModel" ({ cls := "DraftTreeModel", name := "find", desc := "(I)I" } : Jvm.MethodName) ({ cls := "DraftTreeModel", name := "find", desc := "(I)I" } : Jvm.MethodName)) ∈ wk_tbl := List.mem_append_left _ (List.mem_of_getElem? (i := 376) (by rfl))
set_option maxRecDepth 20000 in
theorem lk_377 : (Jvm.Cond.code ({ cls := "DraftTree", name := "replace", desc := "()I" } : Jvm.MethodName) prog_1_method_10_code (3 : Nat) (Option.some Jvm.ClassFile.FieldType.int)) ∈ wk_tbl := List.mem_append_left _ (List.mem_of_getElem? (i := 377) (by rfl))
set_option maxRecDepth 20000 in
theorem lk_378 : (Jvm.Cond.methodLink "DraftTreeLaw" (35 : Nat) ({ cls := "DraftTree", name := "replace", desc := "()I" } : Jvm.MethodName)) ∈ wk_tbl := List.mem_append_left _ (List.mem_of_getElem? (i := 378) (by rfl))
set_option maxRecDepth 20000 in
theorem lk_379 : (Jvm.Cond.instanceMethod ({ cls := "DraftTree", name := "replace", desc := "()I" } : Jvm.MethodName)) ∈ wk_tbl := List.mem_append_left _ (List.mem_of_getElem? (i := 379) (by rfl))
set_option maxRecDepth 20000 in
theorem lk_380 : (Jvm.Cond.selects "DraftTree" ({ cls := "DraftTree", name := "replace", desc := "()I" } : Jvm.MethodName) ({ cls := "DraftTree", name := "replace", desc := "()I" } : Jvm.MethodName)) ∈ wk_tbl := List.mem_append_left _ (List.mem_of_getElem? (i := 380) (by rfl))
set_option maxRecDepth 20000 in
theorem lk_381 : (Jvm.Cond.codeWith ({ cls := "DraftTreeLaw", name := "replace", desc := "(LDraftTree;[J)I" } : Jvm.MethodName) method_8_code (3 : Nat) (Option.some Jvm.ClassFile.FieldType.int) [((0 : Nat), (8 : Nat), (11 : Nat), (13 : Nat))]) ∈ wk_tbl := List.mem_append_left _ (List.mem_of_getElem? (i := 381) (by rfl))
set_option maxRecDepth 20000 in
theorem lk_382 : (Jvm.Cond.methodLink "DraftTreeLaw" (103 : Nat) ({ cls := "DraftTreeLaw", name := "replace", desc := "(LDraftTree;[J)I" } : Jvm.MethodName)) ∈ wk_tbl := List.mem_append_left _ (List.mem_of_getElem? (i := 382) (by rfl))
set_option maxRecDepth 20000 in
theorem lk_383 : (Jvm.Cond.static ({ cls := "DraftTreeLaw", name := "replace", desc := "(LDraftTree;[J)I" } : Jvm.MethodName)) ∈ wk_tbl := List.mem_append_left _ (List.mem_of_getElem? (i := 383) (by rfl))
set_option maxRecDepth 20000 in
theorem lk_384 : (Jvm.Cond.code ({ cls := "DraftTreeModel", name := "replace", desc := "()I" } : Jvm.MethodName) prog_6_method_46_code (4 : Nat) (Option.some Jvm.ClassFile.FieldType.int)) ∈ wk_tbl := List.mem_append_left _ (List.mem_of_getElem? (i := 384) (by rfl))
set_option maxRecDepth 20000 in
theorem lk_385 : (Jvm.Cond.methodLink "DraftTreeLaw" (105 : Nat) ({ cls := "DraftTreeModel", name := "replace", desc := "()I" } : Jvm.MethodName)) ∈ wk_tbl := List.mem_append_left _ (List.mem_of_getElem? (i := 385) (by rfl))
set_option maxRecDepth 20000 in
theorem lk_386 : (Jvm.Cond.instanceMethod ({ cls := "DraftTreeModel", name := "replace", desc := "()I" } : Jvm.MethodName)) ∈ wk_tbl := List.mem_append_left _ (List.mem_of_getElem? (i := 386) (by rfl))
set_option maxRecDepth 20000 in
theorem lk_387 : (Jvm.Cond.selects "DraftTreeModel" ({ cls := "DraftTreeModel", name := "replace", desc := "()I" } : Jvm.MethodName) ({ cls := "DraftTreeModel", name := "replace", desc := "()I" } : Jvm.MethodName)) ∈ wk_tbl := List.mem_append_left _ (List.mem_of_getElem? (i := 387) (by rfl))
set_option maxRecDepth 20000 in
theorem lk_388 : (Jvm.Cond.fieldLink "DraftTree" (131 : Nat) "DraftTree$State" "origin" "I") ∈ wk_tbl := List.mem_append_left _ (List.mem_of_getElem? (i := 388) (by rfl))
set_option maxRecDepth 20000 in
theorem lk_389 : (Jvm.Cond.classLink "DraftTree" (111 : Nat) "java/util/NoSuchElementException") ∈ wk_tbl := List.mem_append_left _ (List.mem_of_getElem? (i := 389) (by rfl))
set_option maxRecDepth 20000 in
theorem lk_390 : (Jvm.Cond.initialized "java/util/NoSuchElementException") ∈ wk_tbl := List.mem_append_left _ (List.mem_of_getElem? (i := 390) (by rfl))
set_option maxRecDepth 20000 in
theorem lk_391 : (Jvm.Cond.code ({ cls := "DraftTree", name := "undo", desc := "()I" } : Jvm.MethodName) prog_1_method_11_code (2 : Nat) (Option.some Jvm.ClassFile.FieldType.int)) ∈ wk_tbl := List.mem_append_left _ (List.mem_of_getElem? (i := 391) (by rfl))
set_option maxRecDepth 20000 in
theorem lk_392 : (Jvm.Cond.methodLink "DraftTreeLaw" (38 : Nat) ({ cls := "DraftTree", name := "undo", desc := "()I" } : Jvm.MethodName)) ∈ wk_tbl := List.mem_append_left _ (List.mem_of_getElem? (i := 392) (by rfl))
set_option maxRecDepth 20000 in
theorem lk_393 : (Jvm.Cond.instanceMethod ({ cls := "DraftTree", name := "undo", desc := "()I" } : Jvm.MethodName)) ∈ wk_tbl := List.mem_append_left _ (List.mem_of_getElem? (i := 393) (by rfl))
set_option maxRecDepth 20000 in
theorem lk_394 : (Jvm.Cond.selects "DraftTree" ({ cls := "DraftTree", name := "undo", desc := "()I" } : Jvm.MethodName) ({ cls := "DraftTree", name := "undo", desc := "()I" } : Jvm.MethodName)) ∈ wk_tbl := List.mem_append_left _ (List.mem_of_getElem? (i := 394) (by rfl))
set_option maxRecDepth 20000 in
theorem lk_395 : (Jvm.Cond.classLink "DraftTreeLaw" (33 : Nat) "java/util/NoSuchElementException") ∈ wk_tbl := List.mem_append_left _ (List.mem_of_getElem? (i := 395) (by rfl))
set_option maxRecDepth 20000 in
theorem lk_396 : (Jvm.Cond.codeWith ({ cls := "DraftTreeLaw", name := "undo", desc := "(LDraftTree;[J)I" } : Jvm.MethodName) method_9_code (3 : Nat) (Option.some Jvm.ClassFile.FieldType.int) [((0 : Nat), (8 : Nat), (11 : Nat), (33 : Nat))]) ∈ wk_tbl := List.mem_append_left _ (List.mem_of_getElem? (i := 396) (by rfl))
set_option maxRecDepth 20000 in
theorem lk_397 : (Jvm.Cond.methodLink "DraftTreeLaw" (106 : Nat) ({ cls := "DraftTreeLaw", name := "undo", desc := "(LDraftTree;[J)I" } : Jvm.MethodName)) ∈ wk_tbl := List.mem_append_left _ (List.mem_of_getElem? (i := 397) (by rfl))
set_option maxRecDepth 20000 in
theorem lk_398 : (Jvm.Cond.static ({ cls := "DraftTreeLaw", name := "undo", desc := "(LDraftTree;[J)I" } : Jvm.MethodName)) ∈ wk_tbl := List.mem_append_left _ (List.mem_of_getElem? (i := 398) (by rfl))
set_option maxRecDepth 20000 in
theorem lk_399 : (Jvm.Cond.code ({ cls := "DraftTreeModel", name := "undo", desc := "()I" } : Jvm.MethodName) prog_6_method_18_code (1 : Nat) (Option.some Jvm.ClassFile.FieldType.int)) ∈ wk_tbl := List.mem_append_left _ (List.mem_of_getElem? (i := 399) (by rfl))
set_option maxRecDepth 20000 in
theorem lk_400 : (Jvm.Cond.methodLink "DraftTreeLaw" (108 : Nat) ({ cls := "DraftTreeModel", name := "undo", desc := "()I" } : Jvm.MethodName)) ∈ wk_tbl := List.mem_append_left _ (List.mem_of_getElem? (i := 400) (by rfl))
set_option maxRecDepth 20000 in
theorem lk_401 : (Jvm.Cond.instanceMethod ({ cls := "DraftTreeModel", name := "undo", desc := "()I" } : Jvm.MethodName)) ∈ wk_tbl := List.mem_append_left _ (List.mem_of_getElem? (i := 401) (by rfl))
set_option maxRecDepth 20000 in
theorem lk_402 : (Jvm.Cond.selects "DraftTreeModel" ({ cls := "DraftTreeModel", name := "undo", desc := "()I" } : Jvm.MethodName) ({ cls := "DraftTreeModel", name := "undo", desc := "()I" } : Jvm.MethodName)) ∈ wk_tbl := List.mem_append_left _ (List.mem_of_getElem? (i := 402) (by rfl))
set_option maxRecDepth 20000 in
theorem lk_403 : (Jvm.Cond.fieldLink "DraftTree" (137 : Nat) "DraftTree$State" "latestChild" "I") ∈ wk_tbl := List.mem_append_left _ (List.mem_of_getElem? (i := 403) (by rfl))
set_option maxRecDepth 20000 in
theorem lk_404 : (Jvm.Cond.code ({ cls := "DraftTree", name := "redo", desc := "()I" } : Jvm.MethodName) prog_1_method_12_code (2 : Nat) (Option.some Jvm.ClassFile.FieldType.int)) ∈ wk_tbl := List.mem_append_left _ (List.mem_of_getElem? (i := 404) (by rfl))
set_option maxRecDepth 20000 in
theorem lk_405 : (Jvm.Cond.methodLink "DraftTreeLaw" (41 : Nat) ({ cls := "DraftTree", name := "redo", desc := "()I" } : Jvm.MethodName)) ∈ wk_tbl := List.mem_append_left _ (List.mem_of_getElem? (i := 405) (by rfl))
set_option maxRecDepth 20000 in
theorem lk_406 : (Jvm.Cond.instanceMethod ({ cls := "DraftTree", name := "redo", desc := "()I" } : Jvm.MethodName)) ∈ wk_tbl := List.mem_append_left _ (List.mem_of_getElem? (i := 406) (by rfl))
set_option maxRecDepth 20000 in
theorem lk_407 : (Jvm.Cond.selects "DraftTree" ({ cls := "DraftTree", name := "redo", desc := "()I" } : Jvm.MethodName) ({ cls := "DraftTree", name := "redo", desc := "()I" } : Jvm.MethodName)) ∈ wk_tbl := List.mem_append_left _ (List.mem_of_getElem? (i := 407) (by rfl))
set_option maxRecDepth 20000 in
theorem lk_408 : (Jvm.Cond.codeWith ({ cls := "DraftTreeLaw", name := "redo", desc := "(LDraftTree;[J)I" } : Jvm.MethodName) method_10_code (3 : Nat) (Option.some Jvm.ClassFile.FieldType.int) [((0 : Nat), (8 : Nat), (11 : Nat), (33 : Nat))]) ∈ wk_tbl := List.mem_append_left _ (List.mem_of_getElem? (i := 408) (by rfl))
set_option maxRecDepth 20000 in
theorem lk_409 : (Jvm.Cond.methodLink "DraftTreeLaw" (109 : Nat) ({ cls := "DraftTreeLaw", name := "redo", desc := "(LDraftTree;[J)I" } : Jvm.MethodName)) ∈ wk_tbl := List.mem_append_left _ (List.mem_of_getElem? (i := 409) (by rfl))
set_option maxRecDepth 20000 in
theorem lk_410 : (Jvm.Cond.static ({ cls := "DraftTreeLaw", name := "redo", desc := "(LDraftTree;[J)I" } : Jvm.MethodName)) ∈ wk_tbl := List.mem_append_left _ (List.mem_of_getElem? (i := 410) (by rfl))
set_option maxRecDepth 20000 in
theorem lk_411 : (Jvm.Cond.code ({ cls := "DraftTreeModel", name := "redo", desc := "()I" } : Jvm.MethodName) prog_6_method_19_code (3 : Nat) (Option.some Jvm.ClassFile.FieldType.int)) ∈ wk_tbl := List.mem_append_left _ (List.mem_of_getElem? (i := 411) (by rfl))
set_option maxRecDepth 20000 in
theorem lk_412 : (Jvm.Cond.methodLink "DraftTreeLaw" (111 : Nat) ({ cls := "DraftTreeModel", name := "redo", desc := "()I" } : Jvm.MethodName)) ∈ wk_tbl := List.mem_append_left _ (List.mem_of_getElem? (i := 412) (by rfl))
set_option maxRecDepth 20000 in
theorem lk_413 : (Jvm.Cond.instanceMethod ({ cls := "DraftTreeModel", name := "redo", desc := "()I" } : Jvm.MethodName)) ∈ wk_tbl := List.mem_append_left _ (List.mem_of_getElem? (i := 413) (by rfl))
set_option maxRecDepth 20000 in
theorem lk_414 : (Jvm.Cond.selects "DraftTreeModel" ({ cls := "DraftTreeModel", name := "redo", desc := "()I" } : Jvm.MethodName) ({ cls := "DraftTreeModel", name := "redo", desc := "()I" } : Jvm.MethodName)) ∈ wk_tbl := List.mem_append_left _ (List.mem_of_getElem? (i := 414) (by rfl))
set_option maxRecDepth 20000 in
theorem lk_415 : (Jvm.Cond.code ({ cls := "DraftTree", name := "requireState", desc := "(I)V" } : Jvm.MethodName) prog_1_method_20_code (2 : Nat) (Option.none : Option Jvm.ClassFile.FieldType)) ∈ wk_tbl := List.mem_append_left _ (List.mem_of_getElem? (i := 415) (by rfl))
set_option maxRecDepth 20000 in
theorem lk_416 : (Jvm.Cond.methodLink "DraftTree" (140 : Nat) ({ cls := "DraftTree", name := "requireState", desc := "(I)V" } : Jvm.MethodName)) ∈ wk_tbl := List.mem_append_left _ (List.mem_of_getElem? (i := 416) (by rfl))
set_option maxRecDepth 20000 in
theorem lk_417 : (Jvm.Cond.instanceMethod ({ cls := "DraftTree", name := "requireState", desc := "(I)V" } : Jvm.MethodName)) ∈ wk_tbl := List.mem_append_left _ (List.mem_of_getElem? (i := 417) (by rfl))
set_option maxRecDepth 20000 in
theorem lk_418 : (Jvm.Cond.selects "DraftTree" ({ cls := "DraftTree", name := "requireState", desc := "(I)V" } : Jvm.MethodName) ({ cls := "DraftTree", name := "requireState", desc := "(I)V" } : Jvm.MethodName)) ∈ wk_tbl := List.mem_append_left _ (List.mem_of_getElem? (i := 418) (by rfl))
set_option maxRecDepth 20000 in
theorem lk_419 : (Jvm.Cond.fieldLink "DraftTree" (155 : Nat) "DraftTree$State" "place" "I") ∈ wk_tbl := List.mem_append_left _ (List.mem_of_getElem? (i := 419) (by rfl))
set_option maxRecDepth 20000 in
theorem lk_420 : (Jvm.Cond.fieldLink "DraftTree" (158 : Nat) "DraftTree$State" "text" "[C") ∈ wk_tbl := List.mem_append_left _ (List.mem_of_getElem? (i := 420) (by rfl))
set_option maxRecDepth 20000 in
theorem lk_421 : (Jvm.Cond.code ({ cls := "DraftTree", name := "moveTo", desc := "(I)V" } : Jvm.MethodName) prog_1_method_23_code (3 : Nat) (Option.none : Option Jvm.ClassFile.FieldType)) ∈ wk_tbl := List.mem_append_left _ (List.mem_of_getElem? (i := 421) (by rfl))
set_option maxRecDepth 20000 in
theorem lk_422 : (Jvm.Cond.methodLink "DraftTree" (134 : Nat) ({ cls := "DraftTree", name := "moveTo", desc := "(I)V" } : Jvm.MethodName)) ∈ wk_tbl := List.mem_append_left _ (List.mem_of_getElem? (i := 422) (by rfl))
set_option maxRecDepth 20000 in
theorem lk_423 : (Jvm.Cond.instanceMethod ({ cls := "DraftTree", name := "moveTo", desc := "(I)V" } : Jvm.MethodName)) ∈ wk_tbl := List.mem_append_left _ (List.mem_of_getElem? (i := 423) (by rfl))
set_option maxRecDepth 20000 in
theorem lk_424 : (Jvm.Cond.selects "DraftTree" ({ cls := "DraftTree", name := "moveTo", desc := "(I)V" } : Jvm.MethodName) ({ cls := "DraftTree", name := "moveTo", desc := "(I)V" } : Jvm.MethodName)) ∈ wk_tbl := List.mem_append_left _ (List.mem_of_getElem? (i := 424) (by rfl))
set_option maxRecDepth 20000 in
theorem lk_425 : (Jvm.Cond.code ({ cls := "DraftTree", name := "jump", desc := "(I)V" } : Jvm.MethodName) prog_1_method_13_code (2 : Nat) (Option.none : Option Jvm.ClassFile.FieldType)) ∈ wk_tbl := List.mem_append_left _ (List.mem_of_getElem? (i := 425) (by rfl))
set_option maxRecDepth 20000 in
theorem lk_426 : (Jvm.Cond.methodLink "DraftTreeLaw" (44 : Nat) ({ cls := "DraftTree", name := "jump", desc := "(I)V" } : Jvm.MethodName)) ∈ wk_tbl := List.mem_append_left _ (List.mem_of_getElem? (i := 426) (by rfl))
set_option maxRecDepth 20000 in
theorem lk_427 : (Jvm.Cond.instanceMethod ({ cls := "DraftTree", name := "jump", desc := "(I)V" } : Jvm.MethodName)) ∈ wk_tbl := List.mem_append_left _ (List.mem_of_getElem? (i := 427) (by rfl))
set_option maxRecDepth 20000 in
theorem lk_428 : (Jvm.Cond.selects "DraftTree" ({ cls := "DraftTree", name := "jump", desc := "(I)V" } : Jvm.MethodName) ({ cls := "DraftTree", name := "jump", desc := "(I)V" } : Jvm.MethodName)) ∈ wk_tbl := List.mem_append_left _ (List.mem_of_getElem? (i := 428) (by rfl))
set_option maxRecDepth 20000 in
theorem lk_429 : (Jvm.Cond.codeWith ({ cls := "DraftTreeLaw", name := "jump", desc := "(LDraftTree;I)I" } : Jvm.MethodName) method_11_code (3 : Nat) (Option.some Jvm.ClassFile.FieldType.int) [((0 : Nat), (5 : Nat), (8 : Nat), (28 : Nat))]) ∈ wk_tbl := List.mem_append_left _ (List.mem_of_getElem? (i := 429) (by rfl))
set_option maxRecDepth 20000 in
theorem lk_430 : (Jvm.Cond.methodLink "DraftTreeLaw" (112 : Nat) ({ cls := "DraftTreeLaw", name := "jump", desc := "(LDraftTree;I)I" } : Jvm.MethodName)) ∈ wk_tbl := List.mem_append_left _ (List.mem_of_getElem? (i := 430) (by rfl))
set_option maxRecDepth 20000 in
theorem lk_431 : (Jvm.Cond.static ({ cls := "DraftTreeLaw", name := "jump", desc := "(LDraftTree;I)I" } : Jvm.MethodName)) ∈ wk_tbl := List.mem_append_left _ (List.mem_of_getElem? (i := 431) (by rfl))
set_option maxRecDepth 20000 in
theorem lk_432 : (Jvm.Cond.fieldLink "DraftTreeModel" (98 : Nat) "DraftTreeModel" "clock" "I") ∈ wk_tbl := List.mem_append_left _ (List.mem_of_getElem? (i := 432) (by rfl))
set_option maxRecDepth 20000 in
theorem lk_433 : (Jvm.Cond.code ({ cls := "DraftTreeModel", name := "come", desc := "(I)V" } : Jvm.MethodName) prog_6_method_8_code (2 : Nat) (Option.none : Option Jvm.ClassFile.FieldType)) ∈ wk_tbl := List.mem_append_left _ (List.mem_of_getElem? (i := 433) (by rfl))
set_option maxRecDepth 20000 in
theorem lk_434 : (Jvm.Cond.methodLink "DraftTreeModel" (112 : Nat) ({ cls := "DraftTreeModel", name := "come", desc := "(I)V" } : Jvm.MethodName)) ∈ wk_tbl := List.mem_append_left _ (List.mem_of_getElem? (i := 434) (by rfl))
set_option maxRecDepth 20000 in
theorem lk_435 : (Jvm.Cond.instanceMethod ({ cls := "DraftTreeModel", name := "come", desc := "(I)V" } : Jvm.MethodName)) ∈ wk_tbl := List.mem_append_left _ (List.mem_of_getElem? (i := 435) (by rfl))
set_option maxRecDepth 20000 in
theorem lk_436 : (Jvm.Cond.selects "DraftTreeModel" ({ cls := "DraftTreeModel", name := "come", desc := "(I)V" } : Jvm.MethodName) ({ cls := "DraftTreeModel", name := "come", desc := "(I)V" } : Jvm.MethodName)) ∈ wk_tbl := List.mem_append_left _ (List.mem_of_getElem? (i := 436) (by rfl))
set_option maxRecDepth 20000 in
theorem lk_437 : (Jvm.Cond.code ({ cls := "DraftTreeModel", name := "jump", desc := "(I)V" } : Jvm.MethodName) prog_6_method_20_code (2 : Nat) (Option.none : Option Jvm.ClassFile.FieldType)) ∈ wk_tbl := List.mem_append_left _ (List.mem_of_getElem? (i := 437) (by rfl))
set_option maxRecDepth 20000 in
theorem lk_438 : (Jvm.Cond.methodLink "DraftTreeLaw" (115 : Nat) ({ cls := "DraftTreeModel", name := "jump", desc := "(I)V" } : Jvm.MethodName)) ∈ wk_tbl := List.mem_append_left _ (List.mem_of_getElem? (i := 438) (by rfl))
set_option maxRecDepth 20000 in
theorem lk_439 : (Jvm.Cond.instanceMethod ({ cls := "DraftTreeModel", name := "jump", desc := "(I)V" } : Jvm.MethodName)) ∈ wk_tbl := List.mem_append_left _ (List.mem_of_getElem? (i := 439) (by rfl))
set_option maxRecDepth 20000 in
theorem lk_440 : (Jvm.Cond.selects "DraftTreeModel" ({ cls := "DraftTreeModel", name := "jump", desc := "(I)V" } : Jvm.MethodName) ({ cls := "DraftTreeModel", name := "jump", desc := "(I)V" } : Jvm.MethodName)) ∈ wk_tbl := List.mem_append_left _ (List.mem_of_getElem? (i := 440) (by rfl))
set_option maxRecDepth 20000 in
theorem lk_441 : (Jvm.Cond.classLink "DraftTree" (96 : Nat) "java/lang/IllegalArgumentException") ∈ wk_tbl := List.mem_append_left _ (List.mem_of_getElem? (i := 441) (by rfl))
set_option maxRecDepth 20000 in
theorem lk_442 : (Jvm.Cond.initialized "java/lang/IllegalArgumentException") ∈ wk_tbl := List.mem_append_left _ (List.mem_of_getElem? (i := 442) (by rfl))
set_option maxRecDepth 20000 in
theorem lk_443 : (Jvm.Cond.classLink "DraftTreeLaw" (28 : Nat) "java/lang/IllegalArgumentException") ∈ wk_tbl := List.mem_append_left _ (List.mem_of_getElem? (i := 443) (by rfl))
set_option maxRecDepth 20000 in
theorem lk_444 : (Jvm.Cond.code ({ cls := "DraftTree", name := "length", desc := "()I" } : Jvm.MethodName) prog_1_method_14_code (1 : Nat) (Option.some Jvm.ClassFile.FieldType.int)) ∈ wk_tbl := List.mem_append_left _ (List.mem_of_getElem? (i := 444) (by rfl))
set_option maxRecDepth 20000 in
theorem lk_445 : (Jvm.Cond.methodLink "DraftTreeLaw" (116 : Nat) ({ cls := "DraftTree", name := "length", desc := "()I" } : Jvm.MethodName)) ∈ wk_tbl := List.mem_append_left _ (List.mem_of_getElem? (i := 445) (by rfl))
set_option maxRecDepth 20000 in
theorem lk_446 : (Jvm.Cond.instanceMethod ({ cls := "DraftTree", name := "length", desc := "()I" } : Jvm.MethodName)) ∈ wk_tbl := List.mem_append_left _ (List.mem_of_getElem? (i := 446) (by rfl))
set_option maxRecDepth 20000 in
theorem lk_447 : (Jvm.Cond.selects "DraftTree" ({ cls := "DraftTree", name := "length", desc := "()I" } : Jvm.MethodName) ({ cls := "DraftTree", name := "length", desc := "()I" } : Jvm.MethodName)) ∈ wk_tbl := List.mem_append_left _ (List.mem_of_getElem? (i := 447) (by rfl))
set_option maxRecDepth 20000 in
theorem lk_448 : (Jvm.Cond.code ({ cls := "DraftTreeModel", name := "length", desc := "()I" } : Jvm.MethodName) prog_6_method_47_code (1 : Nat) (Option.some Jvm.ClassFile.FieldType.int)) ∈ wk_tbl := List.mem_append_left _ (List.mem_of_getElem? (i := 448) (by rfl))
set_option maxRecDepth 20000 in
theorem lk_449 : (Jvm.Cond.methodLink "DraftTreeLaw" (119 : Nat) ({ cls := "DraftTreeModel", name := "length", desc := "()I" } : Jvm.MethodName)) ∈ wk_tbl := List.mem_append_left _ (List.mem_of_getElem? (i := 449) (by rfl))
set_option maxRecDepth 20000 in
theorem lk_450 : (Jvm.Cond.instanceMethod ({ cls := "DraftTreeModel", name := "length", desc := "()I" } : Jvm.MethodName)) ∈ wk_tbl := List.mem_append_left _ (List.mem_of_getElem? (i := 450) (by rfl))
set_option maxRecDepth 20000 in
theorem lk_451 : (Jvm.Cond.selects "DraftTreeModel" ({ cls := "DraftTreeModel", name := "length", desc := "()I" } : Jvm.MethodName) ({ cls := "DraftTreeModel", name := "length", desc := "()I" } : Jvm.MethodName)) ∈ wk_tbl := List.mem_append_left _ (List.mem_of_getElem? (i := 451) (by rfl))
set_option maxRecDepth 20000 in
theorem lk_452 : (Jvm.Cond.code ({ cls := "DraftTree", name := "at", desc := "(I)C" } : Jvm.MethodName) prog_1_method_15_code (2 : Nat) (Option.some Jvm.ClassFile.FieldType.char)) ∈ wk_tbl := List.mem_append_left _ (List.mem_of_getElem? (i := 452) (by rfl))
set_option maxRecDepth 20000 in
theorem lk_453 : (Jvm.Cond.methodLink "DraftTreeLaw" (48 : Nat) ({ cls := "DraftTree", name := "at", desc := "(I)C" } : Jvm.MethodName)) ∈ wk_tbl := List.mem_append_left _ (List.mem_of_getElem? (i := 453) (by rfl))
set_option maxRecDepth 20000 in
theorem lk_454 : (Jvm.Cond.instanceMethod ({ cls := "DraftTree", name := "at", desc := "(I)C" } : Jvm.MethodName)) ∈ wk_tbl := List.mem_append_left _ (List.mem_of_getElem? (i := 454) (by rfl))
set_option maxRecDepth 20000 in
theorem lk_455 : (Jvm.Cond.selects "DraftTree" ({ cls := "DraftTree", name := "at", desc := "(I)C" } : Jvm.MethodName) ({ cls := "DraftTree", name := "at", desc := "(I)C" } : Jvm.MethodName)) ∈ wk_tbl := List.mem_append_left _ (List.mem_of_getElem? (i := 455) (by rfl))
set_option maxRecDepth 20000 in
theorem lk_456 : (Jvm.Cond.codeWith ({ cls := "DraftTreeLaw", name := "at", desc := "(LDraftTree;I[J)I" } : Jvm.MethodName) method_12_code (4 : Nat) (Option.some Jvm.ClassFile.FieldType.int) [((0 : Nat), (9 : Nat), (12 : Nat), (23 : Nat))]) ∈ wk_tbl := List.mem_append_left _ (List.mem_of_getElem? (i := 456) (by rfl))
set_option maxRecDepth 20000 in
theorem lk_457 : (Jvm.Cond.methodLink "DraftTreeLaw" (120 : Nat) ({ cls := "DraftTreeLaw", name := "at", desc := "(LDraftTree;I[J)I" } : Jvm.MethodName)) ∈ wk_tbl := List.mem_append_left _ (List.mem_of_getElem? (i := 457) (by rfl))
set_option maxRecDepth 20000 in
theorem lk_458 : (Jvm.Cond.static ({ cls := "DraftTreeLaw", name := "at", desc := "(LDraftTree;I[J)I" } : Jvm.MethodName)) ∈ wk_tbl := List.mem_append_left _ (List.mem_of_getElem? (i := 458) (by rfl))
set_option maxRecDepth 20000 in
theorem lk_459 : (Jvm.Cond.code ({ cls := "DraftTreeModel", name := "at", desc := "(I)C" } : Jvm.MethodName) prog_6_method_48_code (2 : Nat) (Option.some Jvm.ClassFile.FieldType.char)) ∈ wk_tbl := List.mem_append_left _ (List.mem_of_getElem? (i := 459) (by rfl))
set_option maxRecDepth 20000 in
theorem lk_460 : (Jvm.Cond.methodLink "DraftTreeLaw" (122 : Nat) ({ cls := "DraftTreeModel", name := "at", desc := "(I)C" } : Jvm.MethodName)) ∈ wk_tbl := List.mem_append_left _ (List.mem_of_getElem? (i := 460) (by rfl))
set_option maxRecDepth 20000 in
theorem lk_461 : (Jvm.Cond.instanceMethod ({ cls := "DraftTreeModel", name := "at", desc := "(I)C" } : Jvm.MethodName)) ∈ wk_tbl := List.mem_append_left _ (List.mem_of_getElem? (i := 461) (by rfl))
set_option maxRecDepth 20000 in
theorem lk_462 : (Jvm.Cond.selects "DraftTreeModel" ({ cls := "DraftTreeModel", name := "at", desc := "(I)C" } : Jvm.MethodName) ({ cls := "DraftTreeModel", name := "at", desc := "(I)C" } : Jvm.MethodName)) ∈ wk_tbl := List.mem_append_left _ (List.mem_of_getElem? (i := 462) (by rfl))
set_option maxRecDepth 20000 in
theorem lk_463 : (Jvm.Cond.code ({ cls := "DraftTree", name := "breaksBefore", desc := "(I)I" } : Jvm.MethodName) prog_1_method_29_code (4 : Nat) (Option.some Jvm.ClassFile.FieldType.int)) ∈ wk_tbl := List.mem_append_left _ (List.mem_of_getElem? (i := 463) (by rfl))
set_option maxRecDepth 20000 in
theorem lk_464 : (Jvm.Cond.methodLink "DraftTree" (146 : Nat) ({ cls := "DraftTree", name := "breaksBefore", desc := "(I)I" } : Jvm.MethodName)) ∈ wk_tbl := List.mem_append_left _ (List.mem_of_getElem? (i := 464) (by rfl))
set_option maxRecDepth 20000 in
theorem lk_465 : (Jvm.Cond.instanceMethod ({ cls := "DraftTree", name := "breaksBefore", desc := "(I)I" } : Jvm.MethodName)) ∈ wk_tbl := List.mem_append_left _ (List.mem_of_getElem? (i := 465) (by rfl))
set_option maxRecDepth 20000 in
theorem lk_466 : (Jvm.Cond.selects "DraftTree" ({ cls := "DraftTree", name := "breaksBefore", desc := "(I)I" } : Jvm.MethodName) ({ cls := "DraftTree", name := "breaksBefore", desc := "(I)I" } : Jvm.MethodName)) ∈ wk_tbl := List.mem_append_left _ (List.mem_of_getElem? (i := 466) (by rfl))
set_option maxRecDepth 20000 in
theorem lk_467 : (Jvm.Cond.code ({ cls := "DraftTree", name := "line", desc := "(II)I" } : Jvm.MethodName) prog_1_method_16_code (3 : Nat) (Option.some Jvm.ClassFile.FieldType.int)) ∈ wk_tbl := List.mem_append_left _ (List.mem_of_getElem? (i := 467) (by rfl))
set_option maxRecDepth 20000 in
theorem lk_468 : (Jvm.Cond.methodLink "DraftTreeLaw" (52 : Nat) ({ cls := "DraftTree", name := "line", desc := "(II)I" } : Jvm.MethodName)) ∈ wk_tbl := List.mem_append_left _ (List.mem_of_getElem? (i := 468) (by rfl))
set_option maxRecDepth 20000 in
theorem lk_469 : (Jvm.Cond.instanceMethod ({ cls := "DraftTree", name := "line", desc := "(II)I" } : Jvm.MethodName)) ∈ wk_tbl := List.mem_append_left _ (List.mem_of_getElem? (i := 469) (by rfl))
set_option maxRecDepth 20000 in
theorem lk_470 : (Jvm.Cond.selects "DraftTree" ({ cls := "DraftTree", name := "line", desc := "(II)I" } : Jvm.MethodName) ({ cls := "DraftTree", name := "line", desc := "(II)I" } : Jvm.MethodName)) ∈ wk_tbl := List.mem_append_left _ (List.mem_of_getElem? (i := 470) (by rfl))
set_option maxRecDepth 20000 in
theorem lk_471 : (Jvm.Cond.codeWith ({ cls := "DraftTreeLaw", name := "line", desc := "(LDraftTree;II[J)I" } : Jvm.MethodName) method_13_code (5 : Nat) (Option.some Jvm.ClassFile.FieldType.int) [((0 : Nat), (10 : Nat), (13 : Nat), (28 : Nat)), ((0 : Nat), (10 : Nat), (17 : Nat), (23 : Nat))]) ∈ wk_tbl := List.mem_append_left _ (List.mem_of_getElem? (i := 471) (by rfl))
set_option maxRecDepth 20000 in
theorem lk_472 : (Jvm.Cond.methodLink "DraftTreeLaw" (123 : Nat) ({ cls := "DraftTreeLaw", name := "line", desc := "(LDraftTree;II[J)I" } : Jvm.MethodName)) ∈ wk_tbl := List.mem_append_left _ (List.mem_of_getElem? (i := 472) (by rfl))
set_option maxRecDepth 20000 in
theorem lk_473 : (Jvm.Cond.static ({ cls := "DraftTreeLaw", name := "line", desc := "(LDraftTree;II[J)I" } : Jvm.MethodName)) ∈ wk_tbl := List.mem_append_left _ (List.mem_of_getElem? (i := 473) (by rfl))
set_option maxRecDepth 20000 in
theorem lk_474 : (Jvm.Cond.code ({ cls := "DraftTreeModel", name := "breaks", desc := "(I)I" } : Jvm.MethodName) prog_6_method_49_code (4 : Nat) (Option.some Jvm.ClassFile.FieldType.int)) ∈ wk_tbl := List.mem_append_left _ (List.mem_of_getElem? (i := 474) (by rfl))
set_option maxRecDepth 20000 in
theorem lk_475 : (Jvm.Cond.methodLink "DraftTreeModel" (238 : Nat) ({ cls := "DraftTreeModel", name := "breaks", desc := "(I)I" } : Jvm.MethodName)) ∈ wk_tbl := List.mem_append_left _ (List.mem_of_getElem? (i := 475) (by rfl))
set_option maxRecDepth 20000 in
theorem lk_476 : (Jvm.Cond.instanceMethod ({ cls := "DraftTreeModel", name := "breaks", desc := "(I)I" } : Jvm.MethodName)) ∈ wk_tbl := List.mem_append_left _ (List.mem_of_getElem? (i := 476) (by rfl))
set_option maxRecDepth 20000 in
theorem lk_477 : (Jvm.Cond.selects "DraftTreeModel" ({ cls := "DraftTreeModel", name := "breaks", desc := "(I)I" } : Jvm.MethodName) ({ cls := "DraftTreeModel", name := "breaks", desc := "(I)I" } : Jvm.MethodName)) ∈ wk_tbl := List.mem_append_left _ (List.mem_of_getElem? (i := 477) (by rfl))
set_option maxRecDepth 20000 in
theorem lk_478 : (Jvm.Cond.code ({ cls := "DraftTreeModel", name := "line", desc := "(II)I" } : Jvm.MethodName) prog_6_method_51_code (7 : Nat) (Option.some Jvm.ClassFile.FieldType.int)) ∈ wk_tbl := List.mem_append_left _ (List.mem_of_getElem? (i := 478) (by rfl))
set_option maxRecDepth 20000 in
theorem lk_479 : (Jvm.Cond.methodLink "DraftTreeLaw" (126 : Nat) ({ cls := "DraftTreeModel", name := "line", desc := "(II)I" } : Jvm.MethodName)) ∈ wk_tbl := List.mem_append_left _ (List.mem_of_getElem? (i := 479) (by rfl))
set_option maxRecDepth 20000 in
theorem lk_480 : (Jvm.Cond.instanceMethod ({ cls := "DraftTreeModel", name := "line", desc := "(II)I" } : Jvm.MethodName)) ∈ wk_tbl := List.mem_append_left _ (List.mem_of_getElem? (i := 480) (by rfl))
set_option maxRecDepth 20000 in
theorem lk_481 : (Jvm.Cond.selects "DraftTreeModel" ({ cls := "DraftTreeModel", name := "line", desc := "(II)I" } : Jvm.MethodName) ({ cls := "DraftTreeModel", name := "line", desc := "(II)I" } : Jvm.MethodName)) ∈ wk_tbl := List.mem_append_left _ (List.mem_of_getElem? (i := 481) (by rfl))
set_option maxRecDepth 20000 in
theorem lk_482 : (Jvm.Cond.code ({ cls := "DraftTree", name := "lineBegin", desc := "(I)I" } : Jvm.MethodName) prog_1_method_30_code (4 : Nat) (Option.some Jvm.ClassFile.FieldType.int)) ∈ wk_tbl := List.mem_append_left _ (List.mem_of_getElem? (i := 482) (by rfl))
set_option maxRecDepth 20000 in
theorem lk_483 : (Jvm.Cond.methodLink "DraftTree" (149 : Nat) ({ cls := "DraftTree", name := "lineBegin", desc := "(I)I" } : Jvm.MethodName)) ∈ wk_tbl := List.mem_append_left _ (List.mem_of_getElem? (i := 483) (by rfl))
set_option maxRecDepth 20000 in
theorem lk_484 : (Jvm.Cond.instanceMethod ({ cls := "DraftTree", name := "lineBegin", desc := "(I)I" } : Jvm.MethodName)) ∈ wk_tbl := List.mem_append_left _ (List.mem_of_getElem? (i := 484) (by rfl))
set_option maxRecDepth 20000 in
theorem lk_485 : (Jvm.Cond.selects "DraftTree" ({ cls := "DraftTree", name := "lineBegin", desc := "(I)I" } : Jvm.MethodName) ({ cls := "DraftTree", name := "lineBegin", desc := "(I)I" } : Jvm.MethodName)) ∈ wk_tbl := List.mem_append_left _ (List.mem_of_getElem? (i := 485) (by rfl))
set_option maxRecDepth 20000 in
theorem lk_486 : (Jvm.Cond.code ({ cls := "DraftTreeModel", name := "lineStart", desc := "(I)I" } : Jvm.MethodName) prog_6_method_50_code (3 : Nat) (Option.some Jvm.ClassFile.FieldType.int)) ∈ wk_tbl := List.mem_append_left _ (List.mem_of_getElem? (i := 486) (by rfl))
set_option maxRecDepth 20000 in
theorem lk_487 : (Jvm.Cond.methodLink "DraftTreeModel" (241 : Nat) ({ cls := "DraftTreeModel", name := "lineStart", desc := "(I)I" } : Jvm.MethodName)) ∈ wk_tbl := List.mem_append_left _ (List.mem_of_getElem? (i := 487) (by rfl))
set_option maxRecDepth 20000 in
theorem lk_488 : (Jvm.Cond.instanceMethod ({ cls := "DraftTreeModel", name := "lineStart", desc := "(I)I" } : Jvm.MethodName)) ∈ wk_tbl := List.mem_append_left _ (List.mem_of_getElem? (i := 488) (by rfl))
set_option maxRecDepth 20000 in
theorem lk_489 : (Jvm.Cond.selects "DraftTreeModel" ({ cls := "DraftTreeModel", name := "lineStart", desc := "(I)I" } : Jvm.MethodName) ({ cls := "DraftTreeModel", name := "lineStart", desc := "(I)I" } : Jvm.MethodName)) ∈ wk_tbl := List.mem_append_left _ (List.mem_of_getElem? (i := 489) (by rfl))
set_option maxRecDepth 20000 in
theorem lk_490 : (Jvm.Cond.code ({ cls := "DraftTree", name := "lineSize", desc := "(I)I" } : Jvm.MethodName) prog_1_method_31_code (4 : Nat) (Option.some Jvm.ClassFile.FieldType.int)) ∈ wk_tbl := List.mem_append_left _ (List.mem_of_getElem? (i := 490) (by rfl))
set_option maxRecDepth 20000 in
theorem lk_491 : (Jvm.Cond.methodLink "DraftTree" (152 : Nat) ({ cls := "DraftTree", name := "lineSize", desc := "(I)I" } : Jvm.MethodName)) ∈ wk_tbl := List.mem_append_left _ (List.mem_of_getElem? (i := 491) (by rfl))
set_option maxRecDepth 20000 in
theorem lk_492 : (Jvm.Cond.instanceMethod ({ cls := "DraftTree", name := "lineSize", desc := "(I)I" } : Jvm.MethodName)) ∈ wk_tbl := List.mem_append_left _ (List.mem_of_getElem? (i := 492) (by rfl))
set_option maxRecDepth 20000 in
theorem lk_493 : (Jvm.Cond.selects "DraftTree" ({ cls := "DraftTree", name := "lineSize", desc := "(I)I" } : Jvm.MethodName) ({ cls := "DraftTree", name := "lineSize", desc := "(I)I" } : Jvm.MethodName)) ∈ wk_tbl := List.mem_append_left _ (List.mem_of_getElem? (i := 493) (by rfl))
set_option maxRecDepth 20000 in
theorem lk_494 : (Jvm.Cond.code ({ cls := "DraftTree", name := "figure", desc := "(I)I" } : Jvm.MethodName) prog_1_method_17_code (2 : Nat) (Option.some Jvm.ClassFile.FieldType.int)) ∈ wk_tbl := List.mem_append_left _ (List.mem_of_getElem? (i := 494) (by rfl))
set_option maxRecDepth 20000 in
theorem lk_495 : (Jvm.Cond.methodLink "DraftTreeLaw" (56 : Nat) ({ cls := "DraftTree", name := "figure", desc := "(I)I" } : Jvm.MethodName)) ∈ wk_tbl := List.mem_append_left _ (List.mem_of_getElem? (i := 495) (by rfl))
set_option maxRecDepth 20000 in
theorem lk_496 : (Jvm.Cond.instanceMethod ({ cls := "DraftTree", name := "figure", desc := "(I)I" } : Jvm.MethodName)) ∈ wk_tbl := List.mem_append_left _ (List.mem_of_getElem? (i := 496) (by rfl))
set_option maxRecDepth 20000 in
theorem lk_497 : (Jvm.Cond.selects "DraftTree" ({ cls := "DraftTree", name := "figure", desc := "(I)I" } : Jvm.MethodName) ({ cls := "DraftTree", name := "figure", desc := "(I)I" } : Jvm.MethodName)) ∈ wk_tbl := List.mem_append_left _ (List.mem_of_getElem? (i := 497) (by rfl))
set_option maxRecDepth 20000 in
theorem lk_498 : (Jvm.Cond.codeWith ({ cls := "DraftTreeLaw", name := "figure", desc := "(LDraftTree;I[J)I" } : Jvm.MethodName) method_14_code (4 : Nat) (Option.some Jvm.ClassFile.FieldType.int) [((0 : Nat), (9 : Nat), (12 : Nat), (28 : Nat))]) ∈ wk_tbl := List.mem_append_left _ (List.mem_of_getElem? (i := 498) (by rfl))
set_option maxRecDepth 20000 in
theorem lk_499 : (Jvm.Cond.methodLink "DraftTreeLaw" (127 : Nat) ({ cls := "DraftTreeLaw", name := "figure", desc := "(LDraftTree;I[J)I" } : Jvm.MethodName)) ∈ wk_tbl := List.mem_append_left _ (List.mem_of_getElem? (i := 499) (by rfl))
set_option maxRecDepth 20000 in
theorem lk_500 : (Jvm.Cond.static ({ cls := "DraftTreeLaw", name := "figure", desc := "(LDraftTree;I[J)I" } : Jvm.MethodName)) ∈ wk_tbl := List.mem_append_left _ (List.mem_of_getElem? (i := 500) (by rfl))
set_option maxRecDepth 20000 in
theorem lk_501 : (Jvm.Cond.code ({ cls := "DraftTreeModel", name := "figure", desc := "(I)I" } : Jvm.MethodName) prog_6_method_52_code (2 : Nat) (Option.some Jvm.ClassFile.FieldType.int)) ∈ wk_tbl := List.mem_append_left _ (List.mem_of_getElem? (i := 501) (by rfl))
set_option maxRecDepth 20000 in
theorem lk_502 : (Jvm.Cond.methodLink "DraftTreeLaw" (129 : Nat) ({ cls := "DraftTreeModel", name := "figure", desc := "(I)I" } : Jvm.MethodName)) ∈ wk_tbl := List.mem_append_left _ (List.mem_of_getElem? (i := 502) (by rfl))
set_option maxRecDepth 20000 in
theorem lk_503 : (Jvm.Cond.instanceMethod ({ cls := "DraftTreeModel", name := "figure", desc := "(I)I" } : Jvm.MethodName)) ∈ wk_tbl := List.mem_append_left _ (List.mem_of_getElem? (i := 503) (by rfl))
set_option maxRecDepth 20000 in
theorem lk_504 : (Jvm.Cond.selects "DraftTreeModel" ({ cls := "DraftTreeModel", name := "figure", desc := "(I)I" } : Jvm.MethodName) ({ cls := "DraftTreeModel", name := "figure", desc := "(I)I" } : Jvm.MethodName)) ∈ wk_tbl := List.mem_append_left _ (List.mem_of_getElem? (i := 504) (by rfl))
set_option maxRecDepth 20000 in
theorem lk_505 : (Jvm.Cond.code ({ cls := "DraftTree", name := "parent", desc := "(I)I" } : Jvm.MethodName) prog_1_method_18_code (2 : Nat) (Option.some Jvm.ClassFile.FieldType.int)) ∈ wk_tbl := List.mem_append_left _ (List.mem_of_getElem? (i := 505) (by rfl))
set_option maxRecDepth 20000 in
theorem lk_506 : (Jvm.Cond.methodLink "DraftTreeLaw" (59 : Nat) ({ cls := "DraftTree", name := "parent", desc := "(I)I" } : Jvm.MethodName)) ∈ wk_tbl := List.mem_append_left _ (List.mem_of_getElem? (i := 506) (by rfl))
set_option maxRecDepth 20000 in
theorem lk_507 : (Jvm.Cond.instanceMethod ({ cls := "DraftTree", name := "parent", desc := "(I)I" } : Jvm.MethodName)) ∈ wk_tbl := List.mem_append_left _ (List.mem_of_getElem? (i := 507) (by rfl))
set_option maxRecDepth 20000 in
theorem lk_508 : (Jvm.Cond.selects "DraftTree" ({ cls := "DraftTree", name := "parent", desc := "(I)I" } : Jvm.MethodName) ({ cls := "DraftTree", name := "parent", desc := "(I)I" } : Jvm.MethodName)) ∈ wk_tbl := List.mem_append_left _ (List.mem_of_getElem? (i := 508) (by rfl))
set_option maxRecDepth 20000 in
theorem lk_509 : (Jvm.Cond.codeWith ({ cls := "DraftTreeLaw", name := "parent", desc := "(LDraftTree;I[J)I" } : Jvm.MethodName) method_15_code (4 : Nat) (Option.some Jvm.ClassFile.FieldType.int) [((0 : Nat), (9 : Nat), (12 : Nat), (28 : Nat))]) ∈ wk_tbl := List.mem_append_left _ (List.mem_of_getElem? (i := 509) (by rfl))
set_option maxRecDepth 20000 in
theorem lk_510 : (Jvm.Cond.methodLink "DraftTreeLaw" (130 : Nat) ({ cls := "DraftTreeLaw", name := "parent", desc := "(LDraftTree;I[J)I" } : Jvm.MethodName)) ∈ wk_tbl := List.mem_append_left _ (List.mem_of_getElem? (i := 510) (by rfl))
set_option maxRecDepth 20000 in
theorem lk_511 : (Jvm.Cond.static ({ cls := "DraftTreeLaw", name := "parent", desc := "(LDraftTree;I[J)I" } : Jvm.MethodName)) ∈ wk_tbl := List.mem_append_left _ (List.mem_of_getElem? (i := 511) (by rfl))
set_option maxRecDepth 20000 in
theorem lk_512 : (Jvm.Cond.code ({ cls := "DraftTreeModel", name := "parent", desc := "(I)I" } : Jvm.MethodName) prog_6_method_53_code (2 : Nat) (Option.some Jvm.ClassFile.FieldType.int)) ∈ wk_tbl := List.mem_append_left _ (List.mem_of_getElem? (i := 512) (by rfl))
set_option maxRecDepth 20000 in
theorem lk_513 : (Jvm.Cond.methodLink "DraftTreeLaw" (132 : Nat) ({ cls := "DraftTreeModel", name := "parent", desc := "(I)I" } : Jvm.MethodName)) ∈ wk_tbl := List.mem_append_left _ (List.mem_of_getElem? (i := 513) (by rfl))
set_option maxRecDepth 20000 in
theorem lk_514 : (Jvm.Cond.instanceMethod ({ cls := "DraftTreeModel", name := "parent", desc := "(I)I" } : Jvm.MethodName)) ∈ wk_tbl := List.mem_append_left _ (List.mem_of_getElem? (i := 514) (by rfl))
set_option maxRecDepth 20000 in
theorem lk_515 : (Jvm.Cond.selects "DraftTreeModel" ({ cls := "DraftTreeModel", name := "parent", desc := "(I)I" } : Jvm.MethodName) ({ cls := "DraftTreeModel", name := "parent", desc := "(I)I" } : Jvm.MethodName)) ∈ wk_tbl := List.mem_append_left _ (List.mem_of_getElem? (i := 515) (by rfl))
theorem wk_good_l : wk_l.all goodWord = true := by decide +kernel
theorem wk_good : ∀ w ∈ wk_tbl, goodWord w = true := fun w h => (List.mem_append.mp h).elim (fun h => List.all_eq_true.mp wk_good_l w h) (fun h => (List.mem_append.mp h).elim (fun h => (List.mem_filter.mp h).2) (fun h => (List.mem_append.mp h).elim (fun h => (List.mem_filter.mp h).2) (fun h => (List.mem_append.mp h).elim (fun h => (List.mem_filter.mp h).2) (fun h => (List.mem_filter.mp h).2))))
theorem gd_c {c0 c1 : Cond} (h : c1 ∈ wk_tbl) : GoodIn (c0 :: wk_tbl) (c1 :: wk_tbl) := fun w hw => by
  have h1 : w ∈ wk_tbl := (List.mem_cons.mp hw).elim (fun e => by rw [e]; exact h) (fun z => z)
  exact ⟨List.mem_cons_of_mem _ h1, good_of_word (wk_good w h1)⟩
theorem gd_l {c0 : Cond} {ws : List Cond} (h : ∀ w ∈ ws, w ∈ wk_tbl) : GoodIn (c0 :: wk_tbl) ws := fun w hw => ⟨List.mem_cons_of_mem _ (h w hw), good_of_word (wk_good w (h w hw))⟩
theorem gd_v {c0 : Cond} {own C : String} {idx : Nat} {y : MethodName} {cw : Cond} (h1 : Cond.methodLink own idx y ∈ wk_tbl) (h2 : Cond.instanceMethod y ∈ wk_tbl) (h3 : Cond.selects C y y ∈ wk_tbl) (h4 : Cond.initialized C ∈ wk_tbl) (h5 : cw ∈ wk_tbl) : GoodIn (c0 :: wk_tbl) (wsV own idx C y (cw :: wk_tbl)) := gd_l (fun w hw => by
  rcases List.mem_append.mp hw with h | h
  · simp only [List.mem_cons, List.not_mem_nil, or_false] at h
    rcases h with rfl | rfl | rfl | rfl
    · exact h1
    · exact h2
    · exact h3
    · exact h4
  · exact (List.mem_cons.mp h).elim (fun e => by rw [e]; exact h5) (fun z => z))
theorem gd_s {c0 : Cond} {own : String} {idx : Nat} {y : MethodName} {cw : Cond} (h1 : Cond.methodLink own idx y ∈ wk_tbl) (h2 : Cond.static y ∈ wk_tbl) (h4 : Cond.initialized own ∈ wk_tbl) (h5 : cw ∈ wk_tbl) : GoodIn (c0 :: wk_tbl) (wsS own idx y (cw :: wk_tbl)) := gd_l (fun w hw => by
  rcases List.mem_append.mp hw with h | h
  · simp only [List.mem_cons, List.not_mem_nil, or_false] at h
    rcases h with rfl | rfl | rfl
    · exact h1
    · exact h2
    · exact h4
  · exact (List.mem_cons.mp h).elim (fun e => by rw [e]; exact h5) (fun z => z))
theorem in_D : ∀ w ∈ u_ws R_D F_D 14, w ∈ wk_tbl := by
  show ∀ w ∈ [(Jvm.Cond.laysFinal "DraftTree" "DraftTree" "slip" "[C"), (Jvm.Cond.lays "DraftTree" "DraftTree" "slipSize" "I"), (Jvm.Cond.laysFinal "DraftTree" "DraftTree" "states" "[LDraftTree$State;"), (Jvm.Cond.lays "DraftTree" "DraftTree" "stateCount" "I"), (Jvm.Cond.lays "DraftTree" "DraftTree" "present" "I"), (Jvm.Cond.lays "DraftTree" "DraftTree" "text" "[C"), (Jvm.Cond.lays "DraftTree" "DraftTree" "cursor" "I"), (Jvm.Cond.lays "DraftTree" "DraftTree" "mark" "I"), (Jvm.Cond.laysFinal "DraftTree" "DraftTree" "reader" "LDraftTree$PatternReader;"), (Jvm.Cond.lays "DraftTree" "DraftTree" "pattern" "LDraftTree$Automaton;"), (Jvm.Cond.lays "DraftTree" "DraftTree" "hasPattern" "Z"), (Jvm.Cond.lays "DraftTree" "DraftTree" "latestFault" "I"), (Jvm.Cond.laysFinal "DraftTree" "DraftTree" "matchStarts" "[I"), (Jvm.Cond.laysFinal "DraftTree" "DraftTree" "matchEnds" "[I")], w ∈ wk_tbl
  exact List.forall_mem_cons.mpr ⟨lk_0, List.forall_mem_cons.mpr ⟨lk_1, List.forall_mem_cons.mpr ⟨lk_2, List.forall_mem_cons.mpr ⟨lk_3, List.forall_mem_cons.mpr ⟨lk_4, List.forall_mem_cons.mpr ⟨lk_5, List.forall_mem_cons.mpr ⟨lk_6, List.forall_mem_cons.mpr ⟨lk_7, List.forall_mem_cons.mpr ⟨lk_8, List.forall_mem_cons.mpr ⟨lk_9, List.forall_mem_cons.mpr ⟨lk_10, List.forall_mem_cons.mpr ⟨lk_11, List.forall_mem_cons.mpr ⟨lk_12, List.forall_mem_cons.mpr ⟨lk_13, (fun _ h => absurd h List.not_mem_nil)⟩⟩⟩⟩⟩⟩⟩⟩⟩⟩⟩⟩⟩⟩
theorem in_S : ∀ w ∈ u_ws R_S F_S 4, w ∈ wk_tbl := by
  show ∀ w ∈ [(Jvm.Cond.laysFinal "DraftTree$State" "DraftTree$State" "text" "[C"), (Jvm.Cond.laysFinal "DraftTree$State" "DraftTree$State" "origin" "I"), (Jvm.Cond.lays "DraftTree$State" "DraftTree$State" "place" "I"), (Jvm.Cond.lays "DraftTree$State" "DraftTree$State" "latestChild" "I")], w ∈ wk_tbl
  exact List.forall_mem_cons.mpr ⟨lk_25, List.forall_mem_cons.mpr ⟨lk_26, List.forall_mem_cons.mpr ⟨lk_27, List.forall_mem_cons.mpr ⟨lk_28, (fun _ h => absurd h List.not_mem_nil)⟩⟩⟩⟩
theorem in_P : ∀ w ∈ u_ws R_P F_P 13, w ∈ wk_tbl := by
  show ∀ w ∈ [(Jvm.Cond.laysFinal "DraftTree$PatternReader" "DraftTree$PatternReader" "choiceStarts" "[I"), (Jvm.Cond.laysFinal "DraftTree$PatternReader" "DraftTree$PatternReader" "choiceEnds" "[I"), (Jvm.Cond.laysFinal "DraftTree$PatternReader" "DraftTree$PatternReader" "rowHeads" "[I"), (Jvm.Cond.laysFinal "DraftTree$PatternReader" "DraftTree$PatternReader" "outerTails" "[I"), (Jvm.Cond.lays "DraftTree$PatternReader" "DraftTree$PatternReader" "made" "LDraftTree$Automaton;"), (Jvm.Cond.lays "DraftTree$PatternReader" "DraftTree$PatternReader" "source" "[C"), (Jvm.Cond.lays "DraftTree$PatternReader" "DraftTree$PatternReader" "size" "I"), (Jvm.Cond.lays "DraftTree$PatternReader" "DraftTree$PatternReader" "position" "I"), (Jvm.Cond.lays "DraftTree$PatternReader" "DraftTree$PatternReader" "depth" "I"), (Jvm.Cond.lays "DraftTree$PatternReader" "DraftTree$PatternReader" "fault" "I"), (Jvm.Cond.lays "DraftTree$PatternReader" "DraftTree$PatternReader" "lead" "I"), (Jvm.Cond.lays "DraftTree$PatternReader" "DraftTree$PatternReader" "first" "I"), (Jvm.Cond.lays "DraftTree$PatternReader" "DraftTree$PatternReader" "tail" "I")], w ∈ wk_tbl
  exact List.forall_mem_cons.mpr ⟨lk_41, List.forall_mem_cons.mpr ⟨lk_42, List.forall_mem_cons.mpr ⟨lk_43, List.forall_mem_cons.mpr ⟨lk_44, List.forall_mem_cons.mpr ⟨lk_45, List.forall_mem_cons.mpr ⟨lk_46, List.forall_mem_cons.mpr ⟨lk_47, List.forall_mem_cons.mpr ⟨lk_48, List.forall_mem_cons.mpr ⟨lk_49, List.forall_mem_cons.mpr ⟨lk_50, List.forall_mem_cons.mpr ⟨lk_51, List.forall_mem_cons.mpr ⟨lk_52, List.forall_mem_cons.mpr ⟨lk_53, (fun _ h => absurd h List.not_mem_nil)⟩⟩⟩⟩⟩⟩⟩⟩⟩⟩⟩⟩⟩
theorem in_A : ∀ w ∈ u_ws R_A F_A 10, w ∈ wk_tbl := by
  show ∀ w ∈ [(Jvm.Cond.laysFinal "DraftTree$Automaton" "DraftTree$Automaton" "kinds" "[I"), (Jvm.Cond.laysFinal "DraftTree$Automaton" "DraftTree$Automaton" "next" "[I"), (Jvm.Cond.laysFinal "DraftTree$Automaton" "DraftTree$Automaton" "other" "[I"), (Jvm.Cond.laysFinal "DraftTree$Automaton" "DraftTree$Automaton" "lowCodes" "[J"), (Jvm.Cond.laysFinal "DraftTree$Automaton" "DraftTree$Automaton" "highCodes" "[J"), (Jvm.Cond.lays "DraftTree$Automaton" "DraftTree$Automaton" "size" "I"), (Jvm.Cond.lays "DraftTree$Automaton" "DraftTree$Automaton" "start" "I"), (Jvm.Cond.lays "DraftTree$Automaton" "DraftTree$Automaton" "goal" "I"), (Jvm.Cond.lays "DraftTree$Automaton" "DraftTree$Automaton" "matchStart" "I"), (Jvm.Cond.lays "DraftTree$Automaton" "DraftTree$Automaton" "matchEnd" "I")], w ∈ wk_tbl
  exact List.forall_mem_cons.mpr ⟨lk_63, List.forall_mem_cons.mpr ⟨lk_64, List.forall_mem_cons.mpr ⟨lk_65, List.forall_mem_cons.mpr ⟨lk_66, List.forall_mem_cons.mpr ⟨lk_67, List.forall_mem_cons.mpr ⟨lk_68, List.forall_mem_cons.mpr ⟨lk_69, List.forall_mem_cons.mpr ⟨lk_70, List.forall_mem_cons.mpr ⟨lk_71, List.forall_mem_cons.mpr ⟨lk_72, (fun _ h => absurd h List.not_mem_nil)⟩⟩⟩⟩⟩⟩⟩⟩⟩⟩
theorem in_M : ∀ w ∈ u_ws R_M F_M 38, w ∈ wk_tbl := by
  show ∀ w ∈ [(Jvm.Cond.lays "DraftTreeModel" "DraftTreeModel" "code" "I"), (Jvm.Cond.lays "DraftTreeModel" "DraftTreeModel" "typed" "I"), (Jvm.Cond.laysFinal "DraftTreeModel" "DraftTreeModel" "slip" "[C"), (Jvm.Cond.lays "DraftTreeModel" "DraftTreeModel" "states" "I"), (Jvm.Cond.lays "DraftTreeModel" "DraftTreeModel" "present" "I"), (Jvm.Cond.laysFinal "DraftTreeModel" "DraftTreeModel" "texts" "[C"), (Jvm.Cond.laysFinal "DraftTreeModel" "DraftTreeModel" "lengths" "[I"), (Jvm.Cond.laysFinal "DraftTreeModel" "DraftTreeModel" "places" "[I"), (Jvm.Cond.laysFinal "DraftTreeModel" "DraftTreeModel" "parents" "[I"), (Jvm.Cond.laysFinal "DraftTreeModel" "DraftTreeModel" "came" "[I"), (Jvm.Cond.lays "DraftTreeModel" "DraftTreeModel" "clock" "I"), (Jvm.Cond.lays "DraftTreeModel" "DraftTreeModel" "cursor" "I"), (Jvm.Cond.lays "DraftTreeModel" "DraftTreeModel" "mark" "I"), (Jvm.Cond.lays "DraftTreeModel" "DraftTreeModel" "compiled" "Z"), (Jvm.Cond.lays "DraftTreeModel" "DraftTreeModel" "wrongAt" "I"), (Jvm.Cond.lays "DraftTreeModel" "DraftTreeModel" "size" "I"), (Jvm.Cond.laysFinal "DraftTreeModel" "DraftTreeModel" "pattern" "[C"), (Jvm.Cond.lays "DraftTreeModel" "DraftTreeModel" "nodes" "I"), (Jvm.Cond.laysFinal "DraftTreeModel" "DraftTreeModel" "kind" "[I"), (Jvm.Cond.laysFinal "DraftTreeModel" "DraftTreeModel" "from" "[I"), (Jvm.Cond.laysFinal "DraftTreeModel" "DraftTreeModel" "to" "[I"), (Jvm.Cond.laysFinal "DraftTreeModel" "DraftTreeModel" "one" "[I"), (Jvm.Cond.laysFinal "DraftTreeModel" "DraftTreeModel" "two" "[I"), (Jvm.Cond.lays "DraftTreeModel" "DraftTreeModel" "first" "I"), (Jvm.Cond.lays "DraftTreeModel" "DraftTreeModel" "last" "I"), (Jvm.Cond.lays "DraftTreeModel" "DraftTreeModel" "pieces" "I"), (Jvm.Cond.laysFinal "DraftTreeModel" "DraftTreeModel" "head" "[I"), (Jvm.Cond.laysFinal "DraftTreeModel" "DraftTreeModel" "tail" "[I"), (Jvm.Cond.lays "DraftTreeModel" "DraftTreeModel" "open" "I"), (Jvm.Cond.laysFinal "DraftTreeModel" "DraftTreeModel" "choice" "[I"), (Jvm.Cond.laysFinal "DraftTreeModel" "DraftTreeModel" "row" "[I"), (Jvm.Cond.laysFinal "DraftTreeModel" "DraftTreeModel" "part" "[I"), (Jvm.Cond.laysFinal "DraftTreeModel" "DraftTreeModel" "here" "[Z"), (Jvm.Cond.laysFinal "DraftTreeModel" "DraftTreeModel" "then" "[Z"), (Jvm.Cond.lays "DraftTreeModel" "DraftTreeModel" "foundAt" "I"), (Jvm.Cond.lays "DraftTreeModel" "DraftTreeModel" "foundEnd" "I"), (Jvm.Cond.lays "DraftTreeModel" "DraftTreeModel" "made" "I"), (Jvm.Cond.laysFinal "DraftTreeModel" "DraftTreeModel" "draft" "[C")], w ∈ wk_tbl
  exact List.forall_mem_cons.mpr ⟨lk_101, List.forall_mem_cons.mpr ⟨lk_102, List.forall_mem_cons.mpr ⟨lk_103, List.forall_mem_cons.mpr ⟨lk_104, List.forall_mem_cons.mpr ⟨lk_105, List.forall_mem_cons.mpr ⟨lk_106, List.forall_mem_cons.mpr ⟨lk_107, List.forall_mem_cons.mpr ⟨lk_108, List.forall_mem_cons.mpr ⟨lk_109, List.forall_mem_cons.mpr ⟨lk_110, List.forall_mem_cons.mpr ⟨lk_111, List.forall_mem_cons.mpr ⟨lk_112, List.forall_mem_cons.mpr ⟨lk_113, List.forall_mem_cons.mpr ⟨lk_114, List.forall_mem_cons.mpr ⟨lk_115, List.forall_mem_cons.mpr ⟨lk_116, List.forall_mem_cons.mpr ⟨lk_117, List.forall_mem_cons.mpr ⟨lk_118, List.forall_mem_cons.mpr ⟨lk_119, List.forall_mem_cons.mpr ⟨lk_120, List.forall_mem_cons.mpr ⟨lk_121, List.forall_mem_cons.mpr ⟨lk_122, List.forall_mem_cons.mpr ⟨lk_123, List.forall_mem_cons.mpr ⟨lk_124, List.forall_mem_cons.mpr ⟨lk_125, List.forall_mem_cons.mpr ⟨lk_126, List.forall_mem_cons.mpr ⟨lk_127, List.forall_mem_cons.mpr ⟨lk_128, List.forall_mem_cons.mpr ⟨lk_129, List.forall_mem_cons.mpr ⟨lk_130, List.forall_mem_cons.mpr ⟨lk_131, List.forall_mem_cons.mpr ⟨lk_132, List.forall_mem_cons.mpr ⟨lk_133, List.forall_mem_cons.mpr ⟨lk_134, List.forall_mem_cons.mpr ⟨lk_135, List.forall_mem_cons.mpr ⟨lk_136, List.forall_mem_cons.mpr ⟨lk_137, List.forall_mem_cons.mpr ⟨lk_138, (fun _ h => absurd h List.not_mem_nil)⟩⟩⟩⟩⟩⟩⟩⟩⟩⟩⟩⟩⟩⟩⟩⟩⟩⟩⟩⟩⟩⟩⟩⟩⟩⟩⟩⟩⟩⟩⟩⟩⟩⟩⟩⟩⟩⟩
theorem oa_0 {args : Array Value} {s : State} {c0 : Cond} (hts : ∀ w ∈ (c0 :: wk_tbl), w.before args s = true) (hZ : th_Zs s) : ∀ a ∈ Bundle.ownAtoms0 "DraftTree" 145 "java/lang/IndexOutOfBoundsException" ["java/lang/RuntimeException", "java/lang/Exception"], a.before args s = true := by
  refine th_atoms hZ (fun w hw => ?_)
  cases hg : goodWord w with
  | true =>
    have h : w ∈ wk_at_oa_0 := List.mem_filter.mpr ⟨hw, hg⟩
    exact Or.inl (hts w (List.mem_cons_of_mem _ (List.mem_append_right _ (List.mem_append_left _ h))))
  | false =>
    have h : w ∈ (Bundle.ownAtoms0 "DraftTree" 145 "java/lang/IndexOutOfBoundsException" ["java/lang/RuntimeException", "java/lang/Exception"]).filter (fun w => !goodWord w) := List.mem_filter.mpr ⟨hw, by simp [hg]⟩
    have h9 : ∀ w ∈ (Bundle.ownAtoms0 "DraftTree" 145 "java/lang/IndexOutOfBoundsException" ["java/lang/RuntimeException", "java/lang/Exception"]).filter (fun w => !goodWord w), (w = .isRef (.static Bundle.tN "UNASSIGNED_STACK" Bundle.steD) ∨ w = .isRef (.static Bundle.tN "SUPPRESSED_SENTINEL" Bundle.listD) ∨ w = .laysStatic Bundle.tN "UNASSIGNED_STACK" Bundle.steD ∨ w = .laysStatic Bundle.tN "SUPPRESSED_SENTINEL" Bundle.listD ∨ w ∈ th_bad) := by decide +kernel
    exact Or.inr (h9 w h)
theorem oa_1 {args : Array Value} {s : State} {c0 : Cond} (hts : ∀ w ∈ (c0 :: wk_tbl), w.before args s = true) (hZ : th_Zs s) : ∀ a ∈ Bundle.ownAtoms0 "DraftTree" 68 "java/lang/IllegalStateException" ["java/lang/RuntimeException", "java/lang/Exception"], a.before args s = true := by
  refine th_atoms hZ (fun w hw => ?_)
  cases hg : goodWord w with
  | true =>
    have h : w ∈ wk_at_oa_1 := List.mem_filter.mpr ⟨hw, hg⟩
    exact Or.inl (hts w (List.mem_cons_of_mem _ (List.mem_append_right _ (List.mem_append_right _ (List.mem_append_left _ h)))))
  | false =>
    have h : w ∈ (Bundle.ownAtoms0 "DraftTree" 68 "java/lang/IllegalStateException" ["java/lang/RuntimeException", "java/lang/Exception"]).filter (fun w => !goodWord w) := List.mem_filter.mpr ⟨hw, by simp [hg]⟩
    have h9 : ∀ w ∈ (Bundle.ownAtoms0 "DraftTree" 68 "java/lang/IllegalStateException" ["java/lang/RuntimeException", "java/lang/Exception"]).filter (fun w => !goodWord w), (w = .isRef (.static Bundle.tN "UNASSIGNED_STACK" Bundle.steD) ∨ w = .isRef (.static Bundle.tN "SUPPRESSED_SENTINEL" Bundle.listD) ∨ w = .laysStatic Bundle.tN "UNASSIGNED_STACK" Bundle.steD ∨ w = .laysStatic Bundle.tN "SUPPRESSED_SENTINEL" Bundle.listD ∨ w ∈ th_bad) := by decide +kernel
    exact Or.inr (h9 w h)
theorem oa_2 {args : Array Value} {s : State} {c0 : Cond} (hts : ∀ w ∈ (c0 :: wk_tbl), w.before args s = true) (hZ : th_Zs s) : ∀ a ∈ Bundle.ownAtoms0 "DraftTree" 113 "java/util/NoSuchElementException" ["java/lang/RuntimeException", "java/lang/Exception"], a.before args s = true := by
  refine th_atoms hZ (fun w hw => ?_)
  cases hg : goodWord w with
  | true =>
    have h : w ∈ wk_at_oa_2 := List.mem_filter.mpr ⟨hw, hg⟩
    exact Or.inl (hts w (List.mem_cons_of_mem _ (List.mem_append_right _ (List.mem_append_right _ (List.mem_append_right _ (List.mem_append_left _ h))))))
  | false =>
    have h : w ∈ (Bundle.ownAtoms0 "DraftTree" 113 "java/util/NoSuchElementException" ["java/lang/RuntimeException", "java/lang/Exception"]).filter (fun w => !goodWord w) := List.mem_filter.mpr ⟨hw, by simp [hg]⟩
    have h9 : ∀ w ∈ (Bundle.ownAtoms0 "DraftTree" 113 "java/util/NoSuchElementException" ["java/lang/RuntimeException", "java/lang/Exception"]).filter (fun w => !goodWord w), (w = .isRef (.static Bundle.tN "UNASSIGNED_STACK" Bundle.steD) ∨ w = .isRef (.static Bundle.tN "SUPPRESSED_SENTINEL" Bundle.listD) ∨ w = .laysStatic Bundle.tN "UNASSIGNED_STACK" Bundle.steD ∨ w = .laysStatic Bundle.tN "SUPPRESSED_SENTINEL" Bundle.listD ∨ w ∈ th_bad) := by decide +kernel
    exact Or.inr (h9 w h)
theorem oa_3 {args : Array Value} {s : State} {c0 : Cond} (hts : ∀ w ∈ (c0 :: wk_tbl), w.before args s = true) (hZ : th_Zs s) : ∀ a ∈ Bundle.ownAtoms0 "DraftTree" 98 "java/lang/IllegalArgumentException" ["java/lang/RuntimeException", "java/lang/Exception"], a.before args s = true := by
  refine th_atoms hZ (fun w hw => ?_)
  cases hg : goodWord w with
  | true =>
    have h : w ∈ wk_at_oa_3 := List.mem_filter.mpr ⟨hw, hg⟩
    exact Or.inl (hts w (List.mem_cons_of_mem _ (List.mem_append_right _ (List.mem_append_right _ (List.mem_append_right _ (List.mem_append_right _ (h)))))))
  | false =>
    have h : w ∈ (Bundle.ownAtoms0 "DraftTree" 98 "java/lang/IllegalArgumentException" ["java/lang/RuntimeException", "java/lang/Exception"]).filter (fun w => !goodWord w) := List.mem_filter.mpr ⟨hw, by simp [hg]⟩
    have h9 : ∀ w ∈ (Bundle.ownAtoms0 "DraftTree" 98 "java/lang/IllegalArgumentException" ["java/lang/RuntimeException", "java/lang/Exception"]).filter (fun w => !goodWord w), (w = .isRef (.static Bundle.tN "UNASSIGNED_STACK" Bundle.steD) ∨ w = .isRef (.static Bundle.tN "SUPPRESSED_SENTINEL" Bundle.listD) ∨ w = .laysStatic Bundle.tN "UNASSIGNED_STACK" Bundle.steD ∨ w = .laysStatic Bundle.tN "SUPPRESSED_SENTINEL" Bundle.listD ∨ w ∈ th_bad) := by decide +kernel
    exact Or.inr (h9 w h)
abbrev w_A_addNode : List Cond := (Jvm.Cond.code ({ cls := "DraftTree$Automaton", name := "addNode", desc := "(I)I" } : Jvm.MethodName) prog_2_method_2_code (3 : Nat) (Option.some Jvm.ClassFile.FieldType.int)) :: wk_tbl
abbrev w_A_init : List Cond := (Jvm.Cond.code ({ cls := "DraftTree$Automaton", name := "<init>", desc := "()V" } : Jvm.MethodName) prog_2_method_1_code (1 : Nat) (Option.none : Option Jvm.ClassFile.FieldType)) :: wk_tbl
abbrev w_D_at : List Cond := (Jvm.Cond.code ({ cls := "DraftTree", name := "at", desc := "(I)C" } : Jvm.MethodName) prog_1_method_15_code (2 : Nat) (Option.some Jvm.ClassFile.FieldType.char)) :: wk_tbl
abbrev w_D_breaksBefore : List Cond := (Jvm.Cond.code ({ cls := "DraftTree", name := "breaksBefore", desc := "(I)I" } : Jvm.MethodName) prog_1_method_29_code (4 : Nat) (Option.some Jvm.ClassFile.FieldType.int)) :: wk_tbl
abbrev w_D_compile : List Cond := (Jvm.Cond.code ({ cls := "DraftTree", name := "compile", desc := "()V" } : Jvm.MethodName) prog_1_method_7_code (1 : Nat) (Option.none : Option Jvm.ClassFile.FieldType)) :: wk_tbl
abbrev w_D_erase : List Cond := (Jvm.Cond.code ({ cls := "DraftTree", name := "erase", desc := "(I)I" } : Jvm.MethodName) prog_1_method_5_code (4 : Nat) (Option.some Jvm.ClassFile.FieldType.int)) :: wk_tbl
abbrev w_D_fault : List Cond := (Jvm.Cond.code ({ cls := "DraftTree", name := "fault", desc := "()I" } : Jvm.MethodName) prog_1_method_8_code (1 : Nat) (Option.some Jvm.ClassFile.FieldType.int)) :: wk_tbl
abbrev w_D_figure : List Cond := (Jvm.Cond.code ({ cls := "DraftTree", name := "figure", desc := "(I)I" } : Jvm.MethodName) prog_1_method_17_code (2 : Nat) (Option.some Jvm.ClassFile.FieldType.int)) :: wk_tbl
abbrev w_D_find : List Cond := (Jvm.Cond.code ({ cls := "DraftTree", name := "find", desc := "(I)I" } : Jvm.MethodName) prog_1_method_9_code (2 : Nat) (Option.some Jvm.ClassFile.FieldType.int)) :: wk_tbl
abbrev w_D_go : List Cond := (Jvm.Cond.code ({ cls := "DraftTree", name := "go", desc := "(IZ)V" } : Jvm.MethodName) prog_1_method_6_code (3 : Nat) (Option.none : Option Jvm.ClassFile.FieldType)) :: wk_tbl
abbrev w_D_init : List Cond := (Jvm.Cond.code ({ cls := "DraftTree", name := "<init>", desc := "()V" } : Jvm.MethodName) prog_1_method_1_code (1 : Nat) (Option.none : Option Jvm.ClassFile.FieldType)) :: wk_tbl
abbrev w_D_insert : List Cond := (Jvm.Cond.code ({ cls := "DraftTree", name := "insert", desc := "()I" } : Jvm.MethodName) prog_1_method_4_code (3 : Nat) (Option.some Jvm.ClassFile.FieldType.int)) :: wk_tbl
abbrev w_D_jump : List Cond := (Jvm.Cond.code ({ cls := "DraftTree", name := "jump", desc := "(I)V" } : Jvm.MethodName) prog_1_method_13_code (2 : Nat) (Option.none : Option Jvm.ClassFile.FieldType)) :: wk_tbl
abbrev w_D_length : List Cond := (Jvm.Cond.code ({ cls := "DraftTree", name := "length", desc := "()I" } : Jvm.MethodName) prog_1_method_14_code (1 : Nat) (Option.some Jvm.ClassFile.FieldType.int)) :: wk_tbl
abbrev w_D_line : List Cond := (Jvm.Cond.code ({ cls := "DraftTree", name := "line", desc := "(II)I" } : Jvm.MethodName) prog_1_method_16_code (3 : Nat) (Option.some Jvm.ClassFile.FieldType.int)) :: wk_tbl
abbrev w_D_lineBegin : List Cond := (Jvm.Cond.code ({ cls := "DraftTree", name := "lineBegin", desc := "(I)I" } : Jvm.MethodName) prog_1_method_30_code (4 : Nat) (Option.some Jvm.ClassFile.FieldType.int)) :: wk_tbl
abbrev w_D_lineSize : List Cond := (Jvm.Cond.code ({ cls := "DraftTree", name := "lineSize", desc := "(I)I" } : Jvm.MethodName) prog_1_method_31_code (4 : Nat) (Option.some Jvm.ClassFile.FieldType.int)) :: wk_tbl
abbrev w_D_moveTo : List Cond := (Jvm.Cond.code ({ cls := "DraftTree", name := "moveTo", desc := "(I)V" } : Jvm.MethodName) prog_1_method_23_code (3 : Nat) (Option.none : Option Jvm.ClassFile.FieldType)) :: wk_tbl
abbrev w_D_parent : List Cond := (Jvm.Cond.code ({ cls := "DraftTree", name := "parent", desc := "(I)I" } : Jvm.MethodName) prog_1_method_18_code (2 : Nat) (Option.some Jvm.ClassFile.FieldType.int)) :: wk_tbl
abbrev w_D_redo : List Cond := (Jvm.Cond.code ({ cls := "DraftTree", name := "redo", desc := "()I" } : Jvm.MethodName) prog_1_method_12_code (2 : Nat) (Option.some Jvm.ClassFile.FieldType.int)) :: wk_tbl
abbrev w_D_replace : List Cond := (Jvm.Cond.code ({ cls := "DraftTree", name := "replace", desc := "()I" } : Jvm.MethodName) prog_1_method_10_code (3 : Nat) (Option.some Jvm.ClassFile.FieldType.int)) :: wk_tbl
abbrev w_D_requirePlace : List Cond := (Jvm.Cond.code ({ cls := "DraftTree", name := "requirePlace", desc := "(I)V" } : Jvm.MethodName) prog_1_method_19_code (2 : Nat) (Option.none : Option Jvm.ClassFile.FieldType)) :: wk_tbl
abbrev w_D_requireState : List Cond := (Jvm.Cond.code ({ cls := "DraftTree", name := "requireState", desc := "(I)V" } : Jvm.MethodName) prog_1_method_20_code (2 : Nat) (Option.none : Option Jvm.ClassFile.FieldType)) :: wk_tbl
abbrev w_D_selectionEnd : List Cond := (Jvm.Cond.code ({ cls := "DraftTree", name := "selectionEnd", desc := "()I" } : Jvm.MethodName) prog_1_method_22_code (1 : Nat) (Option.some Jvm.ClassFile.FieldType.int)) :: wk_tbl
abbrev w_D_selectionStart : List Cond := (Jvm.Cond.code ({ cls := "DraftTree", name := "selectionStart", desc := "()I" } : Jvm.MethodName) prog_1_method_21_code (1 : Nat) (Option.some Jvm.ClassFile.FieldType.int)) :: wk_tbl
abbrev w_D_type : List Cond := (Jvm.Cond.code ({ cls := "DraftTree", name := "type", desc := "(C)Z" } : Jvm.MethodName) prog_1_method_2_code (3 : Nat) (Option.some Jvm.ClassFile.FieldType.boolean)) :: wk_tbl
abbrev w_D_undo : List Cond := (Jvm.Cond.code ({ cls := "DraftTree", name := "undo", desc := "()I" } : Jvm.MethodName) prog_1_method_11_code (2 : Nat) (Option.some Jvm.ClassFile.FieldType.int)) :: wk_tbl
abbrev w_D_wipe : List Cond := (Jvm.Cond.code ({ cls := "DraftTree", name := "wipe", desc := "()I" } : Jvm.MethodName) prog_1_method_3_code (2 : Nat) (Option.some Jvm.ClassFile.FieldType.int)) :: wk_tbl
abbrev w_L_at : List Cond := (Jvm.Cond.codeWith ({ cls := "DraftTreeLaw", name := "at", desc := "(LDraftTree;I[J)I" } : Jvm.MethodName) method_12_code (4 : Nat) (Option.some Jvm.ClassFile.FieldType.int) [((0 : Nat), (9 : Nat), (12 : Nat), (23 : Nat))]) :: wk_tbl
abbrev w_L_compile : List Cond := (Jvm.Cond.codeWith ({ cls := "DraftTreeLaw", name := "compile", desc := "(LDraftTree;)I" } : Jvm.MethodName) method_6_code (2 : Nat) (Option.some Jvm.ClassFile.FieldType.int) [((0 : Nat), (4 : Nat), (7 : Nat), (28 : Nat))]) :: wk_tbl
abbrev w_L_erase : List Cond := (Jvm.Cond.codeWith ({ cls := "DraftTreeLaw", name := "erase", desc := "(LDraftTree;I[J)I" } : Jvm.MethodName) method_4_code (4 : Nat) (Option.some Jvm.ClassFile.FieldType.int) [((0 : Nat), (9 : Nat), (12 : Nat), (13 : Nat))]) :: wk_tbl
abbrev w_L_figure : List Cond := (Jvm.Cond.codeWith ({ cls := "DraftTreeLaw", name := "figure", desc := "(LDraftTree;I[J)I" } : Jvm.MethodName) method_14_code (4 : Nat) (Option.some Jvm.ClassFile.FieldType.int) [((0 : Nat), (9 : Nat), (12 : Nat), (28 : Nat))]) :: wk_tbl
abbrev w_L_find : List Cond := (Jvm.Cond.codeWith ({ cls := "DraftTreeLaw", name := "find", desc := "(LDraftTree;I[J)I" } : Jvm.MethodName) method_7_code (4 : Nat) (Option.some Jvm.ClassFile.FieldType.int) [((0 : Nat), (9 : Nat), (12 : Nat), (13 : Nat)), ((0 : Nat), (9 : Nat), (15 : Nat), (23 : Nat)), ((0 : Nat), (9 : Nat), (18 : Nat), (33 : Nat))]) :: wk_tbl
abbrev w_L_go : List Cond := (Jvm.Cond.codeWith ({ cls := "DraftTreeLaw", name := "go", desc := "(LDraftTree;IZ)I" } : Jvm.MethodName) method_5_code (4 : Nat) (Option.some Jvm.ClassFile.FieldType.int) [((0 : Nat), (6 : Nat), (9 : Nat), (23 : Nat))]) :: wk_tbl
abbrev w_L_insert : List Cond := (Jvm.Cond.codeWith ({ cls := "DraftTreeLaw", name := "insert", desc := "(LDraftTree;[J)I" } : Jvm.MethodName) method_3_code (3 : Nat) (Option.some Jvm.ClassFile.FieldType.int) [((0 : Nat), (8 : Nat), (11 : Nat), (13 : Nat))]) :: wk_tbl
abbrev w_L_jump : List Cond := (Jvm.Cond.codeWith ({ cls := "DraftTreeLaw", name := "jump", desc := "(LDraftTree;I)I" } : Jvm.MethodName) method_11_code (3 : Nat) (Option.some Jvm.ClassFile.FieldType.int) [((0 : Nat), (5 : Nat), (8 : Nat), (28 : Nat))]) :: wk_tbl
abbrev w_L_line : List Cond := (Jvm.Cond.codeWith ({ cls := "DraftTreeLaw", name := "line", desc := "(LDraftTree;II[J)I" } : Jvm.MethodName) method_13_code (5 : Nat) (Option.some Jvm.ClassFile.FieldType.int) [((0 : Nat), (10 : Nat), (13 : Nat), (28 : Nat)), ((0 : Nat), (10 : Nat), (17 : Nat), (23 : Nat))]) :: wk_tbl
abbrev w_L_parent : List Cond := (Jvm.Cond.codeWith ({ cls := "DraftTreeLaw", name := "parent", desc := "(LDraftTree;I[J)I" } : Jvm.MethodName) method_15_code (4 : Nat) (Option.some Jvm.ClassFile.FieldType.int) [((0 : Nat), (9 : Nat), (12 : Nat), (28 : Nat))]) :: wk_tbl
abbrev w_L_redo : List Cond := (Jvm.Cond.codeWith ({ cls := "DraftTreeLaw", name := "redo", desc := "(LDraftTree;[J)I" } : Jvm.MethodName) method_10_code (3 : Nat) (Option.some Jvm.ClassFile.FieldType.int) [((0 : Nat), (8 : Nat), (11 : Nat), (33 : Nat))]) :: wk_tbl
abbrev w_L_replace : List Cond := (Jvm.Cond.codeWith ({ cls := "DraftTreeLaw", name := "replace", desc := "(LDraftTree;[J)I" } : Jvm.MethodName) method_8_code (3 : Nat) (Option.some Jvm.ClassFile.FieldType.int) [((0 : Nat), (8 : Nat), (11 : Nat), (13 : Nat))]) :: wk_tbl
abbrev w_L_undo : List Cond := (Jvm.Cond.codeWith ({ cls := "DraftTreeLaw", name := "undo", desc := "(LDraftTree;[J)I" } : Jvm.MethodName) method_9_code (3 : Nat) (Option.some Jvm.ClassFile.FieldType.int) [((0 : Nat), (8 : Nat), (11 : Nat), (33 : Nat))]) :: wk_tbl
abbrev w_M_at : List Cond := (Jvm.Cond.code ({ cls := "DraftTreeModel", name := "at", desc := "(I)C" } : Jvm.MethodName) prog_6_method_48_code (2 : Nat) (Option.some Jvm.ClassFile.FieldType.char)) :: wk_tbl
abbrev w_M_behind : List Cond := (Jvm.Cond.code ({ cls := "DraftTreeModel", name := "behind", desc := "(II)I" } : Jvm.MethodName) prog_6_method_29_code (3 : Nat) (Option.some Jvm.ClassFile.FieldType.int)) :: wk_tbl
abbrev w_M_breaks : List Cond := (Jvm.Cond.code ({ cls := "DraftTreeModel", name := "breaks", desc := "(I)I" } : Jvm.MethodName) prog_6_method_49_code (4 : Nat) (Option.some Jvm.ClassFile.FieldType.int)) :: wk_tbl
abbrev w_M_come : List Cond := (Jvm.Cond.code ({ cls := "DraftTreeModel", name := "come", desc := "(I)V" } : Jvm.MethodName) prog_6_method_8_code (2 : Nat) (Option.none : Option Jvm.ClassFile.FieldType)) :: wk_tbl
abbrev w_M_compile : List Cond := (Jvm.Cond.code ({ cls := "DraftTreeModel", name := "compile", desc := "()V" } : Jvm.MethodName) prog_6_method_36_code (4 : Nat) (Option.none : Option Jvm.ClassFile.FieldType)) :: wk_tbl
abbrev w_M_either : List Cond := (Jvm.Cond.code ({ cls := "DraftTreeModel", name := "either", desc := "(II)I" } : Jvm.MethodName) prog_6_method_30_code (5 : Nat) (Option.some Jvm.ClassFile.FieldType.int)) :: wk_tbl
abbrev w_M_endRow : List Cond := (Jvm.Cond.code ({ cls := "DraftTreeModel", name := "endRow", desc := "()V" } : Jvm.MethodName) prog_6_method_33_code (3 : Nat) (Option.none : Option Jvm.ClassFile.FieldType)) :: wk_tbl
abbrev w_M_erase : List Cond := (Jvm.Cond.code ({ cls := "DraftTreeModel", name := "erase", desc := "(I)I" } : Jvm.MethodName) prog_6_method_16_code (5 : Nat) (Option.some Jvm.ClassFile.FieldType.int)) :: wk_tbl
abbrev w_M_fault : List Cond := (Jvm.Cond.code ({ cls := "DraftTreeModel", name := "fault", desc := "()I" } : Jvm.MethodName) prog_6_method_37_code (1 : Nat) (Option.some Jvm.ClassFile.FieldType.int)) :: wk_tbl
abbrev w_M_figure : List Cond := (Jvm.Cond.code ({ cls := "DraftTreeModel", name := "figure", desc := "(I)I" } : Jvm.MethodName) prog_6_method_52_code (2 : Nat) (Option.some Jvm.ClassFile.FieldType.int)) :: wk_tbl
abbrev w_M_find : List Cond := (Jvm.Cond.code ({ cls := "DraftTreeModel", name := "find", desc := "(I)I" } : Jvm.MethodName) prog_6_method_45_code (2 : Nat) (Option.some Jvm.ClassFile.FieldType.int)) :: wk_tbl
abbrev w_M_go : List Cond := (Jvm.Cond.code ({ cls := "DraftTreeModel", name := "go", desc := "(IZ)V" } : Jvm.MethodName) prog_6_method_17_code (3 : Nat) (Option.none : Option Jvm.ClassFile.FieldType)) :: wk_tbl
abbrev w_M_good : List Cond := (Jvm.Cond.code ({ cls := "DraftTreeModel", name := "good", desc := "()I" } : Jvm.MethodName) prog_6_method_23_code (5 : Nat) (Option.some Jvm.ClassFile.FieldType.int)) :: wk_tbl
abbrev w_M_high : List Cond := (Jvm.Cond.code ({ cls := "DraftTreeModel", name := "high", desc := "()I" } : Jvm.MethodName) prog_6_method_14_code (1 : Nat) (Option.some Jvm.ClassFile.FieldType.int)) :: wk_tbl
abbrev w_M_init : List Cond := (Jvm.Cond.code ({ cls := "DraftTreeModel", name := "<init>", desc := "()V" } : Jvm.MethodName) prog_6_method_1_code (1 : Nat) (Option.none : Option Jvm.ClassFile.FieldType)) :: wk_tbl
abbrev w_M_insert : List Cond := (Jvm.Cond.code ({ cls := "DraftTreeModel", name := "insert", desc := "()I" } : Jvm.MethodName) prog_6_method_15_code (5 : Nat) (Option.some Jvm.ClassFile.FieldType.int)) :: wk_tbl
abbrev w_M_isCharacter : List Cond := (Jvm.Cond.code ({ cls := "DraftTreeModel", name := "isCharacter", desc := "(C)Z" } : Jvm.MethodName) prog_6_method_3_code (1 : Nat) (Option.some Jvm.ClassFile.FieldType.boolean)) :: wk_tbl
abbrev w_M_jump : List Cond := (Jvm.Cond.code ({ cls := "DraftTreeModel", name := "jump", desc := "(I)V" } : Jvm.MethodName) prog_6_method_20_code (2 : Nat) (Option.none : Option Jvm.ClassFile.FieldType)) :: wk_tbl
abbrev w_M_length : List Cond := (Jvm.Cond.code ({ cls := "DraftTreeModel", name := "length", desc := "()I" } : Jvm.MethodName) prog_6_method_47_code (1 : Nat) (Option.some Jvm.ClassFile.FieldType.int)) :: wk_tbl
abbrev w_M_line : List Cond := (Jvm.Cond.code ({ cls := "DraftTreeModel", name := "line", desc := "(II)I" } : Jvm.MethodName) prog_6_method_51_code (7 : Nat) (Option.some Jvm.ClassFile.FieldType.int)) :: wk_tbl
abbrev w_M_lineStart : List Cond := (Jvm.Cond.code ({ cls := "DraftTreeModel", name := "lineStart", desc := "(I)I" } : Jvm.MethodName) prog_6_method_50_code (3 : Nat) (Option.some Jvm.ClassFile.FieldType.int)) :: wk_tbl
abbrev w_M_low : List Cond := (Jvm.Cond.code ({ cls := "DraftTreeModel", name := "low", desc := "()I" } : Jvm.MethodName) prog_6_method_13_code (1 : Nat) (Option.some Jvm.ClassFile.FieldType.int)) :: wk_tbl
abbrev w_M_node : List Cond := (Jvm.Cond.code ({ cls := "DraftTreeModel", name := "node", desc := "(III)I" } : Jvm.MethodName) prog_6_method_24_code (4 : Nat) (Option.some Jvm.ClassFile.FieldType.int)) :: wk_tbl
abbrev w_M_nothing : List Cond := (Jvm.Cond.code ({ cls := "DraftTreeModel", name := "nothing", desc := "()I" } : Jvm.MethodName) prog_6_method_28_code (2 : Nat) (Option.some Jvm.ClassFile.FieldType.int)) :: wk_tbl
abbrev w_M_openGroup : List Cond := (Jvm.Cond.code ({ cls := "DraftTreeModel", name := "openGroup", desc := "()V" } : Jvm.MethodName) prog_6_method_32_code (1 : Nat) (Option.none : Option Jvm.ClassFile.FieldType)) :: wk_tbl
abbrev w_M_parent : List Cond := (Jvm.Cond.code ({ cls := "DraftTreeModel", name := "parent", desc := "(I)I" } : Jvm.MethodName) prog_6_method_53_code (2 : Nat) (Option.some Jvm.ClassFile.FieldType.int)) :: wk_tbl
abbrev w_M_piece : List Cond := (Jvm.Cond.code ({ cls := "DraftTreeModel", name := "piece", desc := "(II)I" } : Jvm.MethodName) prog_6_method_26_code (3 : Nat) (Option.some Jvm.ClassFile.FieldType.int)) :: wk_tbl
abbrev w_M_redo : List Cond := (Jvm.Cond.code ({ cls := "DraftTreeModel", name := "redo", desc := "()I" } : Jvm.MethodName) prog_6_method_19_code (3 : Nat) (Option.some Jvm.ClassFile.FieldType.int)) :: wk_tbl
abbrev w_M_replace : List Cond := (Jvm.Cond.code ({ cls := "DraftTreeModel", name := "replace", desc := "()I" } : Jvm.MethodName) prog_6_method_46_code (4 : Nat) (Option.some Jvm.ClassFile.FieldType.int)) :: wk_tbl
abbrev w_M_textLength : List Cond := (Jvm.Cond.code ({ cls := "DraftTreeModel", name := "textLength", desc := "()I" } : Jvm.MethodName) prog_6_method_7_code (1 : Nat) (Option.some Jvm.ClassFile.FieldType.int)) :: wk_tbl
abbrev w_M_thrown : List Cond := (Jvm.Cond.code ({ cls := "DraftTreeModel", name := "thrown", desc := "()I" } : Jvm.MethodName) prog_6_method_2_code (1 : Nat) (Option.some Jvm.ClassFile.FieldType.int)) :: wk_tbl
abbrev w_M_type : List Cond := (Jvm.Cond.code ({ cls := "DraftTreeModel", name := "type", desc := "(C)Z" } : Jvm.MethodName) prog_6_method_4_code (2 : Nat) (Option.some Jvm.ClassFile.FieldType.boolean)) :: wk_tbl
abbrev w_M_undo : List Cond := (Jvm.Cond.code ({ cls := "DraftTreeModel", name := "undo", desc := "()I" } : Jvm.MethodName) prog_6_method_18_code (1 : Nat) (Option.some Jvm.ClassFile.FieldType.int)) :: wk_tbl
abbrev w_M_wipe : List Cond := (Jvm.Cond.code ({ cls := "DraftTreeModel", name := "wipe", desc := "()I" } : Jvm.MethodName) prog_6_method_5_code (2 : Nat) (Option.some Jvm.ClassFile.FieldType.int)) :: wk_tbl
abbrev w_P_beginRow : List Cond := (Jvm.Cond.code ({ cls := "DraftTree$PatternReader", name := "beginRow", desc := "(I)V" } : Jvm.MethodName) prog_3_method_16_code (2 : Nat) (Option.none : Option Jvm.ClassFile.FieldType)) :: wk_tbl
abbrev w_P_finish : List Cond := (Jvm.Cond.code ({ cls := "DraftTree$PatternReader", name := "finish", desc := "()V" } : Jvm.MethodName) prog_3_method_4_code (1 : Nat) (Option.none : Option Jvm.ClassFile.FieldType)) :: wk_tbl
abbrev w_P_handOver : List Cond := (Jvm.Cond.code ({ cls := "DraftTree$PatternReader", name := "handOver", desc := "(LDraftTree$Automaton;)LDraftTree$Automaton;" } : Jvm.MethodName) prog_3_method_2_code (3 : Nat) (Option.some (Jvm.ClassFile.FieldType.object "DraftTree$Automaton"))) :: wk_tbl
abbrev w_P_init : List Cond := (Jvm.Cond.code ({ cls := "DraftTree$PatternReader", name := "<init>", desc := "()V" } : Jvm.MethodName) prog_3_method_1_code (1 : Nat) (Option.none : Option Jvm.ClassFile.FieldType)) :: wk_tbl
abbrev w_P_openChoice : List Cond := (Jvm.Cond.code ({ cls := "DraftTree$PatternReader", name := "openChoice", desc := "(I)V" } : Jvm.MethodName) prog_3_method_12_code (3 : Nat) (Option.none : Option Jvm.ClassFile.FieldType)) :: wk_tbl
abbrev w_P_read : List Cond := (Jvm.Cond.code ({ cls := "DraftTree$PatternReader", name := "read", desc := "([CI)I" } : Jvm.MethodName) prog_3_method_3_code (4 : Nat) (Option.some Jvm.ClassFile.FieldType.int)) :: wk_tbl
abbrev w_S_init : List Cond := (Jvm.Cond.code ({ cls := "DraftTree$State", name := "<init>", desc := "([CII)V" } : Jvm.MethodName) prog_4_method_1_code (4 : Nat) (Option.none : Option Jvm.ClassFile.FieldType)) :: wk_tbl
end
section
theorem d_L_law_0 : decode code 0 = .ok (.new 8, 3) := by decide +kernel
theorem d_L_law_3 : decode code 3 = .ok (.dup, 1) := by decide +kernel
theorem d_L_law_4 : decode code 4 = .ok (.invokespecial 62, 3) := by decide +kernel
theorem d_D_init_0 : decode prog_1_method_1_code 0 = .ok (.aload_n 0, 1) := by decide +kernel
theorem d_D_init_1 : decode prog_1_method_1_code 1 = .ok (.invokespecial 1, 3) := by decide +kernel
theorem d_D_init_4 : decode prog_1_method_1_code 4 = .ok (.aload_n 0, 1) := by decide +kernel
theorem d_D_init_5 : decode prog_1_method_1_code 5 = .ok (.bipush 24, 2) := by decide +kernel
theorem d_D_init_7 : decode prog_1_method_1_code 7 = .ok (.newarray .char, 2) := by decide +kernel
theorem d_D_init_9 : decode prog_1_method_1_code 9 = .ok (.putfield 9, 3) := by decide +kernel
theorem d_D_init_12 : decode prog_1_method_1_code 12 = .ok (.aload_n 0, 1) := by decide +kernel
theorem d_D_init_13 : decode prog_1_method_1_code 13 = .ok (.bipush 40, 2) := by decide +kernel
theorem d_D_init_15 : decode prog_1_method_1_code 15 = .ok (.anewarray 13, 3) := by decide +kernel
theorem d_D_init_18 : decode prog_1_method_1_code 18 = .ok (.putfield 15, 3) := by decide +kernel
theorem d_D_init_21 : decode prog_1_method_1_code 21 = .ok (.aload_n 0, 1) := by decide +kernel
theorem d_D_init_22 : decode prog_1_method_1_code 22 = .ok (.iconst 0, 1) := by decide +kernel
theorem d_D_init_23 : decode prog_1_method_1_code 23 = .ok (.newarray .char, 2) := by decide +kernel
theorem d_D_init_25 : decode prog_1_method_1_code 25 = .ok (.putfield 19, 3) := by decide +kernel
theorem d_D_init_28 : decode prog_1_method_1_code 28 = .ok (.aload_n 0, 1) := by decide +kernel
theorem d_D_init_29 : decode prog_1_method_1_code 29 = .ok (.getfield 15, 3) := by decide +kernel
theorem d_D_init_32 : decode prog_1_method_1_code 32 = .ok (.iconst 0, 1) := by decide +kernel
theorem d_D_init_33 : decode prog_1_method_1_code 33 = .ok (.new 13, 3) := by decide +kernel
theorem d_D_init_36 : decode prog_1_method_1_code 36 = .ok (.dup, 1) := by decide +kernel
theorem d_D_init_37 : decode prog_1_method_1_code 37 = .ok (.aload_n 0, 1) := by decide +kernel
theorem d_D_init_38 : decode prog_1_method_1_code 38 = .ok (.getfield 19, 3) := by decide +kernel
theorem d_D_init_41 : decode prog_1_method_1_code 41 = .ok (.iconst 0, 1) := by decide +kernel
theorem d_D_init_42 : decode prog_1_method_1_code 42 = .ok (.iconst (-1), 1) := by decide +kernel
theorem d_D_init_43 : decode prog_1_method_1_code 43 = .ok (.invokespecial 22, 3) := by decide +kernel
theorem d_S_init_0 : decode prog_4_method_1_code 0 = .ok (.aload_n 0, 1) := by decide +kernel
theorem d_S_init_1 : decode prog_4_method_1_code 1 = .ok (.invokespecial 3, 3) := by decide +kernel
theorem d_S_init_4 : decode prog_4_method_1_code 4 = .ok (.aload_n 0, 1) := by decide +kernel
theorem d_S_init_5 : decode prog_4_method_1_code 5 = .ok (.aload_n 1, 1) := by decide +kernel
theorem d_S_init_6 : decode prog_4_method_1_code 6 = .ok (.putfield 9, 3) := by decide +kernel
theorem d_S_init_9 : decode prog_4_method_1_code 9 = .ok (.aload_n 0, 1) := by decide +kernel
theorem d_S_init_10 : decode prog_4_method_1_code 10 = .ok (.iload_n 2, 1) := by decide +kernel
theorem d_S_init_11 : decode prog_4_method_1_code 11 = .ok (.putfield 15, 3) := by decide +kernel
theorem d_S_init_14 : decode prog_4_method_1_code 14 = .ok (.aload_n 0, 1) := by decide +kernel
theorem d_S_init_15 : decode prog_4_method_1_code 15 = .ok (.iload_n 3, 1) := by decide +kernel
theorem d_S_init_16 : decode prog_4_method_1_code 16 = .ok (.putfield 19, 3) := by decide +kernel
theorem d_S_init_19 : decode prog_4_method_1_code 19 = .ok (.aload_n 0, 1) := by decide +kernel
theorem d_S_init_20 : decode prog_4_method_1_code 20 = .ok (.iconst (-1), 1) := by decide +kernel
theorem d_S_init_21 : decode prog_4_method_1_code 21 = .ok (.putfield 22, 3) := by decide +kernel
theorem d_S_init_24 : decode prog_4_method_1_code 24 = .ok (.return_, 1) := by decide +kernel
theorem d_D_init_46 : decode prog_1_method_1_code 46 = .ok (.aastore, 1) := by decide +kernel
theorem d_D_init_47 : decode prog_1_method_1_code 47 = .ok (.aload_n 0, 1) := by decide +kernel
theorem d_D_init_48 : decode prog_1_method_1_code 48 = .ok (.iconst 1, 1) := by decide +kernel
theorem d_D_init_49 : decode prog_1_method_1_code 49 = .ok (.putfield 25, 3) := by decide +kernel
theorem d_D_init_52 : decode prog_1_method_1_code 52 = .ok (.aload_n 0, 1) := by decide +kernel
theorem d_D_init_53 : decode prog_1_method_1_code 53 = .ok (.iconst (-1), 1) := by decide +kernel
theorem d_D_init_54 : decode prog_1_method_1_code 54 = .ok (.putfield 29, 3) := by decide +kernel
theorem d_D_init_57 : decode prog_1_method_1_code 57 = .ok (.aload_n 0, 1) := by decide +kernel
theorem d_D_init_58 : decode prog_1_method_1_code 58 = .ok (.new 32, 3) := by decide +kernel
theorem d_D_init_61 : decode prog_1_method_1_code 61 = .ok (.dup, 1) := by decide +kernel
theorem d_D_init_62 : decode prog_1_method_1_code 62 = .ok (.invokespecial 34, 3) := by decide +kernel
theorem d_P_init_0 : decode prog_3_method_1_code 0 = .ok (.aload_n 0, 1) := by decide +kernel
theorem d_P_init_1 : decode prog_3_method_1_code 1 = .ok (.invokespecial 3, 3) := by decide +kernel
theorem d_P_init_4 : decode prog_3_method_1_code 4 = .ok (.aload_n 0, 1) := by decide +kernel
theorem d_P_init_5 : decode prog_3_method_1_code 5 = .ok (.bipush 9, 2) := by decide +kernel
theorem d_P_init_7 : decode prog_3_method_1_code 7 = .ok (.newarray .int, 2) := by decide +kernel
theorem d_P_init_9 : decode prog_3_method_1_code 9 = .ok (.putfield 9, 3) := by decide +kernel
theorem d_P_init_12 : decode prog_3_method_1_code 12 = .ok (.aload_n 0, 1) := by decide +kernel
theorem d_P_init_13 : decode prog_3_method_1_code 13 = .ok (.bipush 9, 2) := by decide +kernel
theorem d_P_init_15 : decode prog_3_method_1_code 15 = .ok (.newarray .int, 2) := by decide +kernel
theorem d_P_init_17 : decode prog_3_method_1_code 17 = .ok (.putfield 15, 3) := by decide +kernel
theorem d_P_init_20 : decode prog_3_method_1_code 20 = .ok (.aload_n 0, 1) := by decide +kernel
theorem d_P_init_21 : decode prog_3_method_1_code 21 = .ok (.bipush 9, 2) := by decide +kernel
theorem d_P_init_23 : decode prog_3_method_1_code 23 = .ok (.newarray .int, 2) := by decide +kernel
theorem d_P_init_25 : decode prog_3_method_1_code 25 = .ok (.putfield 18, 3) := by decide +kernel
theorem d_P_init_28 : decode prog_3_method_1_code 28 = .ok (.aload_n 0, 1) := by decide +kernel
theorem d_P_init_29 : decode prog_3_method_1_code 29 = .ok (.bipush 9, 2) := by decide +kernel
theorem d_P_init_31 : decode prog_3_method_1_code 31 = .ok (.newarray .int, 2) := by decide +kernel
theorem d_P_init_33 : decode prog_3_method_1_code 33 = .ok (.putfield 21, 3) := by decide +kernel
theorem d_P_init_36 : decode prog_3_method_1_code 36 = .ok (.aload_n 0, 1) := by decide +kernel
theorem d_P_init_37 : decode prog_3_method_1_code 37 = .ok (.new 24, 3) := by decide +kernel
theorem d_P_init_40 : decode prog_3_method_1_code 40 = .ok (.dup, 1) := by decide +kernel
theorem d_P_init_41 : decode prog_3_method_1_code 41 = .ok (.invokespecial 26, 3) := by decide +kernel
theorem d_A_init_0 : decode prog_2_method_1_code 0 = .ok (.aload_n 0, 1) := by decide +kernel
theorem d_A_init_1 : decode prog_2_method_1_code 1 = .ok (.invokespecial 3, 3) := by decide +kernel
theorem d_A_init_4 : decode prog_2_method_1_code 4 = .ok (.aload_n 0, 1) := by decide +kernel
theorem d_A_init_5 : decode prog_2_method_1_code 5 = .ok (.bipush 50, 2) := by decide +kernel
theorem d_A_init_7 : decode prog_2_method_1_code 7 = .ok (.newarray .int, 2) := by decide +kernel
theorem d_A_init_9 : decode prog_2_method_1_code 9 = .ok (.putfield 11, 3) := by decide +kernel
theorem d_A_init_12 : decode prog_2_method_1_code 12 = .ok (.aload_n 0, 1) := by decide +kernel
theorem d_A_init_13 : decode prog_2_method_1_code 13 = .ok (.bipush 50, 2) := by decide +kernel
theorem d_A_init_15 : decode prog_2_method_1_code 15 = .ok (.newarray .int, 2) := by decide +kernel
theorem d_A_init_17 : decode prog_2_method_1_code 17 = .ok (.putfield 15, 3) := by decide +kernel
theorem d_A_init_20 : decode prog_2_method_1_code 20 = .ok (.aload_n 0, 1) := by decide +kernel
theorem d_A_init_21 : decode prog_2_method_1_code 21 = .ok (.bipush 50, 2) := by decide +kernel
theorem d_A_init_23 : decode prog_2_method_1_code 23 = .ok (.newarray .int, 2) := by decide +kernel
theorem d_A_init_25 : decode prog_2_method_1_code 25 = .ok (.putfield 18, 3) := by decide +kernel
theorem d_A_init_28 : decode prog_2_method_1_code 28 = .ok (.aload_n 0, 1) := by decide +kernel
theorem d_A_init_29 : decode prog_2_method_1_code 29 = .ok (.bipush 50, 2) := by decide +kernel
theorem d_A_init_31 : decode prog_2_method_1_code 31 = .ok (.newarray .long, 2) := by decide +kernel
theorem d_A_init_33 : decode prog_2_method_1_code 33 = .ok (.putfield 21, 3) := by decide +kernel
theorem d_A_init_36 : decode prog_2_method_1_code 36 = .ok (.aload_n 0, 1) := by decide +kernel
theorem d_A_init_37 : decode prog_2_method_1_code 37 = .ok (.bipush 50, 2) := by decide +kernel
theorem d_A_init_39 : decode prog_2_method_1_code 39 = .ok (.newarray .long, 2) := by decide +kernel
theorem d_A_init_41 : decode prog_2_method_1_code 41 = .ok (.putfield 25, 3) := by decide +kernel
theorem d_A_init_44 : decode prog_2_method_1_code 44 = .ok (.return_, 1) := by decide +kernel
theorem d_P_init_44 : decode prog_3_method_1_code 44 = .ok (.putfield 27, 3) := by decide +kernel
theorem d_P_init_47 : decode prog_3_method_1_code 47 = .ok (.aload_n 0, 1) := by decide +kernel
theorem d_P_init_48 : decode prog_3_method_1_code 48 = .ok (.iconst 0, 1) := by decide +kernel
theorem d_P_init_49 : decode prog_3_method_1_code 49 = .ok (.newarray .char, 2) := by decide +kernel
theorem d_P_init_51 : decode prog_3_method_1_code 51 = .ok (.putfield 31, 3) := by decide +kernel
theorem d_P_init_54 : decode prog_3_method_1_code 54 = .ok (.return_, 1) := by decide +kernel
theorem d_D_init_65 : decode prog_1_method_1_code 65 = .ok (.putfield 35, 3) := by decide +kernel
theorem d_D_init_68 : decode prog_1_method_1_code 68 = .ok (.aload_n 0, 1) := by decide +kernel
theorem d_D_init_69 : decode prog_1_method_1_code 69 = .ok (.new 39, 3) := by decide +kernel
theorem d_D_init_72 : decode prog_1_method_1_code 72 = .ok (.dup, 1) := by decide +kernel
theorem d_D_init_73 : decode prog_1_method_1_code 73 = .ok (.invokespecial 41, 3) := by decide +kernel
theorem d_D_init_76 : decode prog_1_method_1_code 76 = .ok (.putfield 42, 3) := by decide +kernel
theorem d_D_init_79 : decode prog_1_method_1_code 79 = .ok (.aload_n 0, 1) := by decide +kernel
theorem d_D_init_80 : decode prog_1_method_1_code 80 = .ok (.iconst (-1), 1) := by decide +kernel
theorem d_D_init_81 : decode prog_1_method_1_code 81 = .ok (.putfield 46, 3) := by decide +kernel
theorem d_D_init_84 : decode prog_1_method_1_code 84 = .ok (.aload_n 0, 1) := by decide +kernel
theorem d_D_init_85 : decode prog_1_method_1_code 85 = .ok (.sipush 160, 3) := by decide +kernel
theorem d_D_init_88 : decode prog_1_method_1_code 88 = .ok (.newarray .int, 2) := by decide +kernel
theorem d_D_init_90 : decode prog_1_method_1_code 90 = .ok (.putfield 49, 3) := by decide +kernel
theorem d_D_init_93 : decode prog_1_method_1_code 93 = .ok (.aload_n 0, 1) := by decide +kernel
theorem d_D_init_94 : decode prog_1_method_1_code 94 = .ok (.sipush 160, 3) := by decide +kernel
theorem d_D_init_97 : decode prog_1_method_1_code 97 = .ok (.newarray .int, 2) := by decide +kernel
theorem d_D_init_99 : decode prog_1_method_1_code 99 = .ok (.putfield 53, 3) := by decide +kernel
theorem d_D_init_102 : decode prog_1_method_1_code 102 = .ok (.return_, 1) := by decide +kernel
theorem d_L_law_7 : decode code 7 = .ok (.astore_n 1, 1) := by decide +kernel
theorem d_L_law_8 : decode code 8 = .ok (.new 63, 3) := by decide +kernel
theorem d_L_law_11 : decode code 11 = .ok (.dup, 1) := by decide +kernel
theorem d_L_law_12 : decode code 12 = .ok (.invokespecial 65, 3) := by decide +kernel
theorem d_M_init_0 : decode prog_6_method_1_code 0 = .ok (.aload_n 0, 1) := by decide +kernel
theorem d_M_init_1 : decode prog_6_method_1_code 1 = .ok (.invokespecial 1, 3) := by decide +kernel
theorem d_M_init_4 : decode prog_6_method_1_code 4 = .ok (.aload_n 0, 1) := by decide +kernel
theorem d_M_init_5 : decode prog_6_method_1_code 5 = .ok (.bipush 24, 2) := by decide +kernel
theorem d_M_init_7 : decode prog_6_method_1_code 7 = .ok (.newarray .char, 2) := by decide +kernel
theorem d_M_init_9 : decode prog_6_method_1_code 9 = .ok (.putfield 7, 3) := by decide +kernel
theorem d_M_init_12 : decode prog_6_method_1_code 12 = .ok (.aload_n 0, 1) := by decide +kernel
theorem d_M_init_13 : decode prog_6_method_1_code 13 = .ok (.iconst 1, 1) := by decide +kernel
theorem d_M_init_14 : decode prog_6_method_1_code 14 = .ok (.putfield 13, 3) := by decide +kernel
theorem d_M_init_17 : decode prog_6_method_1_code 17 = .ok (.aload_n 0, 1) := by decide +kernel
theorem d_M_init_18 : decode prog_6_method_1_code 18 = .ok (.sipush 6400, 3) := by decide +kernel
theorem d_M_init_21 : decode prog_6_method_1_code 21 = .ok (.newarray .char, 2) := by decide +kernel
theorem d_M_init_23 : decode prog_6_method_1_code 23 = .ok (.putfield 17, 3) := by decide +kernel
theorem d_M_init_26 : decode prog_6_method_1_code 26 = .ok (.aload_n 0, 1) := by decide +kernel
theorem d_M_init_27 : decode prog_6_method_1_code 27 = .ok (.bipush 40, 2) := by decide +kernel
theorem d_M_init_29 : decode prog_6_method_1_code 29 = .ok (.newarray .int, 2) := by decide +kernel
theorem d_M_init_31 : decode prog_6_method_1_code 31 = .ok (.putfield 20, 3) := by decide +kernel
theorem d_M_init_34 : decode prog_6_method_1_code 34 = .ok (.aload_n 0, 1) := by decide +kernel
theorem d_M_init_35 : decode prog_6_method_1_code 35 = .ok (.bipush 40, 2) := by decide +kernel
theorem d_M_init_37 : decode prog_6_method_1_code 37 = .ok (.newarray .int, 2) := by decide +kernel
theorem d_M_init_39 : decode prog_6_method_1_code 39 = .ok (.putfield 24, 3) := by decide +kernel
theorem d_M_init_42 : decode prog_6_method_1_code 42 = .ok (.aload_n 0, 1) := by decide +kernel
theorem d_M_init_43 : decode prog_6_method_1_code 43 = .ok (.bipush 40, 2) := by decide +kernel
theorem d_M_init_45 : decode prog_6_method_1_code 45 = .ok (.newarray .int, 2) := by decide +kernel
theorem d_M_init_47 : decode prog_6_method_1_code 47 = .ok (.putfield 27, 3) := by decide +kernel
theorem d_M_init_50 : decode prog_6_method_1_code 50 = .ok (.aload_n 0, 1) := by decide +kernel
theorem d_M_init_51 : decode prog_6_method_1_code 51 = .ok (.bipush 40, 2) := by decide +kernel
theorem d_M_init_53 : decode prog_6_method_1_code 53 = .ok (.newarray .int, 2) := by decide +kernel
theorem d_M_init_55 : decode prog_6_method_1_code 55 = .ok (.putfield 30, 3) := by decide +kernel
theorem d_M_init_58 : decode prog_6_method_1_code 58 = .ok (.aload_n 0, 1) := by decide +kernel
theorem d_M_init_59 : decode prog_6_method_1_code 59 = .ok (.iconst (-1), 1) := by decide +kernel
theorem d_M_init_60 : decode prog_6_method_1_code 60 = .ok (.putfield 33, 3) := by decide +kernel
theorem d_M_init_63 : decode prog_6_method_1_code 63 = .ok (.aload_n 0, 1) := by decide +kernel
theorem d_M_init_64 : decode prog_6_method_1_code 64 = .ok (.iconst (-1), 1) := by decide +kernel
theorem d_M_init_65 : decode prog_6_method_1_code 65 = .ok (.putfield 36, 3) := by decide +kernel
theorem d_M_init_68 : decode prog_6_method_1_code 68 = .ok (.aload_n 0, 1) := by decide +kernel
theorem d_M_init_69 : decode prog_6_method_1_code 69 = .ok (.bipush 24, 2) := by decide +kernel
theorem d_M_init_71 : decode prog_6_method_1_code 71 = .ok (.newarray .char, 2) := by decide +kernel
theorem d_M_init_73 : decode prog_6_method_1_code 73 = .ok (.putfield 39, 3) := by decide +kernel
theorem d_M_init_76 : decode prog_6_method_1_code 76 = .ok (.aload_n 0, 1) := by decide +kernel
theorem d_M_init_77 : decode prog_6_method_1_code 77 = .ok (.sipush 160, 3) := by decide +kernel
theorem d_M_init_80 : decode prog_6_method_1_code 80 = .ok (.newarray .int, 2) := by decide +kernel
theorem d_M_init_82 : decode prog_6_method_1_code 82 = .ok (.putfield 42, 3) := by decide +kernel
theorem d_M_init_85 : decode prog_6_method_1_code 85 = .ok (.aload_n 0, 1) := by decide +kernel
theorem d_M_init_86 : decode prog_6_method_1_code 86 = .ok (.sipush 160, 3) := by decide +kernel
theorem d_M_init_89 : decode prog_6_method_1_code 89 = .ok (.newarray .int, 2) := by decide +kernel
theorem d_M_init_91 : decode prog_6_method_1_code 91 = .ok (.putfield 45, 3) := by decide +kernel
theorem d_M_init_94 : decode prog_6_method_1_code 94 = .ok (.aload_n 0, 1) := by decide +kernel
theorem d_M_init_95 : decode prog_6_method_1_code 95 = .ok (.sipush 160, 3) := by decide +kernel
theorem d_M_init_98 : decode prog_6_method_1_code 98 = .ok (.newarray .int, 2) := by decide +kernel
theorem d_M_init_100 : decode prog_6_method_1_code 100 = .ok (.putfield 48, 3) := by decide +kernel
theorem d_M_init_103 : decode prog_6_method_1_code 103 = .ok (.aload_n 0, 1) := by decide +kernel
theorem d_M_init_104 : decode prog_6_method_1_code 104 = .ok (.sipush 160, 3) := by decide +kernel
theorem d_M_init_107 : decode prog_6_method_1_code 107 = .ok (.newarray .int, 2) := by decide +kernel
theorem d_M_init_109 : decode prog_6_method_1_code 109 = .ok (.putfield 51, 3) := by decide +kernel
theorem d_M_init_112 : decode prog_6_method_1_code 112 = .ok (.aload_n 0, 1) := by decide +kernel
theorem d_M_init_113 : decode prog_6_method_1_code 113 = .ok (.sipush 160, 3) := by decide +kernel
theorem d_M_init_116 : decode prog_6_method_1_code 116 = .ok (.newarray .int, 2) := by decide +kernel
theorem d_M_init_118 : decode prog_6_method_1_code 118 = .ok (.putfield 54, 3) := by decide +kernel
theorem d_M_init_121 : decode prog_6_method_1_code 121 = .ok (.aload_n 0, 1) := by decide +kernel
theorem d_M_init_122 : decode prog_6_method_1_code 122 = .ok (.sipush 160, 3) := by decide +kernel
theorem d_M_init_125 : decode prog_6_method_1_code 125 = .ok (.newarray .int, 2) := by decide +kernel
theorem d_M_init_127 : decode prog_6_method_1_code 127 = .ok (.putfield 57, 3) := by decide +kernel
theorem d_M_init_130 : decode prog_6_method_1_code 130 = .ok (.aload_n 0, 1) := by decide +kernel
theorem d_M_init_131 : decode prog_6_method_1_code 131 = .ok (.sipush 160, 3) := by decide +kernel
theorem d_M_init_134 : decode prog_6_method_1_code 134 = .ok (.newarray .int, 2) := by decide +kernel
theorem d_M_init_136 : decode prog_6_method_1_code 136 = .ok (.putfield 60, 3) := by decide +kernel
theorem d_M_init_139 : decode prog_6_method_1_code 139 = .ok (.aload_n 0, 1) := by decide +kernel
theorem d_M_init_140 : decode prog_6_method_1_code 140 = .ok (.bipush 26, 2) := by decide +kernel
theorem d_M_init_142 : decode prog_6_method_1_code 142 = .ok (.newarray .int, 2) := by decide +kernel
theorem d_M_init_144 : decode prog_6_method_1_code 144 = .ok (.putfield 63, 3) := by decide +kernel
theorem d_M_init_147 : decode prog_6_method_1_code 147 = .ok (.aload_n 0, 1) := by decide +kernel
theorem d_M_init_148 : decode prog_6_method_1_code 148 = .ok (.bipush 26, 2) := by decide +kernel
theorem d_M_init_150 : decode prog_6_method_1_code 150 = .ok (.newarray .int, 2) := by decide +kernel
theorem d_M_init_152 : decode prog_6_method_1_code 152 = .ok (.putfield 66, 3) := by decide +kernel
theorem d_M_init_155 : decode prog_6_method_1_code 155 = .ok (.aload_n 0, 1) := by decide +kernel
theorem d_M_init_156 : decode prog_6_method_1_code 156 = .ok (.bipush 26, 2) := by decide +kernel
theorem d_M_init_158 : decode prog_6_method_1_code 158 = .ok (.newarray .int, 2) := by decide +kernel
theorem d_M_init_160 : decode prog_6_method_1_code 160 = .ok (.putfield 69, 3) := by decide +kernel
theorem d_M_init_163 : decode prog_6_method_1_code 163 = .ok (.aload_n 0, 1) := by decide +kernel
theorem d_M_init_164 : decode prog_6_method_1_code 164 = .ok (.sipush 160, 3) := by decide +kernel
theorem d_M_init_167 : decode prog_6_method_1_code 167 = .ok (.newarray .boolean, 2) := by decide +kernel
theorem d_M_init_169 : decode prog_6_method_1_code 169 = .ok (.putfield 72, 3) := by decide +kernel
theorem d_M_init_172 : decode prog_6_method_1_code 172 = .ok (.aload_n 0, 1) := by decide +kernel
theorem d_M_init_173 : decode prog_6_method_1_code 173 = .ok (.sipush 160, 3) := by decide +kernel
theorem d_M_init_176 : decode prog_6_method_1_code 176 = .ok (.newarray .boolean, 2) := by decide +kernel
theorem d_M_init_178 : decode prog_6_method_1_code 178 = .ok (.putfield 76, 3) := by decide +kernel
theorem d_M_init_181 : decode prog_6_method_1_code 181 = .ok (.aload_n 0, 1) := by decide +kernel
theorem d_M_init_182 : decode prog_6_method_1_code 182 = .ok (.sipush 4000, 3) := by decide +kernel
theorem d_M_init_185 : decode prog_6_method_1_code 185 = .ok (.newarray .char, 2) := by decide +kernel
theorem d_M_init_187 : decode prog_6_method_1_code 187 = .ok (.putfield 79, 3) := by decide +kernel
theorem d_M_init_190 : decode prog_6_method_1_code 190 = .ok (.aload_n 0, 1) := by decide +kernel
theorem d_M_init_191 : decode prog_6_method_1_code 191 = .ok (.getfield 27, 3) := by decide +kernel
theorem d_M_init_194 : decode prog_6_method_1_code 194 = .ok (.iconst 0, 1) := by decide +kernel
theorem d_M_init_195 : decode prog_6_method_1_code 195 = .ok (.iconst (-1), 1) := by decide +kernel
theorem d_M_init_196 : decode prog_6_method_1_code 196 = .ok (.iastore, 1) := by decide +kernel
theorem d_M_init_197 : decode prog_6_method_1_code 197 = .ok (.return_, 1) := by decide +kernel
theorem d_L_law_15 : decode code 15 = .ok (.astore_n 2, 1) := by decide +kernel
theorem d_L_law_16 : decode code 16 = .ok (.iconst 1, 1) := by decide +kernel
theorem d_L_law_17 : decode code 17 = .ok (.newarray .long, 2) := by decide +kernel
theorem d_L_law_19 : decode code 19 = .ok (.astore_n 3, 1) := by decide +kernel
theorem d_L_law_20 : decode code 20 = .ok (.iconst 0, 1) := by decide +kernel
theorem d_L_law_21 : decode code 21 = .ok (.istore 4, 2) := by decide +kernel
theorem d_L_law_120 : decode code 120 = .ok (.aload_n 1, 1) := by decide +kernel
theorem d_L_law_121 : decode code 121 = .ok (.aload_n 0, 1) := by decide +kernel
theorem d_L_law_122 : decode code 122 = .ok (.iload 4, 2) := by decide +kernel
theorem d_L_law_124 : decode code 124 = .ok (.iconst 1, 1) := by decide +kernel
theorem d_L_law_125 : decode code 125 = .ok (.iadd, 1) := by decide +kernel
theorem d_L_law_126 : decode code 126 = .ok (.iaload, 1) := by decide +kernel
theorem d_L_law_127 : decode code 127 = .ok (.i2c, 1) := by decide +kernel
theorem d_L_law_128 : decode code 128 = .ok (.invokevirtual 66, 3) := by decide +kernel
theorem d_D_type_0 : decode prog_1_method_2_code 0 = .ok (.iload_n 1, 1) := by decide +kernel
theorem d_D_type_1 : decode prog_1_method_2_code 1 = .ok (.bipush 10, 2) := by decide +kernel
theorem d_D_type_3 : decode prog_1_method_2_code 3 = .ok (.if_icmp .eq 15, 3) := by decide +kernel
theorem d_D_type_18 : decode prog_1_method_2_code 18 = .ok (.iconst 1, 1) := by decide +kernel
theorem d_D_type_19 : decode prog_1_method_2_code 19 = .ok (.goto 4, 3) := by decide +kernel
theorem d_D_type_23 : decode prog_1_method_2_code 23 = .ok (.istore_n 2, 1) := by decide +kernel
theorem d_D_type_24 : decode prog_1_method_2_code 24 = .ok (.iload_n 2, 1) := by decide +kernel
theorem d_D_type_25 : decode prog_1_method_2_code 25 = .ok (.ifCond .eq 12, 3) := by decide +kernel
theorem d_D_type_28 : decode prog_1_method_2_code 28 = .ok (.aload_n 0, 1) := by decide +kernel
theorem d_D_type_29 : decode prog_1_method_2_code 29 = .ok (.getfield 56, 3) := by decide +kernel
theorem d_D_type_32 : decode prog_1_method_2_code 32 = .ok (.bipush 24, 2) := by decide +kernel
theorem d_D_type_34 : decode prog_1_method_2_code 34 = .ok (.if_icmp .ne 5, 3) := by decide +kernel
theorem d_D_type_39 : decode prog_1_method_2_code 39 = .ok (.aload_n 0, 1) := by decide +kernel
theorem d_D_type_40 : decode prog_1_method_2_code 40 = .ok (.getfield 9, 3) := by decide +kernel
theorem d_D_type_43 : decode prog_1_method_2_code 43 = .ok (.aload_n 0, 1) := by decide +kernel
theorem d_D_type_44 : decode prog_1_method_2_code 44 = .ok (.getfield 56, 3) := by decide +kernel
theorem d_D_type_47 : decode prog_1_method_2_code 47 = .ok (.iload_n 1, 1) := by decide +kernel
theorem d_D_type_48 : decode prog_1_method_2_code 48 = .ok (.castore, 1) := by decide +kernel
theorem d_D_type_49 : decode prog_1_method_2_code 49 = .ok (.aload_n 0, 1) := by decide +kernel
theorem d_D_type_50 : decode prog_1_method_2_code 50 = .ok (.dup, 1) := by decide +kernel
theorem d_D_type_51 : decode prog_1_method_2_code 51 = .ok (.getfield 56, 3) := by decide +kernel
theorem d_D_type_54 : decode prog_1_method_2_code 54 = .ok (.iconst 1, 1) := by decide +kernel
theorem d_D_type_55 : decode prog_1_method_2_code 55 = .ok (.iadd, 1) := by decide +kernel
theorem d_D_type_56 : decode prog_1_method_2_code 56 = .ok (.putfield 56, 3) := by decide +kernel
theorem d_D_type_59 : decode prog_1_method_2_code 59 = .ok (.iconst 1, 1) := by decide +kernel
theorem d_D_type_60 : decode prog_1_method_2_code 60 = .ok (.ireturn, 1) := by decide +kernel
theorem d_L_law_131 : decode code 131 = .ok (.aload_n 2, 1) := by decide +kernel
theorem d_L_law_132 : decode code 132 = .ok (.aload_n 0, 1) := by decide +kernel
theorem d_L_law_133 : decode code 133 = .ok (.iload 4, 2) := by decide +kernel
theorem d_L_law_135 : decode code 135 = .ok (.iconst 1, 1) := by decide +kernel
theorem d_L_law_136 : decode code 136 = .ok (.iadd, 1) := by decide +kernel
theorem d_L_law_137 : decode code 137 = .ok (.iaload, 1) := by decide +kernel
theorem d_L_law_138 : decode code 138 = .ok (.i2c, 1) := by decide +kernel
theorem d_L_law_139 : decode code 139 = .ok (.invokevirtual 70, 3) := by decide +kernel
theorem d_M_type_0 : decode prog_6_method_4_code 0 = .ok (.aload_n 0, 1) := by decide +kernel
theorem d_M_type_1 : decode prog_6_method_4_code 1 = .ok (.iconst 0, 1) := by decide +kernel
theorem d_M_type_2 : decode prog_6_method_4_code 2 = .ok (.putfield 82, 3) := by decide +kernel
theorem d_M_type_5 : decode prog_6_method_4_code 5 = .ok (.iload_n 1, 1) := by decide +kernel
theorem d_M_type_6 : decode prog_6_method_4_code 6 = .ok (.invokestatic 85, 3) := by decide +kernel
theorem d_M_isCharacter_0 : decode prog_6_method_3_code 0 = .ok (.iload_n 0, 1) := by decide +kernel
theorem d_M_isCharacter_1 : decode prog_6_method_3_code 1 = .ok (.bipush 10, 2) := by decide +kernel
theorem d_M_isCharacter_3 : decode prog_6_method_3_code 3 = .ok (.if_icmp .eq 15, 3) := by decide +kernel
theorem d_M_isCharacter_18 : decode prog_6_method_3_code 18 = .ok (.iconst 1, 1) := by decide +kernel
theorem d_M_isCharacter_19 : decode prog_6_method_3_code 19 = .ok (.goto 4, 3) := by decide +kernel
theorem d_M_isCharacter_23 : decode prog_6_method_3_code 23 = .ok (.ireturn, 1) := by decide +kernel
theorem d_M_type_9 : decode prog_6_method_4_code 9 = .ok (.ifCond .eq 12, 3) := by decide +kernel
theorem d_M_type_12 : decode prog_6_method_4_code 12 = .ok (.aload_n 0, 1) := by decide +kernel
theorem d_M_type_13 : decode prog_6_method_4_code 13 = .ok (.getfield 89, 3) := by decide +kernel
theorem d_M_type_16 : decode prog_6_method_4_code 16 = .ok (.bipush 24, 2) := by decide +kernel
theorem d_M_type_18 : decode prog_6_method_4_code 18 = .ok (.if_icmp .ne 5, 3) := by decide +kernel
theorem d_M_type_23 : decode prog_6_method_4_code 23 = .ok (.aload_n 0, 1) := by decide +kernel
theorem d_M_type_24 : decode prog_6_method_4_code 24 = .ok (.getfield 7, 3) := by decide +kernel
theorem d_M_type_27 : decode prog_6_method_4_code 27 = .ok (.aload_n 0, 1) := by decide +kernel
theorem d_M_type_28 : decode prog_6_method_4_code 28 = .ok (.getfield 89, 3) := by decide +kernel
theorem d_M_type_31 : decode prog_6_method_4_code 31 = .ok (.iload_n 1, 1) := by decide +kernel
theorem d_M_type_32 : decode prog_6_method_4_code 32 = .ok (.castore, 1) := by decide +kernel
theorem d_M_type_33 : decode prog_6_method_4_code 33 = .ok (.aload_n 0, 1) := by decide +kernel
theorem d_M_type_34 : decode prog_6_method_4_code 34 = .ok (.dup, 1) := by decide +kernel
theorem d_M_type_35 : decode prog_6_method_4_code 35 = .ok (.getfield 89, 3) := by decide +kernel
theorem d_M_type_38 : decode prog_6_method_4_code 38 = .ok (.iconst 1, 1) := by decide +kernel
theorem d_M_type_39 : decode prog_6_method_4_code 39 = .ok (.iadd, 1) := by decide +kernel
theorem d_M_type_40 : decode prog_6_method_4_code 40 = .ok (.putfield 89, 3) := by decide +kernel
theorem d_M_type_43 : decode prog_6_method_4_code 43 = .ok (.iconst 1, 1) := by decide +kernel
theorem d_M_type_44 : decode prog_6_method_4_code 44 = .ok (.ireturn, 1) := by decide +kernel
theorem d_L_law_142 : decode code 142 = .ok (.if_icmp .eq 692, 3) := by decide +kernel
theorem d_D_type_6 : decode prog_1_method_2_code 6 = .ok (.iload_n 1, 1) := by decide +kernel
theorem d_D_type_7 : decode prog_1_method_2_code 7 = .ok (.bipush 32, 2) := by decide +kernel
theorem d_D_type_9 : decode prog_1_method_2_code 9 = .ok (.if_icmp .lt 13, 3) := by decide +kernel
theorem d_D_type_22 : decode prog_1_method_2_code 22 = .ok (.iconst 0, 1) := by decide +kernel
theorem d_D_type_37 : decode prog_1_method_2_code 37 = .ok (.iconst 0, 1) := by decide +kernel
theorem d_D_type_38 : decode prog_1_method_2_code 38 = .ok (.ireturn, 1) := by decide +kernel
theorem d_M_isCharacter_6 : decode prog_6_method_3_code 6 = .ok (.iload_n 0, 1) := by decide +kernel
theorem d_M_isCharacter_7 : decode prog_6_method_3_code 7 = .ok (.bipush 32, 2) := by decide +kernel
theorem d_M_isCharacter_9 : decode prog_6_method_3_code 9 = .ok (.if_icmp .lt 13, 3) := by decide +kernel
theorem d_M_isCharacter_22 : decode prog_6_method_3_code 22 = .ok (.iconst 0, 1) := by decide +kernel
theorem d_M_type_21 : decode prog_6_method_4_code 21 = .ok (.iconst 0, 1) := by decide +kernel
theorem d_M_type_22 : decode prog_6_method_4_code 22 = .ok (.ireturn, 1) := by decide +kernel
theorem d_D_type_12 : decode prog_1_method_2_code 12 = .ok (.iload_n 1, 1) := by decide +kernel
theorem d_D_type_13 : decode prog_1_method_2_code 13 = .ok (.bipush 126, 2) := by decide +kernel
theorem d_D_type_15 : decode prog_1_method_2_code 15 = .ok (.if_icmp .gt 7, 3) := by decide +kernel
theorem d_M_isCharacter_12 : decode prog_6_method_3_code 12 = .ok (.iload_n 0, 1) := by decide +kernel
theorem d_M_isCharacter_13 : decode prog_6_method_3_code 13 = .ok (.bipush 126, 2) := by decide +kernel
theorem d_M_isCharacter_15 : decode prog_6_method_3_code 15 = .ok (.if_icmp .gt 7, 3) := by decide +kernel
theorem d_L_law_147 : decode code 147 = .ok (.aload_n 1, 1) := by decide +kernel
theorem d_L_law_148 : decode code 148 = .ok (.invokevirtual 71, 3) := by decide +kernel
theorem d_D_wipe_0 : decode prog_1_method_3_code 0 = .ok (.aload_n 0, 1) := by decide +kernel
theorem d_D_wipe_1 : decode prog_1_method_3_code 1 = .ok (.getfield 56, 3) := by decide +kernel
theorem d_D_wipe_4 : decode prog_1_method_3_code 4 = .ok (.istore_n 1, 1) := by decide +kernel
theorem d_D_wipe_5 : decode prog_1_method_3_code 5 = .ok (.aload_n 0, 1) := by decide +kernel
theorem d_D_wipe_6 : decode prog_1_method_3_code 6 = .ok (.iconst 0, 1) := by decide +kernel
theorem d_D_wipe_7 : decode prog_1_method_3_code 7 = .ok (.putfield 56, 3) := by decide +kernel
theorem d_D_wipe_10 : decode prog_1_method_3_code 10 = .ok (.iload_n 1, 1) := by decide +kernel
theorem d_D_wipe_11 : decode prog_1_method_3_code 11 = .ok (.ireturn, 1) := by decide +kernel
theorem d_L_law_151 : decode code 151 = .ok (.aload_n 2, 1) := by decide +kernel
theorem d_L_law_152 : decode code 152 = .ok (.invokevirtual 74, 3) := by decide +kernel
theorem d_M_wipe_0 : decode prog_6_method_5_code 0 = .ok (.aload_n 0, 1) := by decide +kernel
theorem d_M_wipe_1 : decode prog_6_method_5_code 1 = .ok (.iconst 0, 1) := by decide +kernel
theorem d_M_wipe_2 : decode prog_6_method_5_code 2 = .ok (.putfield 82, 3) := by decide +kernel
theorem d_M_wipe_5 : decode prog_6_method_5_code 5 = .ok (.aload_n 0, 1) := by decide +kernel
theorem d_M_wipe_6 : decode prog_6_method_5_code 6 = .ok (.getfield 89, 3) := by decide +kernel
theorem d_M_wipe_9 : decode prog_6_method_5_code 9 = .ok (.istore_n 1, 1) := by decide +kernel
theorem d_M_wipe_10 : decode prog_6_method_5_code 10 = .ok (.aload_n 0, 1) := by decide +kernel
theorem d_M_wipe_11 : decode prog_6_method_5_code 11 = .ok (.iconst 0, 1) := by decide +kernel
theorem d_M_wipe_12 : decode prog_6_method_5_code 12 = .ok (.putfield 89, 3) := by decide +kernel
theorem d_M_wipe_15 : decode prog_6_method_5_code 15 = .ok (.iload_n 1, 1) := by decide +kernel
theorem d_M_wipe_16 : decode prog_6_method_5_code 16 = .ok (.ireturn, 1) := by decide +kernel
theorem d_L_law_155 : decode code 155 = .ok (.if_icmp .eq 679, 3) := by decide +kernel
theorem d_L_law_160 : decode code 160 = .ok (.aload_n 1, 1) := by decide +kernel
theorem d_L_law_161 : decode code 161 = .ok (.aload_n 3, 1) := by decide +kernel
theorem d_L_law_162 : decode code 162 = .ok (.invokestatic 75, 3) := by decide +kernel
theorem d_L_insert_0 : decode method_3_code 0 = .ok (.aload_n 1, 1) := by decide +kernel
theorem d_L_insert_1 : decode method_3_code 1 = .ok (.iconst 0, 1) := by decide +kernel
theorem d_L_insert_2 : decode method_3_code 2 = .ok (.aload_n 0, 1) := by decide +kernel
theorem d_L_insert_3 : decode method_3_code 3 = .ok (.invokevirtual 7, 3) := by decide +kernel
theorem d_D_insert_0 : decode prog_1_method_4_code 0 = .ok (.aload_n 0, 1) := by decide +kernel
theorem d_D_insert_1 : decode prog_1_method_4_code 1 = .ok (.invokevirtual 59, 3) := by decide +kernel
theorem d_D_selectionStart_0 : decode prog_1_method_21_code 0 = .ok (.aload_n 0, 1) := by decide +kernel
theorem d_D_selectionStart_1 : decode prog_1_method_21_code 1 = .ok (.getfield 29, 3) := by decide +kernel
theorem d_D_selectionStart_4 : decode prog_1_method_21_code 4 = .ok (.iconst (-1), 1) := by decide +kernel
theorem d_D_selectionStart_5 : decode prog_1_method_21_code 5 = .ok (.if_icmp .ne 10, 3) := by decide +kernel
theorem d_D_selectionStart_8 : decode prog_1_method_21_code 8 = .ok (.aload_n 0, 1) := by decide +kernel
theorem d_D_selectionStart_9 : decode prog_1_method_21_code 9 = .ok (.getfield 76, 3) := by decide +kernel
theorem d_D_selectionStart_12 : decode prog_1_method_21_code 12 = .ok (.goto 14, 3) := by decide +kernel
theorem d_D_selectionStart_26 : decode prog_1_method_21_code 26 = .ok (.ireturn, 1) := by decide +kernel
theorem d_D_insert_4 : decode prog_1_method_4_code 4 = .ok (.istore_n 1, 1) := by decide +kernel
theorem d_D_insert_5 : decode prog_1_method_4_code 5 = .ok (.aload_n 0, 1) := by decide +kernel
theorem d_D_insert_6 : decode prog_1_method_4_code 6 = .ok (.invokevirtual 63, 3) := by decide +kernel
theorem d_D_selectionEnd_0 : decode prog_1_method_22_code 0 = .ok (.aload_n 0, 1) := by decide +kernel
theorem d_D_selectionEnd_1 : decode prog_1_method_22_code 1 = .ok (.getfield 29, 3) := by decide +kernel
theorem d_D_selectionEnd_4 : decode prog_1_method_22_code 4 = .ok (.iconst (-1), 1) := by decide +kernel
theorem d_D_selectionEnd_5 : decode prog_1_method_22_code 5 = .ok (.if_icmp .ne 10, 3) := by decide +kernel
theorem d_D_selectionEnd_8 : decode prog_1_method_22_code 8 = .ok (.aload_n 0, 1) := by decide +kernel
theorem d_D_selectionEnd_9 : decode prog_1_method_22_code 9 = .ok (.getfield 76, 3) := by decide +kernel
theorem d_D_selectionEnd_12 : decode prog_1_method_22_code 12 = .ok (.goto 14, 3) := by decide +kernel
theorem d_D_selectionEnd_26 : decode prog_1_method_22_code 26 = .ok (.ireturn, 1) := by decide +kernel
theorem d_D_insert_9 : decode prog_1_method_4_code 9 = .ok (.istore_n 2, 1) := by decide +kernel
theorem d_D_insert_10 : decode prog_1_method_4_code 10 = .ok (.aload_n 0, 1) := by decide +kernel
theorem d_D_insert_11 : decode prog_1_method_4_code 11 = .ok (.getfield 25, 3) := by decide +kernel
theorem d_D_insert_14 : decode prog_1_method_4_code 14 = .ok (.bipush 40, 2) := by decide +kernel
theorem d_D_insert_16 : decode prog_1_method_4_code 16 = .ok (.if_icmp .eq 23, 3) := by decide +kernel
theorem d_D_insert_19 : decode prog_1_method_4_code 19 = .ok (.aload_n 0, 1) := by decide +kernel
theorem d_D_insert_20 : decode prog_1_method_4_code 20 = .ok (.getfield 19, 3) := by decide +kernel
theorem d_D_insert_23 : decode prog_1_method_4_code 23 = .ok (.arraylength, 1) := by decide +kernel
theorem d_D_insert_24 : decode prog_1_method_4_code 24 = .ok (.iload_n 2, 1) := by decide +kernel
theorem d_D_insert_25 : decode prog_1_method_4_code 25 = .ok (.iload_n 1, 1) := by decide +kernel
theorem d_D_insert_26 : decode prog_1_method_4_code 26 = .ok (.isub, 1) := by decide +kernel
theorem d_D_insert_27 : decode prog_1_method_4_code 27 = .ok (.isub, 1) := by decide +kernel
theorem d_D_insert_28 : decode prog_1_method_4_code 28 = .ok (.aload_n 0, 1) := by decide +kernel
theorem d_D_insert_29 : decode prog_1_method_4_code 29 = .ok (.getfield 56, 3) := by decide +kernel
theorem d_D_insert_32 : decode prog_1_method_4_code 32 = .ok (.iadd, 1) := by decide +kernel
theorem d_D_insert_33 : decode prog_1_method_4_code 33 = .ok (.sipush 160, 3) := by decide +kernel
theorem d_D_insert_36 : decode prog_1_method_4_code 36 = .ok (.if_icmp .le 11, 3) := by decide +kernel
theorem d_D_insert_47 : decode prog_1_method_4_code 47 = .ok (.iload_n 1, 1) := by decide +kernel
theorem d_D_insert_48 : decode prog_1_method_4_code 48 = .ok (.iload_n 2, 1) := by decide +kernel
theorem d_D_insert_49 : decode prog_1_method_4_code 49 = .ok (.if_icmp .lt 10, 3) := by decide +kernel
theorem d_D_insert_52 : decode prog_1_method_4_code 52 = .ok (.aload_n 0, 1) := by decide +kernel
theorem d_D_insert_53 : decode prog_1_method_4_code 53 = .ok (.getfield 56, 3) := by decide +kernel
theorem d_D_insert_56 : decode prog_1_method_4_code 56 = .ok (.ifCond .le 18, 3) := by decide +kernel
theorem d_D_insert_74 : decode prog_1_method_4_code 74 = .ok (.aload_n 0, 1) := by decide +kernel
theorem d_D_insert_75 : decode prog_1_method_4_code 75 = .ok (.getfield 73, 3) := by decide +kernel
theorem d_D_insert_78 : decode prog_1_method_4_code 78 = .ok (.ireturn, 1) := by decide +kernel
theorem d_L_insert_6 : decode method_3_code 6 = .ok (.i2l, 1) := by decide +kernel
theorem d_L_insert_7 : decode method_3_code 7 = .ok (.lastore, 1) := by decide +kernel
end
section
theorem d_L_insert_8 : decode method_3_code 8 = .ok (.goto 6, 3) := by decide +kernel
theorem d_L_insert_14 : decode method_3_code 14 = .ok (.iconst 0, 1) := by decide +kernel
theorem d_L_insert_15 : decode method_3_code 15 = .ok (.ireturn, 1) := by decide +kernel
theorem d_L_law_165 : decode code 165 = .ok (.istore 5, 2) := by decide +kernel
theorem d_L_law_167 : decode code 167 = .ok (.aload_n 2, 1) := by decide +kernel
theorem d_L_law_168 : decode code 168 = .ok (.invokevirtual 80, 3) := by decide +kernel
theorem d_M_insert_0 : decode prog_6_method_15_code 0 = .ok (.aload_n 0, 1) := by decide +kernel
theorem d_M_insert_1 : decode prog_6_method_15_code 1 = .ok (.invokevirtual 116, 3) := by decide +kernel
theorem d_M_low_0 : decode prog_6_method_13_code 0 = .ok (.aload_n 0, 1) := by decide +kernel
theorem d_M_low_1 : decode prog_6_method_13_code 1 = .ok (.getfield 33, 3) := by decide +kernel
theorem d_M_low_4 : decode prog_6_method_13_code 4 = .ok (.ifCond .lt 21, 3) := by decide +kernel
theorem d_M_low_25 : decode prog_6_method_13_code 25 = .ok (.aload_n 0, 1) := by decide +kernel
theorem d_M_low_26 : decode prog_6_method_13_code 26 = .ok (.getfield 95, 3) := by decide +kernel
theorem d_M_low_29 : decode prog_6_method_13_code 29 = .ok (.ireturn, 1) := by decide +kernel
theorem d_M_insert_4 : decode prog_6_method_15_code 4 = .ok (.istore_n 1, 1) := by decide +kernel
theorem d_M_insert_5 : decode prog_6_method_15_code 5 = .ok (.aload_n 0, 1) := by decide +kernel
theorem d_M_insert_6 : decode prog_6_method_15_code 6 = .ok (.invokevirtual 120, 3) := by decide +kernel
theorem d_M_high_0 : decode prog_6_method_14_code 0 = .ok (.aload_n 0, 1) := by decide +kernel
theorem d_M_high_1 : decode prog_6_method_14_code 1 = .ok (.getfield 33, 3) := by decide +kernel
theorem d_M_high_4 : decode prog_6_method_14_code 4 = .ok (.aload_n 0, 1) := by decide +kernel
theorem d_M_high_5 : decode prog_6_method_14_code 5 = .ok (.getfield 95, 3) := by decide +kernel
theorem d_M_high_8 : decode prog_6_method_14_code 8 = .ok (.if_icmp .le 10, 3) := by decide +kernel
theorem d_M_high_18 : decode prog_6_method_14_code 18 = .ok (.aload_n 0, 1) := by decide +kernel
theorem d_M_high_19 : decode prog_6_method_14_code 19 = .ok (.getfield 95, 3) := by decide +kernel
theorem d_M_high_22 : decode prog_6_method_14_code 22 = .ok (.ireturn, 1) := by decide +kernel
theorem d_M_insert_9 : decode prog_6_method_15_code 9 = .ok (.istore_n 2, 1) := by decide +kernel
theorem d_M_insert_10 : decode prog_6_method_15_code 10 = .ok (.iload_n 2, 1) := by decide +kernel
theorem d_M_insert_11 : decode prog_6_method_15_code 11 = .ok (.iload_n 1, 1) := by decide +kernel
theorem d_M_insert_12 : decode prog_6_method_15_code 12 = .ok (.if_icmp .gt 10, 3) := by decide +kernel
theorem d_M_insert_15 : decode prog_6_method_15_code 15 = .ok (.aload_n 0, 1) := by decide +kernel
theorem d_M_insert_16 : decode prog_6_method_15_code 16 = .ok (.getfield 89, 3) := by decide +kernel
theorem d_M_insert_19 : decode prog_6_method_15_code 19 = .ok (.ifCond .le 7, 3) := by decide +kernel
theorem d_M_insert_26 : decode prog_6_method_15_code 26 = .ok (.iconst 0, 1) := by decide +kernel
theorem d_M_insert_27 : decode prog_6_method_15_code 27 = .ok (.istore_n 3, 1) := by decide +kernel
theorem d_M_insert_28 : decode prog_6_method_15_code 28 = .ok (.aload_n 0, 1) := by decide +kernel
theorem d_M_insert_29 : decode prog_6_method_15_code 29 = .ok (.iload_n 3, 1) := by decide +kernel
theorem d_M_insert_30 : decode prog_6_method_15_code 30 = .ok (.ifCond .eq 35, 3) := by decide +kernel
theorem d_M_insert_65 : decode prog_6_method_15_code 65 = .ok (.iconst 0, 1) := by decide +kernel
theorem d_M_insert_66 : decode prog_6_method_15_code 66 = .ok (.putfield 82, 3) := by decide +kernel
theorem d_M_insert_69 : decode prog_6_method_15_code 69 = .ok (.aload_n 0, 1) := by decide +kernel
theorem d_M_insert_70 : decode prog_6_method_15_code 70 = .ok (.getfield 82, 3) := by decide +kernel
theorem d_M_insert_73 : decode prog_6_method_15_code 73 = .ok (.ifCond .le 5, 3) := by decide +kernel
theorem d_M_insert_78 : decode prog_6_method_15_code 78 = .ok (.iload_n 3, 1) := by decide +kernel
theorem d_M_insert_79 : decode prog_6_method_15_code 79 = .ok (.ifCond .eq 39, 3) := by decide +kernel
theorem d_M_insert_118 : decode prog_6_method_15_code 118 = .ok (.aload_n 0, 1) := by decide +kernel
theorem d_M_insert_119 : decode prog_6_method_15_code 119 = .ok (.iconst 0, 1) := by decide +kernel
theorem d_M_insert_120 : decode prog_6_method_15_code 120 = .ok (.putfield 89, 3) := by decide +kernel
theorem d_M_insert_123 : decode prog_6_method_15_code 123 = .ok (.aload_n 0, 1) := by decide +kernel
theorem d_M_insert_124 : decode prog_6_method_15_code 124 = .ok (.getfield 92, 3) := by decide +kernel
theorem d_M_insert_127 : decode prog_6_method_15_code 127 = .ok (.ireturn, 1) := by decide +kernel
theorem d_L_law_171 : decode code 171 = .ok (.istore 6, 2) := by decide +kernel
theorem d_L_law_173 : decode code 173 = .ok (.aload_n 2, 1) := by decide +kernel
theorem d_L_law_174 : decode code 174 = .ok (.invokevirtual 81, 3) := by decide +kernel
theorem d_M_thrown_0 : decode prog_6_method_2_code 0 = .ok (.aload_n 0, 1) := by decide +kernel
theorem d_M_thrown_1 : decode prog_6_method_2_code 1 = .ok (.getfield 82, 3) := by decide +kernel
theorem d_M_thrown_4 : decode prog_6_method_2_code 4 = .ok (.ireturn, 1) := by decide +kernel
theorem d_L_law_177 : decode code 177 = .ok (.iload 5, 2) := by decide +kernel
theorem d_L_law_179 : decode code 179 = .ok (.if_icmp .eq 5, 3) := by decide +kernel
theorem d_L_law_184 : decode code 184 = .ok (.iload 5, 2) := by decide +kernel
theorem d_L_law_186 : decode code 186 = .ok (.ifCond .ne 15, 3) := by decide +kernel
theorem d_L_law_189 : decode code 189 = .ok (.aload_n 3, 1) := by decide +kernel
theorem d_L_law_190 : decode code 190 = .ok (.iconst 0, 1) := by decide +kernel
theorem d_L_law_191 : decode code 191 = .ok (.laload, 1) := by decide +kernel
theorem d_L_law_192 : decode code 192 = .ok (.iload 6, 2) := by decide +kernel
theorem d_L_law_194 : decode code 194 = .ok (.i2l, 1) := by decide +kernel
theorem d_L_law_195 : decode code 195 = .ok (.lcmp, 1) := by decide +kernel
theorem d_L_law_196 : decode code 196 = .ok (.ifCond .eq 5, 3) := by decide +kernel
theorem d_L_law_201 : decode code 201 = .ok (.goto 633, 3) := by decide +kernel
theorem d_L_law_204 : decode code 204 = .ok (.aload_n 1, 1) := by decide +kernel
theorem d_L_law_205 : decode code 205 = .ok (.aload_n 0, 1) := by decide +kernel
theorem d_L_law_206 : decode code 206 = .ok (.iload 4, 2) := by decide +kernel
theorem d_L_law_208 : decode code 208 = .ok (.iconst 1, 1) := by decide +kernel
theorem d_L_law_209 : decode code 209 = .ok (.iadd, 1) := by decide +kernel
theorem d_L_law_210 : decode code 210 = .ok (.iaload, 1) := by decide +kernel
theorem d_L_law_211 : decode code 211 = .ok (.aload_n 3, 1) := by decide +kernel
theorem d_L_law_212 : decode code 212 = .ok (.invokestatic 84, 3) := by decide +kernel
theorem d_L_erase_0 : decode method_4_code 0 = .ok (.aload_n 2, 1) := by decide +kernel
theorem d_L_erase_1 : decode method_4_code 1 = .ok (.iconst 0, 1) := by decide +kernel
theorem d_L_erase_2 : decode method_4_code 2 = .ok (.aload_n 0, 1) := by decide +kernel
theorem d_L_erase_3 : decode method_4_code 3 = .ok (.iload_n 1, 1) := by decide +kernel
theorem d_L_erase_4 : decode method_4_code 4 = .ok (.invokevirtual 15, 3) := by decide +kernel
theorem d_D_erase_0 : decode prog_1_method_5_code 0 = .ok (.aload_n 0, 1) := by decide +kernel
theorem d_D_erase_1 : decode prog_1_method_5_code 1 = .ok (.invokevirtual 59, 3) := by decide +kernel
theorem d_D_erase_4 : decode prog_1_method_5_code 4 = .ok (.istore_n 2, 1) := by decide +kernel
theorem d_D_erase_5 : decode prog_1_method_5_code 5 = .ok (.aload_n 0, 1) := by decide +kernel
theorem d_D_erase_6 : decode prog_1_method_5_code 6 = .ok (.invokevirtual 63, 3) := by decide +kernel
theorem d_D_erase_9 : decode prog_1_method_5_code 9 = .ok (.istore_n 3, 1) := by decide +kernel
theorem d_D_erase_10 : decode prog_1_method_5_code 10 = .ok (.iload_n 2, 1) := by decide +kernel
theorem d_D_erase_11 : decode prog_1_method_5_code 11 = .ok (.iload_n 3, 1) := by decide +kernel
theorem d_D_erase_12 : decode prog_1_method_5_code 12 = .ok (.if_icmp .ne 21, 3) := by decide +kernel
theorem d_D_erase_15 : decode prog_1_method_5_code 15 = .ok (.iload_n 1, 1) := by decide +kernel
theorem d_D_erase_16 : decode prog_1_method_5_code 16 = .ok (.ifCond .ge 17, 3) := by decide +kernel
theorem d_D_erase_19 : decode prog_1_method_5_code 19 = .ok (.iconst 0, 1) := by decide +kernel
theorem d_D_erase_20 : decode prog_1_method_5_code 20 = .ok (.aload_n 0, 1) := by decide +kernel
theorem d_D_erase_21 : decode prog_1_method_5_code 21 = .ok (.getfield 76, 3) := by decide +kernel
theorem d_D_erase_24 : decode prog_1_method_5_code 24 = .ok (.iload_n 1, 1) := by decide +kernel
theorem d_D_erase_25 : decode prog_1_method_5_code 25 = .ok (.iadd, 1) := by decide +kernel
theorem d_D_erase_26 : decode prog_1_method_5_code 26 = .ok (.invokestatic 79, 3) := by decide +kernel
theorem d_D_erase_29 : decode prog_1_method_5_code 29 = .ok (.istore_n 2, 1) := by decide +kernel
theorem d_D_erase_30 : decode prog_1_method_5_code 30 = .ok (.goto 28, 3) := by decide +kernel
theorem d_D_erase_58 : decode prog_1_method_5_code 58 = .ok (.iload_n 2, 1) := by decide +kernel
theorem d_D_erase_59 : decode prog_1_method_5_code 59 = .ok (.iload_n 3, 1) := by decide +kernel
theorem d_D_erase_60 : decode prog_1_method_5_code 60 = .ok (.if_icmp .ge 27, 3) := by decide +kernel
theorem d_D_erase_87 : decode prog_1_method_5_code 87 = .ok (.iload_n 3, 1) := by decide +kernel
theorem d_D_erase_88 : decode prog_1_method_5_code 88 = .ok (.iload_n 2, 1) := by decide +kernel
theorem d_D_erase_89 : decode prog_1_method_5_code 89 = .ok (.isub, 1) := by decide +kernel
theorem d_D_erase_90 : decode prog_1_method_5_code 90 = .ok (.ireturn, 1) := by decide +kernel
theorem d_L_erase_7 : decode method_4_code 7 = .ok (.i2l, 1) := by decide +kernel
theorem d_L_erase_8 : decode method_4_code 8 = .ok (.lastore, 1) := by decide +kernel
theorem d_L_erase_9 : decode method_4_code 9 = .ok (.goto 6, 3) := by decide +kernel
theorem d_L_erase_15 : decode method_4_code 15 = .ok (.iconst 0, 1) := by decide +kernel
theorem d_L_erase_16 : decode method_4_code 16 = .ok (.ireturn, 1) := by decide +kernel
theorem d_L_law_215 : decode code 215 = .ok (.istore 5, 2) := by decide +kernel
theorem d_L_law_217 : decode code 217 = .ok (.aload_n 2, 1) := by decide +kernel
theorem d_L_law_218 : decode code 218 = .ok (.aload_n 0, 1) := by decide +kernel
theorem d_L_law_219 : decode code 219 = .ok (.iload 4, 2) := by decide +kernel
theorem d_L_law_221 : decode code 221 = .ok (.iconst 1, 1) := by decide +kernel
theorem d_L_law_222 : decode code 222 = .ok (.iadd, 1) := by decide +kernel
theorem d_L_law_223 : decode code 223 = .ok (.iaload, 1) := by decide +kernel
theorem d_L_law_224 : decode code 224 = .ok (.invokevirtual 87, 3) := by decide +kernel
theorem d_M_erase_0 : decode prog_6_method_16_code 0 = .ok (.aload_n 0, 1) := by decide +kernel
theorem d_M_erase_1 : decode prog_6_method_16_code 1 = .ok (.invokevirtual 116, 3) := by decide +kernel
theorem d_M_erase_4 : decode prog_6_method_16_code 4 = .ok (.istore_n 2, 1) := by decide +kernel
theorem d_M_erase_5 : decode prog_6_method_16_code 5 = .ok (.aload_n 0, 1) := by decide +kernel
theorem d_M_erase_6 : decode prog_6_method_16_code 6 = .ok (.invokevirtual 120, 3) := by decide +kernel
theorem d_M_erase_9 : decode prog_6_method_16_code 9 = .ok (.istore_n 3, 1) := by decide +kernel
theorem d_M_erase_10 : decode prog_6_method_16_code 10 = .ok (.iload_n 2, 1) := by decide +kernel
theorem d_M_erase_11 : decode prog_6_method_16_code 11 = .ok (.iload_n 3, 1) := by decide +kernel
theorem d_M_erase_12 : decode prog_6_method_16_code 12 = .ok (.if_icmp .ne 76, 3) := by decide +kernel
theorem d_M_erase_15 : decode prog_6_method_16_code 15 = .ok (.aload_n 0, 1) := by decide +kernel
theorem d_M_erase_16 : decode prog_6_method_16_code 16 = .ok (.invokevirtual 123, 3) := by decide +kernel
theorem d_M_textLength_0 : decode prog_6_method_7_code 0 = .ok (.aload_n 0, 1) := by decide +kernel
theorem d_M_textLength_1 : decode prog_6_method_7_code 1 = .ok (.getfield 20, 3) := by decide +kernel
theorem d_M_textLength_4 : decode prog_6_method_7_code 4 = .ok (.aload_n 0, 1) := by decide +kernel
theorem d_M_textLength_5 : decode prog_6_method_7_code 5 = .ok (.getfield 92, 3) := by decide +kernel
theorem d_M_textLength_8 : decode prog_6_method_7_code 8 = .ok (.iaload, 1) := by decide +kernel
theorem d_M_textLength_9 : decode prog_6_method_7_code 9 = .ok (.ireturn, 1) := by decide +kernel
theorem d_M_erase_19 : decode prog_6_method_16_code 19 = .ok (.aload_n 0, 1) := by decide +kernel
theorem d_M_erase_20 : decode prog_6_method_16_code 20 = .ok (.getfield 95, 3) := by decide +kernel
theorem d_M_erase_23 : decode prog_6_method_16_code 23 = .ok (.isub, 1) := by decide +kernel
theorem d_M_erase_24 : decode prog_6_method_16_code 24 = .ok (.istore 4, 2) := by decide +kernel
theorem d_M_erase_26 : decode prog_6_method_16_code 26 = .ok (.iload_n 1, 1) := by decide +kernel
theorem d_M_erase_27 : decode prog_6_method_16_code 27 = .ok (.ifCond .lt 10, 3) := by decide +kernel
theorem d_M_erase_37 : decode prog_6_method_16_code 37 = .ok (.iload_n 1, 1) := by decide +kernel
theorem d_M_erase_38 : decode prog_6_method_16_code 38 = .ok (.aload_n 0, 1) := by decide +kernel
theorem d_M_erase_39 : decode prog_6_method_16_code 39 = .ok (.getfield 95, 3) := by decide +kernel
theorem d_M_erase_42 : decode prog_6_method_16_code 42 = .ok (.ineg, 1) := by decide +kernel
theorem d_M_erase_43 : decode prog_6_method_16_code 43 = .ok (.if_icmp .ge 7, 3) := by decide +kernel
theorem d_M_erase_46 : decode prog_6_method_16_code 46 = .ok (.iconst 0, 1) := by decide +kernel
theorem d_M_erase_47 : decode prog_6_method_16_code 47 = .ok (.goto 9, 3) := by decide +kernel
theorem d_M_erase_56 : decode prog_6_method_16_code 56 = .ok (.istore_n 2, 1) := by decide +kernel
theorem d_M_erase_57 : decode prog_6_method_16_code 57 = .ok (.iload_n 1, 1) := by decide +kernel
theorem d_M_erase_58 : decode prog_6_method_16_code 58 = .ok (.ifCond .ge 10, 3) := by decide +kernel
theorem d_M_erase_61 : decode prog_6_method_16_code 61 = .ok (.aload_n 0, 1) := by decide +kernel
theorem d_M_erase_62 : decode prog_6_method_16_code 62 = .ok (.getfield 95, 3) := by decide +kernel
theorem d_M_erase_65 : decode prog_6_method_16_code 65 = .ok (.goto 22, 3) := by decide +kernel
theorem d_M_erase_87 : decode prog_6_method_16_code 87 = .ok (.istore_n 3, 1) := by decide +kernel
theorem d_M_erase_88 : decode prog_6_method_16_code 88 = .ok (.aload_n 0, 1) := by decide +kernel
theorem d_M_erase_89 : decode prog_6_method_16_code 89 = .ok (.iload_n 3, 1) := by decide +kernel
theorem d_M_erase_90 : decode prog_6_method_16_code 90 = .ok (.iload_n 2, 1) := by decide +kernel
theorem d_M_erase_91 : decode prog_6_method_16_code 91 = .ok (.if_icmp .le 16, 3) := by decide +kernel
theorem d_M_erase_107 : decode prog_6_method_16_code 107 = .ok (.iconst 0, 1) := by decide +kernel
theorem d_M_erase_108 : decode prog_6_method_16_code 108 = .ok (.putfield 82, 3) := by decide +kernel
theorem d_M_erase_111 : decode prog_6_method_16_code 111 = .ok (.aload_n 0, 1) := by decide +kernel
theorem d_M_erase_112 : decode prog_6_method_16_code 112 = .ok (.getfield 82, 3) := by decide +kernel
theorem d_M_erase_115 : decode prog_6_method_16_code 115 = .ok (.ifCond .gt 8, 3) := by decide +kernel
theorem d_M_erase_118 : decode prog_6_method_16_code 118 = .ok (.iload_n 2, 1) := by decide +kernel
theorem d_M_erase_119 : decode prog_6_method_16_code 119 = .ok (.iload_n 3, 1) := by decide +kernel
theorem d_M_erase_120 : decode prog_6_method_16_code 120 = .ok (.if_icmp .ne 5, 3) := by decide +kernel
theorem d_M_erase_123 : decode prog_6_method_16_code 123 = .ok (.iconst 0, 1) := by decide +kernel
theorem d_M_erase_124 : decode prog_6_method_16_code 124 = .ok (.ireturn, 1) := by decide +kernel
theorem d_L_law_227 : decode code 227 = .ok (.istore 6, 2) := by decide +kernel
theorem d_L_law_229 : decode code 229 = .ok (.aload_n 2, 1) := by decide +kernel
theorem d_L_law_230 : decode code 230 = .ok (.invokevirtual 81, 3) := by decide +kernel
theorem d_L_law_233 : decode code 233 = .ok (.iload 5, 2) := by decide +kernel
theorem d_L_law_235 : decode code 235 = .ok (.if_icmp .eq 5, 3) := by decide +kernel
theorem d_L_law_240 : decode code 240 = .ok (.iload 5, 2) := by decide +kernel
theorem d_L_law_242 : decode code 242 = .ok (.ifCond .ne 15, 3) := by decide +kernel
theorem d_L_law_245 : decode code 245 = .ok (.aload_n 3, 1) := by decide +kernel
theorem d_L_law_246 : decode code 246 = .ok (.iconst 0, 1) := by decide +kernel
theorem d_L_law_247 : decode code 247 = .ok (.laload, 1) := by decide +kernel
theorem d_L_law_248 : decode code 248 = .ok (.iload 6, 2) := by decide +kernel
theorem d_L_law_250 : decode code 250 = .ok (.i2l, 1) := by decide +kernel
theorem d_L_law_251 : decode code 251 = .ok (.lcmp, 1) := by decide +kernel
theorem d_L_law_252 : decode code 252 = .ok (.ifCond .eq 5, 3) := by decide +kernel
theorem d_L_law_257 : decode code 257 = .ok (.goto 577, 3) := by decide +kernel
theorem d_D_erase_33 : decode prog_1_method_5_code 33 = .ok (.iload_n 2, 1) := by decide +kernel
theorem d_D_erase_34 : decode prog_1_method_5_code 34 = .ok (.iload_n 3, 1) := by decide +kernel
theorem d_D_erase_35 : decode prog_1_method_5_code 35 = .ok (.if_icmp .ne 23, 3) := by decide +kernel
theorem d_D_erase_38 : decode prog_1_method_5_code 38 = .ok (.aload_n 0, 1) := by decide +kernel
theorem d_D_erase_39 : decode prog_1_method_5_code 39 = .ok (.getfield 76, 3) := by decide +kernel
theorem d_D_erase_42 : decode prog_1_method_5_code 42 = .ok (.iload_n 1, 1) := by decide +kernel
theorem d_D_erase_43 : decode prog_1_method_5_code 43 = .ok (.aload_n 0, 1) := by decide +kernel
theorem d_D_erase_44 : decode prog_1_method_5_code 44 = .ok (.getfield 19, 3) := by decide +kernel
theorem d_D_erase_47 : decode prog_1_method_5_code 47 = .ok (.arraylength, 1) := by decide +kernel
theorem d_D_erase_48 : decode prog_1_method_5_code 48 = .ok (.aload_n 0, 1) := by decide +kernel
theorem d_D_erase_49 : decode prog_1_method_5_code 49 = .ok (.getfield 76, 3) := by decide +kernel
theorem d_D_erase_52 : decode prog_1_method_5_code 52 = .ok (.isub, 1) := by decide +kernel
theorem d_D_erase_53 : decode prog_1_method_5_code 53 = .ok (.invokestatic 85, 3) := by decide +kernel
theorem d_D_erase_56 : decode prog_1_method_5_code 56 = .ok (.iadd, 1) := by decide +kernel
theorem d_D_erase_57 : decode prog_1_method_5_code 57 = .ok (.istore_n 3, 1) := by decide +kernel
theorem d_M_erase_30 : decode prog_6_method_16_code 30 = .ok (.aload_n 0, 1) := by decide +kernel
theorem d_M_erase_31 : decode prog_6_method_16_code 31 = .ok (.getfield 95, 3) := by decide +kernel
theorem d_M_erase_34 : decode prog_6_method_16_code 34 = .ok (.goto 22, 3) := by decide +kernel
theorem d_M_erase_68 : decode prog_6_method_16_code 68 = .ok (.iload_n 1, 1) := by decide +kernel
theorem d_M_erase_69 : decode prog_6_method_16_code 69 = .ok (.iload 4, 2) := by decide +kernel
theorem d_M_erase_71 : decode prog_6_method_16_code 71 = .ok (.if_icmp .le 10, 3) := by decide +kernel
theorem d_M_erase_74 : decode prog_6_method_16_code 74 = .ok (.aload_n 0, 1) := by decide +kernel
theorem d_M_erase_75 : decode prog_6_method_16_code 75 = .ok (.invokevirtual 123, 3) := by decide +kernel
theorem d_M_erase_78 : decode prog_6_method_16_code 78 = .ok (.goto 9, 3) := by decide +kernel
theorem d_M_erase_81 : decode prog_6_method_16_code 81 = .ok (.aload_n 0, 1) := by decide +kernel
theorem d_M_erase_82 : decode prog_6_method_16_code 82 = .ok (.getfield 95, 3) := by decide +kernel
theorem d_M_erase_85 : decode prog_6_method_16_code 85 = .ok (.iload_n 1, 1) := by decide +kernel
theorem d_M_erase_86 : decode prog_6_method_16_code 86 = .ok (.iadd, 1) := by decide +kernel
theorem d_L_law_260 : decode code 260 = .ok (.aload_n 1, 1) := by decide +kernel
theorem d_L_law_261 : decode code 261 = .ok (.aload_n 0, 1) := by decide +kernel
theorem d_L_law_262 : decode code 262 = .ok (.iload 4, 2) := by decide +kernel
theorem d_L_law_264 : decode code 264 = .ok (.iconst 1, 1) := by decide +kernel
theorem d_L_law_265 : decode code 265 = .ok (.iadd, 1) := by decide +kernel
theorem d_L_law_266 : decode code 266 = .ok (.iaload, 1) := by decide +kernel
theorem d_L_law_267 : decode code 267 = .ok (.aload_n 0, 1) := by decide +kernel
theorem d_L_law_268 : decode code 268 = .ok (.iload 4, 2) := by decide +kernel
theorem d_L_law_270 : decode code 270 = .ok (.iconst 2, 1) := by decide +kernel
theorem d_L_law_271 : decode code 271 = .ok (.iadd, 1) := by decide +kernel
theorem d_L_law_272 : decode code 272 = .ok (.iaload, 1) := by decide +kernel
theorem d_L_law_273 : decode code 273 = .ok (.ifCond .eq 7, 3) := by decide +kernel
theorem d_L_law_280 : decode code 280 = .ok (.iconst 0, 1) := by decide +kernel
theorem d_L_law_281 : decode code 281 = .ok (.invokestatic 88, 3) := by decide +kernel
theorem d_L_go_0 : decode method_5_code 0 = .ok (.aload_n 0, 1) := by decide +kernel
theorem d_L_go_1 : decode method_5_code 1 = .ok (.iload_n 1, 1) := by decide +kernel
theorem d_L_go_2 : decode method_5_code 2 = .ok (.iload_n 2, 1) := by decide +kernel
theorem d_L_go_3 : decode method_5_code 3 = .ok (.invokevirtual 19, 3) := by decide +kernel
theorem d_D_go_0 : decode prog_1_method_6_code 0 = .ok (.aload_n 0, 1) := by decide +kernel
theorem d_D_go_1 : decode prog_1_method_6_code 1 = .ok (.iload_n 1, 1) := by decide +kernel
theorem d_D_go_2 : decode prog_1_method_6_code 2 = .ok (.invokevirtual 88, 3) := by decide +kernel
theorem d_D_requirePlace_0 : decode prog_1_method_19_code 0 = .ok (.iload_n 1, 1) := by decide +kernel
theorem d_D_requirePlace_1 : decode prog_1_method_19_code 1 = .ok (.ifCond .lt 12, 3) := by decide +kernel
theorem d_D_requirePlace_4 : decode prog_1_method_19_code 4 = .ok (.iload_n 1, 1) := by decide +kernel
theorem d_D_requirePlace_5 : decode prog_1_method_19_code 5 = .ok (.aload_n 0, 1) := by decide +kernel
theorem d_D_requirePlace_6 : decode prog_1_method_19_code 6 = .ok (.getfield 19, 3) := by decide +kernel
theorem d_D_requirePlace_9 : decode prog_1_method_19_code 9 = .ok (.arraylength, 1) := by decide +kernel
theorem d_D_requirePlace_10 : decode prog_1_method_19_code 10 = .ok (.if_icmp .le 11, 3) := by decide +kernel
theorem d_D_requirePlace_21 : decode prog_1_method_19_code 21 = .ok (.return_, 1) := by decide +kernel
theorem d_D_go_5 : decode prog_1_method_6_code 5 = .ok (.iload_n 2, 1) := by decide +kernel
theorem d_D_go_6 : decode prog_1_method_6_code 6 = .ok (.ifCond .ne 11, 3) := by decide +kernel
theorem d_D_go_9 : decode prog_1_method_6_code 9 = .ok (.aload_n 0, 1) := by decide +kernel
theorem d_D_go_10 : decode prog_1_method_6_code 10 = .ok (.iconst (-1), 1) := by decide +kernel
theorem d_D_go_11 : decode prog_1_method_6_code 11 = .ok (.putfield 29, 3) := by decide +kernel
theorem d_D_go_14 : decode prog_1_method_6_code 14 = .ok (.goto 19, 3) := by decide +kernel
theorem d_D_go_33 : decode prog_1_method_6_code 33 = .ok (.aload_n 0, 1) := by decide +kernel
theorem d_D_go_34 : decode prog_1_method_6_code 34 = .ok (.iload_n 1, 1) := by decide +kernel
theorem d_D_go_35 : decode prog_1_method_6_code 35 = .ok (.putfield 76, 3) := by decide +kernel
theorem d_D_go_38 : decode prog_1_method_6_code 38 = .ok (.aload_n 0, 1) := by decide +kernel
theorem d_D_go_39 : decode prog_1_method_6_code 39 = .ok (.getfield 29, 3) := by decide +kernel
theorem d_D_go_42 : decode prog_1_method_6_code 42 = .ok (.aload_n 0, 1) := by decide +kernel
theorem d_D_go_43 : decode prog_1_method_6_code 43 = .ok (.getfield 76, 3) := by decide +kernel
theorem d_D_go_46 : decode prog_1_method_6_code 46 = .ok (.if_icmp .ne 8, 3) := by decide +kernel
theorem d_D_go_54 : decode prog_1_method_6_code 54 = .ok (.return_, 1) := by decide +kernel
theorem d_L_go_6 : decode method_5_code 6 = .ok (.goto 6, 3) := by decide +kernel
theorem d_L_go_12 : decode method_5_code 12 = .ok (.iconst 0, 1) := by decide +kernel
theorem d_L_go_13 : decode method_5_code 13 = .ok (.ireturn, 1) := by decide +kernel
theorem d_L_law_284 : decode code 284 = .ok (.istore 5, 2) := by decide +kernel
theorem d_L_law_286 : decode code 286 = .ok (.aload_n 2, 1) := by decide +kernel
theorem d_L_law_287 : decode code 287 = .ok (.aload_n 0, 1) := by decide +kernel
theorem d_L_law_288 : decode code 288 = .ok (.iload 4, 2) := by decide +kernel
theorem d_L_law_290 : decode code 290 = .ok (.iconst 1, 1) := by decide +kernel
theorem d_L_law_291 : decode code 291 = .ok (.iadd, 1) := by decide +kernel
theorem d_L_law_292 : decode code 292 = .ok (.iaload, 1) := by decide +kernel
theorem d_L_law_293 : decode code 293 = .ok (.aload_n 0, 1) := by decide +kernel
theorem d_L_law_294 : decode code 294 = .ok (.iload 4, 2) := by decide +kernel
theorem d_L_law_296 : decode code 296 = .ok (.iconst 2, 1) := by decide +kernel
theorem d_L_law_297 : decode code 297 = .ok (.iadd, 1) := by decide +kernel
theorem d_L_law_298 : decode code 298 = .ok (.iaload, 1) := by decide +kernel
theorem d_L_law_299 : decode code 299 = .ok (.ifCond .eq 7, 3) := by decide +kernel
theorem d_L_law_306 : decode code 306 = .ok (.iconst 0, 1) := by decide +kernel
theorem d_L_law_307 : decode code 307 = .ok (.invokevirtual 91, 3) := by decide +kernel
theorem d_M_go_0 : decode prog_6_method_17_code 0 = .ok (.aload_n 0, 1) := by decide +kernel
theorem d_M_go_1 : decode prog_6_method_17_code 1 = .ok (.iload_n 1, 1) := by decide +kernel
theorem d_M_go_2 : decode prog_6_method_17_code 2 = .ok (.ifCond .lt 11, 3) := by decide +kernel
theorem d_M_go_5 : decode prog_6_method_17_code 5 = .ok (.iload_n 1, 1) := by decide +kernel
theorem d_M_go_6 : decode prog_6_method_17_code 6 = .ok (.aload_n 0, 1) := by decide +kernel
theorem d_M_go_7 : decode prog_6_method_17_code 7 = .ok (.invokevirtual 123, 3) := by decide +kernel
theorem d_M_go_10 : decode prog_6_method_17_code 10 = .ok (.if_icmp .le 7, 3) := by decide +kernel
theorem d_M_go_17 : decode prog_6_method_17_code 17 = .ok (.iconst 0, 1) := by decide +kernel
theorem d_M_go_18 : decode prog_6_method_17_code 18 = .ok (.putfield 82, 3) := by decide +kernel
theorem d_M_go_21 : decode prog_6_method_17_code 21 = .ok (.aload_n 0, 1) := by decide +kernel
theorem d_M_go_22 : decode prog_6_method_17_code 22 = .ok (.getfield 82, 3) := by decide +kernel
theorem d_M_go_25 : decode prog_6_method_17_code 25 = .ok (.ifCond .le 4, 3) := by decide +kernel
theorem d_M_go_29 : decode prog_6_method_17_code 29 = .ok (.aload_n 0, 1) := by decide +kernel
theorem d_M_go_30 : decode prog_6_method_17_code 30 = .ok (.iload_n 2, 1) := by decide +kernel
theorem d_M_go_31 : decode prog_6_method_17_code 31 = .ok (.ifCond .ne 7, 3) := by decide +kernel
theorem d_M_go_34 : decode prog_6_method_17_code 34 = .ok (.iconst (-1), 1) := by decide +kernel
theorem d_M_go_35 : decode prog_6_method_17_code 35 = .ok (.goto 21, 3) := by decide +kernel
theorem d_M_go_56 : decode prog_6_method_17_code 56 = .ok (.putfield 33, 3) := by decide +kernel
theorem d_M_go_59 : decode prog_6_method_17_code 59 = .ok (.aload_n 0, 1) := by decide +kernel
theorem d_M_go_60 : decode prog_6_method_17_code 60 = .ok (.iload_n 1, 1) := by decide +kernel
theorem d_M_go_61 : decode prog_6_method_17_code 61 = .ok (.putfield 95, 3) := by decide +kernel
theorem d_M_go_64 : decode prog_6_method_17_code 64 = .ok (.aload_n 0, 1) := by decide +kernel
theorem d_M_go_65 : decode prog_6_method_17_code 65 = .ok (.aload_n 0, 1) := by decide +kernel
theorem d_M_go_66 : decode prog_6_method_17_code 66 = .ok (.getfield 33, 3) := by decide +kernel
theorem d_M_go_69 : decode prog_6_method_17_code 69 = .ok (.aload_n 0, 1) := by decide +kernel
theorem d_M_go_70 : decode prog_6_method_17_code 70 = .ok (.getfield 95, 3) := by decide +kernel
theorem d_M_go_73 : decode prog_6_method_17_code 73 = .ok (.if_icmp .ne 7, 3) := by decide +kernel
theorem d_M_go_80 : decode prog_6_method_17_code 80 = .ok (.aload_n 0, 1) := by decide +kernel
theorem d_M_go_81 : decode prog_6_method_17_code 81 = .ok (.getfield 33, 3) := by decide +kernel
theorem d_M_go_84 : decode prog_6_method_17_code 84 = .ok (.putfield 33, 3) := by decide +kernel
theorem d_M_go_87 : decode prog_6_method_17_code 87 = .ok (.return_, 1) := by decide +kernel
theorem d_L_law_310 : decode code 310 = .ok (.aload_n 2, 1) := by decide +kernel
theorem d_L_law_311 : decode code 311 = .ok (.invokevirtual 81, 3) := by decide +kernel
theorem d_L_law_314 : decode code 314 = .ok (.iload 5, 2) := by decide +kernel
theorem d_L_law_316 : decode code 316 = .ok (.if_icmp .eq 5, 3) := by decide +kernel
theorem d_L_law_321 : decode code 321 = .ok (.goto 513, 3) := by decide +kernel
theorem d_L_law_276 : decode code 276 = .ok (.iconst 1, 1) := by decide +kernel
theorem d_L_law_277 : decode code 277 = .ok (.goto 4, 3) := by decide +kernel
theorem d_D_go_17 : decode prog_1_method_6_code 17 = .ok (.aload_n 0, 1) := by decide +kernel
theorem d_D_go_18 : decode prog_1_method_6_code 18 = .ok (.getfield 29, 3) := by decide +kernel
theorem d_D_go_21 : decode prog_1_method_6_code 21 = .ok (.iconst (-1), 1) := by decide +kernel
theorem d_D_go_22 : decode prog_1_method_6_code 22 = .ok (.if_icmp .ne 11, 3) := by decide +kernel
theorem d_D_go_25 : decode prog_1_method_6_code 25 = .ok (.aload_n 0, 1) := by decide +kernel
theorem d_D_go_26 : decode prog_1_method_6_code 26 = .ok (.aload_n 0, 1) := by decide +kernel
theorem d_D_go_27 : decode prog_1_method_6_code 27 = .ok (.getfield 76, 3) := by decide +kernel
theorem d_D_go_30 : decode prog_1_method_6_code 30 = .ok (.putfield 29, 3) := by decide +kernel
theorem d_D_go_49 : decode prog_1_method_6_code 49 = .ok (.aload_n 0, 1) := by decide +kernel
theorem d_D_go_50 : decode prog_1_method_6_code 50 = .ok (.iconst (-1), 1) := by decide +kernel
theorem d_D_go_51 : decode prog_1_method_6_code 51 = .ok (.putfield 29, 3) := by decide +kernel
theorem d_L_law_302 : decode code 302 = .ok (.iconst 1, 1) := by decide +kernel
theorem d_L_law_303 : decode code 303 = .ok (.goto 4, 3) := by decide +kernel
theorem d_M_go_38 : decode prog_6_method_17_code 38 = .ok (.aload_n 0, 1) := by decide +kernel
theorem d_M_go_39 : decode prog_6_method_17_code 39 = .ok (.getfield 33, 3) := by decide +kernel
theorem d_M_go_42 : decode prog_6_method_17_code 42 = .ok (.ifCond .ge 10, 3) := by decide +kernel
theorem d_M_go_45 : decode prog_6_method_17_code 45 = .ok (.aload_n 0, 1) := by decide +kernel
theorem d_M_go_46 : decode prog_6_method_17_code 46 = .ok (.getfield 95, 3) := by decide +kernel
theorem d_M_go_49 : decode prog_6_method_17_code 49 = .ok (.goto 7, 3) := by decide +kernel
theorem d_M_go_76 : decode prog_6_method_17_code 76 = .ok (.iconst (-1), 1) := by decide +kernel
theorem d_M_go_77 : decode prog_6_method_17_code 77 = .ok (.goto 7, 3) := by decide +kernel
theorem d_D_requirePlace_13 : decode prog_1_method_19_code 13 = .ok (.new 143, 3) := by decide +kernel
theorem d_D_requirePlace_16 : decode prog_1_method_19_code 16 = .ok (.dup, 1) := by decide +kernel
theorem d_D_requirePlace_17 : decode prog_1_method_19_code 17 = .ok (.invokespecial 145, 3) := by decide +kernel
theorem d_D_requirePlace_20 : decode prog_1_method_19_code 20 = .ok (.athrow, 1) := by decide +kernel
theorem d_L_go_9 : decode method_5_code 9 = .ok (.astore_n 3, 1) := by decide +kernel
theorem d_L_go_10 : decode method_5_code 10 = .ok (.iconst 1, 1) := by decide +kernel
theorem d_L_go_11 : decode method_5_code 11 = .ok (.ireturn, 1) := by decide +kernel
theorem d_M_go_13 : decode prog_6_method_17_code 13 = .ok (.iconst 1, 1) := by decide +kernel
theorem d_M_go_14 : decode prog_6_method_17_code 14 = .ok (.goto 4, 3) := by decide +kernel
theorem d_M_go_28 : decode prog_6_method_17_code 28 = .ok (.return_, 1) := by decide +kernel
theorem d_L_law_324 : decode code 324 = .ok (.aload_n 1, 1) := by decide +kernel
theorem d_L_law_325 : decode code 325 = .ok (.invokestatic 92, 3) := by decide +kernel
theorem d_L_compile_0 : decode method_6_code 0 = .ok (.aload_n 0, 1) := by decide +kernel
theorem d_L_compile_1 : decode method_6_code 1 = .ok (.invokevirtual 25, 3) := by decide +kernel
theorem d_D_compile_0 : decode prog_1_method_7_code 0 = .ok (.aload_n 0, 1) := by decide +kernel
theorem d_D_compile_1 : decode prog_1_method_7_code 1 = .ok (.aload_n 0, 1) := by decide +kernel
theorem d_D_compile_2 : decode prog_1_method_7_code 2 = .ok (.getfield 35, 3) := by decide +kernel
theorem d_D_compile_5 : decode prog_1_method_7_code 5 = .ok (.aload_n 0, 1) := by decide +kernel
theorem d_D_compile_6 : decode prog_1_method_7_code 6 = .ok (.getfield 9, 3) := by decide +kernel
theorem d_D_compile_9 : decode prog_1_method_7_code 9 = .ok (.aload_n 0, 1) := by decide +kernel
theorem d_D_compile_10 : decode prog_1_method_7_code 10 = .ok (.getfield 56, 3) := by decide +kernel
theorem d_D_compile_13 : decode prog_1_method_7_code 13 = .ok (.invokevirtual 92, 3) := by decide +kernel
theorem d_P_read_0 : decode prog_3_method_3_code 0 = .ok (.aload_n 0, 1) := by decide +kernel
theorem d_P_read_1 : decode prog_3_method_3_code 1 = .ok (.aload_n 1, 1) := by decide +kernel
theorem d_P_read_2 : decode prog_3_method_3_code 2 = .ok (.putfield 31, 3) := by decide +kernel
theorem d_P_read_5 : decode prog_3_method_3_code 5 = .ok (.aload_n 0, 1) := by decide +kernel
theorem d_P_read_6 : decode prog_3_method_3_code 6 = .ok (.iload_n 2, 1) := by decide +kernel
theorem d_P_read_7 : decode prog_3_method_3_code 7 = .ok (.putfield 35, 3) := by decide +kernel
theorem d_P_read_10 : decode prog_3_method_3_code 10 = .ok (.aload_n 0, 1) := by decide +kernel
theorem d_P_read_11 : decode prog_3_method_3_code 11 = .ok (.iconst 0, 1) := by decide +kernel
theorem d_P_read_12 : decode prog_3_method_3_code 12 = .ok (.putfield 39, 3) := by decide +kernel
theorem d_P_read_15 : decode prog_3_method_3_code 15 = .ok (.aload_n 0, 1) := by decide +kernel
theorem d_P_read_16 : decode prog_3_method_3_code 16 = .ok (.iconst (-1), 1) := by decide +kernel
theorem d_P_read_17 : decode prog_3_method_3_code 17 = .ok (.putfield 42, 3) := by decide +kernel
theorem d_P_read_20 : decode prog_3_method_3_code 20 = .ok (.aload_n 0, 1) := by decide +kernel
theorem d_P_read_21 : decode prog_3_method_3_code 21 = .ok (.getfield 27, 3) := by decide +kernel
theorem d_P_read_24 : decode prog_3_method_3_code 24 = .ok (.iconst 0, 1) := by decide +kernel
theorem d_P_read_25 : decode prog_3_method_3_code 25 = .ok (.putfield 45, 3) := by decide +kernel
theorem d_P_read_28 : decode prog_3_method_3_code 28 = .ok (.aload_n 0, 1) := by decide +kernel
theorem d_P_read_29 : decode prog_3_method_3_code 29 = .ok (.iconst 0, 1) := by decide +kernel
theorem d_P_read_30 : decode prog_3_method_3_code 30 = .ok (.putfield 46, 3) := by decide +kernel
theorem d_P_read_33 : decode prog_3_method_3_code 33 = .ok (.aload_n 0, 1) := by decide +kernel
theorem d_P_read_34 : decode prog_3_method_3_code 34 = .ok (.iconst (-1), 1) := by decide +kernel
theorem d_P_read_35 : decode prog_3_method_3_code 35 = .ok (.invokevirtual 49, 3) := by decide +kernel
theorem d_P_openChoice_0 : decode prog_3_method_12_code 0 = .ok (.aload_n 0, 1) := by decide +kernel
theorem d_P_openChoice_1 : decode prog_3_method_12_code 1 = .ok (.getfield 27, 3) := by decide +kernel
theorem d_P_openChoice_4 : decode prog_3_method_12_code 4 = .ok (.iconst 0, 1) := by decide +kernel
theorem d_P_openChoice_5 : decode prog_3_method_12_code 5 = .ok (.invokevirtual 113, 3) := by decide +kernel
theorem d_A_addNode_0 : decode prog_2_method_2_code 0 = .ok (.aload_n 0, 1) := by decide +kernel
theorem d_A_addNode_1 : decode prog_2_method_2_code 1 = .ok (.getfield 28, 3) := by decide +kernel
theorem d_A_addNode_4 : decode prog_2_method_2_code 4 = .ok (.istore_n 2, 1) := by decide +kernel
theorem d_A_addNode_5 : decode prog_2_method_2_code 5 = .ok (.aload_n 0, 1) := by decide +kernel
theorem d_A_addNode_6 : decode prog_2_method_2_code 6 = .ok (.getfield 11, 3) := by decide +kernel
theorem d_A_addNode_9 : decode prog_2_method_2_code 9 = .ok (.iload_n 2, 1) := by decide +kernel
theorem d_A_addNode_10 : decode prog_2_method_2_code 10 = .ok (.iload_n 1, 1) := by decide +kernel
theorem d_A_addNode_11 : decode prog_2_method_2_code 11 = .ok (.iastore, 1) := by decide +kernel
theorem d_A_addNode_12 : decode prog_2_method_2_code 12 = .ok (.aload_n 0, 1) := by decide +kernel
theorem d_A_addNode_13 : decode prog_2_method_2_code 13 = .ok (.getfield 15, 3) := by decide +kernel
theorem d_A_addNode_16 : decode prog_2_method_2_code 16 = .ok (.iload_n 2, 1) := by decide +kernel
theorem d_A_addNode_17 : decode prog_2_method_2_code 17 = .ok (.iconst (-1), 1) := by decide +kernel
theorem d_A_addNode_18 : decode prog_2_method_2_code 18 = .ok (.iastore, 1) := by decide +kernel
theorem d_A_addNode_19 : decode prog_2_method_2_code 19 = .ok (.aload_n 0, 1) := by decide +kernel
theorem d_A_addNode_20 : decode prog_2_method_2_code 20 = .ok (.getfield 18, 3) := by decide +kernel
theorem d_A_addNode_23 : decode prog_2_method_2_code 23 = .ok (.iload_n 2, 1) := by decide +kernel
theorem d_A_addNode_24 : decode prog_2_method_2_code 24 = .ok (.iconst (-1), 1) := by decide +kernel
end
section
theorem d_A_addNode_25 : decode prog_2_method_2_code 25 = .ok (.iastore, 1) := by decide +kernel
theorem d_A_addNode_26 : decode prog_2_method_2_code 26 = .ok (.aload_n 0, 1) := by decide +kernel
theorem d_A_addNode_27 : decode prog_2_method_2_code 27 = .ok (.getfield 21, 3) := by decide +kernel
theorem d_A_addNode_30 : decode prog_2_method_2_code 30 = .ok (.iload_n 2, 1) := by decide +kernel
theorem d_A_addNode_31 : decode prog_2_method_2_code 31 = .ok (.lconst 0, 1) := by decide +kernel
theorem d_A_addNode_32 : decode prog_2_method_2_code 32 = .ok (.lastore, 1) := by decide +kernel
theorem d_A_addNode_33 : decode prog_2_method_2_code 33 = .ok (.aload_n 0, 1) := by decide +kernel
theorem d_A_addNode_34 : decode prog_2_method_2_code 34 = .ok (.getfield 25, 3) := by decide +kernel
theorem d_A_addNode_37 : decode prog_2_method_2_code 37 = .ok (.iload_n 2, 1) := by decide +kernel
theorem d_A_addNode_38 : decode prog_2_method_2_code 38 = .ok (.lconst 0, 1) := by decide +kernel
theorem d_A_addNode_39 : decode prog_2_method_2_code 39 = .ok (.lastore, 1) := by decide +kernel
theorem d_A_addNode_40 : decode prog_2_method_2_code 40 = .ok (.aload_n 0, 1) := by decide +kernel
theorem d_A_addNode_41 : decode prog_2_method_2_code 41 = .ok (.dup, 1) := by decide +kernel
theorem d_A_addNode_42 : decode prog_2_method_2_code 42 = .ok (.getfield 28, 3) := by decide +kernel
theorem d_A_addNode_45 : decode prog_2_method_2_code 45 = .ok (.iconst 1, 1) := by decide +kernel
theorem d_A_addNode_46 : decode prog_2_method_2_code 46 = .ok (.iadd, 1) := by decide +kernel
theorem d_A_addNode_47 : decode prog_2_method_2_code 47 = .ok (.putfield 28, 3) := by decide +kernel
theorem d_A_addNode_50 : decode prog_2_method_2_code 50 = .ok (.iload_n 2, 1) := by decide +kernel
theorem d_A_addNode_51 : decode prog_2_method_2_code 51 = .ok (.ireturn, 1) := by decide +kernel
theorem d_P_openChoice_8 : decode prog_3_method_12_code 8 = .ok (.istore_n 2, 1) := by decide +kernel
theorem d_P_openChoice_9 : decode prog_3_method_12_code 9 = .ok (.aload_n 0, 1) := by decide +kernel
theorem d_P_openChoice_10 : decode prog_3_method_12_code 10 = .ok (.getfield 9, 3) := by decide +kernel
theorem d_P_openChoice_13 : decode prog_3_method_12_code 13 = .ok (.aload_n 0, 1) := by decide +kernel
theorem d_P_openChoice_14 : decode prog_3_method_12_code 14 = .ok (.getfield 46, 3) := by decide +kernel
theorem d_P_openChoice_17 : decode prog_3_method_12_code 17 = .ok (.iload_n 2, 1) := by decide +kernel
theorem d_P_openChoice_18 : decode prog_3_method_12_code 18 = .ok (.iastore, 1) := by decide +kernel
theorem d_P_openChoice_19 : decode prog_3_method_12_code 19 = .ok (.aload_n 0, 1) := by decide +kernel
theorem d_P_openChoice_20 : decode prog_3_method_12_code 20 = .ok (.getfield 15, 3) := by decide +kernel
theorem d_P_openChoice_23 : decode prog_3_method_12_code 23 = .ok (.aload_n 0, 1) := by decide +kernel
theorem d_P_openChoice_24 : decode prog_3_method_12_code 24 = .ok (.getfield 46, 3) := by decide +kernel
theorem d_P_openChoice_27 : decode prog_3_method_12_code 27 = .ok (.aload_n 0, 1) := by decide +kernel
theorem d_P_openChoice_28 : decode prog_3_method_12_code 28 = .ok (.getfield 27, 3) := by decide +kernel
theorem d_P_openChoice_31 : decode prog_3_method_12_code 31 = .ok (.iconst 0, 1) := by decide +kernel
theorem d_P_openChoice_32 : decode prog_3_method_12_code 32 = .ok (.invokevirtual 113, 3) := by decide +kernel
theorem d_P_openChoice_35 : decode prog_3_method_12_code 35 = .ok (.iastore, 1) := by decide +kernel
theorem d_P_openChoice_36 : decode prog_3_method_12_code 36 = .ok (.aload_n 0, 1) := by decide +kernel
theorem d_P_openChoice_37 : decode prog_3_method_12_code 37 = .ok (.getfield 21, 3) := by decide +kernel
theorem d_P_openChoice_40 : decode prog_3_method_12_code 40 = .ok (.aload_n 0, 1) := by decide +kernel
theorem d_P_openChoice_41 : decode prog_3_method_12_code 41 = .ok (.getfield 46, 3) := by decide +kernel
theorem d_P_openChoice_44 : decode prog_3_method_12_code 44 = .ok (.iload_n 1, 1) := by decide +kernel
theorem d_P_openChoice_45 : decode prog_3_method_12_code 45 = .ok (.iastore, 1) := by decide +kernel
theorem d_P_openChoice_46 : decode prog_3_method_12_code 46 = .ok (.aload_n 0, 1) := by decide +kernel
theorem d_P_openChoice_47 : decode prog_3_method_12_code 47 = .ok (.iload_n 2, 1) := by decide +kernel
theorem d_P_openChoice_48 : decode prog_3_method_12_code 48 = .ok (.invokevirtual 116, 3) := by decide +kernel
theorem d_P_beginRow_0 : decode prog_3_method_16_code 0 = .ok (.aload_n 0, 1) := by decide +kernel
theorem d_P_beginRow_1 : decode prog_3_method_16_code 1 = .ok (.getfield 18, 3) := by decide +kernel
theorem d_P_beginRow_4 : decode prog_3_method_16_code 4 = .ok (.aload_n 0, 1) := by decide +kernel
theorem d_P_beginRow_5 : decode prog_3_method_16_code 5 = .ok (.getfield 46, 3) := by decide +kernel
theorem d_P_beginRow_8 : decode prog_3_method_16_code 8 = .ok (.iload_n 1, 1) := by decide +kernel
theorem d_P_beginRow_9 : decode prog_3_method_16_code 9 = .ok (.iastore, 1) := by decide +kernel
theorem d_P_beginRow_10 : decode prog_3_method_16_code 10 = .ok (.aload_n 0, 1) := by decide +kernel
theorem d_P_beginRow_11 : decode prog_3_method_16_code 11 = .ok (.iconst (-1), 1) := by decide +kernel
theorem d_P_beginRow_12 : decode prog_3_method_16_code 12 = .ok (.putfield 126, 3) := by decide +kernel
theorem d_P_beginRow_15 : decode prog_3_method_16_code 15 = .ok (.aload_n 0, 1) := by decide +kernel
theorem d_P_beginRow_16 : decode prog_3_method_16_code 16 = .ok (.iconst (-1), 1) := by decide +kernel
theorem d_P_beginRow_17 : decode prog_3_method_16_code 17 = .ok (.putfield 129, 3) := by decide +kernel
theorem d_P_beginRow_20 : decode prog_3_method_16_code 20 = .ok (.aload_n 0, 1) := by decide +kernel
theorem d_P_beginRow_21 : decode prog_3_method_16_code 21 = .ok (.iload_n 1, 1) := by decide +kernel
theorem d_P_beginRow_22 : decode prog_3_method_16_code 22 = .ok (.putfield 62, 3) := by decide +kernel
theorem d_P_beginRow_25 : decode prog_3_method_16_code 25 = .ok (.return_, 1) := by decide +kernel
theorem d_P_openChoice_51 : decode prog_3_method_12_code 51 = .ok (.return_, 1) := by decide +kernel
theorem d_P_read_38 : decode prog_3_method_3_code 38 = .ok (.iconst 0, 1) := by decide +kernel
theorem d_P_read_39 : decode prog_3_method_3_code 39 = .ok (.istore_n 3, 1) := by decide +kernel
theorem d_P_read_40 : decode prog_3_method_3_code 40 = .ok (.iload_n 3, 1) := by decide +kernel
theorem d_P_read_41 : decode prog_3_method_3_code 41 = .ok (.aload_n 0, 1) := by decide +kernel
theorem d_P_read_42 : decode prog_3_method_3_code 42 = .ok (.getfield 35, 3) := by decide +kernel
theorem d_P_read_45 : decode prog_3_method_3_code 45 = .ok (.if_icmp .ge 32, 3) := by decide +kernel
theorem d_P_read_77 : decode prog_3_method_3_code 77 = .ok (.aload_n 0, 1) := by decide +kernel
theorem d_P_read_78 : decode prog_3_method_3_code 78 = .ok (.getfield 42, 3) := by decide +kernel
theorem d_P_read_81 : decode prog_3_method_3_code 81 = .ok (.iconst (-1), 1) := by decide +kernel
theorem d_P_read_82 : decode prog_3_method_3_code 82 = .ok (.if_icmp .ne 18, 3) := by decide +kernel
theorem d_P_read_85 : decode prog_3_method_3_code 85 = .ok (.aload_n 0, 1) := by decide +kernel
theorem d_P_read_86 : decode prog_3_method_3_code 86 = .ok (.getfield 46, 3) := by decide +kernel
theorem d_P_read_89 : decode prog_3_method_3_code 89 = .ok (.ifCond .le 11, 3) := by decide +kernel
theorem d_P_read_100 : decode prog_3_method_3_code 100 = .ok (.aload_n 0, 1) := by decide +kernel
theorem d_P_read_101 : decode prog_3_method_3_code 101 = .ok (.getfield 42, 3) := by decide +kernel
theorem d_P_read_104 : decode prog_3_method_3_code 104 = .ok (.iconst (-1), 1) := by decide +kernel
theorem d_P_read_105 : decode prog_3_method_3_code 105 = .ok (.if_icmp .ne 7, 3) := by decide +kernel
theorem d_P_read_108 : decode prog_3_method_3_code 108 = .ok (.aload_n 0, 1) := by decide +kernel
theorem d_P_read_109 : decode prog_3_method_3_code 109 = .ok (.invokevirtual 56, 3) := by decide +kernel
theorem d_P_finish_0 : decode prog_3_method_4_code 0 = .ok (.aload_n 0, 1) := by decide +kernel
theorem d_P_finish_1 : decode prog_3_method_4_code 1 = .ok (.getfield 27, 3) := by decide +kernel
theorem d_P_finish_4 : decode prog_3_method_4_code 4 = .ok (.getfield 59, 3) := by decide +kernel
theorem d_P_finish_7 : decode prog_3_method_4_code 7 = .ok (.aload_n 0, 1) := by decide +kernel
theorem d_P_finish_8 : decode prog_3_method_4_code 8 = .ok (.getfield 62, 3) := by decide +kernel
theorem d_P_finish_11 : decode prog_3_method_4_code 11 = .ok (.aload_n 0, 1) := by decide +kernel
theorem d_P_finish_12 : decode prog_3_method_4_code 12 = .ok (.getfield 15, 3) := by decide +kernel
theorem d_P_finish_15 : decode prog_3_method_4_code 15 = .ok (.iconst 0, 1) := by decide +kernel
theorem d_P_finish_16 : decode prog_3_method_4_code 16 = .ok (.iaload, 1) := by decide +kernel
theorem d_P_finish_17 : decode prog_3_method_4_code 17 = .ok (.iastore, 1) := by decide +kernel
theorem d_P_finish_18 : decode prog_3_method_4_code 18 = .ok (.aload_n 0, 1) := by decide +kernel
theorem d_P_finish_19 : decode prog_3_method_4_code 19 = .ok (.getfield 27, 3) := by decide +kernel
theorem d_P_finish_22 : decode prog_3_method_4_code 22 = .ok (.aload_n 0, 1) := by decide +kernel
theorem d_P_finish_23 : decode prog_3_method_4_code 23 = .ok (.getfield 9, 3) := by decide +kernel
theorem d_P_finish_26 : decode prog_3_method_4_code 26 = .ok (.iconst 0, 1) := by decide +kernel
theorem d_P_finish_27 : decode prog_3_method_4_code 27 = .ok (.iaload, 1) := by decide +kernel
theorem d_P_finish_28 : decode prog_3_method_4_code 28 = .ok (.putfield 65, 3) := by decide +kernel
theorem d_P_finish_31 : decode prog_3_method_4_code 31 = .ok (.aload_n 0, 1) := by decide +kernel
theorem d_P_finish_32 : decode prog_3_method_4_code 32 = .ok (.getfield 27, 3) := by decide +kernel
theorem d_P_finish_35 : decode prog_3_method_4_code 35 = .ok (.aload_n 0, 1) := by decide +kernel
theorem d_P_finish_36 : decode prog_3_method_4_code 36 = .ok (.getfield 15, 3) := by decide +kernel
theorem d_P_finish_39 : decode prog_3_method_4_code 39 = .ok (.iconst 0, 1) := by decide +kernel
theorem d_P_finish_40 : decode prog_3_method_4_code 40 = .ok (.iaload, 1) := by decide +kernel
theorem d_P_finish_41 : decode prog_3_method_4_code 41 = .ok (.putfield 68, 3) := by decide +kernel
theorem d_P_finish_44 : decode prog_3_method_4_code 44 = .ok (.return_, 1) := by decide +kernel
theorem d_P_read_112 : decode prog_3_method_3_code 112 = .ok (.aload_n 0, 1) := by decide +kernel
theorem d_P_read_113 : decode prog_3_method_3_code 113 = .ok (.getfield 42, 3) := by decide +kernel
theorem d_P_read_116 : decode prog_3_method_3_code 116 = .ok (.ireturn, 1) := by decide +kernel
theorem d_D_compile_16 : decode prog_1_method_7_code 16 = .ok (.putfield 46, 3) := by decide +kernel
theorem d_D_compile_19 : decode prog_1_method_7_code 19 = .ok (.aload_n 0, 1) := by decide +kernel
theorem d_D_compile_20 : decode prog_1_method_7_code 20 = .ok (.getfield 46, 3) := by decide +kernel
theorem d_D_compile_23 : decode prog_1_method_7_code 23 = .ok (.iconst (-1), 1) := by decide +kernel
theorem d_D_compile_24 : decode prog_1_method_7_code 24 = .ok (.if_icmp .eq 11, 3) := by decide +kernel
theorem d_D_compile_35 : decode prog_1_method_7_code 35 = .ok (.aload_n 0, 1) := by decide +kernel
theorem d_D_compile_36 : decode prog_1_method_7_code 36 = .ok (.aload_n 0, 1) := by decide +kernel
theorem d_D_compile_37 : decode prog_1_method_7_code 37 = .ok (.getfield 35, 3) := by decide +kernel
theorem d_D_compile_40 : decode prog_1_method_7_code 40 = .ok (.aload_n 0, 1) := by decide +kernel
theorem d_D_compile_41 : decode prog_1_method_7_code 41 = .ok (.getfield 42, 3) := by decide +kernel
theorem d_D_compile_44 : decode prog_1_method_7_code 44 = .ok (.invokevirtual 99, 3) := by decide +kernel
theorem d_P_handOver_0 : decode prog_3_method_2_code 0 = .ok (.aload_n 0, 1) := by decide +kernel
theorem d_P_handOver_1 : decode prog_3_method_2_code 1 = .ok (.getfield 27, 3) := by decide +kernel
theorem d_P_handOver_4 : decode prog_3_method_2_code 4 = .ok (.astore_n 2, 1) := by decide +kernel
theorem d_P_handOver_5 : decode prog_3_method_2_code 5 = .ok (.aload_n 0, 1) := by decide +kernel
theorem d_P_handOver_6 : decode prog_3_method_2_code 6 = .ok (.aload_n 1, 1) := by decide +kernel
theorem d_P_handOver_7 : decode prog_3_method_2_code 7 = .ok (.putfield 27, 3) := by decide +kernel
theorem d_P_handOver_10 : decode prog_3_method_2_code 10 = .ok (.aload_n 2, 1) := by decide +kernel
theorem d_P_handOver_11 : decode prog_3_method_2_code 11 = .ok (.areturn, 1) := by decide +kernel
theorem d_D_compile_47 : decode prog_1_method_7_code 47 = .ok (.putfield 42, 3) := by decide +kernel
theorem d_D_compile_50 : decode prog_1_method_7_code 50 = .ok (.aload_n 0, 1) := by decide +kernel
theorem d_D_compile_51 : decode prog_1_method_7_code 51 = .ok (.iconst 1, 1) := by decide +kernel
theorem d_D_compile_52 : decode prog_1_method_7_code 52 = .ok (.putfield 103, 3) := by decide +kernel
theorem d_D_compile_55 : decode prog_1_method_7_code 55 = .ok (.aload_n 0, 1) := by decide +kernel
theorem d_D_compile_56 : decode prog_1_method_7_code 56 = .ok (.iconst 0, 1) := by decide +kernel
theorem d_D_compile_57 : decode prog_1_method_7_code 57 = .ok (.putfield 56, 3) := by decide +kernel
theorem d_D_compile_60 : decode prog_1_method_7_code 60 = .ok (.return_, 1) := by decide +kernel
theorem d_L_compile_4 : decode method_6_code 4 = .ok (.goto 6, 3) := by decide +kernel
theorem d_L_compile_10 : decode method_6_code 10 = .ok (.iconst 0, 1) := by decide +kernel
theorem d_L_compile_11 : decode method_6_code 11 = .ok (.ireturn, 1) := by decide +kernel
theorem d_L_law_328 : decode code 328 = .ok (.istore 5, 2) := by decide +kernel
theorem d_L_law_330 : decode code 330 = .ok (.aload_n 2, 1) := by decide +kernel
theorem d_L_law_331 : decode code 331 = .ok (.invokevirtual 95, 3) := by decide +kernel
theorem d_M_compile_0 : decode prog_6_method_36_code 0 = .ok (.aload_n 0, 1) := by decide +kernel
theorem d_M_compile_1 : decode prog_6_method_36_code 1 = .ok (.invokevirtual 187, 3) := by decide +kernel
theorem d_M_good_0 : decode prog_6_method_23_code 0 = .ok (.iconst 0, 1) := by decide +kernel
theorem d_M_good_1 : decode prog_6_method_23_code 1 = .ok (.istore_n 1, 1) := by decide +kernel
theorem d_M_good_2 : decode prog_6_method_23_code 2 = .ok (.iconst 0, 1) := by decide +kernel
theorem d_M_good_3 : decode prog_6_method_23_code 3 = .ok (.istore_n 2, 1) := by decide +kernel
theorem d_M_good_4 : decode prog_6_method_23_code 4 = .ok (.iconst 0, 1) := by decide +kernel
theorem d_M_good_5 : decode prog_6_method_23_code 5 = .ok (.istore_n 3, 1) := by decide +kernel
theorem d_M_good_6 : decode prog_6_method_23_code 6 = .ok (.iload_n 3, 1) := by decide +kernel
theorem d_M_good_7 : decode prog_6_method_23_code 7 = .ok (.aload_n 0, 1) := by decide +kernel
theorem d_M_good_8 : decode prog_6_method_23_code 8 = .ok (.getfield 89, 3) := by decide +kernel
theorem d_M_good_11 : decode prog_6_method_23_code 11 = .ok (.if_icmp .ge 211, 3) := by decide +kernel
theorem d_M_good_222 : decode prog_6_method_23_code 222 = .ok (.iload_n 1, 1) := by decide +kernel
theorem d_M_good_223 : decode prog_6_method_23_code 223 = .ok (.iconst 1, 1) := by decide +kernel
theorem d_M_good_224 : decode prog_6_method_23_code 224 = .ok (.if_icmp .gt 7, 3) := by decide +kernel
theorem d_M_good_227 : decode prog_6_method_23_code 227 = .ok (.iload_n 2, 1) := by decide +kernel
theorem d_M_good_228 : decode prog_6_method_23_code 228 = .ok (.ifCond .le 12, 3) := by decide +kernel
theorem d_M_good_240 : decode prog_6_method_23_code 240 = .ok (.aload_n 0, 1) := by decide +kernel
theorem d_M_good_241 : decode prog_6_method_23_code 241 = .ok (.getfield 89, 3) := by decide +kernel
theorem d_M_good_244 : decode prog_6_method_23_code 244 = .ok (.ireturn, 1) := by decide +kernel
theorem d_M_compile_4 : decode prog_6_method_36_code 4 = .ok (.istore_n 1, 1) := by decide +kernel
theorem d_M_compile_5 : decode prog_6_method_36_code 5 = .ok (.iload_n 1, 1) := by decide +kernel
theorem d_M_compile_6 : decode prog_6_method_36_code 6 = .ok (.aload_n 0, 1) := by decide +kernel
theorem d_M_compile_7 : decode prog_6_method_36_code 7 = .ok (.getfield 89, 3) := by decide +kernel
theorem d_M_compile_10 : decode prog_6_method_36_code 10 = .ok (.if_icmp .ne 7, 3) := by decide +kernel
theorem d_M_compile_13 : decode prog_6_method_36_code 13 = .ok (.iconst 1, 1) := by decide +kernel
theorem d_M_compile_14 : decode prog_6_method_36_code 14 = .ok (.goto 4, 3) := by decide +kernel
theorem d_M_compile_18 : decode prog_6_method_36_code 18 = .ok (.istore_n 2, 1) := by decide +kernel
theorem d_M_compile_19 : decode prog_6_method_36_code 19 = .ok (.aload_n 0, 1) := by decide +kernel
theorem d_M_compile_20 : decode prog_6_method_36_code 20 = .ok (.iload_n 2, 1) := by decide +kernel
theorem d_M_compile_21 : decode prog_6_method_36_code 21 = .ok (.ifCond .eq 7, 3) := by decide +kernel
theorem d_M_compile_24 : decode prog_6_method_36_code 24 = .ok (.iconst 0, 1) := by decide +kernel
theorem d_M_compile_25 : decode prog_6_method_36_code 25 = .ok (.goto 4, 3) := by decide +kernel
theorem d_M_compile_29 : decode prog_6_method_36_code 29 = .ok (.putfield 82, 3) := by decide +kernel
theorem d_M_compile_32 : decode prog_6_method_36_code 32 = .ok (.aload_n 0, 1) := by decide +kernel
theorem d_M_compile_33 : decode prog_6_method_36_code 33 = .ok (.iload_n 2, 1) := by decide +kernel
theorem d_M_compile_34 : decode prog_6_method_36_code 34 = .ok (.ifCond .eq 7, 3) := by decide +kernel
theorem d_M_compile_37 : decode prog_6_method_36_code 37 = .ok (.iconst (-1), 1) := by decide +kernel
theorem d_M_compile_38 : decode prog_6_method_36_code 38 = .ok (.goto 14, 3) := by decide +kernel
theorem d_M_compile_52 : decode prog_6_method_36_code 52 = .ok (.putfield 36, 3) := by decide +kernel
theorem d_M_compile_55 : decode prog_6_method_36_code 55 = .ok (.iload_n 2, 1) := by decide +kernel
theorem d_M_compile_56 : decode prog_6_method_36_code 56 = .ok (.ifCond .ne 4, 3) := by decide +kernel
theorem d_M_compile_60 : decode prog_6_method_36_code 60 = .ok (.aload_n 0, 1) := by decide +kernel
theorem d_M_compile_61 : decode prog_6_method_36_code 61 = .ok (.aload_n 0, 1) := by decide +kernel
theorem d_M_compile_62 : decode prog_6_method_36_code 62 = .ok (.getfield 89, 3) := by decide +kernel
theorem d_M_compile_65 : decode prog_6_method_36_code 65 = .ok (.putfield 190, 3) := by decide +kernel
theorem d_M_compile_68 : decode prog_6_method_36_code 68 = .ok (.iconst 0, 1) := by decide +kernel
theorem d_M_compile_69 : decode prog_6_method_36_code 69 = .ok (.istore_n 3, 1) := by decide +kernel
theorem d_M_compile_70 : decode prog_6_method_36_code 70 = .ok (.iload_n 3, 1) := by decide +kernel
theorem d_M_compile_71 : decode prog_6_method_36_code 71 = .ok (.aload_n 0, 1) := by decide +kernel
theorem d_M_compile_72 : decode prog_6_method_36_code 72 = .ok (.getfield 89, 3) := by decide +kernel
theorem d_M_compile_75 : decode prog_6_method_36_code 75 = .ok (.if_icmp .ge 21, 3) := by decide +kernel
theorem d_M_compile_96 : decode prog_6_method_36_code 96 = .ok (.aload_n 0, 1) := by decide +kernel
theorem d_M_compile_97 : decode prog_6_method_36_code 97 = .ok (.iconst 0, 1) := by decide +kernel
theorem d_M_compile_98 : decode prog_6_method_36_code 98 = .ok (.putfield 89, 3) := by decide +kernel
theorem d_M_compile_101 : decode prog_6_method_36_code 101 = .ok (.aload_n 0, 1) := by decide +kernel
theorem d_M_compile_102 : decode prog_6_method_36_code 102 = .ok (.iconst 0, 1) := by decide +kernel
theorem d_M_compile_103 : decode prog_6_method_36_code 103 = .ok (.putfield 142, 3) := by decide +kernel
theorem d_M_compile_106 : decode prog_6_method_36_code 106 = .ok (.aload_n 0, 1) := by decide +kernel
theorem d_M_compile_107 : decode prog_6_method_36_code 107 = .ok (.iconst 0, 1) := by decide +kernel
theorem d_M_compile_108 : decode prog_6_method_36_code 108 = .ok (.putfield 145, 3) := by decide +kernel
theorem d_M_compile_111 : decode prog_6_method_36_code 111 = .ok (.aload_n 0, 1) := by decide +kernel
theorem d_M_compile_112 : decode prog_6_method_36_code 112 = .ok (.iconst 0, 1) := by decide +kernel
theorem d_M_compile_113 : decode prog_6_method_36_code 113 = .ok (.putfield 159, 3) := by decide +kernel
theorem d_M_compile_116 : decode prog_6_method_36_code 116 = .ok (.aload_n 0, 1) := by decide +kernel
theorem d_M_compile_117 : decode prog_6_method_36_code 117 = .ok (.invokevirtual 171, 3) := by decide +kernel
theorem d_M_openGroup_0 : decode prog_6_method_32_code 0 = .ok (.aload_n 0, 1) := by decide +kernel
theorem d_M_openGroup_1 : decode prog_6_method_32_code 1 = .ok (.getfield 63, 3) := by decide +kernel
theorem d_M_openGroup_4 : decode prog_6_method_32_code 4 = .ok (.aload_n 0, 1) := by decide +kernel
theorem d_M_openGroup_5 : decode prog_6_method_32_code 5 = .ok (.getfield 159, 3) := by decide +kernel
theorem d_M_openGroup_8 : decode prog_6_method_32_code 8 = .ok (.iconst (-1), 1) := by decide +kernel
theorem d_M_openGroup_9 : decode prog_6_method_32_code 9 = .ok (.iastore, 1) := by decide +kernel
theorem d_M_openGroup_10 : decode prog_6_method_32_code 10 = .ok (.aload_n 0, 1) := by decide +kernel
theorem d_M_openGroup_11 : decode prog_6_method_32_code 11 = .ok (.getfield 66, 3) := by decide +kernel
theorem d_M_openGroup_14 : decode prog_6_method_32_code 14 = .ok (.aload_n 0, 1) := by decide +kernel
theorem d_M_openGroup_15 : decode prog_6_method_32_code 15 = .ok (.getfield 159, 3) := by decide +kernel
theorem d_M_openGroup_18 : decode prog_6_method_32_code 18 = .ok (.aload_n 0, 1) := by decide +kernel
theorem d_M_openGroup_19 : decode prog_6_method_32_code 19 = .ok (.invokevirtual 162, 3) := by decide +kernel
theorem d_M_nothing_0 : decode prog_6_method_28_code 0 = .ok (.aload_n 0, 1) := by decide +kernel
theorem d_M_nothing_1 : decode prog_6_method_28_code 1 = .ok (.iconst 0, 1) := by decide +kernel
theorem d_M_nothing_2 : decode prog_6_method_28_code 2 = .ok (.iconst 0, 1) := by decide +kernel
theorem d_M_nothing_3 : decode prog_6_method_28_code 3 = .ok (.iconst 0, 1) := by decide +kernel
theorem d_M_nothing_4 : decode prog_6_method_28_code 4 = .ok (.invokevirtual 148, 3) := by decide +kernel
theorem d_M_node_0 : decode prog_6_method_24_code 0 = .ok (.aload_n 0, 1) := by decide +kernel
theorem d_M_node_1 : decode prog_6_method_24_code 1 = .ok (.getfield 42, 3) := by decide +kernel
theorem d_M_node_4 : decode prog_6_method_24_code 4 = .ok (.aload_n 0, 1) := by decide +kernel
theorem d_M_node_5 : decode prog_6_method_24_code 5 = .ok (.getfield 142, 3) := by decide +kernel
theorem d_M_node_8 : decode prog_6_method_24_code 8 = .ok (.iload_n 1, 1) := by decide +kernel
theorem d_M_node_9 : decode prog_6_method_24_code 9 = .ok (.iastore, 1) := by decide +kernel
theorem d_M_node_10 : decode prog_6_method_24_code 10 = .ok (.aload_n 0, 1) := by decide +kernel
theorem d_M_node_11 : decode prog_6_method_24_code 11 = .ok (.getfield 45, 3) := by decide +kernel
theorem d_M_node_14 : decode prog_6_method_24_code 14 = .ok (.aload_n 0, 1) := by decide +kernel
theorem d_M_node_15 : decode prog_6_method_24_code 15 = .ok (.getfield 142, 3) := by decide +kernel
theorem d_M_node_18 : decode prog_6_method_24_code 18 = .ok (.iload_n 2, 1) := by decide +kernel
theorem d_M_node_19 : decode prog_6_method_24_code 19 = .ok (.iastore, 1) := by decide +kernel
theorem d_M_node_20 : decode prog_6_method_24_code 20 = .ok (.aload_n 0, 1) := by decide +kernel
theorem d_M_node_21 : decode prog_6_method_24_code 21 = .ok (.getfield 48, 3) := by decide +kernel
theorem d_M_node_24 : decode prog_6_method_24_code 24 = .ok (.aload_n 0, 1) := by decide +kernel
theorem d_M_node_25 : decode prog_6_method_24_code 25 = .ok (.getfield 142, 3) := by decide +kernel
theorem d_M_node_28 : decode prog_6_method_24_code 28 = .ok (.iload_n 3, 1) := by decide +kernel
theorem d_M_node_29 : decode prog_6_method_24_code 29 = .ok (.iastore, 1) := by decide +kernel
theorem d_M_node_30 : decode prog_6_method_24_code 30 = .ok (.aload_n 0, 1) := by decide +kernel
theorem d_M_node_31 : decode prog_6_method_24_code 31 = .ok (.getfield 51, 3) := by decide +kernel
theorem d_M_node_34 : decode prog_6_method_24_code 34 = .ok (.aload_n 0, 1) := by decide +kernel
theorem d_M_node_35 : decode prog_6_method_24_code 35 = .ok (.getfield 142, 3) := by decide +kernel
theorem d_M_node_38 : decode prog_6_method_24_code 38 = .ok (.iconst (-1), 1) := by decide +kernel
theorem d_M_node_39 : decode prog_6_method_24_code 39 = .ok (.iastore, 1) := by decide +kernel
theorem d_M_node_40 : decode prog_6_method_24_code 40 = .ok (.aload_n 0, 1) := by decide +kernel
theorem d_M_node_41 : decode prog_6_method_24_code 41 = .ok (.getfield 54, 3) := by decide +kernel
theorem d_M_node_44 : decode prog_6_method_24_code 44 = .ok (.aload_n 0, 1) := by decide +kernel
theorem d_M_node_45 : decode prog_6_method_24_code 45 = .ok (.getfield 142, 3) := by decide +kernel
theorem d_M_node_48 : decode prog_6_method_24_code 48 = .ok (.iconst (-1), 1) := by decide +kernel
theorem d_M_node_49 : decode prog_6_method_24_code 49 = .ok (.iastore, 1) := by decide +kernel
theorem d_M_node_50 : decode prog_6_method_24_code 50 = .ok (.aload_n 0, 1) := by decide +kernel
theorem d_M_node_51 : decode prog_6_method_24_code 51 = .ok (.dup, 1) := by decide +kernel
theorem d_M_node_52 : decode prog_6_method_24_code 52 = .ok (.getfield 142, 3) := by decide +kernel
theorem d_M_node_55 : decode prog_6_method_24_code 55 = .ok (.iconst 1, 1) := by decide +kernel
theorem d_M_node_56 : decode prog_6_method_24_code 56 = .ok (.iadd, 1) := by decide +kernel
theorem d_M_node_57 : decode prog_6_method_24_code 57 = .ok (.putfield 142, 3) := by decide +kernel
theorem d_M_node_60 : decode prog_6_method_24_code 60 = .ok (.aload_n 0, 1) := by decide +kernel
theorem d_M_node_61 : decode prog_6_method_24_code 61 = .ok (.getfield 142, 3) := by decide +kernel
theorem d_M_node_64 : decode prog_6_method_24_code 64 = .ok (.iconst 1, 1) := by decide +kernel
theorem d_M_node_65 : decode prog_6_method_24_code 65 = .ok (.isub, 1) := by decide +kernel
theorem d_M_node_66 : decode prog_6_method_24_code 66 = .ok (.ireturn, 1) := by decide +kernel
theorem d_M_nothing_7 : decode prog_6_method_28_code 7 = .ok (.istore_n 1, 1) := by decide +kernel
theorem d_M_nothing_8 : decode prog_6_method_28_code 8 = .ok (.aload_n 0, 1) := by decide +kernel
theorem d_M_nothing_9 : decode prog_6_method_28_code 9 = .ok (.iload_n 1, 1) := by decide +kernel
theorem d_M_nothing_10 : decode prog_6_method_28_code 10 = .ok (.iload_n 1, 1) := by decide +kernel
theorem d_M_nothing_11 : decode prog_6_method_28_code 11 = .ok (.invokevirtual 155, 3) := by decide +kernel
theorem d_M_piece_0 : decode prog_6_method_26_code 0 = .ok (.aload_n 0, 1) := by decide +kernel
theorem d_M_piece_1 : decode prog_6_method_26_code 1 = .ok (.getfield 57, 3) := by decide +kernel
theorem d_M_piece_4 : decode prog_6_method_26_code 4 = .ok (.aload_n 0, 1) := by decide +kernel
theorem d_M_piece_5 : decode prog_6_method_26_code 5 = .ok (.getfield 145, 3) := by decide +kernel
theorem d_M_piece_8 : decode prog_6_method_26_code 8 = .ok (.iload_n 1, 1) := by decide +kernel
theorem d_M_piece_9 : decode prog_6_method_26_code 9 = .ok (.iastore, 1) := by decide +kernel
theorem d_M_piece_10 : decode prog_6_method_26_code 10 = .ok (.aload_n 0, 1) := by decide +kernel
theorem d_M_piece_11 : decode prog_6_method_26_code 11 = .ok (.getfield 60, 3) := by decide +kernel
theorem d_M_piece_14 : decode prog_6_method_26_code 14 = .ok (.aload_n 0, 1) := by decide +kernel
theorem d_M_piece_15 : decode prog_6_method_26_code 15 = .ok (.getfield 145, 3) := by decide +kernel
theorem d_M_piece_18 : decode prog_6_method_26_code 18 = .ok (.iload_n 2, 1) := by decide +kernel
theorem d_M_piece_19 : decode prog_6_method_26_code 19 = .ok (.iastore, 1) := by decide +kernel
theorem d_M_piece_20 : decode prog_6_method_26_code 20 = .ok (.aload_n 0, 1) := by decide +kernel
theorem d_M_piece_21 : decode prog_6_method_26_code 21 = .ok (.dup, 1) := by decide +kernel
theorem d_M_piece_22 : decode prog_6_method_26_code 22 = .ok (.getfield 145, 3) := by decide +kernel
theorem d_M_piece_25 : decode prog_6_method_26_code 25 = .ok (.iconst 1, 1) := by decide +kernel
theorem d_M_piece_26 : decode prog_6_method_26_code 26 = .ok (.iadd, 1) := by decide +kernel
theorem d_M_piece_27 : decode prog_6_method_26_code 27 = .ok (.putfield 145, 3) := by decide +kernel
theorem d_M_piece_30 : decode prog_6_method_26_code 30 = .ok (.aload_n 0, 1) := by decide +kernel
theorem d_M_piece_31 : decode prog_6_method_26_code 31 = .ok (.getfield 145, 3) := by decide +kernel
theorem d_M_piece_34 : decode prog_6_method_26_code 34 = .ok (.iconst 1, 1) := by decide +kernel
theorem d_M_piece_35 : decode prog_6_method_26_code 35 = .ok (.isub, 1) := by decide +kernel
theorem d_M_piece_36 : decode prog_6_method_26_code 36 = .ok (.ireturn, 1) := by decide +kernel
theorem d_M_nothing_14 : decode prog_6_method_28_code 14 = .ok (.ireturn, 1) := by decide +kernel
theorem d_M_openGroup_22 : decode prog_6_method_32_code 22 = .ok (.iastore, 1) := by decide +kernel
theorem d_M_openGroup_23 : decode prog_6_method_32_code 23 = .ok (.aload_n 0, 1) := by decide +kernel
theorem d_M_openGroup_24 : decode prog_6_method_32_code 24 = .ok (.getfield 69, 3) := by decide +kernel
theorem d_M_openGroup_27 : decode prog_6_method_32_code 27 = .ok (.aload_n 0, 1) := by decide +kernel
theorem d_M_openGroup_28 : decode prog_6_method_32_code 28 = .ok (.getfield 159, 3) := by decide +kernel
theorem d_M_openGroup_31 : decode prog_6_method_32_code 31 = .ok (.iconst (-1), 1) := by decide +kernel
theorem d_M_openGroup_32 : decode prog_6_method_32_code 32 = .ok (.iastore, 1) := by decide +kernel
theorem d_M_openGroup_33 : decode prog_6_method_32_code 33 = .ok (.aload_n 0, 1) := by decide +kernel
theorem d_M_openGroup_34 : decode prog_6_method_32_code 34 = .ok (.dup, 1) := by decide +kernel
theorem d_M_openGroup_35 : decode prog_6_method_32_code 35 = .ok (.getfield 159, 3) := by decide +kernel
theorem d_M_openGroup_38 : decode prog_6_method_32_code 38 = .ok (.iconst 1, 1) := by decide +kernel
theorem d_M_openGroup_39 : decode prog_6_method_32_code 39 = .ok (.iadd, 1) := by decide +kernel
theorem d_M_openGroup_40 : decode prog_6_method_32_code 40 = .ok (.putfield 159, 3) := by decide +kernel
theorem d_M_openGroup_43 : decode prog_6_method_32_code 43 = .ok (.return_, 1) := by decide +kernel
theorem d_M_compile_120 : decode prog_6_method_36_code 120 = .ok (.iconst 0, 1) := by decide +kernel
theorem d_M_compile_121 : decode prog_6_method_36_code 121 = .ok (.istore_n 3, 1) := by decide +kernel
theorem d_M_compile_122 : decode prog_6_method_36_code 122 = .ok (.iload_n 3, 1) := by decide +kernel
theorem d_M_compile_123 : decode prog_6_method_36_code 123 = .ok (.aload_n 0, 1) := by decide +kernel
theorem d_M_compile_124 : decode prog_6_method_36_code 124 = .ok (.getfield 190, 3) := by decide +kernel
theorem d_M_compile_127 : decode prog_6_method_36_code 127 = .ok (.if_icmp .ge 12, 3) := by decide +kernel
theorem d_M_compile_139 : decode prog_6_method_36_code 139 = .ok (.aload_n 0, 1) := by decide +kernel
theorem d_M_compile_140 : decode prog_6_method_36_code 140 = .ok (.invokevirtual 174, 3) := by decide +kernel
theorem d_M_endRow_0 : decode prog_6_method_33_code 0 = .ok (.aload_n 0, 1) := by decide +kernel
theorem d_M_endRow_1 : decode prog_6_method_33_code 1 = .ok (.getfield 159, 3) := by decide +kernel
theorem d_M_endRow_4 : decode prog_6_method_33_code 4 = .ok (.iconst 1, 1) := by decide +kernel
theorem d_M_endRow_5 : decode prog_6_method_33_code 5 = .ok (.isub, 1) := by decide +kernel
theorem d_M_endRow_6 : decode prog_6_method_33_code 6 = .ok (.istore_n 1, 1) := by decide +kernel
theorem d_M_endRow_7 : decode prog_6_method_33_code 7 = .ok (.aload_n 0, 1) := by decide +kernel
theorem d_M_endRow_8 : decode prog_6_method_33_code 8 = .ok (.aload_n 0, 1) := by decide +kernel
theorem d_M_endRow_9 : decode prog_6_method_33_code 9 = .ok (.getfield 66, 3) := by decide +kernel
theorem d_M_endRow_12 : decode prog_6_method_33_code 12 = .ok (.iload_n 1, 1) := by decide +kernel
theorem d_M_endRow_13 : decode prog_6_method_33_code 13 = .ok (.iaload, 1) := by decide +kernel
theorem d_M_endRow_14 : decode prog_6_method_33_code 14 = .ok (.aload_n 0, 1) := by decide +kernel
theorem d_M_endRow_15 : decode prog_6_method_33_code 15 = .ok (.getfield 69, 3) := by decide +kernel
theorem d_M_endRow_18 : decode prog_6_method_33_code 18 = .ok (.iload_n 1, 1) := by decide +kernel
theorem d_M_endRow_19 : decode prog_6_method_33_code 19 = .ok (.iaload, 1) := by decide +kernel
theorem d_M_endRow_20 : decode prog_6_method_33_code 20 = .ok (.invokevirtual 165, 3) := by decide +kernel
theorem d_M_behind_0 : decode prog_6_method_29_code 0 = .ok (.iload_n 2, 1) := by decide +kernel
theorem d_M_behind_1 : decode prog_6_method_29_code 1 = .ok (.ifCond .ge 5, 3) := by decide +kernel
theorem d_M_behind_4 : decode prog_6_method_29_code 4 = .ok (.iload_n 1, 1) := by decide +kernel
theorem d_M_behind_5 : decode prog_6_method_29_code 5 = .ok (.ireturn, 1) := by decide +kernel
theorem d_M_endRow_23 : decode prog_6_method_33_code 23 = .ok (.istore_n 2, 1) := by decide +kernel
theorem d_M_endRow_24 : decode prog_6_method_33_code 24 = .ok (.aload_n 0, 1) := by decide +kernel
theorem d_M_endRow_25 : decode prog_6_method_33_code 25 = .ok (.getfield 63, 3) := by decide +kernel
theorem d_M_endRow_28 : decode prog_6_method_33_code 28 = .ok (.iload_n 1, 1) := by decide +kernel
theorem d_M_endRow_29 : decode prog_6_method_33_code 29 = .ok (.aload_n 0, 1) := by decide +kernel
theorem d_M_endRow_30 : decode prog_6_method_33_code 30 = .ok (.aload_n 0, 1) := by decide +kernel
theorem d_M_endRow_31 : decode prog_6_method_33_code 31 = .ok (.getfield 63, 3) := by decide +kernel
theorem d_M_endRow_34 : decode prog_6_method_33_code 34 = .ok (.iload_n 1, 1) := by decide +kernel
theorem d_M_endRow_35 : decode prog_6_method_33_code 35 = .ok (.iaload, 1) := by decide +kernel
theorem d_M_endRow_36 : decode prog_6_method_33_code 36 = .ok (.iload_n 2, 1) := by decide +kernel
theorem d_M_endRow_37 : decode prog_6_method_33_code 37 = .ok (.invokevirtual 168, 3) := by decide +kernel
theorem d_M_either_0 : decode prog_6_method_30_code 0 = .ok (.iload_n 1, 1) := by decide +kernel
theorem d_M_either_1 : decode prog_6_method_30_code 1 = .ok (.ifCond .ge 5, 3) := by decide +kernel
theorem d_M_either_4 : decode prog_6_method_30_code 4 = .ok (.iload_n 2, 1) := by decide +kernel
theorem d_M_either_5 : decode prog_6_method_30_code 5 = .ok (.ireturn, 1) := by decide +kernel
theorem d_M_endRow_40 : decode prog_6_method_33_code 40 = .ok (.iastore, 1) := by decide +kernel
theorem d_M_endRow_41 : decode prog_6_method_33_code 41 = .ok (.aload_n 0, 1) := by decide +kernel
theorem d_M_endRow_42 : decode prog_6_method_33_code 42 = .ok (.getfield 69, 3) := by decide +kernel
theorem d_M_endRow_45 : decode prog_6_method_33_code 45 = .ok (.iload_n 1, 1) := by decide +kernel
theorem d_M_endRow_46 : decode prog_6_method_33_code 46 = .ok (.iconst (-1), 1) := by decide +kernel
theorem d_M_endRow_47 : decode prog_6_method_33_code 47 = .ok (.iastore, 1) := by decide +kernel
theorem d_M_endRow_48 : decode prog_6_method_33_code 48 = .ok (.return_, 1) := by decide +kernel
theorem d_M_compile_143 : decode prog_6_method_36_code 143 = .ok (.aload_n 0, 1) := by decide +kernel
theorem d_M_compile_144 : decode prog_6_method_36_code 144 = .ok (.aload_n 0, 1) := by decide +kernel
theorem d_M_compile_145 : decode prog_6_method_36_code 145 = .ok (.getfield 57, 3) := by decide +kernel
theorem d_M_compile_148 : decode prog_6_method_36_code 148 = .ok (.aload_n 0, 1) := by decide +kernel
theorem d_M_compile_149 : decode prog_6_method_36_code 149 = .ok (.getfield 63, 3) := by decide +kernel
theorem d_M_compile_152 : decode prog_6_method_36_code 152 = .ok (.iconst 0, 1) := by decide +kernel
theorem d_M_compile_153 : decode prog_6_method_36_code 153 = .ok (.iaload, 1) := by decide +kernel
theorem d_M_compile_154 : decode prog_6_method_36_code 154 = .ok (.iaload, 1) := by decide +kernel
theorem d_M_compile_155 : decode prog_6_method_36_code 155 = .ok (.putfield 197, 3) := by decide +kernel
theorem d_M_compile_158 : decode prog_6_method_36_code 158 = .ok (.aload_n 0, 1) := by decide +kernel
theorem d_M_compile_159 : decode prog_6_method_36_code 159 = .ok (.aload_n 0, 1) := by decide +kernel
theorem d_M_compile_160 : decode prog_6_method_36_code 160 = .ok (.getfield 60, 3) := by decide +kernel
theorem d_M_compile_163 : decode prog_6_method_36_code 163 = .ok (.aload_n 0, 1) := by decide +kernel
theorem d_M_compile_164 : decode prog_6_method_36_code 164 = .ok (.getfield 63, 3) := by decide +kernel
theorem d_M_compile_167 : decode prog_6_method_36_code 167 = .ok (.iconst 0, 1) := by decide +kernel
theorem d_M_compile_168 : decode prog_6_method_36_code 168 = .ok (.iaload, 1) := by decide +kernel
theorem d_M_compile_169 : decode prog_6_method_36_code 169 = .ok (.iaload, 1) := by decide +kernel
theorem d_M_compile_170 : decode prog_6_method_36_code 170 = .ok (.putfield 200, 3) := by decide +kernel
theorem d_M_compile_173 : decode prog_6_method_36_code 173 = .ok (.aload_n 0, 1) := by decide +kernel
theorem d_M_compile_174 : decode prog_6_method_36_code 174 = .ok (.iconst 1, 1) := by decide +kernel
theorem d_M_compile_175 : decode prog_6_method_36_code 175 = .ok (.putfield 203, 3) := by decide +kernel
theorem d_M_compile_178 : decode prog_6_method_36_code 178 = .ok (.return_, 1) := by decide +kernel
theorem d_L_law_334 : decode code 334 = .ok (.aload_n 2, 1) := by decide +kernel
theorem d_L_law_335 : decode code 335 = .ok (.invokevirtual 81, 3) := by decide +kernel
theorem d_L_law_338 : decode code 338 = .ok (.iload 5, 2) := by decide +kernel
theorem d_L_law_340 : decode code 340 = .ok (.if_icmp .eq 5, 3) := by decide +kernel
theorem d_L_law_345 : decode code 345 = .ok (.goto 489, 3) := by decide +kernel
theorem d_L_law_348 : decode code 348 = .ok (.aload_n 1, 1) := by decide +kernel
theorem d_L_law_349 : decode code 349 = .ok (.invokevirtual 96, 3) := by decide +kernel
theorem d_D_fault_0 : decode prog_1_method_8_code 0 = .ok (.aload_n 0, 1) := by decide +kernel
theorem d_D_fault_1 : decode prog_1_method_8_code 1 = .ok (.getfield 46, 3) := by decide +kernel
theorem d_D_fault_4 : decode prog_1_method_8_code 4 = .ok (.ireturn, 1) := by decide +kernel
theorem d_L_law_352 : decode code 352 = .ok (.aload_n 2, 1) := by decide +kernel
theorem d_L_law_353 : decode code 353 = .ok (.invokevirtual 99, 3) := by decide +kernel
theorem d_M_fault_0 : decode prog_6_method_37_code 0 = .ok (.aload_n 0, 1) := by decide +kernel
theorem d_M_fault_1 : decode prog_6_method_37_code 1 = .ok (.iconst 0, 1) := by decide +kernel
theorem d_M_fault_2 : decode prog_6_method_37_code 2 = .ok (.putfield 82, 3) := by decide +kernel
theorem d_M_fault_5 : decode prog_6_method_37_code 5 = .ok (.aload_n 0, 1) := by decide +kernel
theorem d_M_fault_6 : decode prog_6_method_37_code 6 = .ok (.getfield 36, 3) := by decide +kernel
theorem d_M_fault_9 : decode prog_6_method_37_code 9 = .ok (.ireturn, 1) := by decide +kernel
theorem d_L_law_356 : decode code 356 = .ok (.if_icmp .eq 478, 3) := by decide +kernel
theorem d_L_law_361 : decode code 361 = .ok (.aload_n 1, 1) := by decide +kernel
theorem d_L_law_362 : decode code 362 = .ok (.aload_n 0, 1) := by decide +kernel
end
section
theorem d_L_law_363 : decode code 363 = .ok (.iload 4, 2) := by decide +kernel
theorem d_L_law_365 : decode code 365 = .ok (.iconst 1, 1) := by decide +kernel
theorem d_L_law_366 : decode code 366 = .ok (.iadd, 1) := by decide +kernel
theorem d_L_law_367 : decode code 367 = .ok (.iaload, 1) := by decide +kernel
theorem d_L_law_368 : decode code 368 = .ok (.aload_n 3, 1) := by decide +kernel
theorem d_L_law_369 : decode code 369 = .ok (.invokestatic 100, 3) := by decide +kernel
theorem d_L_find_0 : decode method_7_code 0 = .ok (.aload_n 2, 1) := by decide +kernel
theorem d_L_find_1 : decode method_7_code 1 = .ok (.iconst 0, 1) := by decide +kernel
theorem d_L_find_2 : decode method_7_code 2 = .ok (.aload_n 0, 1) := by decide +kernel
theorem d_L_find_3 : decode method_7_code 3 = .ok (.iload_n 1, 1) := by decide +kernel
theorem d_L_find_4 : decode method_7_code 4 = .ok (.invokevirtual 30, 3) := by decide +kernel
theorem d_D_find_0 : decode prog_1_method_9_code 0 = .ok (.aload_n 0, 1) := by decide +kernel
theorem d_D_find_1 : decode prog_1_method_9_code 1 = .ok (.getfield 103, 3) := by decide +kernel
theorem d_D_find_4 : decode prog_1_method_9_code 4 = .ok (.ifCond .ne 11, 3) := by decide +kernel
theorem d_D_find_7 : decode prog_1_method_9_code 7 = .ok (.new 66, 3) := by decide +kernel
theorem d_D_find_10 : decode prog_1_method_9_code 10 = .ok (.dup, 1) := by decide +kernel
theorem d_D_find_11 : decode prog_1_method_9_code 11 = .ok (.invokespecial 68, 3) := by decide +kernel
theorem d_D_find_14 : decode prog_1_method_9_code 14 = .ok (.athrow, 1) := by decide +kernel
theorem d_L_find_12 : decode method_7_code 12 = .ok (.astore_n 3, 1) := by decide +kernel
theorem d_L_find_13 : decode method_7_code 13 = .ok (.iconst 1, 1) := by decide +kernel
theorem d_L_find_14 : decode method_7_code 14 = .ok (.ireturn, 1) := by decide +kernel
theorem d_L_law_372 : decode code 372 = .ok (.istore 5, 2) := by decide +kernel
theorem d_L_law_374 : decode code 374 = .ok (.aload_n 2, 1) := by decide +kernel
theorem d_L_law_375 : decode code 375 = .ok (.aload_n 0, 1) := by decide +kernel
theorem d_L_law_376 : decode code 376 = .ok (.iload 4, 2) := by decide +kernel
theorem d_L_law_378 : decode code 378 = .ok (.iconst 1, 1) := by decide +kernel
theorem d_L_law_379 : decode code 379 = .ok (.iadd, 1) := by decide +kernel
theorem d_L_law_380 : decode code 380 = .ok (.iaload, 1) := by decide +kernel
theorem d_L_law_381 : decode code 381 = .ok (.invokevirtual 102, 3) := by decide +kernel
theorem d_M_find_0 : decode prog_6_method_45_code 0 = .ok (.aload_n 0, 1) := by decide +kernel
theorem d_M_find_1 : decode prog_6_method_45_code 1 = .ok (.aload_n 0, 1) := by decide +kernel
theorem d_M_find_2 : decode prog_6_method_45_code 2 = .ok (.getfield 203, 3) := by decide +kernel
theorem d_M_find_5 : decode prog_6_method_45_code 5 = .ok (.ifCond .ne 7, 3) := by decide +kernel
theorem d_M_find_8 : decode prog_6_method_45_code 8 = .ok (.iconst 1, 1) := by decide +kernel
theorem d_M_find_9 : decode prog_6_method_45_code 9 = .ok (.goto 20, 3) := by decide +kernel
theorem d_M_find_29 : decode prog_6_method_45_code 29 = .ok (.putfield 82, 3) := by decide +kernel
theorem d_M_find_32 : decode prog_6_method_45_code 32 = .ok (.aload_n 0, 1) := by decide +kernel
theorem d_M_find_33 : decode prog_6_method_45_code 33 = .ok (.getfield 82, 3) := by decide +kernel
theorem d_M_find_36 : decode prog_6_method_45_code 36 = .ok (.ifCond .ne 16, 3) := by decide +kernel
theorem d_M_find_52 : decode prog_6_method_45_code 52 = .ok (.aload_n 0, 1) := by decide +kernel
theorem d_M_find_53 : decode prog_6_method_45_code 53 = .ok (.getfield 82, 3) := by decide +kernel
theorem d_M_find_56 : decode prog_6_method_45_code 56 = .ok (.ifCond .le 5, 3) := by decide +kernel
theorem d_M_find_59 : decode prog_6_method_45_code 59 = .ok (.iconst 0, 1) := by decide +kernel
theorem d_M_find_60 : decode prog_6_method_45_code 60 = .ok (.ireturn, 1) := by decide +kernel
theorem d_L_law_384 : decode code 384 = .ok (.istore 6, 2) := by decide +kernel
theorem d_L_law_386 : decode code 386 = .ok (.aload_n 2, 1) := by decide +kernel
theorem d_L_law_387 : decode code 387 = .ok (.invokevirtual 81, 3) := by decide +kernel
theorem d_L_law_390 : decode code 390 = .ok (.iload 5, 2) := by decide +kernel
theorem d_L_law_392 : decode code 392 = .ok (.if_icmp .eq 5, 3) := by decide +kernel
theorem d_L_law_397 : decode code 397 = .ok (.iload 5, 2) := by decide +kernel
theorem d_L_law_399 : decode code 399 = .ok (.ifCond .ne 15, 3) := by decide +kernel
theorem d_L_law_414 : decode code 414 = .ok (.goto 420, 3) := by decide +kernel
theorem d_L_law_417 : decode code 417 = .ok (.aload_n 1, 1) := by decide +kernel
theorem d_L_law_418 : decode code 418 = .ok (.aload_n 3, 1) := by decide +kernel
theorem d_L_law_419 : decode code 419 = .ok (.invokestatic 103, 3) := by decide +kernel
theorem d_L_replace_0 : decode method_8_code 0 = .ok (.aload_n 1, 1) := by decide +kernel
theorem d_L_replace_1 : decode method_8_code 1 = .ok (.iconst 0, 1) := by decide +kernel
theorem d_L_replace_2 : decode method_8_code 2 = .ok (.aload_n 0, 1) := by decide +kernel
theorem d_L_replace_3 : decode method_8_code 3 = .ok (.invokevirtual 35, 3) := by decide +kernel
theorem d_D_replace_0 : decode prog_1_method_10_code 0 = .ok (.aload_n 0, 1) := by decide +kernel
theorem d_D_replace_1 : decode prog_1_method_10_code 1 = .ok (.getfield 103, 3) := by decide +kernel
theorem d_D_replace_4 : decode prog_1_method_10_code 4 = .ok (.ifCond .ne 11, 3) := by decide +kernel
theorem d_D_replace_7 : decode prog_1_method_10_code 7 = .ok (.new 66, 3) := by decide +kernel
theorem d_D_replace_10 : decode prog_1_method_10_code 10 = .ok (.dup, 1) := by decide +kernel
theorem d_D_replace_11 : decode prog_1_method_10_code 11 = .ok (.invokespecial 68, 3) := by decide +kernel
theorem d_D_replace_14 : decode prog_1_method_10_code 14 = .ok (.athrow, 1) := by decide +kernel
theorem d_L_replace_11 : decode method_8_code 11 = .ok (.astore_n 2, 1) := by decide +kernel
theorem d_L_replace_12 : decode method_8_code 12 = .ok (.iconst 1, 1) := by decide +kernel
theorem d_L_replace_13 : decode method_8_code 13 = .ok (.ireturn, 1) := by decide +kernel
theorem d_L_law_422 : decode code 422 = .ok (.istore 5, 2) := by decide +kernel
theorem d_L_law_424 : decode code 424 = .ok (.aload_n 2, 1) := by decide +kernel
theorem d_L_law_425 : decode code 425 = .ok (.invokevirtual 105, 3) := by decide +kernel
theorem d_M_replace_0 : decode prog_6_method_46_code 0 = .ok (.aload_n 0, 1) := by decide +kernel
theorem d_M_replace_1 : decode prog_6_method_46_code 1 = .ok (.aload_n 0, 1) := by decide +kernel
theorem d_M_replace_2 : decode prog_6_method_46_code 2 = .ok (.getfield 203, 3) := by decide +kernel
theorem d_M_replace_5 : decode prog_6_method_46_code 5 = .ok (.ifCond .eq 7, 3) := by decide +kernel
theorem d_M_replace_12 : decode prog_6_method_46_code 12 = .ok (.iconst 1, 1) := by decide +kernel
theorem d_M_replace_13 : decode prog_6_method_46_code 13 = .ok (.putfield 82, 3) := by decide +kernel
theorem d_M_replace_16 : decode prog_6_method_46_code 16 = .ok (.aload_n 0, 1) := by decide +kernel
theorem d_M_replace_17 : decode prog_6_method_46_code 17 = .ok (.getfield 82, 3) := by decide +kernel
theorem d_M_replace_20 : decode prog_6_method_46_code 20 = .ok (.ifCond .le 5, 3) := by decide +kernel
theorem d_M_replace_23 : decode prog_6_method_46_code 23 = .ok (.iconst 0, 1) := by decide +kernel
theorem d_M_replace_24 : decode prog_6_method_46_code 24 = .ok (.ireturn, 1) := by decide +kernel
theorem d_L_law_428 : decode code 428 = .ok (.istore 6, 2) := by decide +kernel
theorem d_L_law_430 : decode code 430 = .ok (.aload_n 2, 1) := by decide +kernel
theorem d_L_law_431 : decode code 431 = .ok (.invokevirtual 81, 3) := by decide +kernel
theorem d_L_law_434 : decode code 434 = .ok (.iload 5, 2) := by decide +kernel
theorem d_L_law_436 : decode code 436 = .ok (.if_icmp .eq 5, 3) := by decide +kernel
theorem d_L_law_441 : decode code 441 = .ok (.iload 5, 2) := by decide +kernel
theorem d_L_law_443 : decode code 443 = .ok (.ifCond .ne 15, 3) := by decide +kernel
theorem d_L_law_458 : decode code 458 = .ok (.goto 376, 3) := by decide +kernel
theorem d_L_law_461 : decode code 461 = .ok (.aload_n 1, 1) := by decide +kernel
theorem d_L_law_462 : decode code 462 = .ok (.aload_n 3, 1) := by decide +kernel
theorem d_L_law_463 : decode code 463 = .ok (.invokestatic 106, 3) := by decide +kernel
theorem d_L_undo_0 : decode method_9_code 0 = .ok (.aload_n 1, 1) := by decide +kernel
theorem d_L_undo_1 : decode method_9_code 1 = .ok (.iconst 0, 1) := by decide +kernel
theorem d_L_undo_2 : decode method_9_code 2 = .ok (.aload_n 0, 1) := by decide +kernel
theorem d_L_undo_3 : decode method_9_code 3 = .ok (.invokevirtual 38, 3) := by decide +kernel
theorem d_D_undo_0 : decode prog_1_method_11_code 0 = .ok (.aload_n 0, 1) := by decide +kernel
theorem d_D_undo_1 : decode prog_1_method_11_code 1 = .ok (.getfield 15, 3) := by decide +kernel
theorem d_D_undo_4 : decode prog_1_method_11_code 4 = .ok (.aload_n 0, 1) := by decide +kernel
theorem d_D_undo_5 : decode prog_1_method_11_code 5 = .ok (.getfield 73, 3) := by decide +kernel
theorem d_D_undo_8 : decode prog_1_method_11_code 8 = .ok (.aaload, 1) := by decide +kernel
theorem d_D_undo_9 : decode prog_1_method_11_code 9 = .ok (.getfield 131, 3) := by decide +kernel
theorem d_D_undo_12 : decode prog_1_method_11_code 12 = .ok (.istore_n 1, 1) := by decide +kernel
theorem d_D_undo_13 : decode prog_1_method_11_code 13 = .ok (.iload_n 1, 1) := by decide +kernel
theorem d_D_undo_14 : decode prog_1_method_11_code 14 = .ok (.iconst (-1), 1) := by decide +kernel
theorem d_D_undo_15 : decode prog_1_method_11_code 15 = .ok (.if_icmp .ne 11, 3) := by decide +kernel
theorem d_D_undo_18 : decode prog_1_method_11_code 18 = .ok (.new 111, 3) := by decide +kernel
theorem d_D_undo_21 : decode prog_1_method_11_code 21 = .ok (.dup, 1) := by decide +kernel
theorem d_D_undo_22 : decode prog_1_method_11_code 22 = .ok (.invokespecial 113, 3) := by decide +kernel
theorem d_D_undo_25 : decode prog_1_method_11_code 25 = .ok (.athrow, 1) := by decide +kernel
theorem d_L_undo_11 : decode method_9_code 11 = .ok (.astore_n 2, 1) := by decide +kernel
theorem d_L_undo_12 : decode method_9_code 12 = .ok (.iconst 1, 1) := by decide +kernel
theorem d_L_undo_13 : decode method_9_code 13 = .ok (.ireturn, 1) := by decide +kernel
theorem d_L_law_466 : decode code 466 = .ok (.istore 5, 2) := by decide +kernel
theorem d_L_law_468 : decode code 468 = .ok (.aload_n 2, 1) := by decide +kernel
theorem d_L_law_469 : decode code 469 = .ok (.invokevirtual 108, 3) := by decide +kernel
theorem d_M_undo_0 : decode prog_6_method_18_code 0 = .ok (.aload_n 0, 1) := by decide +kernel
theorem d_M_undo_1 : decode prog_6_method_18_code 1 = .ok (.aload_n 0, 1) := by decide +kernel
theorem d_M_undo_2 : decode prog_6_method_18_code 2 = .ok (.getfield 92, 3) := by decide +kernel
theorem d_M_undo_5 : decode prog_6_method_18_code 5 = .ok (.ifCond .ne 7, 3) := by decide +kernel
theorem d_M_undo_8 : decode prog_6_method_18_code 8 = .ok (.iconst 1, 1) := by decide +kernel
theorem d_M_undo_9 : decode prog_6_method_18_code 9 = .ok (.goto 4, 3) := by decide +kernel
theorem d_M_undo_13 : decode prog_6_method_18_code 13 = .ok (.putfield 82, 3) := by decide +kernel
theorem d_M_undo_16 : decode prog_6_method_18_code 16 = .ok (.aload_n 0, 1) := by decide +kernel
theorem d_M_undo_17 : decode prog_6_method_18_code 17 = .ok (.getfield 82, 3) := by decide +kernel
theorem d_M_undo_20 : decode prog_6_method_18_code 20 = .ok (.ifCond .ne 16, 3) := by decide +kernel
theorem d_M_undo_36 : decode prog_6_method_18_code 36 = .ok (.aload_n 0, 1) := by decide +kernel
theorem d_M_undo_37 : decode prog_6_method_18_code 37 = .ok (.getfield 82, 3) := by decide +kernel
theorem d_M_undo_40 : decode prog_6_method_18_code 40 = .ok (.ifCond .ne 10, 3) := by decide +kernel
theorem d_M_undo_50 : decode prog_6_method_18_code 50 = .ok (.iconst 0, 1) := by decide +kernel
theorem d_M_undo_51 : decode prog_6_method_18_code 51 = .ok (.ireturn, 1) := by decide +kernel
theorem d_L_law_472 : decode code 472 = .ok (.istore 6, 2) := by decide +kernel
theorem d_L_law_474 : decode code 474 = .ok (.aload_n 2, 1) := by decide +kernel
theorem d_L_law_475 : decode code 475 = .ok (.invokevirtual 81, 3) := by decide +kernel
theorem d_L_law_478 : decode code 478 = .ok (.iload 5, 2) := by decide +kernel
theorem d_L_law_480 : decode code 480 = .ok (.if_icmp .eq 5, 3) := by decide +kernel
theorem d_L_law_485 : decode code 485 = .ok (.iload 5, 2) := by decide +kernel
theorem d_L_law_487 : decode code 487 = .ok (.ifCond .ne 15, 3) := by decide +kernel
theorem d_L_law_502 : decode code 502 = .ok (.goto 332, 3) := by decide +kernel
theorem d_L_law_505 : decode code 505 = .ok (.aload_n 1, 1) := by decide +kernel
theorem d_L_law_506 : decode code 506 = .ok (.aload_n 3, 1) := by decide +kernel
theorem d_L_law_507 : decode code 507 = .ok (.invokestatic 109, 3) := by decide +kernel
theorem d_L_redo_0 : decode method_10_code 0 = .ok (.aload_n 1, 1) := by decide +kernel
theorem d_L_redo_1 : decode method_10_code 1 = .ok (.iconst 0, 1) := by decide +kernel
theorem d_L_redo_2 : decode method_10_code 2 = .ok (.aload_n 0, 1) := by decide +kernel
theorem d_L_redo_3 : decode method_10_code 3 = .ok (.invokevirtual 41, 3) := by decide +kernel
theorem d_D_redo_0 : decode prog_1_method_12_code 0 = .ok (.aload_n 0, 1) := by decide +kernel
theorem d_D_redo_1 : decode prog_1_method_12_code 1 = .ok (.getfield 15, 3) := by decide +kernel
theorem d_D_redo_4 : decode prog_1_method_12_code 4 = .ok (.aload_n 0, 1) := by decide +kernel
theorem d_D_redo_5 : decode prog_1_method_12_code 5 = .ok (.getfield 73, 3) := by decide +kernel
theorem d_D_redo_8 : decode prog_1_method_12_code 8 = .ok (.aaload, 1) := by decide +kernel
theorem d_D_redo_9 : decode prog_1_method_12_code 9 = .ok (.getfield 137, 3) := by decide +kernel
theorem d_D_redo_12 : decode prog_1_method_12_code 12 = .ok (.istore_n 1, 1) := by decide +kernel
theorem d_D_redo_13 : decode prog_1_method_12_code 13 = .ok (.iload_n 1, 1) := by decide +kernel
theorem d_D_redo_14 : decode prog_1_method_12_code 14 = .ok (.iconst (-1), 1) := by decide +kernel
theorem d_D_redo_15 : decode prog_1_method_12_code 15 = .ok (.if_icmp .ne 11, 3) := by decide +kernel
theorem d_D_redo_18 : decode prog_1_method_12_code 18 = .ok (.new 111, 3) := by decide +kernel
theorem d_D_redo_21 : decode prog_1_method_12_code 21 = .ok (.dup, 1) := by decide +kernel
theorem d_D_redo_22 : decode prog_1_method_12_code 22 = .ok (.invokespecial 113, 3) := by decide +kernel
theorem d_D_redo_25 : decode prog_1_method_12_code 25 = .ok (.athrow, 1) := by decide +kernel
theorem d_L_redo_11 : decode method_10_code 11 = .ok (.astore_n 2, 1) := by decide +kernel
theorem d_L_redo_12 : decode method_10_code 12 = .ok (.iconst 1, 1) := by decide +kernel
theorem d_L_redo_13 : decode method_10_code 13 = .ok (.ireturn, 1) := by decide +kernel
theorem d_L_law_510 : decode code 510 = .ok (.istore 5, 2) := by decide +kernel
theorem d_L_law_512 : decode code 512 = .ok (.aload_n 2, 1) := by decide +kernel
theorem d_L_law_513 : decode code 513 = .ok (.invokevirtual 111, 3) := by decide +kernel
theorem d_M_redo_0 : decode prog_6_method_19_code 0 = .ok (.iconst (-1), 1) := by decide +kernel
theorem d_M_redo_1 : decode prog_6_method_19_code 1 = .ok (.istore_n 1, 1) := by decide +kernel
theorem d_M_redo_2 : decode prog_6_method_19_code 2 = .ok (.iconst 0, 1) := by decide +kernel
theorem d_M_redo_3 : decode prog_6_method_19_code 3 = .ok (.istore_n 2, 1) := by decide +kernel
theorem d_M_redo_4 : decode prog_6_method_19_code 4 = .ok (.iload_n 2, 1) := by decide +kernel
theorem d_M_redo_5 : decode prog_6_method_19_code 5 = .ok (.aload_n 0, 1) := by decide +kernel
theorem d_M_redo_6 : decode prog_6_method_19_code 6 = .ok (.getfield 13, 3) := by decide +kernel
theorem d_M_redo_9 : decode prog_6_method_19_code 9 = .ok (.if_icmp .ge 47, 3) := by decide +kernel
theorem d_M_redo_12 : decode prog_6_method_19_code 12 = .ok (.aload_n 0, 1) := by decide +kernel
theorem d_M_redo_13 : decode prog_6_method_19_code 13 = .ok (.getfield 27, 3) := by decide +kernel
theorem d_M_redo_16 : decode prog_6_method_19_code 16 = .ok (.iload_n 2, 1) := by decide +kernel
theorem d_M_redo_17 : decode prog_6_method_19_code 17 = .ok (.iaload, 1) := by decide +kernel
theorem d_M_redo_18 : decode prog_6_method_19_code 18 = .ok (.aload_n 0, 1) := by decide +kernel
theorem d_M_redo_19 : decode prog_6_method_19_code 19 = .ok (.getfield 92, 3) := by decide +kernel
theorem d_M_redo_22 : decode prog_6_method_19_code 22 = .ok (.if_icmp .ne 26, 3) := by decide +kernel
theorem d_M_redo_48 : decode prog_6_method_19_code 48 = .ok (.iload_n 1, 1) := by decide +kernel
theorem d_M_redo_49 : decode prog_6_method_19_code 49 = .ok (.istore_n 1, 1) := by decide +kernel
theorem d_M_redo_50 : decode prog_6_method_19_code 50 = .ok (.iinc 2 1, 3) := by decide +kernel
theorem d_M_redo_53 : decode prog_6_method_19_code 53 = .ok (.goto (-49), 3) := by decide +kernel
theorem d_M_redo_56 : decode prog_6_method_19_code 56 = .ok (.aload_n 0, 1) := by decide +kernel
theorem d_M_redo_57 : decode prog_6_method_19_code 57 = .ok (.iload_n 1, 1) := by decide +kernel
theorem d_M_redo_58 : decode prog_6_method_19_code 58 = .ok (.ifCond .ge 7, 3) := by decide +kernel
theorem d_M_redo_61 : decode prog_6_method_19_code 61 = .ok (.iconst 1, 1) := by decide +kernel
theorem d_M_redo_62 : decode prog_6_method_19_code 62 = .ok (.goto 4, 3) := by decide +kernel
theorem d_M_redo_66 : decode prog_6_method_19_code 66 = .ok (.putfield 82, 3) := by decide +kernel
theorem d_M_redo_69 : decode prog_6_method_19_code 69 = .ok (.aload_n 0, 1) := by decide +kernel
theorem d_M_redo_70 : decode prog_6_method_19_code 70 = .ok (.getfield 82, 3) := by decide +kernel
theorem d_M_redo_73 : decode prog_6_method_19_code 73 = .ok (.ifCond .ne 8, 3) := by decide +kernel
theorem d_M_redo_81 : decode prog_6_method_19_code 81 = .ok (.aload_n 0, 1) := by decide +kernel
theorem d_M_redo_82 : decode prog_6_method_19_code 82 = .ok (.getfield 82, 3) := by decide +kernel
theorem d_M_redo_85 : decode prog_6_method_19_code 85 = .ok (.ifCond .ne 10, 3) := by decide +kernel
theorem d_M_redo_95 : decode prog_6_method_19_code 95 = .ok (.iconst 0, 1) := by decide +kernel
theorem d_M_redo_96 : decode prog_6_method_19_code 96 = .ok (.ireturn, 1) := by decide +kernel
theorem d_L_law_516 : decode code 516 = .ok (.istore 6, 2) := by decide +kernel
theorem d_L_law_518 : decode code 518 = .ok (.aload_n 2, 1) := by decide +kernel
theorem d_L_law_519 : decode code 519 = .ok (.invokevirtual 81, 3) := by decide +kernel
theorem d_L_law_522 : decode code 522 = .ok (.iload 5, 2) := by decide +kernel
theorem d_L_law_524 : decode code 524 = .ok (.if_icmp .eq 5, 3) := by decide +kernel
theorem d_L_law_529 : decode code 529 = .ok (.iload 5, 2) := by decide +kernel
theorem d_L_law_531 : decode code 531 = .ok (.ifCond .ne 15, 3) := by decide +kernel
theorem d_L_law_546 : decode code 546 = .ok (.goto 288, 3) := by decide +kernel
theorem d_L_law_549 : decode code 549 = .ok (.aload_n 1, 1) := by decide +kernel
theorem d_L_law_550 : decode code 550 = .ok (.aload_n 0, 1) := by decide +kernel
theorem d_L_law_551 : decode code 551 = .ok (.iload 4, 2) := by decide +kernel
theorem d_L_law_553 : decode code 553 = .ok (.iconst 1, 1) := by decide +kernel
theorem d_L_law_554 : decode code 554 = .ok (.iadd, 1) := by decide +kernel
theorem d_L_law_555 : decode code 555 = .ok (.iaload, 1) := by decide +kernel
theorem d_L_law_556 : decode code 556 = .ok (.invokestatic 112, 3) := by decide +kernel
theorem d_L_jump_0 : decode method_11_code 0 = .ok (.aload_n 0, 1) := by decide +kernel
theorem d_L_jump_1 : decode method_11_code 1 = .ok (.iload_n 1, 1) := by decide +kernel
theorem d_L_jump_2 : decode method_11_code 2 = .ok (.invokevirtual 44, 3) := by decide +kernel
theorem d_D_jump_0 : decode prog_1_method_13_code 0 = .ok (.aload_n 0, 1) := by decide +kernel
theorem d_D_jump_1 : decode prog_1_method_13_code 1 = .ok (.iload_n 1, 1) := by decide +kernel
theorem d_D_jump_2 : decode prog_1_method_13_code 2 = .ok (.invokevirtual 140, 3) := by decide +kernel
theorem d_D_requireState_0 : decode prog_1_method_20_code 0 = .ok (.iload_n 1, 1) := by decide +kernel
theorem d_D_requireState_1 : decode prog_1_method_20_code 1 = .ok (.ifCond .lt 11, 3) := by decide +kernel
theorem d_D_requireState_4 : decode prog_1_method_20_code 4 = .ok (.iload_n 1, 1) := by decide +kernel
theorem d_D_requireState_5 : decode prog_1_method_20_code 5 = .ok (.aload_n 0, 1) := by decide +kernel
theorem d_D_requireState_6 : decode prog_1_method_20_code 6 = .ok (.getfield 25, 3) := by decide +kernel
theorem d_D_requireState_9 : decode prog_1_method_20_code 9 = .ok (.if_icmp .lt 11, 3) := by decide +kernel
theorem d_D_requireState_20 : decode prog_1_method_20_code 20 = .ok (.return_, 1) := by decide +kernel
theorem d_D_jump_5 : decode prog_1_method_13_code 5 = .ok (.aload_n 0, 1) := by decide +kernel
theorem d_D_jump_6 : decode prog_1_method_13_code 6 = .ok (.iload_n 1, 1) := by decide +kernel
theorem d_D_jump_7 : decode prog_1_method_13_code 7 = .ok (.invokevirtual 134, 3) := by decide +kernel
theorem d_D_moveTo_0 : decode prog_1_method_23_code 0 = .ok (.aload_n 0, 1) := by decide +kernel
theorem d_D_moveTo_1 : decode prog_1_method_23_code 1 = .ok (.getfield 15, 3) := by decide +kernel
theorem d_D_moveTo_4 : decode prog_1_method_23_code 4 = .ok (.aload_n 0, 1) := by decide +kernel
theorem d_D_moveTo_5 : decode prog_1_method_23_code 5 = .ok (.getfield 73, 3) := by decide +kernel
theorem d_D_moveTo_8 : decode prog_1_method_23_code 8 = .ok (.aaload, 1) := by decide +kernel
theorem d_D_moveTo_9 : decode prog_1_method_23_code 9 = .ok (.aload_n 0, 1) := by decide +kernel
theorem d_D_moveTo_10 : decode prog_1_method_23_code 10 = .ok (.getfield 76, 3) := by decide +kernel
theorem d_D_moveTo_13 : decode prog_1_method_23_code 13 = .ok (.putfield 155, 3) := by decide +kernel
theorem d_D_moveTo_16 : decode prog_1_method_23_code 16 = .ok (.aload_n 0, 1) := by decide +kernel
theorem d_D_moveTo_17 : decode prog_1_method_23_code 17 = .ok (.getfield 15, 3) := by decide +kernel
theorem d_D_moveTo_20 : decode prog_1_method_23_code 20 = .ok (.iload_n 1, 1) := by decide +kernel
theorem d_D_moveTo_21 : decode prog_1_method_23_code 21 = .ok (.aaload, 1) := by decide +kernel
theorem d_D_moveTo_22 : decode prog_1_method_23_code 22 = .ok (.astore_n 2, 1) := by decide +kernel
theorem d_D_moveTo_23 : decode prog_1_method_23_code 23 = .ok (.aload_n 0, 1) := by decide +kernel
theorem d_D_moveTo_24 : decode prog_1_method_23_code 24 = .ok (.iload_n 1, 1) := by decide +kernel
theorem d_D_moveTo_25 : decode prog_1_method_23_code 25 = .ok (.putfield 73, 3) := by decide +kernel
theorem d_D_moveTo_28 : decode prog_1_method_23_code 28 = .ok (.aload_n 0, 1) := by decide +kernel
theorem d_D_moveTo_29 : decode prog_1_method_23_code 29 = .ok (.aload_n 2, 1) := by decide +kernel
theorem d_D_moveTo_30 : decode prog_1_method_23_code 30 = .ok (.getfield 158, 3) := by decide +kernel
theorem d_D_moveTo_33 : decode prog_1_method_23_code 33 = .ok (.putfield 19, 3) := by decide +kernel
theorem d_D_moveTo_36 : decode prog_1_method_23_code 36 = .ok (.aload_n 0, 1) := by decide +kernel
theorem d_D_moveTo_37 : decode prog_1_method_23_code 37 = .ok (.aload_n 2, 1) := by decide +kernel
theorem d_D_moveTo_38 : decode prog_1_method_23_code 38 = .ok (.getfield 155, 3) := by decide +kernel
theorem d_D_moveTo_41 : decode prog_1_method_23_code 41 = .ok (.putfield 76, 3) := by decide +kernel
theorem d_D_moveTo_44 : decode prog_1_method_23_code 44 = .ok (.aload_n 0, 1) := by decide +kernel
theorem d_D_moveTo_45 : decode prog_1_method_23_code 45 = .ok (.iconst (-1), 1) := by decide +kernel
theorem d_D_moveTo_46 : decode prog_1_method_23_code 46 = .ok (.putfield 29, 3) := by decide +kernel
theorem d_D_moveTo_49 : decode prog_1_method_23_code 49 = .ok (.aload_n 2, 1) := by decide +kernel
theorem d_D_moveTo_50 : decode prog_1_method_23_code 50 = .ok (.getfield 131, 3) := by decide +kernel
theorem d_D_moveTo_53 : decode prog_1_method_23_code 53 = .ok (.iconst (-1), 1) := by decide +kernel
theorem d_D_moveTo_54 : decode prog_1_method_23_code 54 = .ok (.if_icmp .eq 16, 3) := by decide +kernel
theorem d_D_moveTo_70 : decode prog_1_method_23_code 70 = .ok (.return_, 1) := by decide +kernel
theorem d_D_jump_10 : decode prog_1_method_13_code 10 = .ok (.return_, 1) := by decide +kernel
theorem d_L_jump_5 : decode method_11_code 5 = .ok (.goto 6, 3) := by decide +kernel
theorem d_L_jump_11 : decode method_11_code 11 = .ok (.iconst 0, 1) := by decide +kernel
theorem d_L_jump_12 : decode method_11_code 12 = .ok (.ireturn, 1) := by decide +kernel
theorem d_L_law_559 : decode code 559 = .ok (.istore 5, 2) := by decide +kernel
theorem d_L_law_561 : decode code 561 = .ok (.aload_n 2, 1) := by decide +kernel
theorem d_L_law_562 : decode code 562 = .ok (.aload_n 0, 1) := by decide +kernel
theorem d_L_law_563 : decode code 563 = .ok (.iload 4, 2) := by decide +kernel
theorem d_L_law_565 : decode code 565 = .ok (.iconst 1, 1) := by decide +kernel
theorem d_L_law_566 : decode code 566 = .ok (.iadd, 1) := by decide +kernel
theorem d_L_law_567 : decode code 567 = .ok (.iaload, 1) := by decide +kernel
theorem d_L_law_568 : decode code 568 = .ok (.invokevirtual 115, 3) := by decide +kernel
theorem d_M_jump_0 : decode prog_6_method_20_code 0 = .ok (.aload_n 0, 1) := by decide +kernel
theorem d_M_jump_1 : decode prog_6_method_20_code 1 = .ok (.iload_n 1, 1) := by decide +kernel
theorem d_M_jump_2 : decode prog_6_method_20_code 2 = .ok (.ifCond .lt 11, 3) := by decide +kernel
theorem d_M_jump_5 : decode prog_6_method_20_code 5 = .ok (.iload_n 1, 1) := by decide +kernel
theorem d_M_jump_6 : decode prog_6_method_20_code 6 = .ok (.aload_n 0, 1) := by decide +kernel
theorem d_M_jump_7 : decode prog_6_method_20_code 7 = .ok (.getfield 13, 3) := by decide +kernel
theorem d_M_jump_10 : decode prog_6_method_20_code 10 = .ok (.if_icmp .lt 7, 3) := by decide +kernel
theorem d_M_jump_17 : decode prog_6_method_20_code 17 = .ok (.iconst 0, 1) := by decide +kernel
theorem d_M_jump_18 : decode prog_6_method_20_code 18 = .ok (.putfield 82, 3) := by decide +kernel
theorem d_M_jump_21 : decode prog_6_method_20_code 21 = .ok (.aload_n 0, 1) := by decide +kernel
theorem d_M_jump_22 : decode prog_6_method_20_code 22 = .ok (.getfield 82, 3) := by decide +kernel
theorem d_M_jump_25 : decode prog_6_method_20_code 25 = .ok (.ifCond .ne 8, 3) := by decide +kernel
theorem d_M_jump_28 : decode prog_6_method_20_code 28 = .ok (.aload_n 0, 1) := by decide +kernel
theorem d_M_jump_29 : decode prog_6_method_20_code 29 = .ok (.iload_n 1, 1) := by decide +kernel
theorem d_M_jump_30 : decode prog_6_method_20_code 30 = .ok (.invokevirtual 112, 3) := by decide +kernel
theorem d_M_come_0 : decode prog_6_method_8_code 0 = .ok (.aload_n 0, 1) := by decide +kernel
theorem d_M_come_1 : decode prog_6_method_8_code 1 = .ok (.getfield 24, 3) := by decide +kernel
theorem d_M_come_4 : decode prog_6_method_8_code 4 = .ok (.aload_n 0, 1) := by decide +kernel
theorem d_M_come_5 : decode prog_6_method_8_code 5 = .ok (.getfield 92, 3) := by decide +kernel
theorem d_M_come_8 : decode prog_6_method_8_code 8 = .ok (.aload_n 0, 1) := by decide +kernel
theorem d_M_come_9 : decode prog_6_method_8_code 9 = .ok (.getfield 95, 3) := by decide +kernel
theorem d_M_come_12 : decode prog_6_method_8_code 12 = .ok (.iastore, 1) := by decide +kernel
theorem d_M_come_13 : decode prog_6_method_8_code 13 = .ok (.aload_n 0, 1) := by decide +kernel
theorem d_M_come_14 : decode prog_6_method_8_code 14 = .ok (.iload_n 1, 1) := by decide +kernel
theorem d_M_come_15 : decode prog_6_method_8_code 15 = .ok (.putfield 92, 3) := by decide +kernel
theorem d_M_come_18 : decode prog_6_method_8_code 18 = .ok (.aload_n 0, 1) := by decide +kernel
theorem d_M_come_19 : decode prog_6_method_8_code 19 = .ok (.aload_n 0, 1) := by decide +kernel
theorem d_M_come_20 : decode prog_6_method_8_code 20 = .ok (.getfield 24, 3) := by decide +kernel
theorem d_M_come_23 : decode prog_6_method_8_code 23 = .ok (.iload_n 1, 1) := by decide +kernel
theorem d_M_come_24 : decode prog_6_method_8_code 24 = .ok (.iaload, 1) := by decide +kernel
theorem d_M_come_25 : decode prog_6_method_8_code 25 = .ok (.putfield 95, 3) := by decide +kernel
theorem d_M_come_28 : decode prog_6_method_8_code 28 = .ok (.aload_n 0, 1) := by decide +kernel
theorem d_M_come_29 : decode prog_6_method_8_code 29 = .ok (.iconst (-1), 1) := by decide +kernel
theorem d_M_come_30 : decode prog_6_method_8_code 30 = .ok (.putfield 33, 3) := by decide +kernel
theorem d_M_come_33 : decode prog_6_method_8_code 33 = .ok (.aload_n 0, 1) := by decide +kernel
theorem d_M_come_34 : decode prog_6_method_8_code 34 = .ok (.dup, 1) := by decide +kernel
theorem d_M_come_35 : decode prog_6_method_8_code 35 = .ok (.getfield 98, 3) := by decide +kernel
theorem d_M_come_38 : decode prog_6_method_8_code 38 = .ok (.iconst 1, 1) := by decide +kernel
theorem d_M_come_39 : decode prog_6_method_8_code 39 = .ok (.iadd, 1) := by decide +kernel
theorem d_M_come_40 : decode prog_6_method_8_code 40 = .ok (.putfield 98, 3) := by decide +kernel
theorem d_M_come_43 : decode prog_6_method_8_code 43 = .ok (.aload_n 0, 1) := by decide +kernel
theorem d_M_come_44 : decode prog_6_method_8_code 44 = .ok (.getfield 30, 3) := by decide +kernel
theorem d_M_come_47 : decode prog_6_method_8_code 47 = .ok (.iload_n 1, 1) := by decide +kernel
theorem d_M_come_48 : decode prog_6_method_8_code 48 = .ok (.aload_n 0, 1) := by decide +kernel
theorem d_M_come_49 : decode prog_6_method_8_code 49 = .ok (.getfield 98, 3) := by decide +kernel
theorem d_M_come_52 : decode prog_6_method_8_code 52 = .ok (.iastore, 1) := by decide +kernel
theorem d_M_come_53 : decode prog_6_method_8_code 53 = .ok (.return_, 1) := by decide +kernel
theorem d_M_jump_33 : decode prog_6_method_20_code 33 = .ok (.return_, 1) := by decide +kernel
theorem d_L_law_571 : decode code 571 = .ok (.aload_n 2, 1) := by decide +kernel
theorem d_L_law_572 : decode code 572 = .ok (.invokevirtual 81, 3) := by decide +kernel
theorem d_L_law_575 : decode code 575 = .ok (.iload 5, 2) := by decide +kernel
theorem d_L_law_577 : decode code 577 = .ok (.if_icmp .eq 5, 3) := by decide +kernel
theorem d_L_law_582 : decode code 582 = .ok (.goto 252, 3) := by decide +kernel
theorem d_D_requireState_12 : decode prog_1_method_20_code 12 = .ok (.new 96, 3) := by decide +kernel
theorem d_D_requireState_15 : decode prog_1_method_20_code 15 = .ok (.dup, 1) := by decide +kernel
theorem d_D_requireState_16 : decode prog_1_method_20_code 16 = .ok (.invokespecial 98, 3) := by decide +kernel
theorem d_D_requireState_19 : decode prog_1_method_20_code 19 = .ok (.athrow, 1) := by decide +kernel
theorem d_L_jump_8 : decode method_11_code 8 = .ok (.astore_n 2, 1) := by decide +kernel
theorem d_L_jump_9 : decode method_11_code 9 = .ok (.iconst 1, 1) := by decide +kernel
theorem d_L_jump_10 : decode method_11_code 10 = .ok (.ireturn, 1) := by decide +kernel
theorem d_M_jump_13 : decode prog_6_method_20_code 13 = .ok (.iconst 1, 1) := by decide +kernel
theorem d_M_jump_14 : decode prog_6_method_20_code 14 = .ok (.goto 4, 3) := by decide +kernel
theorem d_L_law_585 : decode code 585 = .ok (.aload_n 1, 1) := by decide +kernel
theorem d_L_law_586 : decode code 586 = .ok (.invokevirtual 116, 3) := by decide +kernel
theorem d_D_length_0 : decode prog_1_method_14_code 0 = .ok (.aload_n 0, 1) := by decide +kernel
theorem d_D_length_1 : decode prog_1_method_14_code 1 = .ok (.getfield 19, 3) := by decide +kernel
theorem d_D_length_4 : decode prog_1_method_14_code 4 = .ok (.arraylength, 1) := by decide +kernel
theorem d_D_length_5 : decode prog_1_method_14_code 5 = .ok (.ireturn, 1) := by decide +kernel
theorem d_L_law_589 : decode code 589 = .ok (.aload_n 2, 1) := by decide +kernel
theorem d_L_law_590 : decode code 590 = .ok (.invokevirtual 119, 3) := by decide +kernel
theorem d_M_length_0 : decode prog_6_method_47_code 0 = .ok (.aload_n 0, 1) := by decide +kernel
theorem d_M_length_1 : decode prog_6_method_47_code 1 = .ok (.iconst 0, 1) := by decide +kernel
theorem d_M_length_2 : decode prog_6_method_47_code 2 = .ok (.putfield 82, 3) := by decide +kernel
theorem d_M_length_5 : decode prog_6_method_47_code 5 = .ok (.aload_n 0, 1) := by decide +kernel
theorem d_M_length_6 : decode prog_6_method_47_code 6 = .ok (.invokevirtual 123, 3) := by decide +kernel
theorem d_M_length_9 : decode prog_6_method_47_code 9 = .ok (.ireturn, 1) := by decide +kernel
theorem d_L_law_593 : decode code 593 = .ok (.if_icmp .eq 241, 3) := by decide +kernel
theorem d_L_law_598 : decode code 598 = .ok (.aload_n 1, 1) := by decide +kernel
theorem d_L_law_599 : decode code 599 = .ok (.aload_n 0, 1) := by decide +kernel
theorem d_L_law_600 : decode code 600 = .ok (.iload 4, 2) := by decide +kernel
theorem d_L_law_602 : decode code 602 = .ok (.iconst 1, 1) := by decide +kernel
theorem d_L_law_603 : decode code 603 = .ok (.iadd, 1) := by decide +kernel
theorem d_L_law_604 : decode code 604 = .ok (.iaload, 1) := by decide +kernel
theorem d_L_law_605 : decode code 605 = .ok (.aload_n 3, 1) := by decide +kernel
theorem d_L_law_606 : decode code 606 = .ok (.invokestatic 120, 3) := by decide +kernel
theorem d_L_at_0 : decode method_12_code 0 = .ok (.aload_n 2, 1) := by decide +kernel
theorem d_L_at_1 : decode method_12_code 1 = .ok (.iconst 0, 1) := by decide +kernel
theorem d_L_at_2 : decode method_12_code 2 = .ok (.aload_n 0, 1) := by decide +kernel
theorem d_L_at_3 : decode method_12_code 3 = .ok (.iload_n 1, 1) := by decide +kernel
theorem d_L_at_4 : decode method_12_code 4 = .ok (.invokevirtual 48, 3) := by decide +kernel
theorem d_D_at_0 : decode prog_1_method_15_code 0 = .ok (.iload_n 1, 1) := by decide +kernel
theorem d_D_at_1 : decode prog_1_method_15_code 1 = .ok (.ifCond .lt 12, 3) := by decide +kernel
theorem d_D_at_13 : decode prog_1_method_15_code 13 = .ok (.new 143, 3) := by decide +kernel
theorem d_D_at_4 : decode prog_1_method_15_code 4 = .ok (.iload_n 1, 1) := by decide +kernel
theorem d_D_at_5 : decode prog_1_method_15_code 5 = .ok (.aload_n 0, 1) := by decide +kernel
theorem d_D_at_6 : decode prog_1_method_15_code 6 = .ok (.getfield 19, 3) := by decide +kernel
theorem d_D_at_9 : decode prog_1_method_15_code 9 = .ok (.arraylength, 1) := by decide +kernel
theorem d_D_at_10 : decode prog_1_method_15_code 10 = .ok (.if_icmp .lt 11, 3) := by decide +kernel
theorem d_D_at_16 : decode prog_1_method_15_code 16 = .ok (.dup, 1) := by decide +kernel
theorem d_D_at_17 : decode prog_1_method_15_code 17 = .ok (.invokespecial 145, 3) := by decide +kernel
theorem d_D_at_20 : decode prog_1_method_15_code 20 = .ok (.athrow, 1) := by decide +kernel
theorem d_L_at_12 : decode method_12_code 12 = .ok (.astore_n 3, 1) := by decide +kernel
theorem d_L_at_13 : decode method_12_code 13 = .ok (.iconst 1, 1) := by decide +kernel
theorem d_L_at_14 : decode method_12_code 14 = .ok (.ireturn, 1) := by decide +kernel
theorem d_L_law_609 : decode code 609 = .ok (.istore 5, 2) := by decide +kernel
theorem d_L_law_611 : decode code 611 = .ok (.aload_n 2, 1) := by decide +kernel
theorem d_L_law_612 : decode code 612 = .ok (.aload_n 0, 1) := by decide +kernel
theorem d_L_law_613 : decode code 613 = .ok (.iload 4, 2) := by decide +kernel
theorem d_L_law_615 : decode code 615 = .ok (.iconst 1, 1) := by decide +kernel
theorem d_L_law_616 : decode code 616 = .ok (.iadd, 1) := by decide +kernel
theorem d_L_law_617 : decode code 617 = .ok (.iaload, 1) := by decide +kernel
theorem d_L_law_618 : decode code 618 = .ok (.invokevirtual 122, 3) := by decide +kernel
theorem d_M_at_0 : decode prog_6_method_48_code 0 = .ok (.aload_n 0, 1) := by decide +kernel
theorem d_M_at_1 : decode prog_6_method_48_code 1 = .ok (.iload_n 1, 1) := by decide +kernel
theorem d_M_at_2 : decode prog_6_method_48_code 2 = .ok (.ifCond .lt 11, 3) := by decide +kernel
theorem d_M_at_13 : decode prog_6_method_48_code 13 = .ok (.iconst 1, 1) := by decide +kernel
theorem d_M_at_14 : decode prog_6_method_48_code 14 = .ok (.goto 4, 3) := by decide +kernel
theorem d_M_at_18 : decode prog_6_method_48_code 18 = .ok (.putfield 82, 3) := by decide +kernel
theorem d_M_at_21 : decode prog_6_method_48_code 21 = .ok (.aload_n 0, 1) := by decide +kernel
theorem d_M_at_22 : decode prog_6_method_48_code 22 = .ok (.getfield 82, 3) := by decide +kernel
theorem d_M_at_25 : decode prog_6_method_48_code 25 = .ok (.ifCond .ne 11, 3) := by decide +kernel
theorem d_M_at_36 : decode prog_6_method_48_code 36 = .ok (.iconst 0, 1) := by decide +kernel
theorem d_M_at_37 : decode prog_6_method_48_code 37 = .ok (.ireturn, 1) := by decide +kernel
theorem d_M_at_5 : decode prog_6_method_48_code 5 = .ok (.iload_n 1, 1) := by decide +kernel
end
section
theorem d_M_at_6 : decode prog_6_method_48_code 6 = .ok (.aload_n 0, 1) := by decide +kernel
theorem d_M_at_7 : decode prog_6_method_48_code 7 = .ok (.invokevirtual 123, 3) := by decide +kernel
theorem d_M_at_10 : decode prog_6_method_48_code 10 = .ok (.if_icmp .lt 7, 3) := by decide +kernel
theorem d_L_law_621 : decode code 621 = .ok (.istore 6, 2) := by decide +kernel
theorem d_L_law_623 : decode code 623 = .ok (.aload_n 2, 1) := by decide +kernel
theorem d_L_law_624 : decode code 624 = .ok (.invokevirtual 81, 3) := by decide +kernel
theorem d_L_law_627 : decode code 627 = .ok (.iload 5, 2) := by decide +kernel
theorem d_L_law_629 : decode code 629 = .ok (.if_icmp .eq 5, 3) := by decide +kernel
theorem d_L_law_634 : decode code 634 = .ok (.iload 5, 2) := by decide +kernel
theorem d_L_law_636 : decode code 636 = .ok (.ifCond .ne 15, 3) := by decide +kernel
theorem d_L_law_651 : decode code 651 = .ok (.goto 183, 3) := by decide +kernel
theorem d_L_law_654 : decode code 654 = .ok (.aload_n 1, 1) := by decide +kernel
theorem d_L_law_655 : decode code 655 = .ok (.aload_n 0, 1) := by decide +kernel
theorem d_L_law_656 : decode code 656 = .ok (.iload 4, 2) := by decide +kernel
theorem d_L_law_658 : decode code 658 = .ok (.iconst 1, 1) := by decide +kernel
theorem d_L_law_659 : decode code 659 = .ok (.iadd, 1) := by decide +kernel
theorem d_L_law_660 : decode code 660 = .ok (.iaload, 1) := by decide +kernel
theorem d_L_law_661 : decode code 661 = .ok (.aload_n 0, 1) := by decide +kernel
theorem d_L_law_662 : decode code 662 = .ok (.iload 4, 2) := by decide +kernel
theorem d_L_law_664 : decode code 664 = .ok (.iconst 2, 1) := by decide +kernel
theorem d_L_law_665 : decode code 665 = .ok (.iadd, 1) := by decide +kernel
theorem d_L_law_666 : decode code 666 = .ok (.iaload, 1) := by decide +kernel
theorem d_L_law_667 : decode code 667 = .ok (.aload_n 3, 1) := by decide +kernel
theorem d_L_law_668 : decode code 668 = .ok (.invokestatic 123, 3) := by decide +kernel
theorem d_L_line_0 : decode method_13_code 0 = .ok (.aload_n 3, 1) := by decide +kernel
theorem d_L_line_1 : decode method_13_code 1 = .ok (.iconst 0, 1) := by decide +kernel
theorem d_L_line_2 : decode method_13_code 2 = .ok (.aload_n 0, 1) := by decide +kernel
theorem d_L_line_3 : decode method_13_code 3 = .ok (.iload_n 1, 1) := by decide +kernel
theorem d_L_line_4 : decode method_13_code 4 = .ok (.iload_n 2, 1) := by decide +kernel
theorem d_L_line_5 : decode method_13_code 5 = .ok (.invokevirtual 52, 3) := by decide +kernel
theorem d_D_line_0 : decode prog_1_method_16_code 0 = .ok (.iload_n 1, 1) := by decide +kernel
theorem d_D_line_1 : decode prog_1_method_16_code 1 = .ok (.tableswitch 70 0 3 #[31, 43, 54, 60], 31) := by decide +kernel
theorem d_D_line_32 : decode prog_1_method_16_code 32 = .ok (.aload_n 0, 1) := by decide +kernel
theorem d_D_line_33 : decode prog_1_method_16_code 33 = .ok (.aload_n 0, 1) := by decide +kernel
theorem d_D_line_34 : decode prog_1_method_16_code 34 = .ok (.getfield 19, 3) := by decide +kernel
theorem d_D_line_37 : decode prog_1_method_16_code 37 = .ok (.arraylength, 1) := by decide +kernel
theorem d_D_line_38 : decode prog_1_method_16_code 38 = .ok (.invokevirtual 146, 3) := by decide +kernel
theorem d_D_breaksBefore_0 : decode prog_1_method_29_code 0 = .ok (.iconst 0, 1) := by decide +kernel
theorem d_D_breaksBefore_1 : decode prog_1_method_29_code 1 = .ok (.istore_n 2, 1) := by decide +kernel
theorem d_D_breaksBefore_2 : decode prog_1_method_29_code 2 = .ok (.iconst 0, 1) := by decide +kernel
theorem d_D_breaksBefore_3 : decode prog_1_method_29_code 3 = .ok (.istore_n 3, 1) := by decide +kernel
theorem d_D_breaksBefore_4 : decode prog_1_method_29_code 4 = .ok (.iload_n 3, 1) := by decide +kernel
theorem d_D_breaksBefore_5 : decode prog_1_method_29_code 5 = .ok (.iload_n 1, 1) := by decide +kernel
theorem d_D_breaksBefore_6 : decode prog_1_method_29_code 6 = .ok (.if_icmp .ge 23, 3) := by decide +kernel
theorem d_D_breaksBefore_29 : decode prog_1_method_29_code 29 = .ok (.iload_n 2, 1) := by decide +kernel
theorem d_D_breaksBefore_30 : decode prog_1_method_29_code 30 = .ok (.ireturn, 1) := by decide +kernel
theorem d_D_line_41 : decode prog_1_method_16_code 41 = .ok (.iconst 1, 1) := by decide +kernel
theorem d_D_line_42 : decode prog_1_method_16_code 42 = .ok (.iadd, 1) := by decide +kernel
theorem d_D_line_43 : decode prog_1_method_16_code 43 = .ok (.ireturn, 1) := by decide +kernel
theorem d_L_line_8 : decode method_13_code 8 = .ok (.i2l, 1) := by decide +kernel
theorem d_L_line_9 : decode method_13_code 9 = .ok (.lastore, 1) := by decide +kernel
theorem d_L_line_10 : decode method_13_code 10 = .ok (.goto 11, 3) := by decide +kernel
theorem d_L_line_21 : decode method_13_code 21 = .ok (.iconst 0, 1) := by decide +kernel
theorem d_L_line_22 : decode method_13_code 22 = .ok (.ireturn, 1) := by decide +kernel
theorem d_L_law_671 : decode code 671 = .ok (.istore 5, 2) := by decide +kernel
theorem d_L_law_673 : decode code 673 = .ok (.aload_n 2, 1) := by decide +kernel
theorem d_L_law_674 : decode code 674 = .ok (.aload_n 0, 1) := by decide +kernel
theorem d_L_law_675 : decode code 675 = .ok (.iload 4, 2) := by decide +kernel
theorem d_L_law_677 : decode code 677 = .ok (.iconst 1, 1) := by decide +kernel
theorem d_L_law_678 : decode code 678 = .ok (.iadd, 1) := by decide +kernel
theorem d_L_law_679 : decode code 679 = .ok (.iaload, 1) := by decide +kernel
theorem d_L_law_680 : decode code 680 = .ok (.aload_n 0, 1) := by decide +kernel
theorem d_L_law_681 : decode code 681 = .ok (.iload 4, 2) := by decide +kernel
theorem d_L_law_683 : decode code 683 = .ok (.iconst 2, 1) := by decide +kernel
theorem d_L_law_684 : decode code 684 = .ok (.iadd, 1) := by decide +kernel
theorem d_L_law_685 : decode code 685 = .ok (.iaload, 1) := by decide +kernel
theorem d_L_law_686 : decode code 686 = .ok (.invokevirtual 126, 3) := by decide +kernel
theorem d_M_line_0 : decode prog_6_method_51_code 0 = .ok (.aload_n 0, 1) := by decide +kernel
theorem d_M_line_1 : decode prog_6_method_51_code 1 = .ok (.aload_n 0, 1) := by decide +kernel
theorem d_M_line_2 : decode prog_6_method_51_code 2 = .ok (.invokevirtual 123, 3) := by decide +kernel
theorem d_M_line_5 : decode prog_6_method_51_code 5 = .ok (.invokevirtual 238, 3) := by decide +kernel
theorem d_M_breaks_0 : decode prog_6_method_49_code 0 = .ok (.iconst 0, 1) := by decide +kernel
theorem d_M_breaks_1 : decode prog_6_method_49_code 1 = .ok (.istore_n 2, 1) := by decide +kernel
theorem d_M_breaks_2 : decode prog_6_method_49_code 2 = .ok (.iconst 0, 1) := by decide +kernel
theorem d_M_breaks_3 : decode prog_6_method_49_code 3 = .ok (.istore_n 3, 1) := by decide +kernel
theorem d_M_breaks_4 : decode prog_6_method_49_code 4 = .ok (.iload_n 3, 1) := by decide +kernel
theorem d_M_breaks_5 : decode prog_6_method_49_code 5 = .ok (.iload_n 1, 1) := by decide +kernel
theorem d_M_breaks_6 : decode prog_6_method_49_code 6 = .ok (.if_icmp .ge 27, 3) := by decide +kernel
theorem d_M_breaks_33 : decode prog_6_method_49_code 33 = .ok (.iload_n 2, 1) := by decide +kernel
theorem d_M_breaks_34 : decode prog_6_method_49_code 34 = .ok (.ireturn, 1) := by decide +kernel
theorem d_M_line_8 : decode prog_6_method_51_code 8 = .ok (.iconst 1, 1) := by decide +kernel
theorem d_M_line_9 : decode prog_6_method_51_code 9 = .ok (.iadd, 1) := by decide +kernel
theorem d_M_line_10 : decode prog_6_method_51_code 10 = .ok (.istore_n 3, 1) := by decide +kernel
theorem d_M_line_11 : decode prog_6_method_51_code 11 = .ok (.iload_n 1, 1) := by decide +kernel
theorem d_M_line_12 : decode prog_6_method_51_code 12 = .ok (.ifCond .eq 32, 3) := by decide +kernel
theorem d_M_line_44 : decode prog_6_method_51_code 44 = .ok (.iconst 1, 1) := by decide +kernel
theorem d_M_line_45 : decode prog_6_method_51_code 45 = .ok (.goto 4, 3) := by decide +kernel
theorem d_M_line_49 : decode prog_6_method_51_code 49 = .ok (.istore 4, 2) := by decide +kernel
theorem d_M_line_51 : decode prog_6_method_51_code 51 = .ok (.aload_n 0, 1) := by decide +kernel
theorem d_M_line_52 : decode prog_6_method_51_code 52 = .ok (.iload_n 1, 1) := by decide +kernel
theorem d_M_line_53 : decode prog_6_method_51_code 53 = .ok (.ifCond .lt 8, 3) := by decide +kernel
theorem d_M_line_56 : decode prog_6_method_51_code 56 = .ok (.iload_n 1, 1) := by decide +kernel
theorem d_M_line_57 : decode prog_6_method_51_code 57 = .ok (.iconst 3, 1) := by decide +kernel
theorem d_M_line_58 : decode prog_6_method_51_code 58 = .ok (.if_icmp .le 7, 3) := by decide +kernel
theorem d_M_line_65 : decode prog_6_method_51_code 65 = .ok (.iload 4, 2) := by decide +kernel
theorem d_M_line_67 : decode prog_6_method_51_code 67 = .ok (.ifCond .ne 7, 3) := by decide +kernel
theorem d_M_line_74 : decode prog_6_method_51_code 74 = .ok (.iconst 0, 1) := by decide +kernel
theorem d_M_line_75 : decode prog_6_method_51_code 75 = .ok (.putfield 82, 3) := by decide +kernel
theorem d_M_line_78 : decode prog_6_method_51_code 78 = .ok (.aload_n 0, 1) := by decide +kernel
theorem d_M_line_79 : decode prog_6_method_51_code 79 = .ok (.getfield 82, 3) := by decide +kernel
theorem d_M_line_82 : decode prog_6_method_51_code 82 = .ok (.ifCond .le 5, 3) := by decide +kernel
theorem d_M_line_87 : decode prog_6_method_51_code 87 = .ok (.iload_n 1, 1) := by decide +kernel
theorem d_M_line_88 : decode prog_6_method_51_code 88 = .ok (.iconst 2, 1) := by decide +kernel
theorem d_M_line_89 : decode prog_6_method_51_code 89 = .ok (.if_icmp .ge 17, 3) := by decide +kernel
theorem d_M_line_92 : decode prog_6_method_51_code 92 = .ok (.iload_n 1, 1) := by decide +kernel
theorem d_M_line_93 : decode prog_6_method_51_code 93 = .ok (.ifCond .ne 7, 3) := by decide +kernel
theorem d_M_line_96 : decode prog_6_method_51_code 96 = .ok (.iload_n 3, 1) := by decide +kernel
theorem d_M_line_97 : decode prog_6_method_51_code 97 = .ok (.goto 8, 3) := by decide +kernel
theorem d_M_line_105 : decode prog_6_method_51_code 105 = .ok (.ireturn, 1) := by decide +kernel
theorem d_L_law_689 : decode code 689 = .ok (.istore 6, 2) := by decide +kernel
theorem d_L_law_691 : decode code 691 = .ok (.aload_n 2, 1) := by decide +kernel
theorem d_L_law_692 : decode code 692 = .ok (.invokevirtual 81, 3) := by decide +kernel
theorem d_L_law_695 : decode code 695 = .ok (.iload 5, 2) := by decide +kernel
theorem d_L_law_697 : decode code 697 = .ok (.if_icmp .eq 5, 3) := by decide +kernel
theorem d_L_law_702 : decode code 702 = .ok (.iload 5, 2) := by decide +kernel
theorem d_L_law_704 : decode code 704 = .ok (.ifCond .ne 15, 3) := by decide +kernel
theorem d_L_law_707 : decode code 707 = .ok (.aload_n 3, 1) := by decide +kernel
theorem d_L_law_708 : decode code 708 = .ok (.iconst 0, 1) := by decide +kernel
theorem d_L_law_709 : decode code 709 = .ok (.laload, 1) := by decide +kernel
theorem d_L_law_710 : decode code 710 = .ok (.iload 6, 2) := by decide +kernel
theorem d_L_law_712 : decode code 712 = .ok (.i2l, 1) := by decide +kernel
theorem d_L_law_713 : decode code 713 = .ok (.lcmp, 1) := by decide +kernel
theorem d_L_law_714 : decode code 714 = .ok (.ifCond .eq 5, 3) := by decide +kernel
theorem d_L_law_719 : decode code 719 = .ok (.goto 115, 3) := by decide +kernel
theorem d_D_line_44 : decode prog_1_method_16_code 44 = .ok (.aload_n 0, 1) := by decide +kernel
theorem d_D_line_45 : decode prog_1_method_16_code 45 = .ok (.iload_n 2, 1) := by decide +kernel
theorem d_D_line_46 : decode prog_1_method_16_code 46 = .ok (.invokevirtual 88, 3) := by decide +kernel
theorem d_D_line_49 : decode prog_1_method_16_code 49 = .ok (.aload_n 0, 1) := by decide +kernel
theorem d_D_line_50 : decode prog_1_method_16_code 50 = .ok (.iload_n 2, 1) := by decide +kernel
theorem d_D_line_51 : decode prog_1_method_16_code 51 = .ok (.invokevirtual 146, 3) := by decide +kernel
theorem d_D_line_54 : decode prog_1_method_16_code 54 = .ok (.ireturn, 1) := by decide +kernel
theorem d_M_line_15 : decode prog_6_method_51_code 15 = .ok (.iload_n 1, 1) := by decide +kernel
theorem d_M_line_16 : decode prog_6_method_51_code 16 = .ok (.iconst 1, 1) := by decide +kernel
theorem d_M_line_17 : decode prog_6_method_51_code 17 = .ok (.if_icmp .ne 18, 3) := by decide +kernel
theorem d_M_line_20 : decode prog_6_method_51_code 20 = .ok (.iload_n 2, 1) := by decide +kernel
theorem d_M_line_21 : decode prog_6_method_51_code 21 = .ok (.ifCond .lt 27, 3) := by decide +kernel
theorem d_M_line_24 : decode prog_6_method_51_code 24 = .ok (.iload_n 2, 1) := by decide +kernel
theorem d_M_line_25 : decode prog_6_method_51_code 25 = .ok (.aload_n 0, 1) := by decide +kernel
theorem d_M_line_26 : decode prog_6_method_51_code 26 = .ok (.invokevirtual 123, 3) := by decide +kernel
theorem d_M_line_29 : decode prog_6_method_51_code 29 = .ok (.if_icmp .gt 19, 3) := by decide +kernel
theorem d_M_line_32 : decode prog_6_method_51_code 32 = .ok (.goto 12, 3) := by decide +kernel
theorem d_M_line_100 : decode prog_6_method_51_code 100 = .ok (.aload_n 0, 1) := by decide +kernel
theorem d_M_line_101 : decode prog_6_method_51_code 101 = .ok (.iload_n 2, 1) := by decide +kernel
theorem d_M_line_102 : decode prog_6_method_51_code 102 = .ok (.invokevirtual 238, 3) := by decide +kernel
theorem d_L_line_17 : decode method_13_code 17 = .ok (.astore 4, 2) := by decide +kernel
theorem d_L_line_19 : decode method_13_code 19 = .ok (.iconst 2, 1) := by decide +kernel
theorem d_L_line_20 : decode method_13_code 20 = .ok (.ireturn, 1) := by decide +kernel
theorem d_M_line_48 : decode prog_6_method_51_code 48 = .ok (.iconst 0, 1) := by decide +kernel
theorem d_M_line_70 : decode prog_6_method_51_code 70 = .ok (.iconst 2, 1) := by decide +kernel
theorem d_M_line_71 : decode prog_6_method_51_code 71 = .ok (.goto 4, 3) := by decide +kernel
theorem d_M_line_85 : decode prog_6_method_51_code 85 = .ok (.iconst 0, 1) := by decide +kernel
theorem d_M_line_86 : decode prog_6_method_51_code 86 = .ok (.ireturn, 1) := by decide +kernel
theorem d_D_line_55 : decode prog_1_method_16_code 55 = .ok (.aload_n 0, 1) := by decide +kernel
theorem d_D_line_56 : decode prog_1_method_16_code 56 = .ok (.iload_n 2, 1) := by decide +kernel
theorem d_D_line_57 : decode prog_1_method_16_code 57 = .ok (.invokevirtual 149, 3) := by decide +kernel
theorem d_D_lineBegin_0 : decode prog_1_method_30_code 0 = .ok (.iload_n 1, 1) := by decide +kernel
theorem d_D_lineBegin_1 : decode prog_1_method_30_code 1 = .ok (.ifCond .ne 5, 3) := by decide +kernel
theorem d_D_lineBegin_4 : decode prog_1_method_30_code 4 = .ok (.iconst 0, 1) := by decide +kernel
theorem d_D_lineBegin_5 : decode prog_1_method_30_code 5 = .ok (.ireturn, 1) := by decide +kernel
theorem d_D_line_60 : decode prog_1_method_16_code 60 = .ok (.ireturn, 1) := by decide +kernel
theorem d_M_line_35 : decode prog_6_method_51_code 35 = .ok (.iload_n 2, 1) := by decide +kernel
theorem d_M_line_36 : decode prog_6_method_51_code 36 = .ok (.ifCond .lt 12, 3) := by decide +kernel
theorem d_M_line_39 : decode prog_6_method_51_code 39 = .ok (.iload_n 2, 1) := by decide +kernel
theorem d_M_line_40 : decode prog_6_method_51_code 40 = .ok (.iload_n 3, 1) := by decide +kernel
theorem d_M_line_41 : decode prog_6_method_51_code 41 = .ok (.if_icmp .ge 7, 3) := by decide +kernel
theorem d_M_line_106 : decode prog_6_method_51_code 106 = .ok (.aload_n 0, 1) := by decide +kernel
theorem d_M_line_107 : decode prog_6_method_51_code 107 = .ok (.iload_n 2, 1) := by decide +kernel
theorem d_M_line_108 : decode prog_6_method_51_code 108 = .ok (.invokevirtual 241, 3) := by decide +kernel
theorem d_M_lineStart_0 : decode prog_6_method_50_code 0 = .ok (.iconst 0, 1) := by decide +kernel
theorem d_M_lineStart_1 : decode prog_6_method_50_code 1 = .ok (.istore_n 2, 1) := by decide +kernel
theorem d_M_lineStart_2 : decode prog_6_method_50_code 2 = .ok (.aload_n 0, 1) := by decide +kernel
theorem d_M_lineStart_3 : decode prog_6_method_50_code 3 = .ok (.iload_n 2, 1) := by decide +kernel
theorem d_M_lineStart_4 : decode prog_6_method_50_code 4 = .ok (.invokevirtual 238, 3) := by decide +kernel
theorem d_M_lineStart_7 : decode prog_6_method_50_code 7 = .ok (.iload_n 1, 1) := by decide +kernel
theorem d_M_lineStart_8 : decode prog_6_method_50_code 8 = .ok (.if_icmp .ge 9, 3) := by decide +kernel
theorem d_M_lineStart_17 : decode prog_6_method_50_code 17 = .ok (.iload_n 2, 1) := by decide +kernel
theorem d_M_lineStart_18 : decode prog_6_method_50_code 18 = .ok (.ireturn, 1) := by decide +kernel
theorem d_M_line_111 : decode prog_6_method_51_code 111 = .ok (.istore 5, 2) := by decide +kernel
theorem d_M_line_113 : decode prog_6_method_51_code 113 = .ok (.iload 5, 2) := by decide +kernel
theorem d_M_line_115 : decode prog_6_method_51_code 115 = .ok (.istore 6, 2) := by decide +kernel
theorem d_M_line_117 : decode prog_6_method_51_code 117 = .ok (.iload 6, 2) := by decide +kernel
theorem d_M_line_119 : decode prog_6_method_51_code 119 = .ok (.aload_n 0, 1) := by decide +kernel
theorem d_M_line_120 : decode prog_6_method_51_code 120 = .ok (.invokevirtual 123, 3) := by decide +kernel
theorem d_M_line_123 : decode prog_6_method_51_code 123 = .ok (.if_icmp .ge 20, 3) := by decide +kernel
theorem d_M_line_143 : decode prog_6_method_51_code 143 = .ok (.iload_n 1, 1) := by decide +kernel
theorem d_M_line_144 : decode prog_6_method_51_code 144 = .ok (.iconst 2, 1) := by decide +kernel
theorem d_M_line_145 : decode prog_6_method_51_code 145 = .ok (.if_icmp .ne 8, 3) := by decide +kernel
theorem d_M_line_148 : decode prog_6_method_51_code 148 = .ok (.iload 5, 2) := by decide +kernel
theorem d_M_line_150 : decode prog_6_method_51_code 150 = .ok (.goto 8, 3) := by decide +kernel
theorem d_M_line_158 : decode prog_6_method_51_code 158 = .ok (.ireturn, 1) := by decide +kernel
theorem d_D_lineBegin_6 : decode prog_1_method_30_code 6 = .ok (.iconst 0, 1) := by decide +kernel
theorem d_D_lineBegin_7 : decode prog_1_method_30_code 7 = .ok (.istore_n 2, 1) := by decide +kernel
theorem d_D_lineBegin_8 : decode prog_1_method_30_code 8 = .ok (.iconst 0, 1) := by decide +kernel
theorem d_D_lineBegin_9 : decode prog_1_method_30_code 9 = .ok (.istore_n 3, 1) := by decide +kernel
theorem d_D_lineBegin_10 : decode prog_1_method_30_code 10 = .ok (.iload_n 3, 1) := by decide +kernel
theorem d_D_lineBegin_11 : decode prog_1_method_30_code 11 = .ok (.aload_n 0, 1) := by decide +kernel
theorem d_D_lineBegin_12 : decode prog_1_method_30_code 12 = .ok (.getfield 19, 3) := by decide +kernel
theorem d_D_lineBegin_15 : decode prog_1_method_30_code 15 = .ok (.arraylength, 1) := by decide +kernel
theorem d_D_lineBegin_16 : decode prog_1_method_30_code 16 = .ok (.if_icmp .ge 32, 3) := by decide +kernel
theorem d_D_lineBegin_48 : decode prog_1_method_30_code 48 = .ok (.new 143, 3) := by decide +kernel
theorem d_D_lineBegin_51 : decode prog_1_method_30_code 51 = .ok (.dup, 1) := by decide +kernel
theorem d_D_lineBegin_52 : decode prog_1_method_30_code 52 = .ok (.invokespecial 145, 3) := by decide +kernel
theorem d_D_lineBegin_55 : decode prog_1_method_30_code 55 = .ok (.athrow, 1) := by decide +kernel
theorem d_D_line_61 : decode prog_1_method_16_code 61 = .ok (.aload_n 0, 1) := by decide +kernel
theorem d_D_line_62 : decode prog_1_method_16_code 62 = .ok (.aload_n 0, 1) := by decide +kernel
theorem d_D_line_63 : decode prog_1_method_16_code 63 = .ok (.iload_n 2, 1) := by decide +kernel
theorem d_D_line_64 : decode prog_1_method_16_code 64 = .ok (.invokevirtual 149, 3) := by decide +kernel
theorem d_D_line_67 : decode prog_1_method_16_code 67 = .ok (.invokevirtual 152, 3) := by decide +kernel
theorem d_D_lineSize_0 : decode prog_1_method_31_code 0 = .ok (.iconst 0, 1) := by decide +kernel
theorem d_D_lineSize_1 : decode prog_1_method_31_code 1 = .ok (.istore_n 2, 1) := by decide +kernel
theorem d_D_lineSize_2 : decode prog_1_method_31_code 2 = .ok (.iload_n 1, 1) := by decide +kernel
theorem d_D_lineSize_3 : decode prog_1_method_31_code 3 = .ok (.istore_n 3, 1) := by decide +kernel
theorem d_D_lineSize_4 : decode prog_1_method_31_code 4 = .ok (.iload_n 3, 1) := by decide +kernel
theorem d_D_lineSize_5 : decode prog_1_method_31_code 5 = .ok (.aload_n 0, 1) := by decide +kernel
theorem d_D_lineSize_6 : decode prog_1_method_31_code 6 = .ok (.getfield 19, 3) := by decide +kernel
theorem d_D_lineSize_9 : decode prog_1_method_31_code 9 = .ok (.arraylength, 1) := by decide +kernel
theorem d_D_lineSize_10 : decode prog_1_method_31_code 10 = .ok (.if_icmp .ge 23, 3) := by decide +kernel
theorem d_D_lineSize_33 : decode prog_1_method_31_code 33 = .ok (.iload_n 2, 1) := by decide +kernel
theorem d_D_lineSize_34 : decode prog_1_method_31_code 34 = .ok (.ireturn, 1) := by decide +kernel
theorem d_D_line_70 : decode prog_1_method_16_code 70 = .ok (.ireturn, 1) := by decide +kernel
theorem d_M_line_153 : decode prog_6_method_51_code 153 = .ok (.iload 6, 2) := by decide +kernel
theorem d_M_line_155 : decode prog_6_method_51_code 155 = .ok (.iload 5, 2) := by decide +kernel
theorem d_M_line_157 : decode prog_6_method_51_code 157 = .ok (.isub, 1) := by decide +kernel
theorem d_D_line_71 : decode prog_1_method_16_code 71 = .ok (.new 96, 3) := by decide +kernel
theorem d_D_line_74 : decode prog_1_method_16_code 74 = .ok (.dup, 1) := by decide +kernel
theorem d_D_line_75 : decode prog_1_method_16_code 75 = .ok (.invokespecial 98, 3) := by decide +kernel
theorem d_D_line_78 : decode prog_1_method_16_code 78 = .ok (.athrow, 1) := by decide +kernel
theorem d_L_line_13 : decode method_13_code 13 = .ok (.astore 4, 2) := by decide +kernel
theorem d_L_line_15 : decode method_13_code 15 = .ok (.iconst 1, 1) := by decide +kernel
theorem d_L_line_16 : decode method_13_code 16 = .ok (.ireturn, 1) := by decide +kernel
theorem d_M_line_61 : decode prog_6_method_51_code 61 = .ok (.iconst 1, 1) := by decide +kernel
theorem d_M_line_62 : decode prog_6_method_51_code 62 = .ok (.goto 13, 3) := by decide +kernel
theorem d_L_law_722 : decode code 722 = .ok (.aload_n 1, 1) := by decide +kernel
theorem d_L_law_723 : decode code 723 = .ok (.aload_n 0, 1) := by decide +kernel
theorem d_L_law_724 : decode code 724 = .ok (.iload 4, 2) := by decide +kernel
theorem d_L_law_726 : decode code 726 = .ok (.iconst 1, 1) := by decide +kernel
theorem d_L_law_727 : decode code 727 = .ok (.iadd, 1) := by decide +kernel
theorem d_L_law_728 : decode code 728 = .ok (.iaload, 1) := by decide +kernel
theorem d_L_law_729 : decode code 729 = .ok (.aload_n 3, 1) := by decide +kernel
theorem d_L_law_730 : decode code 730 = .ok (.invokestatic 127, 3) := by decide +kernel
theorem d_L_figure_0 : decode method_14_code 0 = .ok (.aload_n 2, 1) := by decide +kernel
theorem d_L_figure_1 : decode method_14_code 1 = .ok (.iconst 0, 1) := by decide +kernel
theorem d_L_figure_2 : decode method_14_code 2 = .ok (.aload_n 0, 1) := by decide +kernel
theorem d_L_figure_3 : decode method_14_code 3 = .ok (.iload_n 1, 1) := by decide +kernel
theorem d_L_figure_4 : decode method_14_code 4 = .ok (.invokevirtual 56, 3) := by decide +kernel
theorem d_D_figure_0 : decode prog_1_method_17_code 0 = .ok (.iload_n 1, 1) := by decide +kernel
theorem d_D_figure_1 : decode prog_1_method_17_code 1 = .ok (.tableswitch 60 0 4 #[35, 40, 45, 50, 55], 35) := by decide +kernel
theorem d_D_figure_36 : decode prog_1_method_17_code 36 = .ok (.aload_n 0, 1) := by decide +kernel
theorem d_D_figure_37 : decode prog_1_method_17_code 37 = .ok (.getfield 73, 3) := by decide +kernel
theorem d_D_figure_40 : decode prog_1_method_17_code 40 = .ok (.ireturn, 1) := by decide +kernel
theorem d_L_figure_7 : decode method_14_code 7 = .ok (.i2l, 1) := by decide +kernel
theorem d_L_figure_8 : decode method_14_code 8 = .ok (.lastore, 1) := by decide +kernel
theorem d_L_figure_9 : decode method_14_code 9 = .ok (.goto 6, 3) := by decide +kernel
theorem d_L_figure_15 : decode method_14_code 15 = .ok (.iconst 0, 1) := by decide +kernel
theorem d_L_figure_16 : decode method_14_code 16 = .ok (.ireturn, 1) := by decide +kernel
theorem d_L_law_733 : decode code 733 = .ok (.istore 5, 2) := by decide +kernel
theorem d_L_law_735 : decode code 735 = .ok (.aload_n 2, 1) := by decide +kernel
theorem d_L_law_736 : decode code 736 = .ok (.aload_n 0, 1) := by decide +kernel
theorem d_L_law_737 : decode code 737 = .ok (.iload 4, 2) := by decide +kernel
theorem d_L_law_739 : decode code 739 = .ok (.iconst 1, 1) := by decide +kernel
theorem d_L_law_740 : decode code 740 = .ok (.iadd, 1) := by decide +kernel
theorem d_L_law_741 : decode code 741 = .ok (.iaload, 1) := by decide +kernel
theorem d_L_law_742 : decode code 742 = .ok (.invokevirtual 129, 3) := by decide +kernel
theorem d_M_figure_0 : decode prog_6_method_52_code 0 = .ok (.aload_n 0, 1) := by decide +kernel
theorem d_M_figure_1 : decode prog_6_method_52_code 1 = .ok (.iload_n 1, 1) := by decide +kernel
theorem d_M_figure_2 : decode prog_6_method_52_code 2 = .ok (.ifCond .lt 8, 3) := by decide +kernel
theorem d_M_figure_5 : decode prog_6_method_52_code 5 = .ok (.iload_n 1, 1) := by decide +kernel
theorem d_M_figure_6 : decode prog_6_method_52_code 6 = .ok (.iconst 4, 1) := by decide +kernel
theorem d_M_figure_7 : decode prog_6_method_52_code 7 = .ok (.if_icmp .le 7, 3) := by decide +kernel
theorem d_M_figure_14 : decode prog_6_method_52_code 14 = .ok (.iconst 0, 1) := by decide +kernel
theorem d_M_figure_15 : decode prog_6_method_52_code 15 = .ok (.putfield 82, 3) := by decide +kernel
theorem d_M_figure_18 : decode prog_6_method_52_code 18 = .ok (.aload_n 0, 1) := by decide +kernel
theorem d_M_figure_19 : decode prog_6_method_52_code 19 = .ok (.getfield 82, 3) := by decide +kernel
theorem d_M_figure_22 : decode prog_6_method_52_code 22 = .ok (.ifCond .le 7, 3) := by decide +kernel
theorem d_M_figure_29 : decode prog_6_method_52_code 29 = .ok (.iload_n 1, 1) := by decide +kernel
theorem d_M_figure_30 : decode prog_6_method_52_code 30 = .ok (.ifCond .ne 10, 3) := by decide +kernel
theorem d_M_figure_33 : decode prog_6_method_52_code 33 = .ok (.aload_n 0, 1) := by decide +kernel
theorem d_M_figure_34 : decode prog_6_method_52_code 34 = .ok (.getfield 92, 3) := by decide +kernel
theorem d_M_figure_37 : decode prog_6_method_52_code 37 = .ok (.goto 43, 3) := by decide +kernel
theorem d_M_figure_80 : decode prog_6_method_52_code 80 = .ok (.ireturn, 1) := by decide +kernel
theorem d_L_law_745 : decode code 745 = .ok (.istore 6, 2) := by decide +kernel
theorem d_L_law_747 : decode code 747 = .ok (.aload_n 2, 1) := by decide +kernel
theorem d_L_law_748 : decode code 748 = .ok (.invokevirtual 81, 3) := by decide +kernel
theorem d_L_law_751 : decode code 751 = .ok (.iload 5, 2) := by decide +kernel
theorem d_L_law_753 : decode code 753 = .ok (.if_icmp .eq 5, 3) := by decide +kernel
theorem d_L_law_758 : decode code 758 = .ok (.iload 5, 2) := by decide +kernel
theorem d_L_law_760 : decode code 760 = .ok (.ifCond .ne 15, 3) := by decide +kernel
theorem d_L_law_763 : decode code 763 = .ok (.aload_n 3, 1) := by decide +kernel
theorem d_L_law_764 : decode code 764 = .ok (.iconst 0, 1) := by decide +kernel
theorem d_L_law_765 : decode code 765 = .ok (.laload, 1) := by decide +kernel
theorem d_L_law_766 : decode code 766 = .ok (.iload 6, 2) := by decide +kernel
theorem d_L_law_768 : decode code 768 = .ok (.i2l, 1) := by decide +kernel
theorem d_L_law_769 : decode code 769 = .ok (.lcmp, 1) := by decide +kernel
theorem d_L_law_770 : decode code 770 = .ok (.ifCond .eq 5, 3) := by decide +kernel
theorem d_L_law_775 : decode code 775 = .ok (.goto 59, 3) := by decide +kernel
theorem d_D_figure_41 : decode prog_1_method_17_code 41 = .ok (.aload_n 0, 1) := by decide +kernel
theorem d_D_figure_42 : decode prog_1_method_17_code 42 = .ok (.getfield 25, 3) := by decide +kernel
theorem d_D_figure_45 : decode prog_1_method_17_code 45 = .ok (.ireturn, 1) := by decide +kernel
theorem d_M_figure_40 : decode prog_6_method_52_code 40 = .ok (.iload_n 1, 1) := by decide +kernel
theorem d_M_figure_41 : decode prog_6_method_52_code 41 = .ok (.iconst 1, 1) := by decide +kernel
theorem d_M_figure_42 : decode prog_6_method_52_code 42 = .ok (.if_icmp .ne 10, 3) := by decide +kernel
theorem d_M_figure_45 : decode prog_6_method_52_code 45 = .ok (.aload_n 0, 1) := by decide +kernel
theorem d_M_figure_46 : decode prog_6_method_52_code 46 = .ok (.getfield 13, 3) := by decide +kernel
theorem d_M_figure_49 : decode prog_6_method_52_code 49 = .ok (.goto 31, 3) := by decide +kernel
theorem d_D_figure_46 : decode prog_1_method_17_code 46 = .ok (.aload_n 0, 1) := by decide +kernel
theorem d_D_figure_47 : decode prog_1_method_17_code 47 = .ok (.getfield 76, 3) := by decide +kernel
theorem d_D_figure_50 : decode prog_1_method_17_code 50 = .ok (.ireturn, 1) := by decide +kernel
theorem d_M_figure_52 : decode prog_6_method_52_code 52 = .ok (.iload_n 1, 1) := by decide +kernel
theorem d_M_figure_53 : decode prog_6_method_52_code 53 = .ok (.iconst 2, 1) := by decide +kernel
theorem d_M_figure_54 : decode prog_6_method_52_code 54 = .ok (.if_icmp .ne 10, 3) := by decide +kernel
theorem d_M_figure_57 : decode prog_6_method_52_code 57 = .ok (.aload_n 0, 1) := by decide +kernel
theorem d_M_figure_58 : decode prog_6_method_52_code 58 = .ok (.getfield 95, 3) := by decide +kernel
theorem d_M_figure_61 : decode prog_6_method_52_code 61 = .ok (.goto 19, 3) := by decide +kernel
theorem d_D_figure_51 : decode prog_1_method_17_code 51 = .ok (.aload_n 0, 1) := by decide +kernel
theorem d_D_figure_52 : decode prog_1_method_17_code 52 = .ok (.getfield 29, 3) := by decide +kernel
theorem d_D_figure_55 : decode prog_1_method_17_code 55 = .ok (.ireturn, 1) := by decide +kernel
theorem d_M_figure_64 : decode prog_6_method_52_code 64 = .ok (.iload_n 1, 1) := by decide +kernel
theorem d_M_figure_65 : decode prog_6_method_52_code 65 = .ok (.iconst 3, 1) := by decide +kernel
theorem d_M_figure_66 : decode prog_6_method_52_code 66 = .ok (.if_icmp .ne 10, 3) := by decide +kernel
theorem d_M_figure_69 : decode prog_6_method_52_code 69 = .ok (.aload_n 0, 1) := by decide +kernel
theorem d_M_figure_70 : decode prog_6_method_52_code 70 = .ok (.getfield 33, 3) := by decide +kernel
theorem d_M_figure_73 : decode prog_6_method_52_code 73 = .ok (.goto 7, 3) := by decide +kernel
theorem d_D_figure_56 : decode prog_1_method_17_code 56 = .ok (.aload_n 0, 1) := by decide +kernel
theorem d_D_figure_57 : decode prog_1_method_17_code 57 = .ok (.getfield 56, 3) := by decide +kernel
theorem d_D_figure_60 : decode prog_1_method_17_code 60 = .ok (.ireturn, 1) := by decide +kernel
theorem d_M_figure_76 : decode prog_6_method_52_code 76 = .ok (.aload_n 0, 1) := by decide +kernel
theorem d_M_figure_77 : decode prog_6_method_52_code 77 = .ok (.getfield 89, 3) := by decide +kernel
theorem d_D_figure_61 : decode prog_1_method_17_code 61 = .ok (.new 96, 3) := by decide +kernel
theorem d_D_figure_64 : decode prog_1_method_17_code 64 = .ok (.dup, 1) := by decide +kernel
theorem d_D_figure_65 : decode prog_1_method_17_code 65 = .ok (.invokespecial 98, 3) := by decide +kernel
theorem d_D_figure_68 : decode prog_1_method_17_code 68 = .ok (.athrow, 1) := by decide +kernel
theorem d_L_figure_12 : decode method_14_code 12 = .ok (.astore_n 3, 1) := by decide +kernel
theorem d_L_figure_13 : decode method_14_code 13 = .ok (.iconst 1, 1) := by decide +kernel
theorem d_L_figure_14 : decode method_14_code 14 = .ok (.ireturn, 1) := by decide +kernel
theorem d_M_figure_10 : decode prog_6_method_52_code 10 = .ok (.iconst 1, 1) := by decide +kernel
theorem d_M_figure_11 : decode prog_6_method_52_code 11 = .ok (.goto 4, 3) := by decide +kernel
theorem d_M_figure_25 : decode prog_6_method_52_code 25 = .ok (.iconst 0, 1) := by decide +kernel
theorem d_M_figure_26 : decode prog_6_method_52_code 26 = .ok (.goto 54, 3) := by decide +kernel
theorem d_L_law_778 : decode code 778 = .ok (.aload_n 1, 1) := by decide +kernel
theorem d_L_law_779 : decode code 779 = .ok (.aload_n 0, 1) := by decide +kernel
theorem d_L_law_780 : decode code 780 = .ok (.iload 4, 2) := by decide +kernel
theorem d_L_law_782 : decode code 782 = .ok (.iconst 1, 1) := by decide +kernel
theorem d_L_law_783 : decode code 783 = .ok (.iadd, 1) := by decide +kernel
theorem d_L_law_784 : decode code 784 = .ok (.iaload, 1) := by decide +kernel
theorem d_L_law_785 : decode code 785 = .ok (.aload_n 3, 1) := by decide +kernel
theorem d_L_law_786 : decode code 786 = .ok (.invokestatic 130, 3) := by decide +kernel
theorem d_L_parent_0 : decode method_15_code 0 = .ok (.aload_n 2, 1) := by decide +kernel
theorem d_L_parent_1 : decode method_15_code 1 = .ok (.iconst 0, 1) := by decide +kernel
theorem d_L_parent_2 : decode method_15_code 2 = .ok (.aload_n 0, 1) := by decide +kernel
theorem d_L_parent_3 : decode method_15_code 3 = .ok (.iload_n 1, 1) := by decide +kernel
theorem d_L_parent_4 : decode method_15_code 4 = .ok (.invokevirtual 59, 3) := by decide +kernel
theorem d_D_parent_0 : decode prog_1_method_18_code 0 = .ok (.aload_n 0, 1) := by decide +kernel
theorem d_D_parent_1 : decode prog_1_method_18_code 1 = .ok (.iload_n 1, 1) := by decide +kernel
theorem d_D_parent_2 : decode prog_1_method_18_code 2 = .ok (.invokevirtual 140, 3) := by decide +kernel
theorem d_D_parent_5 : decode prog_1_method_18_code 5 = .ok (.aload_n 0, 1) := by decide +kernel
theorem d_D_parent_6 : decode prog_1_method_18_code 6 = .ok (.getfield 15, 3) := by decide +kernel
theorem d_D_parent_9 : decode prog_1_method_18_code 9 = .ok (.iload_n 1, 1) := by decide +kernel
theorem d_D_parent_10 : decode prog_1_method_18_code 10 = .ok (.aaload, 1) := by decide +kernel
theorem d_D_parent_11 : decode prog_1_method_18_code 11 = .ok (.getfield 131, 3) := by decide +kernel
theorem d_D_parent_14 : decode prog_1_method_18_code 14 = .ok (.ireturn, 1) := by decide +kernel
theorem d_L_parent_7 : decode method_15_code 7 = .ok (.i2l, 1) := by decide +kernel
theorem d_L_parent_8 : decode method_15_code 8 = .ok (.lastore, 1) := by decide +kernel
theorem d_L_parent_9 : decode method_15_code 9 = .ok (.goto 6, 3) := by decide +kernel
theorem d_L_parent_15 : decode method_15_code 15 = .ok (.iconst 0, 1) := by decide +kernel
theorem d_L_parent_16 : decode method_15_code 16 = .ok (.ireturn, 1) := by decide +kernel
theorem d_L_law_789 : decode code 789 = .ok (.istore 5, 2) := by decide +kernel
theorem d_L_law_791 : decode code 791 = .ok (.aload_n 2, 1) := by decide +kernel
theorem d_L_law_792 : decode code 792 = .ok (.aload_n 0, 1) := by decide +kernel
theorem d_L_law_793 : decode code 793 = .ok (.iload 4, 2) := by decide +kernel
theorem d_L_law_795 : decode code 795 = .ok (.iconst 1, 1) := by decide +kernel
theorem d_L_law_796 : decode code 796 = .ok (.iadd, 1) := by decide +kernel
theorem d_L_law_797 : decode code 797 = .ok (.iaload, 1) := by decide +kernel
theorem d_L_law_798 : decode code 798 = .ok (.invokevirtual 132, 3) := by decide +kernel
theorem d_M_parent_0 : decode prog_6_method_53_code 0 = .ok (.aload_n 0, 1) := by decide +kernel
theorem d_M_parent_1 : decode prog_6_method_53_code 1 = .ok (.iload_n 1, 1) := by decide +kernel
theorem d_M_parent_2 : decode prog_6_method_53_code 2 = .ok (.ifCond .lt 11, 3) := by decide +kernel
theorem d_M_parent_5 : decode prog_6_method_53_code 5 = .ok (.iload_n 1, 1) := by decide +kernel
theorem d_M_parent_6 : decode prog_6_method_53_code 6 = .ok (.aload_n 0, 1) := by decide +kernel
theorem d_M_parent_7 : decode prog_6_method_53_code 7 = .ok (.getfield 13, 3) := by decide +kernel
theorem d_M_parent_10 : decode prog_6_method_53_code 10 = .ok (.if_icmp .lt 7, 3) := by decide +kernel
theorem d_M_parent_17 : decode prog_6_method_53_code 17 = .ok (.iconst 0, 1) := by decide +kernel
theorem d_M_parent_18 : decode prog_6_method_53_code 18 = .ok (.putfield 82, 3) := by decide +kernel
theorem d_M_parent_21 : decode prog_6_method_53_code 21 = .ok (.aload_n 0, 1) := by decide +kernel
theorem d_M_parent_22 : decode prog_6_method_53_code 22 = .ok (.getfield 82, 3) := by decide +kernel
theorem d_M_parent_25 : decode prog_6_method_53_code 25 = .ok (.ifCond .ne 12, 3) := by decide +kernel
theorem d_M_parent_28 : decode prog_6_method_53_code 28 = .ok (.aload_n 0, 1) := by decide +kernel
theorem d_M_parent_29 : decode prog_6_method_53_code 29 = .ok (.getfield 27, 3) := by decide +kernel
theorem d_M_parent_32 : decode prog_6_method_53_code 32 = .ok (.iload_n 1, 1) := by decide +kernel
theorem d_M_parent_33 : decode prog_6_method_53_code 33 = .ok (.iaload, 1) := by decide +kernel
theorem d_M_parent_34 : decode prog_6_method_53_code 34 = .ok (.goto 4, 3) := by decide +kernel
theorem d_M_parent_38 : decode prog_6_method_53_code 38 = .ok (.ireturn, 1) := by decide +kernel
theorem d_L_law_801 : decode code 801 = .ok (.istore 6, 2) := by decide +kernel
theorem d_L_law_803 : decode code 803 = .ok (.aload_n 2, 1) := by decide +kernel
theorem d_L_law_804 : decode code 804 = .ok (.invokevirtual 81, 3) := by decide +kernel
theorem d_L_law_807 : decode code 807 = .ok (.iload 5, 2) := by decide +kernel
theorem d_L_law_809 : decode code 809 = .ok (.if_icmp .eq 5, 3) := by decide +kernel
theorem d_L_law_814 : decode code 814 = .ok (.iload 5, 2) := by decide +kernel
theorem d_L_law_816 : decode code 816 = .ok (.ifCond .ne 15, 3) := by decide +kernel
theorem d_L_law_819 : decode code 819 = .ok (.aload_n 3, 1) := by decide +kernel
theorem d_L_law_820 : decode code 820 = .ok (.iconst 0, 1) := by decide +kernel
end
section
theorem d_L_law_821 : decode code 821 = .ok (.laload, 1) := by decide +kernel
theorem d_L_law_822 : decode code 822 = .ok (.iload 6, 2) := by decide +kernel
theorem d_L_law_824 : decode code 824 = .ok (.i2l, 1) := by decide +kernel
theorem d_L_law_825 : decode code 825 = .ok (.lcmp, 1) := by decide +kernel
theorem d_L_law_826 : decode code 826 = .ok (.ifCond .eq 5, 3) := by decide +kernel
theorem d_L_law_831 : decode code 831 = .ok (.goto 3, 3) := by decide +kernel
theorem d_L_parent_12 : decode method_15_code 12 = .ok (.astore_n 3, 1) := by decide +kernel
theorem d_L_parent_13 : decode method_15_code 13 = .ok (.iconst 1, 1) := by decide +kernel
theorem d_L_parent_14 : decode method_15_code 14 = .ok (.ireturn, 1) := by decide +kernel
theorem d_M_parent_13 : decode prog_6_method_53_code 13 = .ok (.iconst 1, 1) := by decide +kernel
theorem d_M_parent_14 : decode prog_6_method_53_code 14 = .ok (.goto 4, 3) := by decide +kernel
theorem d_M_parent_37 : decode prog_6_method_53_code 37 = .ok (.iconst 0, 1) := by decide +kernel
end
section
set_option maxHeartbeats 4000000 in
set_option maxRecDepth 100000 in
theorem c_S_init (l : Launch) (dC : Nat → ClassId) (dI : Nat → Nat → Nat) (a0 r0 : Nat) (sz : Nat)  : Met l y_S_init w_S_init ({ frames := 1, cells := 0, slots := 0, locals := 12 }) (va_Pc [.ref a0, .ref r0, .int 0, .int (-1)] (fun U => U.heap.size = sz ∧ va_P (dC, dI) vwCl [(a0, .inr (1, [.null, .int 0, .int 0, .int 0]))] U.heap ∧ va_K (dC, dI) vwCl [] U ∧ va_D (fun _ => True) [(a0, .inr (1, [.null, .int 0, .int 0, .int 0]))])) (va_Qv (fun (u : Unit) => u = u) (fun (_ : Unit) t => va_P (dC, dI) vwCl [(a0, .inr (1, [.ref r0, .int (-1), .int 0, .int (-1)]))] t.heap ∧ va_K (dC, dI) vwCl [] t ∧ va_D (va_A [(a0, .inr (1, [.null, .int 0, .int 0, .int 0]))] sz) [(a0, .inr (1, [.ref r0, .int (-1), .int 0, .int (-1)]))]) (va_A [(a0, .inr (1, [.null, .int 0, .int 0, .int 0]))] sz)) 0 0 (va_A [(a0, .inr (1, [.null, .int 0, .int 0, .int 0]))] sz) := by
  refine Met.ofW (cc := prog_4_method_1_code) (maxL := 4) (ret := none) (by decide) rfl ?_
  intro p e s m args below meth c s₁ B hml hv
  obtain ⟨rfl, hsz, hP, hK, hD0⟩ := hv
  have hx := B.exec
  have hb := B.bytes
  have hr := B.returns
  have hts := atoms_spec (ws := w_S_init) B.pre
  have hown : s.vm.findClass R_S = some m.cls := findClass_of_methodNamed B.named
  have hlocks := B.notSynchronized
  have hin : meth.name = "<init>" := (name_of_methodNamed B.named B.method).1
  subst hsz
  have hD := hD0.self (sz := s.heap.size)
  generalize hAe : va_A [(a0, .inr (1, [.null, .int 0, .int 0, .int 0]))] s.heap.size = A at hD ⊢
  have hA : ∀ q : Nat, s.heap.size ≤ q → A q := fun q h => by rw [← hAe]; exact Or.inr h
  have hS : va_S A s.heap s.heap [] := va_S.rf
  have hP : va_P (dC, dI) vwCl [(a0, .inr (1, [.null, .int 0, .int 0, .int 0]))] s.heap := hP
  have hl := lv_entry ([.ref a0, .ref r0, .int 0, .int (-1)]) (n := 4) (Nat.le_of_ble_eq_true rfl)
  rw [lg_entry_eq]
  generalize (lg_sl ([.ref a0, .ref r0, .int 0, .int (-1)]) ++ List.replicate (4 - (lg_sl ([.ref a0, .ref r0, .int 0, .int (-1)])).length) Slot.unset).toArray = ls at hl ⊢
  have hl : lv_has ls 4 [(0, .ref a0), (1, .ref r0), (2, .int 0), (3, .int (-1))] := hl
  refine lv_aload_n hx hb d_S_init_0 rfl (lv_at hl 0 rfl) ?_
  refine W.objInit hx hb hown (hts _ (List.mem_cons_of_mem _ lk_31)) (hts _ (List.mem_cons_of_mem _ lk_18)) (hts _ (List.mem_cons_of_mem _ lk_19)) rfl (by rw [hml]; exact hl.1) rfl d_S_init_1 (Nat.le_of_ble_eq_true rfl) (Nat.le_of_ble_eq_true rfl) ?_
  refine W.eq (g2 := F0 m 4 ls []) rfl ?_
  refine lv_aload_n hx hb d_S_init_4 rfl (lv_at hl 0 rfl) ?_
  refine lv_aload_n hx hb d_S_init_5 rfl (lv_at hl 1 rfl) ?_
  refine va_putF (D := (dC, dI)) (ci := 1) (v := .ref r0) (ty := .array .char) (C := R_S) (T := F_S) (N := 4) hx hb hts (fun w h => List.mem_cons_of_mem _ (in_S w h)) t_S tk_S n_S hown hK hP hD hS 0 rfl rfl 0 (by decide) (hts _ (List.mem_cons_of_mem _ lk_32)) (fun _ h9 => h9) rfl hin rfl (by decide +kernel) rfl rfl (Nat.le_of_ble_eq_true rfl) d_S_init_6 (fun H locs hP hD hS => ?_)
  have hP : va_P (dC, dI) vwCl [(a0, .inr (1, [.ref r0, .int 0, .int 0, .int 0]))] H := hP
  have hD : va_D A [(a0, .inr (1, [.ref r0, .int 0, .int 0, .int 0]))] := hD
  refine lv_aload_n hx hb d_S_init_9 rfl (lv_at hl 0 rfl) ?_
  refine lv_iload_n hx hb d_S_init_10 rfl (lv_at hl 2 rfl) ?_
  refine va_put (D := (dC, dI)) (ci := 1) (v := .int 0) (ty := .int) (C := R_S) (T := F_S) (N := 4) hx hb hts (fun w h => List.mem_cons_of_mem _ (in_S w h)) t_S tk_S n_S hown hK hP hD hS 0 rfl rfl 2 (by decide) (hts _ (List.mem_cons_of_mem _ lk_33)) (fun _ h9 => h9) rfl (by decide +kernel) rfl rfl (Nat.le_of_ble_eq_true rfl) d_S_init_11 (fun H locs hP hD hS => ?_)
  have hP : va_P (dC, dI) vwCl [(a0, .inr (1, [.ref r0, .int 0, .int 0, .int 0]))] H := hP
  have hD : va_D A [(a0, .inr (1, [.ref r0, .int 0, .int 0, .int 0]))] := hD
  refine lv_aload_n hx hb d_S_init_14 rfl (lv_at hl 0 rfl) ?_
  refine lv_iload_n hx hb d_S_init_15 rfl (lv_at hl 3 rfl) ?_
  refine va_putF (D := (dC, dI)) (ci := 1) (v := .int (-1)) (ty := .int) (C := R_S) (T := F_S) (N := 4) hx hb hts (fun w h => List.mem_cons_of_mem _ (in_S w h)) t_S tk_S n_S hown hK hP hD hS 0 rfl rfl 1 (by decide) (hts _ (List.mem_cons_of_mem _ lk_34)) (fun _ h9 => h9) rfl hin rfl (by decide +kernel) rfl rfl (Nat.le_of_ble_eq_true rfl) d_S_init_16 (fun H locs hP hD hS => ?_)
  have hP : va_P (dC, dI) vwCl [(a0, .inr (1, [.ref r0, .int (-1), .int 0, .int 0]))] H := hP
  have hD : va_D A [(a0, .inr (1, [.ref r0, .int (-1), .int 0, .int 0]))] := hD
  refine lv_aload_n hx hb d_S_init_19 rfl (lv_at hl 0 rfl) ?_
  refine lv_iconst (v := (-1)) hx hb d_S_init_20 (by decide) ?_
  refine va_put (D := (dC, dI)) (ci := 1) (v := .int (-1)) (ty := .int) (C := R_S) (T := F_S) (N := 4) hx hb hts (fun w h => List.mem_cons_of_mem _ (in_S w h)) t_S tk_S n_S hown hK hP hD hS 0 rfl rfl 3 (by decide) (hts _ (List.mem_cons_of_mem _ lk_35)) (fun _ h9 => h9) rfl (by decide +kernel) rfl rfl (Nat.le_of_ble_eq_true rfl) d_S_init_21 (fun H locs hP hD hS => ?_)
  have hP : va_P (dC, dI) vwCl [(a0, .inr (1, [.ref r0, .int (-1), .int 0, .int (-1)]))] H := hP
  have hD : va_D A [(a0, .inr (1, [.ref r0, .int (-1), .int 0, .int (-1)]))] := hD
  have hP9 := hP.sub (ws' := [(a0, .inr (1, [.ref r0, .int (-1), .int 0, .int (-1)]))]) [0] rfl
  have hD9 := hD.sub (ws' := [(a0, .inr (1, [.ref r0, .int (-1), .int 0, .int (-1)]))]) [0] (by decide) rfl
  have hK9 := hK.sub (tys' := []) [] rfl
  exact W.vret hx hb hr (fun t ht hW => ⟨⟨(), rfl, rfl, by rw [ht]; exact hP9, va_K.moved hW.alike hK9, hD9⟩, hS.F ht⟩) hS.2.2 d_S_init_24

set_option maxHeartbeats 4000000 in
set_option maxRecDepth 100000 in
theorem c_A_init (l : Launch) (dC : Nat → ClassId) (dI : Nat → Nat → Nat) (a0 : Nat) (sz : Nat)  : Met l y_A_init w_A_init ({ frames := 1, cells := 5, slots := 250, locals := 12 }) (va_Pc [.ref a0] (fun U => U.heap.size = sz ∧ va_P (dC, dI) vwCl [(a0, .inr (3, [.null, .null, .null, .null, .null, .int 0, .int 0, .int 0, .int 0, .int 0]))] U.heap ∧ va_K (dC, dI) vwCl [] U ∧ va_D (fun _ => True) [(a0, .inr (3, [.null, .null, .null, .null, .null, .int 0, .int 0, .int 0, .int 0, .int 0]))])) (va_Qv (fun (u : Unit) => u = u) (fun (_ : Unit) t => ∃ (q1 q2 q3 q4 q5 : Nat) (g1 g2 g3 g4 g5 : ClassId) , va_P (dC, dI) vwCl [(a0, .inr (3, [.ref q1, .ref q2, .ref q3, .ref q4, .ref q5, .int 0, .int 0, .int 0, .int 0, .int 0])), (q1, .inl (g1, 50, .inl (fun _ => 0))), (q2, .inl (g2, 50, .inl (fun _ => 0))), (q3, .inl (g3, 50, .inl (fun _ => 0))), (q4, .inl (g4, 50, .inr (.inl (fun _ => 0)))), (q5, .inl (g5, 50, .inr (.inl (fun _ => 0))))] t.heap ∧ va_K (dC, dI) vwCl [(g1, .int), (g2, .int), (g3, .int), (g4, .long), (g5, .long)] t ∧ va_D (va_A [(a0, .inr (3, [.null, .null, .null, .null, .null, .int 0, .int 0, .int 0, .int 0, .int 0]))] sz) [(a0, .inr (3, [.ref q1, .ref q2, .ref q3, .ref q4, .ref q5, .int 0, .int 0, .int 0, .int 0, .int 0])), (q1, .inl (g1, 50, .inl (fun _ => 0))), (q2, .inl (g2, 50, .inl (fun _ => 0))), (q3, .inl (g3, 50, .inl (fun _ => 0))), (q4, .inl (g4, 50, .inr (.inl (fun _ => 0)))), (q5, .inl (g5, 50, .inr (.inl (fun _ => 0))))]) (va_A [(a0, .inr (3, [.null, .null, .null, .null, .null, .int 0, .int 0, .int 0, .int 0, .int 0]))] sz)) 5 250 (va_A [(a0, .inr (3, [.null, .null, .null, .null, .null, .int 0, .int 0, .int 0, .int 0, .int 0]))] sz) := by
  refine Met.ofW (cc := prog_2_method_1_code) (maxL := 1) (ret := none) (by decide) rfl ?_
  intro p e s m args below meth c s₁ B hml hv
  obtain ⟨rfl, hsz, hP, hK, hD0⟩ := hv
  have hx := B.exec
  have hb := B.bytes
  have hr := B.returns
  have hts := atoms_spec (ws := w_A_init) B.pre
  have hown : s.vm.findClass R_A = some m.cls := findClass_of_methodNamed B.named
  have hlocks := B.notSynchronized
  have hin : meth.name = "<init>" := (name_of_methodNamed B.named B.method).1
  subst hsz
  have hD := hD0.self (sz := s.heap.size)
  generalize hAe : va_A [(a0, .inr (3, [.null, .null, .null, .null, .null, .int 0, .int 0, .int 0, .int 0, .int 0]))] s.heap.size = A at hD ⊢
  have hA : ∀ q : Nat, s.heap.size ≤ q → A q := fun q h => by rw [← hAe]; exact Or.inr h
  have hS : va_S A s.heap s.heap [] := va_S.rf
  have hP : va_P (dC, dI) vwCl [(a0, .inr (3, [.null, .null, .null, .null, .null, .int 0, .int 0, .int 0, .int 0, .int 0]))] s.heap := hP
  have hl := lv_entry ([.ref a0]) (n := 1) (Nat.le_of_ble_eq_true rfl)
  rw [lg_entry_eq]
  generalize (lg_sl ([.ref a0]) ++ List.replicate (1 - (lg_sl ([.ref a0])).length) Slot.unset).toArray = ls at hl ⊢
  have hl : lv_has ls 1 [(0, .ref a0)] := hl
  refine lv_aload_n hx hb d_A_init_0 rfl (lv_at hl 0 rfl) ?_
  refine W.objInit hx hb hown (hts _ (List.mem_cons_of_mem _ lk_76)) (hts _ (List.mem_cons_of_mem _ lk_18)) (hts _ (List.mem_cons_of_mem _ lk_19)) rfl (by rw [hml]; exact hl.1) rfl d_A_init_1 (Nat.le_of_ble_eq_true rfl) (Nat.le_of_ble_eq_true rfl) ?_
  refine W.eq (g2 := F0 m 4 ls []) rfl ?_
  refine lv_aload_n hx hb d_A_init_4 rfl (lv_at hl 0 rfl) ?_
  refine lv_bipush (v := 50) hx hb d_A_init_5 (by decide) ?_
  refine va_newa (atype := .int) (ty := .int) (a0 := (50, .inl (fun _ => 0))) (N' := 50) hx hb (hts _ (List.mem_cons_of_mem _ lk_58)) rfl hK hP hD hS hA (fun _ => rfl) (by decide) (by decide) (by decide) (Nat.le_of_ble_eq_true rfl) (Nat.le_of_ble_eq_true rfl) d_A_init_7 (fun q1 g1 H hK hP hD hS => ?_)
  have hP : va_P (dC, dI) vwCl [(a0, .inr (3, [.null, .null, .null, .null, .null, .int 0, .int 0, .int 0, .int 0, .int 0])), (q1, .inl (g1, 50, .inl (fun _ => 0)))] H := hP
  have hD : va_D A [(a0, .inr (3, [.null, .null, .null, .null, .null, .int 0, .int 0, .int 0, .int 0, .int 0])), (q1, .inl (g1, 50, .inl (fun _ => 0)))] := hD
  have hK : va_K (dC, dI) vwCl [(g1, .int)] s := hK
  refine W.cs (cells' := 1) (slots' := 50) rfl rfl ?_
  refine va_putF (D := (dC, dI)) (ci := 3) (v := .ref q1) (ty := .array .int) (C := R_A) (T := F_A) (N := 10) hx hb hts (fun w h => List.mem_cons_of_mem _ (in_A w h)) t_A tk_A n_A hown hK hP hD hS 0 rfl rfl 0 (by decide) (hts _ (List.mem_cons_of_mem _ lk_77)) (fun _ h9 => h9) rfl hin rfl (by decide +kernel) rfl rfl (Nat.le_of_ble_eq_true rfl) d_A_init_9 (fun H locs hP hD hS => ?_)
  have hP : va_P (dC, dI) vwCl [(a0, .inr (3, [.ref q1, .null, .null, .null, .null, .int 0, .int 0, .int 0, .int 0, .int 0])), (q1, .inl (g1, 50, .inl (fun _ => 0)))] H := hP
  have hD : va_D A [(a0, .inr (3, [.ref q1, .null, .null, .null, .null, .int 0, .int 0, .int 0, .int 0, .int 0])), (q1, .inl (g1, 50, .inl (fun _ => 0)))] := hD
  refine lv_aload_n hx hb d_A_init_12 rfl (lv_at hl 0 rfl) ?_
  refine lv_bipush (v := 50) hx hb d_A_init_13 (by decide) ?_
  refine va_newa (atype := .int) (ty := .int) (a0 := (50, .inl (fun _ => 0))) (N' := 50) hx hb (hts _ (List.mem_cons_of_mem _ lk_58)) rfl hK hP hD hS hA (fun _ => rfl) (by decide) (by decide) (by decide) (Nat.le_of_ble_eq_true rfl) (Nat.le_of_ble_eq_true rfl) d_A_init_15 (fun q2 g2 H hK hP hD hS => ?_)
  have hP : va_P (dC, dI) vwCl [(a0, .inr (3, [.ref q1, .null, .null, .null, .null, .int 0, .int 0, .int 0, .int 0, .int 0])), (q1, .inl (g1, 50, .inl (fun _ => 0))), (q2, .inl (g2, 50, .inl (fun _ => 0)))] H := hP
  have hD : va_D A [(a0, .inr (3, [.ref q1, .null, .null, .null, .null, .int 0, .int 0, .int 0, .int 0, .int 0])), (q1, .inl (g1, 50, .inl (fun _ => 0))), (q2, .inl (g2, 50, .inl (fun _ => 0)))] := hD
  have hK : va_K (dC, dI) vwCl [(g1, .int), (g2, .int)] s := hK
  refine W.cs (cells' := 2) (slots' := 100) rfl rfl ?_
  refine va_putF (D := (dC, dI)) (ci := 3) (v := .ref q2) (ty := .array .int) (C := R_A) (T := F_A) (N := 10) hx hb hts (fun w h => List.mem_cons_of_mem _ (in_A w h)) t_A tk_A n_A hown hK hP hD hS 0 rfl rfl 1 (by decide) (hts _ (List.mem_cons_of_mem _ lk_78)) (fun _ h9 => h9) rfl hin rfl (by decide +kernel) rfl rfl (Nat.le_of_ble_eq_true rfl) d_A_init_17 (fun H locs hP hD hS => ?_)
  have hP : va_P (dC, dI) vwCl [(a0, .inr (3, [.ref q1, .ref q2, .null, .null, .null, .int 0, .int 0, .int 0, .int 0, .int 0])), (q1, .inl (g1, 50, .inl (fun _ => 0))), (q2, .inl (g2, 50, .inl (fun _ => 0)))] H := hP
  have hD : va_D A [(a0, .inr (3, [.ref q1, .ref q2, .null, .null, .null, .int 0, .int 0, .int 0, .int 0, .int 0])), (q1, .inl (g1, 50, .inl (fun _ => 0))), (q2, .inl (g2, 50, .inl (fun _ => 0)))] := hD
  refine lv_aload_n hx hb d_A_init_20 rfl (lv_at hl 0 rfl) ?_
  refine lv_bipush (v := 50) hx hb d_A_init_21 (by decide) ?_
  refine va_newa (atype := .int) (ty := .int) (a0 := (50, .inl (fun _ => 0))) (N' := 50) hx hb (hts _ (List.mem_cons_of_mem _ lk_58)) rfl hK hP hD hS hA (fun _ => rfl) (by decide) (by decide) (by decide) (Nat.le_of_ble_eq_true rfl) (Nat.le_of_ble_eq_true rfl) d_A_init_23 (fun q3 g3 H hK hP hD hS => ?_)
  have hP : va_P (dC, dI) vwCl [(a0, .inr (3, [.ref q1, .ref q2, .null, .null, .null, .int 0, .int 0, .int 0, .int 0, .int 0])), (q1, .inl (g1, 50, .inl (fun _ => 0))), (q2, .inl (g2, 50, .inl (fun _ => 0))), (q3, .inl (g3, 50, .inl (fun _ => 0)))] H := hP
  have hD : va_D A [(a0, .inr (3, [.ref q1, .ref q2, .null, .null, .null, .int 0, .int 0, .int 0, .int 0, .int 0])), (q1, .inl (g1, 50, .inl (fun _ => 0))), (q2, .inl (g2, 50, .inl (fun _ => 0))), (q3, .inl (g3, 50, .inl (fun _ => 0)))] := hD
  have hK : va_K (dC, dI) vwCl [(g1, .int), (g2, .int), (g3, .int)] s := hK
  refine W.cs (cells' := 3) (slots' := 150) rfl rfl ?_
  refine va_putF (D := (dC, dI)) (ci := 3) (v := .ref q3) (ty := .array .int) (C := R_A) (T := F_A) (N := 10) hx hb hts (fun w h => List.mem_cons_of_mem _ (in_A w h)) t_A tk_A n_A hown hK hP hD hS 0 rfl rfl 2 (by decide) (hts _ (List.mem_cons_of_mem _ lk_79)) (fun _ h9 => h9) rfl hin rfl (by decide +kernel) rfl rfl (Nat.le_of_ble_eq_true rfl) d_A_init_25 (fun H locs hP hD hS => ?_)
  have hP : va_P (dC, dI) vwCl [(a0, .inr (3, [.ref q1, .ref q2, .ref q3, .null, .null, .int 0, .int 0, .int 0, .int 0, .int 0])), (q1, .inl (g1, 50, .inl (fun _ => 0))), (q2, .inl (g2, 50, .inl (fun _ => 0))), (q3, .inl (g3, 50, .inl (fun _ => 0)))] H := hP
  have hD : va_D A [(a0, .inr (3, [.ref q1, .ref q2, .ref q3, .null, .null, .int 0, .int 0, .int 0, .int 0, .int 0])), (q1, .inl (g1, 50, .inl (fun _ => 0))), (q2, .inl (g2, 50, .inl (fun _ => 0))), (q3, .inl (g3, 50, .inl (fun _ => 0)))] := hD
  refine lv_aload_n hx hb d_A_init_28 rfl (lv_at hl 0 rfl) ?_
  refine lv_bipush (v := 50) hx hb d_A_init_29 (by decide) ?_
  refine va_newa (atype := .long) (ty := .long) (a0 := (50, .inr (.inl (fun _ => 0)))) (N' := 50) hx hb (hts _ (List.mem_cons_of_mem _ lk_80)) rfl hK hP hD hS hA (fun _ => rfl) (by decide) (by decide) (by decide) (Nat.le_of_ble_eq_true rfl) (Nat.le_of_ble_eq_true rfl) d_A_init_31 (fun q4 g4 H hK hP hD hS => ?_)
  have hP : va_P (dC, dI) vwCl [(a0, .inr (3, [.ref q1, .ref q2, .ref q3, .null, .null, .int 0, .int 0, .int 0, .int 0, .int 0])), (q1, .inl (g1, 50, .inl (fun _ => 0))), (q2, .inl (g2, 50, .inl (fun _ => 0))), (q3, .inl (g3, 50, .inl (fun _ => 0))), (q4, .inl (g4, 50, .inr (.inl (fun _ => 0))))] H := hP
  have hD : va_D A [(a0, .inr (3, [.ref q1, .ref q2, .ref q3, .null, .null, .int 0, .int 0, .int 0, .int 0, .int 0])), (q1, .inl (g1, 50, .inl (fun _ => 0))), (q2, .inl (g2, 50, .inl (fun _ => 0))), (q3, .inl (g3, 50, .inl (fun _ => 0))), (q4, .inl (g4, 50, .inr (.inl (fun _ => 0))))] := hD
  have hK : va_K (dC, dI) vwCl [(g1, .int), (g2, .int), (g3, .int), (g4, .long)] s := hK
  refine W.cs (cells' := 4) (slots' := 200) rfl rfl ?_
  refine va_putF (D := (dC, dI)) (ci := 3) (v := .ref q4) (ty := .array .long) (C := R_A) (T := F_A) (N := 10) hx hb hts (fun w h => List.mem_cons_of_mem _ (in_A w h)) t_A tk_A n_A hown hK hP hD hS 0 rfl rfl 3 (by decide) (hts _ (List.mem_cons_of_mem _ lk_81)) (fun _ h9 => h9) rfl hin rfl (by decide +kernel) rfl rfl (Nat.le_of_ble_eq_true rfl) d_A_init_33 (fun H locs hP hD hS => ?_)
  have hP : va_P (dC, dI) vwCl [(a0, .inr (3, [.ref q1, .ref q2, .ref q3, .ref q4, .null, .int 0, .int 0, .int 0, .int 0, .int 0])), (q1, .inl (g1, 50, .inl (fun _ => 0))), (q2, .inl (g2, 50, .inl (fun _ => 0))), (q3, .inl (g3, 50, .inl (fun _ => 0))), (q4, .inl (g4, 50, .inr (.inl (fun _ => 0))))] H := hP
  have hD : va_D A [(a0, .inr (3, [.ref q1, .ref q2, .ref q3, .ref q4, .null, .int 0, .int 0, .int 0, .int 0, .int 0])), (q1, .inl (g1, 50, .inl (fun _ => 0))), (q2, .inl (g2, 50, .inl (fun _ => 0))), (q3, .inl (g3, 50, .inl (fun _ => 0))), (q4, .inl (g4, 50, .inr (.inl (fun _ => 0))))] := hD
  refine lv_aload_n hx hb d_A_init_36 rfl (lv_at hl 0 rfl) ?_
  refine lv_bipush (v := 50) hx hb d_A_init_37 (by decide) ?_
  refine va_newa (atype := .long) (ty := .long) (a0 := (50, .inr (.inl (fun _ => 0)))) (N' := 50) hx hb (hts _ (List.mem_cons_of_mem _ lk_80)) rfl hK hP hD hS hA (fun _ => rfl) (by decide) (by decide) (by decide) (Nat.le_of_ble_eq_true rfl) (Nat.le_of_ble_eq_true rfl) d_A_init_39 (fun q5 g5 H hK hP hD hS => ?_)
  have hP : va_P (dC, dI) vwCl [(a0, .inr (3, [.ref q1, .ref q2, .ref q3, .ref q4, .null, .int 0, .int 0, .int 0, .int 0, .int 0])), (q1, .inl (g1, 50, .inl (fun _ => 0))), (q2, .inl (g2, 50, .inl (fun _ => 0))), (q3, .inl (g3, 50, .inl (fun _ => 0))), (q4, .inl (g4, 50, .inr (.inl (fun _ => 0)))), (q5, .inl (g5, 50, .inr (.inl (fun _ => 0))))] H := hP
  have hD : va_D A [(a0, .inr (3, [.ref q1, .ref q2, .ref q3, .ref q4, .null, .int 0, .int 0, .int 0, .int 0, .int 0])), (q1, .inl (g1, 50, .inl (fun _ => 0))), (q2, .inl (g2, 50, .inl (fun _ => 0))), (q3, .inl (g3, 50, .inl (fun _ => 0))), (q4, .inl (g4, 50, .inr (.inl (fun _ => 0)))), (q5, .inl (g5, 50, .inr (.inl (fun _ => 0))))] := hD
  have hK : va_K (dC, dI) vwCl [(g1, .int), (g2, .int), (g3, .int), (g4, .long), (g5, .long)] s := hK
  refine W.cs (cells' := 5) (slots' := 250) rfl rfl ?_
  refine va_putF (D := (dC, dI)) (ci := 3) (v := .ref q5) (ty := .array .long) (C := R_A) (T := F_A) (N := 10) hx hb hts (fun w h => List.mem_cons_of_mem _ (in_A w h)) t_A tk_A n_A hown hK hP hD hS 0 rfl rfl 4 (by decide) (hts _ (List.mem_cons_of_mem _ lk_82)) (fun _ h9 => h9) rfl hin rfl (by decide +kernel) rfl rfl (Nat.le_of_ble_eq_true rfl) d_A_init_41 (fun H locs hP hD hS => ?_)
  have hP : va_P (dC, dI) vwCl [(a0, .inr (3, [.ref q1, .ref q2, .ref q3, .ref q4, .ref q5, .int 0, .int 0, .int 0, .int 0, .int 0])), (q1, .inl (g1, 50, .inl (fun _ => 0))), (q2, .inl (g2, 50, .inl (fun _ => 0))), (q3, .inl (g3, 50, .inl (fun _ => 0))), (q4, .inl (g4, 50, .inr (.inl (fun _ => 0)))), (q5, .inl (g5, 50, .inr (.inl (fun _ => 0))))] H := hP
  have hD : va_D A [(a0, .inr (3, [.ref q1, .ref q2, .ref q3, .ref q4, .ref q5, .int 0, .int 0, .int 0, .int 0, .int 0])), (q1, .inl (g1, 50, .inl (fun _ => 0))), (q2, .inl (g2, 50, .inl (fun _ => 0))), (q3, .inl (g3, 50, .inl (fun _ => 0))), (q4, .inl (g4, 50, .inr (.inl (fun _ => 0)))), (q5, .inl (g5, 50, .inr (.inl (fun _ => 0))))] := hD
  have hP9 := hP.sub (ws' := [(a0, .inr (3, [.ref q1, .ref q2, .ref q3, .ref q4, .ref q5, .int 0, .int 0, .int 0, .int 0, .int 0])), (q1, .inl (g1, 50, .inl (fun _ => 0))), (q2, .inl (g2, 50, .inl (fun _ => 0))), (q3, .inl (g3, 50, .inl (fun _ => 0))), (q4, .inl (g4, 50, .inr (.inl (fun _ => 0)))), (q5, .inl (g5, 50, .inr (.inl (fun _ => 0))))]) [0, 1, 2, 3, 4, 5] rfl
  have hD9 := hD.sub (ws' := [(a0, .inr (3, [.ref q1, .ref q2, .ref q3, .ref q4, .ref q5, .int 0, .int 0, .int 0, .int 0, .int 0])), (q1, .inl (g1, 50, .inl (fun _ => 0))), (q2, .inl (g2, 50, .inl (fun _ => 0))), (q3, .inl (g3, 50, .inl (fun _ => 0))), (q4, .inl (g4, 50, .inr (.inl (fun _ => 0)))), (q5, .inl (g5, 50, .inr (.inl (fun _ => 0))))]) [0, 1, 2, 3, 4, 5] (by decide) rfl
  have hK9 := hK.sub (tys' := [(g1, .int), (g2, .int), (g3, .int), (g4, .long), (g5, .long)]) [0, 1, 2, 3, 4] rfl
  exact W.vret hx hb hr (fun t ht hW => ⟨⟨(), rfl, rfl, q1, q2, q3, q4, q5, g1, g2, g3, g4, g5, by rw [ht]; exact hP9, va_K.moved hW.alike hK9, hD9⟩, hS.F ht⟩) hS.2.2 d_A_init_44

set_option maxHeartbeats 4000000 in
set_option maxRecDepth 100000 in
theorem c_P_init (l : Launch) (dC : Nat → ClassId) (dI : Nat → Nat → Nat) (a0 : Nat) (sz : Nat)  : Met l y_P_init w_P_init ({ frames := 2, cells := 11, slots := 296, locals := 32 }) (va_Pc [.ref a0] (fun U => U.heap.size = sz ∧ va_P (dC, dI) vwCl [(a0, .inr (2, [.null, .null, .null, .null, .null, .null, .int 0, .int 0, .int 0, .int 0, .int 0, .int 0, .int 0]))] U.heap ∧ va_K (dC, dI) vwCl [] U ∧ va_D (fun _ => True) [(a0, .inr (2, [.null, .null, .null, .null, .null, .null, .int 0, .int 0, .int 0, .int 0, .int 0, .int 0, .int 0]))])) (va_Qv (fun (u : Unit) => u = u) (fun (_ : Unit) t => ∃ (q1 q2 q3 q4 q5 q6 q7 q8 q9 q10 q11 : Nat) (g1 g2 g3 g4 g6 g7 g8 g9 g10 g11 : ClassId) , va_P (dC, dI) vwCl [(a0, .inr (2, [.ref q1, .ref q2, .ref q3, .ref q4, .ref q5, .ref q11, .int 0, .int 0, .int 0, .int 0, .int 0, .int 0, .int 0])), (q1, .inl (g1, 9, .inl (fun _ => 0))), (q2, .inl (g2, 9, .inl (fun _ => 0))), (q3, .inl (g3, 9, .inl (fun _ => 0))), (q4, .inl (g4, 9, .inl (fun _ => 0))), (q5, .inr (3, [.ref q6, .ref q7, .ref q8, .ref q9, .ref q10, .int 0, .int 0, .int 0, .int 0, .int 0])), (q6, .inl (g6, 50, .inl (fun _ => 0))), (q7, .inl (g7, 50, .inl (fun _ => 0))), (q8, .inl (g8, 50, .inl (fun _ => 0))), (q9, .inl (g9, 50, .inr (.inl (fun _ => 0)))), (q10, .inl (g10, 50, .inr (.inl (fun _ => 0)))), (q11, .inl (g11, 0, .inl (fun _ => 0)))] t.heap ∧ va_K (dC, dI) vwCl [(g1, .int), (g2, .int), (g3, .int), (g4, .int), (g6, .int), (g7, .int), (g8, .int), (g9, .long), (g10, .long), (g11, .char)] t ∧ va_D (va_A [(a0, .inr (2, [.null, .null, .null, .null, .null, .null, .int 0, .int 0, .int 0, .int 0, .int 0, .int 0, .int 0]))] sz) [(a0, .inr (2, [.ref q1, .ref q2, .ref q3, .ref q4, .ref q5, .ref q11, .int 0, .int 0, .int 0, .int 0, .int 0, .int 0, .int 0])), (q1, .inl (g1, 9, .inl (fun _ => 0))), (q2, .inl (g2, 9, .inl (fun _ => 0))), (q3, .inl (g3, 9, .inl (fun _ => 0))), (q4, .inl (g4, 9, .inl (fun _ => 0))), (q5, .inr (3, [.ref q6, .ref q7, .ref q8, .ref q9, .ref q10, .int 0, .int 0, .int 0, .int 0, .int 0])), (q6, .inl (g6, 50, .inl (fun _ => 0))), (q7, .inl (g7, 50, .inl (fun _ => 0))), (q8, .inl (g8, 50, .inl (fun _ => 0))), (q9, .inl (g9, 50, .inr (.inl (fun _ => 0)))), (q10, .inl (g10, 50, .inr (.inl (fun _ => 0)))), (q11, .inl (g11, 0, .inl (fun _ => 0)))]) (va_A [(a0, .inr (2, [.null, .null, .null, .null, .null, .null, .int 0, .int 0, .int 0, .int 0, .int 0, .int 0, .int 0]))] sz)) 11 296 (va_A [(a0, .inr (2, [.null, .null, .null, .null, .null, .null, .int 0, .int 0, .int 0, .int 0, .int 0, .int 0, .int 0]))] sz) := by
  refine Met.ofW (cc := prog_3_method_1_code) (maxL := 1) (ret := none) (by decide) rfl ?_
  intro p e s m args below meth c s₁ B hml hv
  obtain ⟨rfl, hsz, hP, hK, hD0⟩ := hv
  have hx := B.exec
  have hb := B.bytes
  have hr := B.returns
  have hts := atoms_spec (ws := w_P_init) B.pre
  have hown : s.vm.findClass R_P = some m.cls := findClass_of_methodNamed B.named
  have hlocks := B.notSynchronized
  have hin : meth.name = "<init>" := (name_of_methodNamed B.named B.method).1
  subst hsz
  have hD := hD0.self (sz := s.heap.size)
  generalize hAe : va_A [(a0, .inr (2, [.null, .null, .null, .null, .null, .null, .int 0, .int 0, .int 0, .int 0, .int 0, .int 0, .int 0]))] s.heap.size = A at hD ⊢
  have hA : ∀ q : Nat, s.heap.size ≤ q → A q := fun q h => by rw [← hAe]; exact Or.inr h
  have hS : va_S A s.heap s.heap [] := va_S.rf
  have hP : va_P (dC, dI) vwCl [(a0, .inr (2, [.null, .null, .null, .null, .null, .null, .int 0, .int 0, .int 0, .int 0, .int 0, .int 0, .int 0]))] s.heap := hP
  have hl := lv_entry ([.ref a0]) (n := 1) (Nat.le_of_ble_eq_true rfl)
  rw [lg_entry_eq]
  generalize (lg_sl ([.ref a0]) ++ List.replicate (1 - (lg_sl ([.ref a0])).length) Slot.unset).toArray = ls at hl ⊢
  have hl : lv_has ls 1 [(0, .ref a0)] := hl
  refine lv_aload_n hx hb d_P_init_0 rfl (lv_at hl 0 rfl) ?_
  refine W.objInit hx hb hown (hts _ (List.mem_cons_of_mem _ lk_57)) (hts _ (List.mem_cons_of_mem _ lk_18)) (hts _ (List.mem_cons_of_mem _ lk_19)) rfl (by rw [hml]; exact hl.1) rfl d_P_init_1 (Nat.le_of_ble_eq_true rfl) (Nat.le_of_ble_eq_true rfl) ?_
  refine W.eq (g2 := F0 m 4 ls []) rfl ?_
  refine lv_aload_n hx hb d_P_init_4 rfl (lv_at hl 0 rfl) ?_
  refine lv_bipush (v := 9) hx hb d_P_init_5 (by decide) ?_
  refine va_newa (atype := .int) (ty := .int) (a0 := (9, .inl (fun _ => 0))) (N' := 9) hx hb (hts _ (List.mem_cons_of_mem _ lk_58)) rfl hK hP hD hS hA (fun _ => rfl) (by decide) (by decide) (by decide) (Nat.le_of_ble_eq_true rfl) (Nat.le_of_ble_eq_true rfl) d_P_init_7 (fun q1 g1 H hK hP hD hS => ?_)
  have hP : va_P (dC, dI) vwCl [(a0, .inr (2, [.null, .null, .null, .null, .null, .null, .int 0, .int 0, .int 0, .int 0, .int 0, .int 0, .int 0])), (q1, .inl (g1, 9, .inl (fun _ => 0)))] H := hP
  have hD : va_D A [(a0, .inr (2, [.null, .null, .null, .null, .null, .null, .int 0, .int 0, .int 0, .int 0, .int 0, .int 0, .int 0])), (q1, .inl (g1, 9, .inl (fun _ => 0)))] := hD
  have hK : va_K (dC, dI) vwCl [(g1, .int)] s := hK
  refine W.cs (cells' := 1) (slots' := 9) rfl rfl ?_
  refine va_putF (D := (dC, dI)) (ci := 2) (v := .ref q1) (ty := .array .int) (C := R_P) (T := F_P) (N := 13) hx hb hts (fun w h => List.mem_cons_of_mem _ (in_P w h)) t_P tk_P n_P hown hK hP hD hS 0 rfl rfl 0 (by decide) (hts _ (List.mem_cons_of_mem _ lk_59)) (fun _ h9 => h9) rfl hin rfl (by decide +kernel) rfl rfl (Nat.le_of_ble_eq_true rfl) d_P_init_9 (fun H locs hP hD hS => ?_)
  have hP : va_P (dC, dI) vwCl [(a0, .inr (2, [.ref q1, .null, .null, .null, .null, .null, .int 0, .int 0, .int 0, .int 0, .int 0, .int 0, .int 0])), (q1, .inl (g1, 9, .inl (fun _ => 0)))] H := hP
  have hD : va_D A [(a0, .inr (2, [.ref q1, .null, .null, .null, .null, .null, .int 0, .int 0, .int 0, .int 0, .int 0, .int 0, .int 0])), (q1, .inl (g1, 9, .inl (fun _ => 0)))] := hD
  refine lv_aload_n hx hb d_P_init_12 rfl (lv_at hl 0 rfl) ?_
  refine lv_bipush (v := 9) hx hb d_P_init_13 (by decide) ?_
  refine va_newa (atype := .int) (ty := .int) (a0 := (9, .inl (fun _ => 0))) (N' := 9) hx hb (hts _ (List.mem_cons_of_mem _ lk_58)) rfl hK hP hD hS hA (fun _ => rfl) (by decide) (by decide) (by decide) (Nat.le_of_ble_eq_true rfl) (Nat.le_of_ble_eq_true rfl) d_P_init_15 (fun q2 g2 H hK hP hD hS => ?_)
  have hP : va_P (dC, dI) vwCl [(a0, .inr (2, [.ref q1, .null, .null, .null, .null, .null, .int 0, .int 0, .int 0, .int 0, .int 0, .int 0, .int 0])), (q1, .inl (g1, 9, .inl (fun _ => 0))), (q2, .inl (g2, 9, .inl (fun _ => 0)))] H := hP
  have hD : va_D A [(a0, .inr (2, [.ref q1, .null, .null, .null, .null, .null, .int 0, .int 0, .int 0, .int 0, .int 0, .int 0, .int 0])), (q1, .inl (g1, 9, .inl (fun _ => 0))), (q2, .inl (g2, 9, .inl (fun _ => 0)))] := hD
  have hK : va_K (dC, dI) vwCl [(g1, .int), (g2, .int)] s := hK
  refine W.cs (cells' := 2) (slots' := 18) rfl rfl ?_
  refine va_putF (D := (dC, dI)) (ci := 2) (v := .ref q2) (ty := .array .int) (C := R_P) (T := F_P) (N := 13) hx hb hts (fun w h => List.mem_cons_of_mem _ (in_P w h)) t_P tk_P n_P hown hK hP hD hS 0 rfl rfl 1 (by decide) (hts _ (List.mem_cons_of_mem _ lk_60)) (fun _ h9 => h9) rfl hin rfl (by decide +kernel) rfl rfl (Nat.le_of_ble_eq_true rfl) d_P_init_17 (fun H locs hP hD hS => ?_)
  have hP : va_P (dC, dI) vwCl [(a0, .inr (2, [.ref q1, .ref q2, .null, .null, .null, .null, .int 0, .int 0, .int 0, .int 0, .int 0, .int 0, .int 0])), (q1, .inl (g1, 9, .inl (fun _ => 0))), (q2, .inl (g2, 9, .inl (fun _ => 0)))] H := hP
  have hD : va_D A [(a0, .inr (2, [.ref q1, .ref q2, .null, .null, .null, .null, .int 0, .int 0, .int 0, .int 0, .int 0, .int 0, .int 0])), (q1, .inl (g1, 9, .inl (fun _ => 0))), (q2, .inl (g2, 9, .inl (fun _ => 0)))] := hD
  refine lv_aload_n hx hb d_P_init_20 rfl (lv_at hl 0 rfl) ?_
  refine lv_bipush (v := 9) hx hb d_P_init_21 (by decide) ?_
  refine va_newa (atype := .int) (ty := .int) (a0 := (9, .inl (fun _ => 0))) (N' := 9) hx hb (hts _ (List.mem_cons_of_mem _ lk_58)) rfl hK hP hD hS hA (fun _ => rfl) (by decide) (by decide) (by decide) (Nat.le_of_ble_eq_true rfl) (Nat.le_of_ble_eq_true rfl) d_P_init_23 (fun q3 g3 H hK hP hD hS => ?_)
  have hP : va_P (dC, dI) vwCl [(a0, .inr (2, [.ref q1, .ref q2, .null, .null, .null, .null, .int 0, .int 0, .int 0, .int 0, .int 0, .int 0, .int 0])), (q1, .inl (g1, 9, .inl (fun _ => 0))), (q2, .inl (g2, 9, .inl (fun _ => 0))), (q3, .inl (g3, 9, .inl (fun _ => 0)))] H := hP
  have hD : va_D A [(a0, .inr (2, [.ref q1, .ref q2, .null, .null, .null, .null, .int 0, .int 0, .int 0, .int 0, .int 0, .int 0, .int 0])), (q1, .inl (g1, 9, .inl (fun _ => 0))), (q2, .inl (g2, 9, .inl (fun _ => 0))), (q3, .inl (g3, 9, .inl (fun _ => 0)))] := hD
  have hK : va_K (dC, dI) vwCl [(g1, .int), (g2, .int), (g3, .int)] s := hK
  refine W.cs (cells' := 3) (slots' := 27) rfl rfl ?_
  refine va_putF (D := (dC, dI)) (ci := 2) (v := .ref q3) (ty := .array .int) (C := R_P) (T := F_P) (N := 13) hx hb hts (fun w h => List.mem_cons_of_mem _ (in_P w h)) t_P tk_P n_P hown hK hP hD hS 0 rfl rfl 2 (by decide) (hts _ (List.mem_cons_of_mem _ lk_61)) (fun _ h9 => h9) rfl hin rfl (by decide +kernel) rfl rfl (Nat.le_of_ble_eq_true rfl) d_P_init_25 (fun H locs hP hD hS => ?_)
  have hP : va_P (dC, dI) vwCl [(a0, .inr (2, [.ref q1, .ref q2, .ref q3, .null, .null, .null, .int 0, .int 0, .int 0, .int 0, .int 0, .int 0, .int 0])), (q1, .inl (g1, 9, .inl (fun _ => 0))), (q2, .inl (g2, 9, .inl (fun _ => 0))), (q3, .inl (g3, 9, .inl (fun _ => 0)))] H := hP
  have hD : va_D A [(a0, .inr (2, [.ref q1, .ref q2, .ref q3, .null, .null, .null, .int 0, .int 0, .int 0, .int 0, .int 0, .int 0, .int 0])), (q1, .inl (g1, 9, .inl (fun _ => 0))), (q2, .inl (g2, 9, .inl (fun _ => 0))), (q3, .inl (g3, 9, .inl (fun _ => 0)))] := hD
  refine lv_aload_n hx hb d_P_init_28 rfl (lv_at hl 0 rfl) ?_
  refine lv_bipush (v := 9) hx hb d_P_init_29 (by decide) ?_
  refine va_newa (atype := .int) (ty := .int) (a0 := (9, .inl (fun _ => 0))) (N' := 9) hx hb (hts _ (List.mem_cons_of_mem _ lk_58)) rfl hK hP hD hS hA (fun _ => rfl) (by decide) (by decide) (by decide) (Nat.le_of_ble_eq_true rfl) (Nat.le_of_ble_eq_true rfl) d_P_init_31 (fun q4 g4 H hK hP hD hS => ?_)
  have hP : va_P (dC, dI) vwCl [(a0, .inr (2, [.ref q1, .ref q2, .ref q3, .null, .null, .null, .int 0, .int 0, .int 0, .int 0, .int 0, .int 0, .int 0])), (q1, .inl (g1, 9, .inl (fun _ => 0))), (q2, .inl (g2, 9, .inl (fun _ => 0))), (q3, .inl (g3, 9, .inl (fun _ => 0))), (q4, .inl (g4, 9, .inl (fun _ => 0)))] H := hP
  have hD : va_D A [(a0, .inr (2, [.ref q1, .ref q2, .ref q3, .null, .null, .null, .int 0, .int 0, .int 0, .int 0, .int 0, .int 0, .int 0])), (q1, .inl (g1, 9, .inl (fun _ => 0))), (q2, .inl (g2, 9, .inl (fun _ => 0))), (q3, .inl (g3, 9, .inl (fun _ => 0))), (q4, .inl (g4, 9, .inl (fun _ => 0)))] := hD
  have hK : va_K (dC, dI) vwCl [(g1, .int), (g2, .int), (g3, .int), (g4, .int)] s := hK
  refine W.cs (cells' := 4) (slots' := 36) rfl rfl ?_
  refine va_putF (D := (dC, dI)) (ci := 2) (v := .ref q4) (ty := .array .int) (C := R_P) (T := F_P) (N := 13) hx hb hts (fun w h => List.mem_cons_of_mem _ (in_P w h)) t_P tk_P n_P hown hK hP hD hS 0 rfl rfl 3 (by decide) (hts _ (List.mem_cons_of_mem _ lk_62)) (fun _ h9 => h9) rfl hin rfl (by decide +kernel) rfl rfl (Nat.le_of_ble_eq_true rfl) d_P_init_33 (fun H locs hP hD hS => ?_)
  have hP : va_P (dC, dI) vwCl [(a0, .inr (2, [.ref q1, .ref q2, .ref q3, .ref q4, .null, .null, .int 0, .int 0, .int 0, .int 0, .int 0, .int 0, .int 0])), (q1, .inl (g1, 9, .inl (fun _ => 0))), (q2, .inl (g2, 9, .inl (fun _ => 0))), (q3, .inl (g3, 9, .inl (fun _ => 0))), (q4, .inl (g4, 9, .inl (fun _ => 0)))] H := hP
  have hD : va_D A [(a0, .inr (2, [.ref q1, .ref q2, .ref q3, .ref q4, .null, .null, .int 0, .int 0, .int 0, .int 0, .int 0, .int 0, .int 0])), (q1, .inl (g1, 9, .inl (fun _ => 0))), (q2, .inl (g2, 9, .inl (fun _ => 0))), (q3, .inl (g3, 9, .inl (fun _ => 0))), (q4, .inl (g4, 9, .inl (fun _ => 0)))] := hD
  refine lv_aload_n hx hb d_P_init_36 rfl (lv_at hl 0 rfl) ?_
  refine va_new (ci := 3) (fs := [.null, .null, .null, .null, .null, .int 0, .int 0, .int 0, .int 0, .int 0]) (C := R_A) (T := F_A) (N := 10) hx hb hts (fun w h => List.mem_cons_of_mem _ (in_A w h)) t_A tk_A hown (hts _ (List.mem_cons_of_mem _ lk_73)) (hts _ (List.mem_cons_of_mem _ lk_74)) (hts _ (List.mem_cons_of_mem _ lk_75)) hK hP hD hS hA rfl (by decide) (Nat.le_of_ble_eq_true rfl) (Nat.le_of_ble_eq_true rfl) d_P_init_37 (fun q5 H hP hD hS => ?_)
  have hP : va_P (dC, dI) vwCl [(a0, .inr (2, [.ref q1, .ref q2, .ref q3, .ref q4, .null, .null, .int 0, .int 0, .int 0, .int 0, .int 0, .int 0, .int 0])), (q1, .inl (g1, 9, .inl (fun _ => 0))), (q2, .inl (g2, 9, .inl (fun _ => 0))), (q3, .inl (g3, 9, .inl (fun _ => 0))), (q4, .inl (g4, 9, .inl (fun _ => 0))), (q5, .inr (3, [.null, .null, .null, .null, .null, .int 0, .int 0, .int 0, .int 0, .int 0]))] H := hP
  have hD : va_D A [(a0, .inr (2, [.ref q1, .ref q2, .ref q3, .ref q4, .null, .null, .int 0, .int 0, .int 0, .int 0, .int 0, .int 0, .int 0])), (q1, .inl (g1, 9, .inl (fun _ => 0))), (q2, .inl (g2, 9, .inl (fun _ => 0))), (q3, .inl (g3, 9, .inl (fun _ => 0))), (q4, .inl (g4, 9, .inl (fun _ => 0))), (q5, .inr (3, [.null, .null, .null, .null, .null, .int 0, .int 0, .int 0, .int 0, .int 0]))] := hD
  have hK : va_K (dC, dI) vwCl [(g1, .int), (g2, .int), (g3, .int), (g4, .int)] s := hK
  refine W.cs (cells' := 5) (slots' := 46) rfl rfl ?_
  refine lv_dup hx hb d_P_init_40 rfl ?_
  have hPc := hP.sub (ws' := [(q5, .inr (3, [.null, .null, .null, .null, .null, .int 0, .int 0, .int 0, .int 0, .int 0]))]) [5] rfl
  have hDc := hD.sub (ws' := [(q5, .inr (3, [.null, .null, .null, .null, .null, .int 0, .int 0, .int 0, .int 0, .int 0]))]) [5] (by decide) rfl
  have hKc := hK.sub (tys' := []) [] rfl
  have hFc := va_free (wc := [(q5, .inr (3, [.null, .null, .null, .null, .null, .int 0, .int 0, .int 0, .int 0, .int 0]))]) hD hS hA [5] rfl
  refine va_callv (va_runI (As := []) (rest := [.ref q5, .ref a0]) ⟨hx, hb, hml, hown, hts⟩ (c_A_init l dC dI q5 H.size) (cwI 0 hts (gd_c lk_83) rfl rfl rfl (hts _ (List.mem_cons_of_mem _ lk_75)) (hts _ (List.mem_cons_of_mem _ lk_84)) (hts _ (List.mem_cons_of_mem _ lk_85)) rfl (by decide +kernel) ⟨Nat.le_of_ble_eq_true rfl, Nat.le_of_ble_eq_true rfl⟩) ⟨fun a U g mk q => by obtain ⟨q0, q1, qP, qK, qD⟩ := q; exact ⟨q0, q1, qP, va_K.moved (u := U) (U := U.calling g mk a) (Vm.Alike.refl U.vm) qK, qD⟩, fun U hU hW => ⟨rfl, by rw [hU], by rw [hU]; exact hPc, va_K.moved hW.alike hKc, hDc.weaken (fun _ _ _ _ => trivial)⟩⟩ rfl rfl hl.1 rfl (lv_room (Nat.le_of_ble_eq_true rfl)) d_P_init_41 ⟨Nat.le_of_ble_eq_true rfl, Nat.le_of_ble_eq_true rfl⟩) hS (fun q _ h => hFc q h) hFc (fun u t H1 locs ht hvm hw hB hz1 hk1 hS => ?_)
  obtain ⟨q6, q7, q8, q9, q10, g6, g7, g8, g9, g10, hP1, hK1, hD1⟩ := hB
  rw [ht] at hP1
  have hK1 := va_K.moved hvm.symm hK1
  obtain ⟨hP, hD⟩ := va_join (wr := [(a0, .inr (2, [.ref q1, .ref q2, .ref q3, .ref q4, .null, .null, .int 0, .int 0, .int 0, .int 0, .int 0, .int 0, .int 0])), (q1, .inl (g1, 9, .inl (fun _ => 0))), (q2, .inl (g2, 9, .inl (fun _ => 0))), (q3, .inl (g3, 9, .inl (fun _ => 0))), (q4, .inl (g4, 9, .inl (fun _ => 0)))]) (w1 := [(q5, .inr (3, [.ref q6, .ref q7, .ref q8, .ref q9, .ref q10, .int 0, .int 0, .int 0, .int 0, .int 0])), (q6, .inl (g6, 50, .inl (fun _ => 0))), (q7, .inl (g7, 50, .inl (fun _ => 0))), (q8, .inl (g8, 50, .inl (fun _ => 0))), (q9, .inl (g9, 50, .inr (.inl (fun _ => 0)))), (q10, .inl (g10, 50, .inr (.inl (fun _ => 0))))]) hP hD [5] [0, 1, 2, 3, 4] rfl rfl (by decide) (by decide) hk1 hFc hP1 hD1
  have hK := hK.app (hK1.sub (tys' := [(g6, .int), (g7, .int), (g8, .int), (g9, .long), (g10, .long)]) [0, 1, 2, 3, 4] rfl)
  generalize H1 = H at hP hS ⊢
  have hP : va_P (dC, dI) vwCl [(a0, .inr (2, [.ref q1, .ref q2, .ref q3, .ref q4, .null, .null, .int 0, .int 0, .int 0, .int 0, .int 0, .int 0, .int 0])), (q1, .inl (g1, 9, .inl (fun _ => 0))), (q2, .inl (g2, 9, .inl (fun _ => 0))), (q3, .inl (g3, 9, .inl (fun _ => 0))), (q4, .inl (g4, 9, .inl (fun _ => 0))), (q5, .inr (3, [.ref q6, .ref q7, .ref q8, .ref q9, .ref q10, .int 0, .int 0, .int 0, .int 0, .int 0])), (q6, .inl (g6, 50, .inl (fun _ => 0))), (q7, .inl (g7, 50, .inl (fun _ => 0))), (q8, .inl (g8, 50, .inl (fun _ => 0))), (q9, .inl (g9, 50, .inr (.inl (fun _ => 0)))), (q10, .inl (g10, 50, .inr (.inl (fun _ => 0))))] H := hP
  have hD : va_D A [(a0, .inr (2, [.ref q1, .ref q2, .ref q3, .ref q4, .null, .null, .int 0, .int 0, .int 0, .int 0, .int 0, .int 0, .int 0])), (q1, .inl (g1, 9, .inl (fun _ => 0))), (q2, .inl (g2, 9, .inl (fun _ => 0))), (q3, .inl (g3, 9, .inl (fun _ => 0))), (q4, .inl (g4, 9, .inl (fun _ => 0))), (q5, .inr (3, [.ref q6, .ref q7, .ref q8, .ref q9, .ref q10, .int 0, .int 0, .int 0, .int 0, .int 0])), (q6, .inl (g6, 50, .inl (fun _ => 0))), (q7, .inl (g7, 50, .inl (fun _ => 0))), (q8, .inl (g8, 50, .inl (fun _ => 0))), (q9, .inl (g9, 50, .inr (.inl (fun _ => 0)))), (q10, .inl (g10, 50, .inr (.inl (fun _ => 0))))] := hD
  have hK : va_K (dC, dI) vwCl [(g1, .int), (g2, .int), (g3, .int), (g4, .int), (g6, .int), (g7, .int), (g8, .int), (g9, .long), (g10, .long)] s := hK
  refine W.cs (cells' := 10) (slots' := 296) rfl rfl ?_
  refine va_put (D := (dC, dI)) (ci := 2) (v := .ref q5) (ty := .object "DraftTree$Automaton") (C := R_P) (T := F_P) (N := 13) hx hb hts (fun w h => List.mem_cons_of_mem _ (in_P w h)) t_P tk_P n_P hown hK hP hD hS 0 rfl rfl 4 (by decide) (hts _ (List.mem_cons_of_mem _ lk_86)) (fun _ h9 => h9) rfl (by decide +kernel) rfl rfl (Nat.le_of_ble_eq_true rfl) d_P_init_44 (fun H locs hP hD hS => ?_)
  have hP : va_P (dC, dI) vwCl [(a0, .inr (2, [.ref q1, .ref q2, .ref q3, .ref q4, .ref q5, .null, .int 0, .int 0, .int 0, .int 0, .int 0, .int 0, .int 0])), (q1, .inl (g1, 9, .inl (fun _ => 0))), (q2, .inl (g2, 9, .inl (fun _ => 0))), (q3, .inl (g3, 9, .inl (fun _ => 0))), (q4, .inl (g4, 9, .inl (fun _ => 0))), (q5, .inr (3, [.ref q6, .ref q7, .ref q8, .ref q9, .ref q10, .int 0, .int 0, .int 0, .int 0, .int 0])), (q6, .inl (g6, 50, .inl (fun _ => 0))), (q7, .inl (g7, 50, .inl (fun _ => 0))), (q8, .inl (g8, 50, .inl (fun _ => 0))), (q9, .inl (g9, 50, .inr (.inl (fun _ => 0)))), (q10, .inl (g10, 50, .inr (.inl (fun _ => 0))))] H := hP
  have hD : va_D A [(a0, .inr (2, [.ref q1, .ref q2, .ref q3, .ref q4, .ref q5, .null, .int 0, .int 0, .int 0, .int 0, .int 0, .int 0, .int 0])), (q1, .inl (g1, 9, .inl (fun _ => 0))), (q2, .inl (g2, 9, .inl (fun _ => 0))), (q3, .inl (g3, 9, .inl (fun _ => 0))), (q4, .inl (g4, 9, .inl (fun _ => 0))), (q5, .inr (3, [.ref q6, .ref q7, .ref q8, .ref q9, .ref q10, .int 0, .int 0, .int 0, .int 0, .int 0])), (q6, .inl (g6, 50, .inl (fun _ => 0))), (q7, .inl (g7, 50, .inl (fun _ => 0))), (q8, .inl (g8, 50, .inl (fun _ => 0))), (q9, .inl (g9, 50, .inr (.inl (fun _ => 0)))), (q10, .inl (g10, 50, .inr (.inl (fun _ => 0))))] := hD
  refine lv_aload_n hx hb d_P_init_47 rfl (lv_at hl 0 rfl) ?_
  refine lv_iconst (v := 0) hx hb d_P_init_48 (by decide) ?_
  refine va_newa (atype := .char) (ty := .char) (a0 := (0, .inl (fun _ => 0))) (N' := 0) hx hb (hts _ (List.mem_cons_of_mem _ lk_20)) rfl hK hP hD hS hA (fun _ => rfl) (by decide) (by decide) (by decide) (Nat.le_of_ble_eq_true rfl) (Nat.le_of_ble_eq_true rfl) d_P_init_49 (fun q11 g11 H hK hP hD hS => ?_)
  have hP : va_P (dC, dI) vwCl [(a0, .inr (2, [.ref q1, .ref q2, .ref q3, .ref q4, .ref q5, .null, .int 0, .int 0, .int 0, .int 0, .int 0, .int 0, .int 0])), (q1, .inl (g1, 9, .inl (fun _ => 0))), (q2, .inl (g2, 9, .inl (fun _ => 0))), (q3, .inl (g3, 9, .inl (fun _ => 0))), (q4, .inl (g4, 9, .inl (fun _ => 0))), (q5, .inr (3, [.ref q6, .ref q7, .ref q8, .ref q9, .ref q10, .int 0, .int 0, .int 0, .int 0, .int 0])), (q6, .inl (g6, 50, .inl (fun _ => 0))), (q7, .inl (g7, 50, .inl (fun _ => 0))), (q8, .inl (g8, 50, .inl (fun _ => 0))), (q9, .inl (g9, 50, .inr (.inl (fun _ => 0)))), (q10, .inl (g10, 50, .inr (.inl (fun _ => 0)))), (q11, .inl (g11, 0, .inl (fun _ => 0)))] H := hP
  have hD : va_D A [(a0, .inr (2, [.ref q1, .ref q2, .ref q3, .ref q4, .ref q5, .null, .int 0, .int 0, .int 0, .int 0, .int 0, .int 0, .int 0])), (q1, .inl (g1, 9, .inl (fun _ => 0))), (q2, .inl (g2, 9, .inl (fun _ => 0))), (q3, .inl (g3, 9, .inl (fun _ => 0))), (q4, .inl (g4, 9, .inl (fun _ => 0))), (q5, .inr (3, [.ref q6, .ref q7, .ref q8, .ref q9, .ref q10, .int 0, .int 0, .int 0, .int 0, .int 0])), (q6, .inl (g6, 50, .inl (fun _ => 0))), (q7, .inl (g7, 50, .inl (fun _ => 0))), (q8, .inl (g8, 50, .inl (fun _ => 0))), (q9, .inl (g9, 50, .inr (.inl (fun _ => 0)))), (q10, .inl (g10, 50, .inr (.inl (fun _ => 0)))), (q11, .inl (g11, 0, .inl (fun _ => 0)))] := hD
  have hK : va_K (dC, dI) vwCl [(g1, .int), (g2, .int), (g3, .int), (g4, .int), (g6, .int), (g7, .int), (g8, .int), (g9, .long), (g10, .long), (g11, .char)] s := hK
  refine W.cs (cells' := 11) (slots' := 296) rfl rfl ?_
  refine va_put (D := (dC, dI)) (ci := 2) (v := .ref q11) (ty := .array .char) (C := R_P) (T := F_P) (N := 13) hx hb hts (fun w h => List.mem_cons_of_mem _ (in_P w h)) t_P tk_P n_P hown hK hP hD hS 0 rfl rfl 5 (by decide) (hts _ (List.mem_cons_of_mem _ lk_87)) (fun _ h9 => h9) rfl (by decide +kernel) rfl rfl (Nat.le_of_ble_eq_true rfl) d_P_init_51 (fun H locs hP hD hS => ?_)
  have hP : va_P (dC, dI) vwCl [(a0, .inr (2, [.ref q1, .ref q2, .ref q3, .ref q4, .ref q5, .ref q11, .int 0, .int 0, .int 0, .int 0, .int 0, .int 0, .int 0])), (q1, .inl (g1, 9, .inl (fun _ => 0))), (q2, .inl (g2, 9, .inl (fun _ => 0))), (q3, .inl (g3, 9, .inl (fun _ => 0))), (q4, .inl (g4, 9, .inl (fun _ => 0))), (q5, .inr (3, [.ref q6, .ref q7, .ref q8, .ref q9, .ref q10, .int 0, .int 0, .int 0, .int 0, .int 0])), (q6, .inl (g6, 50, .inl (fun _ => 0))), (q7, .inl (g7, 50, .inl (fun _ => 0))), (q8, .inl (g8, 50, .inl (fun _ => 0))), (q9, .inl (g9, 50, .inr (.inl (fun _ => 0)))), (q10, .inl (g10, 50, .inr (.inl (fun _ => 0)))), (q11, .inl (g11, 0, .inl (fun _ => 0)))] H := hP
  have hD : va_D A [(a0, .inr (2, [.ref q1, .ref q2, .ref q3, .ref q4, .ref q5, .ref q11, .int 0, .int 0, .int 0, .int 0, .int 0, .int 0, .int 0])), (q1, .inl (g1, 9, .inl (fun _ => 0))), (q2, .inl (g2, 9, .inl (fun _ => 0))), (q3, .inl (g3, 9, .inl (fun _ => 0))), (q4, .inl (g4, 9, .inl (fun _ => 0))), (q5, .inr (3, [.ref q6, .ref q7, .ref q8, .ref q9, .ref q10, .int 0, .int 0, .int 0, .int 0, .int 0])), (q6, .inl (g6, 50, .inl (fun _ => 0))), (q7, .inl (g7, 50, .inl (fun _ => 0))), (q8, .inl (g8, 50, .inl (fun _ => 0))), (q9, .inl (g9, 50, .inr (.inl (fun _ => 0)))), (q10, .inl (g10, 50, .inr (.inl (fun _ => 0)))), (q11, .inl (g11, 0, .inl (fun _ => 0)))] := hD
  have hP9 := hP.sub (ws' := [(a0, .inr (2, [.ref q1, .ref q2, .ref q3, .ref q4, .ref q5, .ref q11, .int 0, .int 0, .int 0, .int 0, .int 0, .int 0, .int 0])), (q1, .inl (g1, 9, .inl (fun _ => 0))), (q2, .inl (g2, 9, .inl (fun _ => 0))), (q3, .inl (g3, 9, .inl (fun _ => 0))), (q4, .inl (g4, 9, .inl (fun _ => 0))), (q5, .inr (3, [.ref q6, .ref q7, .ref q8, .ref q9, .ref q10, .int 0, .int 0, .int 0, .int 0, .int 0])), (q6, .inl (g6, 50, .inl (fun _ => 0))), (q7, .inl (g7, 50, .inl (fun _ => 0))), (q8, .inl (g8, 50, .inl (fun _ => 0))), (q9, .inl (g9, 50, .inr (.inl (fun _ => 0)))), (q10, .inl (g10, 50, .inr (.inl (fun _ => 0)))), (q11, .inl (g11, 0, .inl (fun _ => 0)))]) [0, 1, 2, 3, 4, 5, 6, 7, 8, 9, 10, 11] rfl
  have hD9 := hD.sub (ws' := [(a0, .inr (2, [.ref q1, .ref q2, .ref q3, .ref q4, .ref q5, .ref q11, .int 0, .int 0, .int 0, .int 0, .int 0, .int 0, .int 0])), (q1, .inl (g1, 9, .inl (fun _ => 0))), (q2, .inl (g2, 9, .inl (fun _ => 0))), (q3, .inl (g3, 9, .inl (fun _ => 0))), (q4, .inl (g4, 9, .inl (fun _ => 0))), (q5, .inr (3, [.ref q6, .ref q7, .ref q8, .ref q9, .ref q10, .int 0, .int 0, .int 0, .int 0, .int 0])), (q6, .inl (g6, 50, .inl (fun _ => 0))), (q7, .inl (g7, 50, .inl (fun _ => 0))), (q8, .inl (g8, 50, .inl (fun _ => 0))), (q9, .inl (g9, 50, .inr (.inl (fun _ => 0)))), (q10, .inl (g10, 50, .inr (.inl (fun _ => 0)))), (q11, .inl (g11, 0, .inl (fun _ => 0)))]) [0, 1, 2, 3, 4, 5, 6, 7, 8, 9, 10, 11] (by decide) rfl
  have hK9 := hK.sub (tys' := [(g1, .int), (g2, .int), (g3, .int), (g4, .int), (g6, .int), (g7, .int), (g8, .int), (g9, .long), (g10, .long), (g11, .char)]) [0, 1, 2, 3, 4, 5, 6, 7, 8, 9] rfl
  exact W.vret hx hb hr (fun t ht hW => ⟨⟨(), rfl, rfl, q1, q2, q3, q4, q5, q6, q7, q8, q9, q10, q11, g1, g2, g3, g4, g6, g7, g8, g9, g10, g11, by rw [ht]; exact hP9, va_K.moved hW.alike hK9, hD9⟩, hS.F ht⟩) hS.2.2 d_P_init_54

set_option maxHeartbeats 4000000 in
set_option maxRecDepth 100000 in
theorem c_D_init (l : Launch) (hfl : l.flags = flags0) (dC : Nat → ClassId) (dI : Nat → Nat → Nat) (a0 : Nat) (sz : Nat)  : Met l y_D_init w_D_init ({ frames := 3, cells := 24, slots := 957, locals := 52 }) (va_Pc [.ref a0] (fun U => U.heap.size = sz ∧ va_P (dC, dI) vwCl [(a0, .inr (0, [.null, .int 0, .null, .int 0, .int 0, .null, .int 0, .int 0, .null, .null, .int 0, .int 0, .null, .null]))] U.heap ∧ va_K (dC, dI) vwCl [] U ∧ va_D (fun _ => True) [(a0, .inr (0, [.null, .int 0, .null, .int 0, .int 0, .null, .int 0, .int 0, .null, .null, .int 0, .int 0, .null, .null]))] ∧ th_Zs U)) (va_Qv (fun (u : Unit) => u = u) (fun (_ : Unit) t => ∃ (q1 q2 q3 q4 q5 q6 q7 q8 q9 q10 q11 q12 q13 q14 q15 q16 q17 q18 q19 q20 q21 q22 q23 q24 : Nat) (g1 g2 g3 g6 g7 g8 g9 g11 g12 g13 g14 g15 g16 g18 g19 g20 g21 g22 g23 g24 : ClassId) , va_P (dC, dI) vwCl [(a0, .inr (0, [.ref q1, .int 0, .ref q2, .int 1, .int 0, .ref q3, .int 0, .int (-1), .ref q5, .ref q17, .int 0, .int (-1), .ref q23, .ref q24])), (q1, .inl (g1, 24, .inl (fun _ => 0))), (q2, .inl (g2, 40, .inr (.inr (.inr (.inr (va_up (fun _ => none) 0 (some q4))))))), (q3, .inl (g3, 0, .inl (fun _ => 0))), (q4, .inr (1, [.ref q3, .int (-1), .int 0, .int (-1)])), (q5, .inr (2, [.ref q6, .ref q7, .ref q8, .ref q9, .ref q10, .ref q16, .int 0, .int 0, .int 0, .int 0, .int 0, .int 0, .int 0])), (q6, .inl (g6, 9, .inl (fun _ => 0))), (q7, .inl (g7, 9, .inl (fun _ => 0))), (q8, .inl (g8, 9, .inl (fun _ => 0))), (q9, .inl (g9, 9, .inl (fun _ => 0))), (q10, .inr (3, [.ref q11, .ref q12, .ref q13, .ref q14, .ref q15, .int 0, .int 0, .int 0, .int 0, .int 0])), (q11, .inl (g11, 50, .inl (fun _ => 0))), (q12, .inl (g12, 50, .inl (fun _ => 0))), (q13, .inl (g13, 50, .inl (fun _ => 0))), (q14, .inl (g14, 50, .inr (.inl (fun _ => 0)))), (q15, .inl (g15, 50, .inr (.inl (fun _ => 0)))), (q16, .inl (g16, 0, .inl (fun _ => 0))), (q17, .inr (3, [.ref q18, .ref q19, .ref q20, .ref q21, .ref q22, .int 0, .int 0, .int 0, .int 0, .int 0])), (q18, .inl (g18, 50, .inl (fun _ => 0))), (q19, .inl (g19, 50, .inl (fun _ => 0))), (q20, .inl (g20, 50, .inl (fun _ => 0))), (q21, .inl (g21, 50, .inr (.inl (fun _ => 0)))), (q22, .inl (g22, 50, .inr (.inl (fun _ => 0)))), (q23, .inl (g23, 160, .inl (fun _ => 0))), (q24, .inl (g24, 160, .inl (fun _ => 0)))] t.heap ∧ va_K (dC, dI) vwCl [(g1, .char), (g2, (.object "DraftTree$State")), (g3, .char), (g6, .int), (g7, .int), (g8, .int), (g9, .int), (g11, .int), (g12, .int), (g13, .int), (g14, .long), (g15, .long), (g16, .char), (g18, .int), (g19, .int), (g20, .int), (g21, .long), (g22, .long), (g23, .int), (g24, .int)] t ∧ va_D (va_A [(a0, .inr (0, [.null, .int 0, .null, .int 0, .int 0, .null, .int 0, .int 0, .null, .null, .int 0, .int 0, .null, .null]))] sz) [(a0, .inr (0, [.ref q1, .int 0, .ref q2, .int 1, .int 0, .ref q3, .int 0, .int (-1), .ref q5, .ref q17, .int 0, .int (-1), .ref q23, .ref q24])), (q1, .inl (g1, 24, .inl (fun _ => 0))), (q2, .inl (g2, 40, .inr (.inr (.inr (.inr (va_up (fun _ => none) 0 (some q4))))))), (q3, .inl (g3, 0, .inl (fun _ => 0))), (q4, .inr (1, [.ref q3, .int (-1), .int 0, .int (-1)])), (q5, .inr (2, [.ref q6, .ref q7, .ref q8, .ref q9, .ref q10, .ref q16, .int 0, .int 0, .int 0, .int 0, .int 0, .int 0, .int 0])), (q6, .inl (g6, 9, .inl (fun _ => 0))), (q7, .inl (g7, 9, .inl (fun _ => 0))), (q8, .inl (g8, 9, .inl (fun _ => 0))), (q9, .inl (g9, 9, .inl (fun _ => 0))), (q10, .inr (3, [.ref q11, .ref q12, .ref q13, .ref q14, .ref q15, .int 0, .int 0, .int 0, .int 0, .int 0])), (q11, .inl (g11, 50, .inl (fun _ => 0))), (q12, .inl (g12, 50, .inl (fun _ => 0))), (q13, .inl (g13, 50, .inl (fun _ => 0))), (q14, .inl (g14, 50, .inr (.inl (fun _ => 0)))), (q15, .inl (g15, 50, .inr (.inl (fun _ => 0)))), (q16, .inl (g16, 0, .inl (fun _ => 0))), (q17, .inr (3, [.ref q18, .ref q19, .ref q20, .ref q21, .ref q22, .int 0, .int 0, .int 0, .int 0, .int 0])), (q18, .inl (g18, 50, .inl (fun _ => 0))), (q19, .inl (g19, 50, .inl (fun _ => 0))), (q20, .inl (g20, 50, .inl (fun _ => 0))), (q21, .inl (g21, 50, .inr (.inl (fun _ => 0)))), (q22, .inl (g22, 50, .inr (.inl (fun _ => 0)))), (q23, .inl (g23, 160, .inl (fun _ => 0))), (q24, .inl (g24, 160, .inl (fun _ => 0)))]) (va_A [(a0, .inr (0, [.null, .int 0, .null, .int 0, .int 0, .null, .int 0, .int 0, .null, .null, .int 0, .int 0, .null, .null]))] sz)) 24 957 (va_A [(a0, .inr (0, [.null, .int 0, .null, .int 0, .int 0, .null, .int 0, .int 0, .null, .null, .int 0, .int 0, .null, .null]))] sz) := by
  refine Met.ofW (cc := prog_1_method_1_code) (maxL := 1) (ret := none) (by decide) rfl ?_
  intro p e s m args below meth c s₁ B hml hv
  obtain ⟨rfl, hsz, hP, hK, hD0, hZ⟩ := hv
  have hx := B.exec
  have hb := B.bytes
  have hr := B.returns
  have hts := atoms_spec (ws := w_D_init) B.pre
  have hown : s.vm.findClass R_D = some m.cls := findClass_of_methodNamed B.named
  have hlocks := B.notSynchronized
  have htr := Launch.traces_off hfl B.admits
  have hin : meth.name = "<init>" := (name_of_methodNamed B.named B.method).1
  subst hsz
  have hD := hD0.self (sz := s.heap.size)
  generalize hAe : va_A [(a0, .inr (0, [.null, .int 0, .null, .int 0, .int 0, .null, .int 0, .int 0, .null, .null, .int 0, .int 0, .null, .null]))] s.heap.size = A at hD ⊢
  have hA : ∀ q : Nat, s.heap.size ≤ q → A q := fun q h => by rw [← hAe]; exact Or.inr h
  have hS : va_S A s.heap s.heap [] := va_S.rf
  have hP : va_P (dC, dI) vwCl [(a0, .inr (0, [.null, .int 0, .null, .int 0, .int 0, .null, .int 0, .int 0, .null, .null, .int 0, .int 0, .null, .null]))] s.heap := hP
  have hl := lv_entry ([.ref a0]) (n := 1) (Nat.le_of_ble_eq_true rfl)
  rw [lg_entry_eq]
  generalize (lg_sl ([.ref a0]) ++ List.replicate (1 - (lg_sl ([.ref a0])).length) Slot.unset).toArray = ls at hl ⊢
  have hl : lv_has ls 1 [(0, .ref a0)] := hl
  refine lv_aload_n hx hb d_D_init_0 rfl (lv_at hl 0 rfl) ?_
  refine W.objInit hx hb hown (hts _ (List.mem_cons_of_mem _ lk_17)) (hts _ (List.mem_cons_of_mem _ lk_18)) (hts _ (List.mem_cons_of_mem _ lk_19)) rfl (by rw [hml]; exact hl.1) rfl d_D_init_1 (Nat.le_of_ble_eq_true rfl) (Nat.le_of_ble_eq_true rfl) ?_
  refine W.eq (g2 := F0 m 4 ls []) rfl ?_
  refine lv_aload_n hx hb d_D_init_4 rfl (lv_at hl 0 rfl) ?_
  refine lv_bipush (v := 24) hx hb d_D_init_5 (by decide) ?_
  refine va_newa (atype := .char) (ty := .char) (a0 := (24, .inl (fun _ => 0))) (N' := 24) hx hb (hts _ (List.mem_cons_of_mem _ lk_20)) rfl hK hP hD hS hA (fun _ => rfl) (by decide) (by decide) (by decide) (Nat.le_of_ble_eq_true rfl) (Nat.le_of_ble_eq_true rfl) d_D_init_7 (fun q1 g1 H hK hP hD hS => ?_)
  have hP : va_P (dC, dI) vwCl [(a0, .inr (0, [.null, .int 0, .null, .int 0, .int 0, .null, .int 0, .int 0, .null, .null, .int 0, .int 0, .null, .null])), (q1, .inl (g1, 24, .inl (fun _ => 0)))] H := hP
  have hD : va_D A [(a0, .inr (0, [.null, .int 0, .null, .int 0, .int 0, .null, .int 0, .int 0, .null, .null, .int 0, .int 0, .null, .null])), (q1, .inl (g1, 24, .inl (fun _ => 0)))] := hD
  have hK : va_K (dC, dI) vwCl [(g1, .char)] s := hK
  refine W.cs (cells' := 1) (slots' := 24) rfl rfl ?_
  refine va_putF (D := (dC, dI)) (ci := 0) (v := .ref q1) (ty := .array .char) (C := R_D) (T := F_D) (N := 14) hx hb hts (fun w h => List.mem_cons_of_mem _ (in_D w h)) t_D tk_D n_D hown hK hP hD hS 0 rfl rfl 0 (by decide) (hts _ (List.mem_cons_of_mem _ lk_21)) (fun _ h9 => h9) rfl hin rfl (by decide +kernel) rfl rfl (Nat.le_of_ble_eq_true rfl) d_D_init_9 (fun H locs hP hD hS => ?_)
  have hP : va_P (dC, dI) vwCl [(a0, .inr (0, [.ref q1, .int 0, .null, .int 0, .int 0, .null, .int 0, .int 0, .null, .null, .int 0, .int 0, .null, .null])), (q1, .inl (g1, 24, .inl (fun _ => 0)))] H := hP
  have hD : va_D A [(a0, .inr (0, [.ref q1, .int 0, .null, .int 0, .int 0, .null, .int 0, .int 0, .null, .null, .int 0, .int 0, .null, .null])), (q1, .inl (g1, 24, .inl (fun _ => 0)))] := hD
  refine lv_aload_n hx hb d_D_init_12 rfl (lv_at hl 0 rfl) ?_
  refine lv_bipush (v := 40) hx hb d_D_init_13 (by decide) ?_
  refine va_newq (C := "DraftTree$State") (N' := 40) hx hb hown (hts _ (List.mem_cons_of_mem _ lk_22)) hZ.2.2.2.1 hK hP hD hS hA (by decide) (by decide) (by decide) (Nat.le_of_ble_eq_true rfl) (Nat.le_of_ble_eq_true rfl) d_D_init_15 (fun q2 g2 H hK hP hD hS => ?_)
  have hP : va_P (dC, dI) vwCl [(a0, .inr (0, [.ref q1, .int 0, .null, .int 0, .int 0, .null, .int 0, .int 0, .null, .null, .int 0, .int 0, .null, .null])), (q1, .inl (g1, 24, .inl (fun _ => 0))), (q2, .inl (g2, 40, .inr (.inr (.inr (.inr (fun _ => none))))))] H := hP
  have hD : va_D A [(a0, .inr (0, [.ref q1, .int 0, .null, .int 0, .int 0, .null, .int 0, .int 0, .null, .null, .int 0, .int 0, .null, .null])), (q1, .inl (g1, 24, .inl (fun _ => 0))), (q2, .inl (g2, 40, .inr (.inr (.inr (.inr (fun _ => none))))))] := hD
  have hK : va_K (dC, dI) vwCl [(g1, .char), (g2, .object "DraftTree$State")] s := hK
  refine W.cs (cells' := 2) (slots' := 64) rfl rfl ?_
  refine va_putF (D := (dC, dI)) (ci := 0) (v := .ref q2) (ty := .array (.object "DraftTree$State")) (C := R_D) (T := F_D) (N := 14) hx hb hts (fun w h => List.mem_cons_of_mem _ (in_D w h)) t_D tk_D n_D hown hK hP hD hS 0 rfl rfl 2 (by decide) (hts _ (List.mem_cons_of_mem _ lk_23)) (fun _ h9 => h9) rfl hin rfl (by decide +kernel) rfl rfl (Nat.le_of_ble_eq_true rfl) d_D_init_18 (fun H locs hP hD hS => ?_)
  have hP : va_P (dC, dI) vwCl [(a0, .inr (0, [.ref q1, .int 0, .ref q2, .int 0, .int 0, .null, .int 0, .int 0, .null, .null, .int 0, .int 0, .null, .null])), (q1, .inl (g1, 24, .inl (fun _ => 0))), (q2, .inl (g2, 40, .inr (.inr (.inr (.inr (fun _ => none))))))] H := hP
  have hD : va_D A [(a0, .inr (0, [.ref q1, .int 0, .ref q2, .int 0, .int 0, .null, .int 0, .int 0, .null, .null, .int 0, .int 0, .null, .null])), (q1, .inl (g1, 24, .inl (fun _ => 0))), (q2, .inl (g2, 40, .inr (.inr (.inr (.inr (fun _ => none))))))] := hD
  refine lv_aload_n hx hb d_D_init_21 rfl (lv_at hl 0 rfl) ?_
  refine lv_iconst (v := 0) hx hb d_D_init_22 (by decide) ?_
  refine va_newa (atype := .char) (ty := .char) (a0 := (0, .inl (fun _ => 0))) (N' := 0) hx hb (hts _ (List.mem_cons_of_mem _ lk_20)) rfl hK hP hD hS hA (fun _ => rfl) (by decide) (by decide) (by decide) (Nat.le_of_ble_eq_true rfl) (Nat.le_of_ble_eq_true rfl) d_D_init_23 (fun q3 g3 H hK hP hD hS => ?_)
  have hP : va_P (dC, dI) vwCl [(a0, .inr (0, [.ref q1, .int 0, .ref q2, .int 0, .int 0, .null, .int 0, .int 0, .null, .null, .int 0, .int 0, .null, .null])), (q1, .inl (g1, 24, .inl (fun _ => 0))), (q2, .inl (g2, 40, .inr (.inr (.inr (.inr (fun _ => none)))))), (q3, .inl (g3, 0, .inl (fun _ => 0)))] H := hP
  have hD : va_D A [(a0, .inr (0, [.ref q1, .int 0, .ref q2, .int 0, .int 0, .null, .int 0, .int 0, .null, .null, .int 0, .int 0, .null, .null])), (q1, .inl (g1, 24, .inl (fun _ => 0))), (q2, .inl (g2, 40, .inr (.inr (.inr (.inr (fun _ => none)))))), (q3, .inl (g3, 0, .inl (fun _ => 0)))] := hD
  have hK : va_K (dC, dI) vwCl [(g1, .char), (g2, .object "DraftTree$State"), (g3, .char)] s := hK
  refine W.cs (cells' := 3) (slots' := 64) rfl rfl ?_
  refine va_put (D := (dC, dI)) (ci := 0) (v := .ref q3) (ty := .array .char) (C := R_D) (T := F_D) (N := 14) hx hb hts (fun w h => List.mem_cons_of_mem _ (in_D w h)) t_D tk_D n_D hown hK hP hD hS 0 rfl rfl 5 (by decide) (hts _ (List.mem_cons_of_mem _ lk_24)) (fun _ h9 => h9) rfl (by decide +kernel) rfl rfl (Nat.le_of_ble_eq_true rfl) d_D_init_25 (fun H locs hP hD hS => ?_)
  have hP : va_P (dC, dI) vwCl [(a0, .inr (0, [.ref q1, .int 0, .ref q2, .int 0, .int 0, .ref q3, .int 0, .int 0, .null, .null, .int 0, .int 0, .null, .null])), (q1, .inl (g1, 24, .inl (fun _ => 0))), (q2, .inl (g2, 40, .inr (.inr (.inr (.inr (fun _ => none)))))), (q3, .inl (g3, 0, .inl (fun _ => 0)))] H := hP
  have hD : va_D A [(a0, .inr (0, [.ref q1, .int 0, .ref q2, .int 0, .int 0, .ref q3, .int 0, .int 0, .null, .null, .int 0, .int 0, .null, .null])), (q1, .inl (g1, 24, .inl (fun _ => 0))), (q2, .inl (g2, 40, .inr (.inr (.inr (.inr (fun _ => none)))))), (q3, .inl (g3, 0, .inl (fun _ => 0)))] := hD
  refine lv_aload_n hx hb d_D_init_28 rfl (lv_at hl 0 rfl) ?_
  refine va_get (D := (dC, dI)) (ci := 0) (v := .ref q2) (C := R_D) (T := F_D) (N := 14) hx hb hts (fun w h => List.mem_cons_of_mem _ (in_D w h)) hown hK hP 0 rfl rfl 2 (by decide) (hts _ (List.mem_cons_of_mem _ lk_23)) (fun _ h9 => h9) rfl d_D_init_29 ?_
  refine lv_iconst (v := 0) hx hb d_D_init_32 (by decide) ?_
  refine va_new (ci := 1) (fs := [.null, .int 0, .int 0, .int 0]) (C := R_S) (T := F_S) (N := 4) hx hb hts (fun w h => List.mem_cons_of_mem _ (in_S w h)) t_S tk_S hown (hts _ (List.mem_cons_of_mem _ lk_22)) (hts _ (List.mem_cons_of_mem _ lk_29)) (hts _ (List.mem_cons_of_mem _ lk_30)) hK hP hD hS hA rfl (by decide) (Nat.le_of_ble_eq_true rfl) (Nat.le_of_ble_eq_true rfl) d_D_init_33 (fun q4 H hP hD hS => ?_)
  have hP : va_P (dC, dI) vwCl [(a0, .inr (0, [.ref q1, .int 0, .ref q2, .int 0, .int 0, .ref q3, .int 0, .int 0, .null, .null, .int 0, .int 0, .null, .null])), (q1, .inl (g1, 24, .inl (fun _ => 0))), (q2, .inl (g2, 40, .inr (.inr (.inr (.inr (fun _ => none)))))), (q3, .inl (g3, 0, .inl (fun _ => 0))), (q4, .inr (1, [.null, .int 0, .int 0, .int 0]))] H := hP
  have hD : va_D A [(a0, .inr (0, [.ref q1, .int 0, .ref q2, .int 0, .int 0, .ref q3, .int 0, .int 0, .null, .null, .int 0, .int 0, .null, .null])), (q1, .inl (g1, 24, .inl (fun _ => 0))), (q2, .inl (g2, 40, .inr (.inr (.inr (.inr (fun _ => none)))))), (q3, .inl (g3, 0, .inl (fun _ => 0))), (q4, .inr (1, [.null, .int 0, .int 0, .int 0]))] := hD
  have hK : va_K (dC, dI) vwCl [(g1, .char), (g2, .object "DraftTree$State"), (g3, .char)] s := hK
  refine W.cs (cells' := 4) (slots' := 68) rfl rfl ?_
  refine lv_dup hx hb d_D_init_36 rfl ?_
  refine lv_aload_n hx hb d_D_init_37 rfl (lv_at hl 0 rfl) ?_
  refine va_get (D := (dC, dI)) (ci := 0) (v := .ref q3) (C := R_D) (T := F_D) (N := 14) hx hb hts (fun w h => List.mem_cons_of_mem _ (in_D w h)) hown hK hP 0 rfl rfl 5 (by decide) (hts _ (List.mem_cons_of_mem _ lk_24)) (fun _ h9 => h9) rfl d_D_init_38 ?_
  refine lv_iconst (v := 0) hx hb d_D_init_41 (by decide) ?_
  refine lv_iconst (v := (-1)) hx hb d_D_init_42 (by decide) ?_
  have hPc := hP.sub (ws' := [(q4, .inr (1, [.null, .int 0, .int 0, .int 0]))]) [4] rfl
  have hDc := hD.sub (ws' := [(q4, .inr (1, [.null, .int 0, .int 0, .int 0]))]) [4] (by decide) rfl
  have hKc := hK.sub (tys' := []) [] rfl
  have hFc := va_free (wc := [(q4, .inr (1, [.null, .int 0, .int 0, .int 0]))]) hD hS hA [4] rfl
  refine va_callv (va_runI (As := [.ref q3, .int 0, .int (-1)]) (rest := [.ref q4, .int 0, .ref q2]) ⟨hx, hb, hml, hown, hts⟩ (c_S_init l dC dI q4 q3 H.size) (cwI 3 hts (gd_c lk_36) rfl rfl rfl (hts _ (List.mem_cons_of_mem _ lk_30)) (hts _ (List.mem_cons_of_mem _ lk_37)) (hts _ (List.mem_cons_of_mem _ lk_38)) rfl (by decide +kernel) ⟨Nat.le_of_ble_eq_true rfl, Nat.le_of_ble_eq_true rfl⟩) ⟨fun a U g mk q => by obtain ⟨q0, q1, qP, qK, qD⟩ := q; exact ⟨q0, q1, qP, va_K.moved (u := U) (U := U.calling g mk a) (Vm.Alike.refl U.vm) qK, qD⟩, fun U hU hW => ⟨rfl, by rw [hU], by rw [hU]; exact hPc, va_K.moved hW.alike hKc, hDc.weaken (fun _ _ _ _ => trivial)⟩⟩ rfl rfl hl.1 rfl (lv_room (Nat.le_of_ble_eq_true rfl)) d_D_init_43 ⟨Nat.le_of_ble_eq_true rfl, Nat.le_of_ble_eq_true rfl⟩) hS (fun q _ h => hFc q h) hFc (fun u t H1 locs ht hvm hw hB hz1 hk1 hS => ?_)
  obtain ⟨hP1, hK1, hD1⟩ := hB
  rw [ht] at hP1
  have hK1 := va_K.moved hvm.symm hK1
  obtain ⟨hP, hD⟩ := va_join (wr := [(a0, .inr (0, [.ref q1, .int 0, .ref q2, .int 0, .int 0, .ref q3, .int 0, .int 0, .null, .null, .int 0, .int 0, .null, .null])), (q1, .inl (g1, 24, .inl (fun _ => 0))), (q2, .inl (g2, 40, .inr (.inr (.inr (.inr (fun _ => none)))))), (q3, .inl (g3, 0, .inl (fun _ => 0)))]) (w1 := [(q4, .inr (1, [.ref q3, .int (-1), .int 0, .int (-1)]))]) hP hD [4] [0, 1, 2, 3] rfl rfl (by decide) (by decide) hk1 hFc hP1 hD1
  generalize H1 = H at hP hS ⊢
  have hP : va_P (dC, dI) vwCl [(a0, .inr (0, [.ref q1, .int 0, .ref q2, .int 0, .int 0, .ref q3, .int 0, .int 0, .null, .null, .int 0, .int 0, .null, .null])), (q1, .inl (g1, 24, .inl (fun _ => 0))), (q2, .inl (g2, 40, .inr (.inr (.inr (.inr (fun _ => none)))))), (q3, .inl (g3, 0, .inl (fun _ => 0))), (q4, .inr (1, [.ref q3, .int (-1), .int 0, .int (-1)]))] H := hP
  have hD : va_D A [(a0, .inr (0, [.ref q1, .int 0, .ref q2, .int 0, .int 0, .ref q3, .int 0, .int 0, .null, .null, .int 0, .int 0, .null, .null])), (q1, .inl (g1, 24, .inl (fun _ => 0))), (q2, .inl (g2, 40, .inr (.inr (.inr (.inr (fun _ => none)))))), (q3, .inl (g3, 0, .inl (fun _ => 0))), (q4, .inr (1, [.ref q3, .int (-1), .int 0, .int (-1)]))] := hD
  refine va_astq hx hb hK hP hD hS 2 1 4 1 rfl rfl rfl rfl (wk_in (by decide +kernel)) d_D_init_46 (fun H locs hP hD hS => ?_)
  have hP : va_P (dC, dI) vwCl [(a0, .inr (0, [.ref q1, .int 0, .ref q2, .int 0, .int 0, .ref q3, .int 0, .int 0, .null, .null, .int 0, .int 0, .null, .null])), (q1, .inl (g1, 24, .inl (fun _ => 0))), (q2, .inl (g2, 40, .inr (.inr (.inr (.inr (va_up (fun _ => none) 0 (some q4))))))), (q3, .inl (g3, 0, .inl (fun _ => 0))), (q4, .inr (1, [.ref q3, .int (-1), .int 0, .int (-1)]))] H := hP
  have hD : va_D A [(a0, .inr (0, [.ref q1, .int 0, .ref q2, .int 0, .int 0, .ref q3, .int 0, .int 0, .null, .null, .int 0, .int 0, .null, .null])), (q1, .inl (g1, 24, .inl (fun _ => 0))), (q2, .inl (g2, 40, .inr (.inr (.inr (.inr (va_up (fun _ => none) 0 (some q4))))))), (q3, .inl (g3, 0, .inl (fun _ => 0))), (q4, .inr (1, [.ref q3, .int (-1), .int 0, .int (-1)]))] := hD
  refine lv_aload_n hx hb d_D_init_47 rfl (lv_at hl 0 rfl) ?_
  refine lv_iconst (v := 1) hx hb d_D_init_48 (by decide) ?_
  refine va_put (D := (dC, dI)) (ci := 0) (v := .int 1) (ty := .int) (C := R_D) (T := F_D) (N := 14) hx hb hts (fun w h => List.mem_cons_of_mem _ (in_D w h)) t_D tk_D n_D hown hK hP hD hS 0 rfl rfl 3 (by decide) (hts _ (List.mem_cons_of_mem _ lk_39)) (fun _ h9 => h9) rfl (by decide +kernel) rfl rfl (Nat.le_of_ble_eq_true rfl) d_D_init_49 (fun H locs hP hD hS => ?_)
  have hP : va_P (dC, dI) vwCl [(a0, .inr (0, [.ref q1, .int 0, .ref q2, .int 1, .int 0, .ref q3, .int 0, .int 0, .null, .null, .int 0, .int 0, .null, .null])), (q1, .inl (g1, 24, .inl (fun _ => 0))), (q2, .inl (g2, 40, .inr (.inr (.inr (.inr (va_up (fun _ => none) 0 (some q4))))))), (q3, .inl (g3, 0, .inl (fun _ => 0))), (q4, .inr (1, [.ref q3, .int (-1), .int 0, .int (-1)]))] H := hP
  have hD : va_D A [(a0, .inr (0, [.ref q1, .int 0, .ref q2, .int 1, .int 0, .ref q3, .int 0, .int 0, .null, .null, .int 0, .int 0, .null, .null])), (q1, .inl (g1, 24, .inl (fun _ => 0))), (q2, .inl (g2, 40, .inr (.inr (.inr (.inr (va_up (fun _ => none) 0 (some q4))))))), (q3, .inl (g3, 0, .inl (fun _ => 0))), (q4, .inr (1, [.ref q3, .int (-1), .int 0, .int (-1)]))] := hD
  refine lv_aload_n hx hb d_D_init_52 rfl (lv_at hl 0 rfl) ?_
  refine lv_iconst (v := (-1)) hx hb d_D_init_53 (by decide) ?_
  refine va_put (D := (dC, dI)) (ci := 0) (v := .int (-1)) (ty := .int) (C := R_D) (T := F_D) (N := 14) hx hb hts (fun w h => List.mem_cons_of_mem _ (in_D w h)) t_D tk_D n_D hown hK hP hD hS 0 rfl rfl 7 (by decide) (hts _ (List.mem_cons_of_mem _ lk_40)) (fun _ h9 => h9) rfl (by decide +kernel) rfl rfl (Nat.le_of_ble_eq_true rfl) d_D_init_54 (fun H locs hP hD hS => ?_)
  have hP : va_P (dC, dI) vwCl [(a0, .inr (0, [.ref q1, .int 0, .ref q2, .int 1, .int 0, .ref q3, .int 0, .int (-1), .null, .null, .int 0, .int 0, .null, .null])), (q1, .inl (g1, 24, .inl (fun _ => 0))), (q2, .inl (g2, 40, .inr (.inr (.inr (.inr (va_up (fun _ => none) 0 (some q4))))))), (q3, .inl (g3, 0, .inl (fun _ => 0))), (q4, .inr (1, [.ref q3, .int (-1), .int 0, .int (-1)]))] H := hP
  have hD : va_D A [(a0, .inr (0, [.ref q1, .int 0, .ref q2, .int 1, .int 0, .ref q3, .int 0, .int (-1), .null, .null, .int 0, .int 0, .null, .null])), (q1, .inl (g1, 24, .inl (fun _ => 0))), (q2, .inl (g2, 40, .inr (.inr (.inr (.inr (va_up (fun _ => none) 0 (some q4))))))), (q3, .inl (g3, 0, .inl (fun _ => 0))), (q4, .inr (1, [.ref q3, .int (-1), .int 0, .int (-1)]))] := hD
  refine lv_aload_n hx hb d_D_init_57 rfl (lv_at hl 0 rfl) ?_
  refine va_new (ci := 2) (fs := [.null, .null, .null, .null, .null, .null, .int 0, .int 0, .int 0, .int 0, .int 0, .int 0, .int 0]) (C := R_P) (T := F_P) (N := 13) hx hb hts (fun w h => List.mem_cons_of_mem _ (in_P w h)) t_P tk_P hown (hts _ (List.mem_cons_of_mem _ lk_54)) (hts _ (List.mem_cons_of_mem _ lk_55)) (hts _ (List.mem_cons_of_mem _ lk_56)) hK hP hD hS hA rfl (by decide) (Nat.le_of_ble_eq_true rfl) (Nat.le_of_ble_eq_true rfl) d_D_init_58 (fun q5 H hP hD hS => ?_)
  have hP : va_P (dC, dI) vwCl [(a0, .inr (0, [.ref q1, .int 0, .ref q2, .int 1, .int 0, .ref q3, .int 0, .int (-1), .null, .null, .int 0, .int 0, .null, .null])), (q1, .inl (g1, 24, .inl (fun _ => 0))), (q2, .inl (g2, 40, .inr (.inr (.inr (.inr (va_up (fun _ => none) 0 (some q4))))))), (q3, .inl (g3, 0, .inl (fun _ => 0))), (q4, .inr (1, [.ref q3, .int (-1), .int 0, .int (-1)])), (q5, .inr (2, [.null, .null, .null, .null, .null, .null, .int 0, .int 0, .int 0, .int 0, .int 0, .int 0, .int 0]))] H := hP
  have hD : va_D A [(a0, .inr (0, [.ref q1, .int 0, .ref q2, .int 1, .int 0, .ref q3, .int 0, .int (-1), .null, .null, .int 0, .int 0, .null, .null])), (q1, .inl (g1, 24, .inl (fun _ => 0))), (q2, .inl (g2, 40, .inr (.inr (.inr (.inr (va_up (fun _ => none) 0 (some q4))))))), (q3, .inl (g3, 0, .inl (fun _ => 0))), (q4, .inr (1, [.ref q3, .int (-1), .int 0, .int (-1)])), (q5, .inr (2, [.null, .null, .null, .null, .null, .null, .int 0, .int 0, .int 0, .int 0, .int 0, .int 0, .int 0]))] := hD
  have hK : va_K (dC, dI) vwCl [(g1, .char), (g2, .object "DraftTree$State"), (g3, .char)] s := hK
  refine W.cs (cells' := 5) (slots' := 81) rfl rfl ?_
  refine lv_dup hx hb d_D_init_61 rfl ?_
  have hPc := hP.sub (ws' := [(q5, .inr (2, [.null, .null, .null, .null, .null, .null, .int 0, .int 0, .int 0, .int 0, .int 0, .int 0, .int 0]))]) [5] rfl
  have hDc := hD.sub (ws' := [(q5, .inr (2, [.null, .null, .null, .null, .null, .null, .int 0, .int 0, .int 0, .int 0, .int 0, .int 0, .int 0]))]) [5] (by decide) rfl
  have hKc := hK.sub (tys' := []) [] rfl
  have hFc := va_free (wc := [(q5, .inr (2, [.null, .null, .null, .null, .null, .null, .int 0, .int 0, .int 0, .int 0, .int 0, .int 0, .int 0]))]) hD hS hA [5] rfl
  refine va_callv (va_runI (As := []) (rest := [.ref q5, .ref a0]) ⟨hx, hb, hml, hown, hts⟩ (c_P_init l dC dI q5 H.size) (cwI 0 hts (gd_c lk_88) rfl rfl rfl (hts _ (List.mem_cons_of_mem _ lk_56)) (hts _ (List.mem_cons_of_mem _ lk_89)) (hts _ (List.mem_cons_of_mem _ lk_90)) rfl (by decide +kernel) ⟨Nat.le_of_ble_eq_true rfl, Nat.le_of_ble_eq_true rfl⟩) ⟨fun a U g mk q => by obtain ⟨q0, q1, qP, qK, qD⟩ := q; exact ⟨q0, q1, qP, va_K.moved (u := U) (U := U.calling g mk a) (Vm.Alike.refl U.vm) qK, qD⟩, fun U hU hW => ⟨rfl, by rw [hU], by rw [hU]; exact hPc, va_K.moved hW.alike hKc, hDc.weaken (fun _ _ _ _ => trivial)⟩⟩ rfl rfl hl.1 rfl (lv_room (Nat.le_of_ble_eq_true rfl)) d_D_init_62 ⟨Nat.le_of_ble_eq_true rfl, Nat.le_of_ble_eq_true rfl⟩) hS (fun q _ h => hFc q h) hFc (fun u t H1 locs ht hvm hw hB hz1 hk1 hS => ?_)
  obtain ⟨q6, q7, q8, q9, q10, q11, q12, q13, q14, q15, q16, g6, g7, g8, g9, g11, g12, g13, g14, g15, g16, hP1, hK1, hD1⟩ := hB
  rw [ht] at hP1
  have hK1 := va_K.moved hvm.symm hK1
  obtain ⟨hP, hD⟩ := va_join (wr := [(a0, .inr (0, [.ref q1, .int 0, .ref q2, .int 1, .int 0, .ref q3, .int 0, .int (-1), .null, .null, .int 0, .int 0, .null, .null])), (q1, .inl (g1, 24, .inl (fun _ => 0))), (q2, .inl (g2, 40, .inr (.inr (.inr (.inr (va_up (fun _ => none) 0 (some q4))))))), (q3, .inl (g3, 0, .inl (fun _ => 0))), (q4, .inr (1, [.ref q3, .int (-1), .int 0, .int (-1)]))]) (w1 := [(q5, .inr (2, [.ref q6, .ref q7, .ref q8, .ref q9, .ref q10, .ref q16, .int 0, .int 0, .int 0, .int 0, .int 0, .int 0, .int 0])), (q6, .inl (g6, 9, .inl (fun _ => 0))), (q7, .inl (g7, 9, .inl (fun _ => 0))), (q8, .inl (g8, 9, .inl (fun _ => 0))), (q9, .inl (g9, 9, .inl (fun _ => 0))), (q10, .inr (3, [.ref q11, .ref q12, .ref q13, .ref q14, .ref q15, .int 0, .int 0, .int 0, .int 0, .int 0])), (q11, .inl (g11, 50, .inl (fun _ => 0))), (q12, .inl (g12, 50, .inl (fun _ => 0))), (q13, .inl (g13, 50, .inl (fun _ => 0))), (q14, .inl (g14, 50, .inr (.inl (fun _ => 0)))), (q15, .inl (g15, 50, .inr (.inl (fun _ => 0)))), (q16, .inl (g16, 0, .inl (fun _ => 0)))]) hP hD [5] [0, 1, 2, 3, 4] rfl rfl (by decide) (by decide) hk1 hFc hP1 hD1
  have hK := hK.app (hK1.sub (tys' := [(g6, .int), (g7, .int), (g8, .int), (g9, .int), (g11, .int), (g12, .int), (g13, .int), (g14, .long), (g15, .long), (g16, .char)]) [0, 1, 2, 3, 4, 5, 6, 7, 8, 9] rfl)
  generalize H1 = H at hP hS ⊢
  have hP : va_P (dC, dI) vwCl [(a0, .inr (0, [.ref q1, .int 0, .ref q2, .int 1, .int 0, .ref q3, .int 0, .int (-1), .null, .null, .int 0, .int 0, .null, .null])), (q1, .inl (g1, 24, .inl (fun _ => 0))), (q2, .inl (g2, 40, .inr (.inr (.inr (.inr (va_up (fun _ => none) 0 (some q4))))))), (q3, .inl (g3, 0, .inl (fun _ => 0))), (q4, .inr (1, [.ref q3, .int (-1), .int 0, .int (-1)])), (q5, .inr (2, [.ref q6, .ref q7, .ref q8, .ref q9, .ref q10, .ref q16, .int 0, .int 0, .int 0, .int 0, .int 0, .int 0, .int 0])), (q6, .inl (g6, 9, .inl (fun _ => 0))), (q7, .inl (g7, 9, .inl (fun _ => 0))), (q8, .inl (g8, 9, .inl (fun _ => 0))), (q9, .inl (g9, 9, .inl (fun _ => 0))), (q10, .inr (3, [.ref q11, .ref q12, .ref q13, .ref q14, .ref q15, .int 0, .int 0, .int 0, .int 0, .int 0])), (q11, .inl (g11, 50, .inl (fun _ => 0))), (q12, .inl (g12, 50, .inl (fun _ => 0))), (q13, .inl (g13, 50, .inl (fun _ => 0))), (q14, .inl (g14, 50, .inr (.inl (fun _ => 0)))), (q15, .inl (g15, 50, .inr (.inl (fun _ => 0)))), (q16, .inl (g16, 0, .inl (fun _ => 0)))] H := hP
  have hD : va_D A [(a0, .inr (0, [.ref q1, .int 0, .ref q2, .int 1, .int 0, .ref q3, .int 0, .int (-1), .null, .null, .int 0, .int 0, .null, .null])), (q1, .inl (g1, 24, .inl (fun _ => 0))), (q2, .inl (g2, 40, .inr (.inr (.inr (.inr (va_up (fun _ => none) 0 (some q4))))))), (q3, .inl (g3, 0, .inl (fun _ => 0))), (q4, .inr (1, [.ref q3, .int (-1), .int 0, .int (-1)])), (q5, .inr (2, [.ref q6, .ref q7, .ref q8, .ref q9, .ref q10, .ref q16, .int 0, .int 0, .int 0, .int 0, .int 0, .int 0, .int 0])), (q6, .inl (g6, 9, .inl (fun _ => 0))), (q7, .inl (g7, 9, .inl (fun _ => 0))), (q8, .inl (g8, 9, .inl (fun _ => 0))), (q9, .inl (g9, 9, .inl (fun _ => 0))), (q10, .inr (3, [.ref q11, .ref q12, .ref q13, .ref q14, .ref q15, .int 0, .int 0, .int 0, .int 0, .int 0])), (q11, .inl (g11, 50, .inl (fun _ => 0))), (q12, .inl (g12, 50, .inl (fun _ => 0))), (q13, .inl (g13, 50, .inl (fun _ => 0))), (q14, .inl (g14, 50, .inr (.inl (fun _ => 0)))), (q15, .inl (g15, 50, .inr (.inl (fun _ => 0)))), (q16, .inl (g16, 0, .inl (fun _ => 0)))] := hD
  have hK : va_K (dC, dI) vwCl [(g1, .char), (g2, .object "DraftTree$State"), (g3, .char), (g6, .int), (g7, .int), (g8, .int), (g9, .int), (g11, .int), (g12, .int), (g13, .int), (g14, .long), (g15, .long), (g16, .char)] s := hK
  refine W.cs (cells' := 16) (slots' := 377) rfl rfl ?_
  refine va_putF (D := (dC, dI)) (ci := 0) (v := .ref q5) (ty := .object "DraftTree$PatternReader") (C := R_D) (T := F_D) (N := 14) hx hb hts (fun w h => List.mem_cons_of_mem _ (in_D w h)) t_D tk_D n_D hown hK hP hD hS 0 rfl rfl 8 (by decide) (hts _ (List.mem_cons_of_mem _ lk_91)) (fun _ h9 => h9) rfl hin rfl (by decide +kernel) rfl rfl (Nat.le_of_ble_eq_true rfl) d_D_init_65 (fun H locs hP hD hS => ?_)
  have hP : va_P (dC, dI) vwCl [(a0, .inr (0, [.ref q1, .int 0, .ref q2, .int 1, .int 0, .ref q3, .int 0, .int (-1), .ref q5, .null, .int 0, .int 0, .null, .null])), (q1, .inl (g1, 24, .inl (fun _ => 0))), (q2, .inl (g2, 40, .inr (.inr (.inr (.inr (va_up (fun _ => none) 0 (some q4))))))), (q3, .inl (g3, 0, .inl (fun _ => 0))), (q4, .inr (1, [.ref q3, .int (-1), .int 0, .int (-1)])), (q5, .inr (2, [.ref q6, .ref q7, .ref q8, .ref q9, .ref q10, .ref q16, .int 0, .int 0, .int 0, .int 0, .int 0, .int 0, .int 0])), (q6, .inl (g6, 9, .inl (fun _ => 0))), (q7, .inl (g7, 9, .inl (fun _ => 0))), (q8, .inl (g8, 9, .inl (fun _ => 0))), (q9, .inl (g9, 9, .inl (fun _ => 0))), (q10, .inr (3, [.ref q11, .ref q12, .ref q13, .ref q14, .ref q15, .int 0, .int 0, .int 0, .int 0, .int 0])), (q11, .inl (g11, 50, .inl (fun _ => 0))), (q12, .inl (g12, 50, .inl (fun _ => 0))), (q13, .inl (g13, 50, .inl (fun _ => 0))), (q14, .inl (g14, 50, .inr (.inl (fun _ => 0)))), (q15, .inl (g15, 50, .inr (.inl (fun _ => 0)))), (q16, .inl (g16, 0, .inl (fun _ => 0)))] H := hP
  have hD : va_D A [(a0, .inr (0, [.ref q1, .int 0, .ref q2, .int 1, .int 0, .ref q3, .int 0, .int (-1), .ref q5, .null, .int 0, .int 0, .null, .null])), (q1, .inl (g1, 24, .inl (fun _ => 0))), (q2, .inl (g2, 40, .inr (.inr (.inr (.inr (va_up (fun _ => none) 0 (some q4))))))), (q3, .inl (g3, 0, .inl (fun _ => 0))), (q4, .inr (1, [.ref q3, .int (-1), .int 0, .int (-1)])), (q5, .inr (2, [.ref q6, .ref q7, .ref q8, .ref q9, .ref q10, .ref q16, .int 0, .int 0, .int 0, .int 0, .int 0, .int 0, .int 0])), (q6, .inl (g6, 9, .inl (fun _ => 0))), (q7, .inl (g7, 9, .inl (fun _ => 0))), (q8, .inl (g8, 9, .inl (fun _ => 0))), (q9, .inl (g9, 9, .inl (fun _ => 0))), (q10, .inr (3, [.ref q11, .ref q12, .ref q13, .ref q14, .ref q15, .int 0, .int 0, .int 0, .int 0, .int 0])), (q11, .inl (g11, 50, .inl (fun _ => 0))), (q12, .inl (g12, 50, .inl (fun _ => 0))), (q13, .inl (g13, 50, .inl (fun _ => 0))), (q14, .inl (g14, 50, .inr (.inl (fun _ => 0)))), (q15, .inl (g15, 50, .inr (.inl (fun _ => 0)))), (q16, .inl (g16, 0, .inl (fun _ => 0)))] := hD
  refine lv_aload_n hx hb d_D_init_68 rfl (lv_at hl 0 rfl) ?_
  refine va_new (ci := 3) (fs := [.null, .null, .null, .null, .null, .int 0, .int 0, .int 0, .int 0, .int 0]) (C := R_A) (T := F_A) (N := 10) hx hb hts (fun w h => List.mem_cons_of_mem _ (in_A w h)) t_A tk_A hown (hts _ (List.mem_cons_of_mem _ lk_92)) (hts _ (List.mem_cons_of_mem _ lk_74)) (hts _ (List.mem_cons_of_mem _ lk_75)) hK hP hD hS hA rfl (by decide) (Nat.le_of_ble_eq_true rfl) (Nat.le_of_ble_eq_true rfl) d_D_init_69 (fun q17 H hP hD hS => ?_)
  have hP : va_P (dC, dI) vwCl [(a0, .inr (0, [.ref q1, .int 0, .ref q2, .int 1, .int 0, .ref q3, .int 0, .int (-1), .ref q5, .null, .int 0, .int 0, .null, .null])), (q1, .inl (g1, 24, .inl (fun _ => 0))), (q2, .inl (g2, 40, .inr (.inr (.inr (.inr (va_up (fun _ => none) 0 (some q4))))))), (q3, .inl (g3, 0, .inl (fun _ => 0))), (q4, .inr (1, [.ref q3, .int (-1), .int 0, .int (-1)])), (q5, .inr (2, [.ref q6, .ref q7, .ref q8, .ref q9, .ref q10, .ref q16, .int 0, .int 0, .int 0, .int 0, .int 0, .int 0, .int 0])), (q6, .inl (g6, 9, .inl (fun _ => 0))), (q7, .inl (g7, 9, .inl (fun _ => 0))), (q8, .inl (g8, 9, .inl (fun _ => 0))), (q9, .inl (g9, 9, .inl (fun _ => 0))), (q10, .inr (3, [.ref q11, .ref q12, .ref q13, .ref q14, .ref q15, .int 0, .int 0, .int 0, .int 0, .int 0])), (q11, .inl (g11, 50, .inl (fun _ => 0))), (q12, .inl (g12, 50, .inl (fun _ => 0))), (q13, .inl (g13, 50, .inl (fun _ => 0))), (q14, .inl (g14, 50, .inr (.inl (fun _ => 0)))), (q15, .inl (g15, 50, .inr (.inl (fun _ => 0)))), (q16, .inl (g16, 0, .inl (fun _ => 0))), (q17, .inr (3, [.null, .null, .null, .null, .null, .int 0, .int 0, .int 0, .int 0, .int 0]))] H := hP
  have hD : va_D A [(a0, .inr (0, [.ref q1, .int 0, .ref q2, .int 1, .int 0, .ref q3, .int 0, .int (-1), .ref q5, .null, .int 0, .int 0, .null, .null])), (q1, .inl (g1, 24, .inl (fun _ => 0))), (q2, .inl (g2, 40, .inr (.inr (.inr (.inr (va_up (fun _ => none) 0 (some q4))))))), (q3, .inl (g3, 0, .inl (fun _ => 0))), (q4, .inr (1, [.ref q3, .int (-1), .int 0, .int (-1)])), (q5, .inr (2, [.ref q6, .ref q7, .ref q8, .ref q9, .ref q10, .ref q16, .int 0, .int 0, .int 0, .int 0, .int 0, .int 0, .int 0])), (q6, .inl (g6, 9, .inl (fun _ => 0))), (q7, .inl (g7, 9, .inl (fun _ => 0))), (q8, .inl (g8, 9, .inl (fun _ => 0))), (q9, .inl (g9, 9, .inl (fun _ => 0))), (q10, .inr (3, [.ref q11, .ref q12, .ref q13, .ref q14, .ref q15, .int 0, .int 0, .int 0, .int 0, .int 0])), (q11, .inl (g11, 50, .inl (fun _ => 0))), (q12, .inl (g12, 50, .inl (fun _ => 0))), (q13, .inl (g13, 50, .inl (fun _ => 0))), (q14, .inl (g14, 50, .inr (.inl (fun _ => 0)))), (q15, .inl (g15, 50, .inr (.inl (fun _ => 0)))), (q16, .inl (g16, 0, .inl (fun _ => 0))), (q17, .inr (3, [.null, .null, .null, .null, .null, .int 0, .int 0, .int 0, .int 0, .int 0]))] := hD
  have hK : va_K (dC, dI) vwCl [(g1, .char), (g2, .object "DraftTree$State"), (g3, .char), (g6, .int), (g7, .int), (g8, .int), (g9, .int), (g11, .int), (g12, .int), (g13, .int), (g14, .long), (g15, .long), (g16, .char)] s := hK
  refine W.cs (cells' := 17) (slots' := 387) rfl rfl ?_
  refine lv_dup hx hb d_D_init_72 rfl ?_
  have hPc := hP.sub (ws' := [(q17, .inr (3, [.null, .null, .null, .null, .null, .int 0, .int 0, .int 0, .int 0, .int 0]))]) [17] rfl
  have hDc := hD.sub (ws' := [(q17, .inr (3, [.null, .null, .null, .null, .null, .int 0, .int 0, .int 0, .int 0, .int 0]))]) [17] (by decide) rfl
  have hKc := hK.sub (tys' := []) [] rfl
  have hFc := va_free (wc := [(q17, .inr (3, [.null, .null, .null, .null, .null, .int 0, .int 0, .int 0, .int 0, .int 0]))]) hD hS hA [17] rfl
  refine va_callv (va_runI (As := []) (rest := [.ref q17, .ref a0]) ⟨hx, hb, hml, hown, hts⟩ (c_A_init l dC dI q17 H.size) (cwI 0 hts (gd_c lk_83) rfl rfl rfl (hts _ (List.mem_cons_of_mem _ lk_75)) (hts _ (List.mem_cons_of_mem _ lk_93)) (hts _ (List.mem_cons_of_mem _ lk_85)) rfl (by decide +kernel) ⟨Nat.le_of_ble_eq_true rfl, Nat.le_of_ble_eq_true rfl⟩) ⟨fun a U g mk q => by obtain ⟨q0, q1, qP, qK, qD⟩ := q; exact ⟨q0, q1, qP, va_K.moved (u := U) (U := U.calling g mk a) (Vm.Alike.refl U.vm) qK, qD⟩, fun U hU hW => ⟨rfl, by rw [hU], by rw [hU]; exact hPc, va_K.moved hW.alike hKc, hDc.weaken (fun _ _ _ _ => trivial)⟩⟩ rfl rfl hl.1 rfl (lv_room (Nat.le_of_ble_eq_true rfl)) d_D_init_73 ⟨Nat.le_of_ble_eq_true rfl, Nat.le_of_ble_eq_true rfl⟩) hS (fun q _ h => hFc q h) hFc (fun u t H1 locs ht hvm hw hB hz1 hk1 hS => ?_)
  obtain ⟨q18, q19, q20, q21, q22, g18, g19, g20, g21, g22, hP1, hK1, hD1⟩ := hB
  rw [ht] at hP1
  have hK1 := va_K.moved hvm.symm hK1
  obtain ⟨hP, hD⟩ := va_join (wr := [(a0, .inr (0, [.ref q1, .int 0, .ref q2, .int 1, .int 0, .ref q3, .int 0, .int (-1), .ref q5, .null, .int 0, .int 0, .null, .null])), (q1, .inl (g1, 24, .inl (fun _ => 0))), (q2, .inl (g2, 40, .inr (.inr (.inr (.inr (va_up (fun _ => none) 0 (some q4))))))), (q3, .inl (g3, 0, .inl (fun _ => 0))), (q4, .inr (1, [.ref q3, .int (-1), .int 0, .int (-1)])), (q5, .inr (2, [.ref q6, .ref q7, .ref q8, .ref q9, .ref q10, .ref q16, .int 0, .int 0, .int 0, .int 0, .int 0, .int 0, .int 0])), (q6, .inl (g6, 9, .inl (fun _ => 0))), (q7, .inl (g7, 9, .inl (fun _ => 0))), (q8, .inl (g8, 9, .inl (fun _ => 0))), (q9, .inl (g9, 9, .inl (fun _ => 0))), (q10, .inr (3, [.ref q11, .ref q12, .ref q13, .ref q14, .ref q15, .int 0, .int 0, .int 0, .int 0, .int 0])), (q11, .inl (g11, 50, .inl (fun _ => 0))), (q12, .inl (g12, 50, .inl (fun _ => 0))), (q13, .inl (g13, 50, .inl (fun _ => 0))), (q14, .inl (g14, 50, .inr (.inl (fun _ => 0)))), (q15, .inl (g15, 50, .inr (.inl (fun _ => 0)))), (q16, .inl (g16, 0, .inl (fun _ => 0)))]) (w1 := [(q17, .inr (3, [.ref q18, .ref q19, .ref q20, .ref q21, .ref q22, .int 0, .int 0, .int 0, .int 0, .int 0])), (q18, .inl (g18, 50, .inl (fun _ => 0))), (q19, .inl (g19, 50, .inl (fun _ => 0))), (q20, .inl (g20, 50, .inl (fun _ => 0))), (q21, .inl (g21, 50, .inr (.inl (fun _ => 0)))), (q22, .inl (g22, 50, .inr (.inl (fun _ => 0))))]) hP hD [17] [0, 1, 2, 3, 4, 5, 6, 7, 8, 9, 10, 11, 12, 13, 14, 15, 16] rfl rfl (by decide) (by decide) hk1 hFc hP1 hD1
  have hK := hK.app (hK1.sub (tys' := [(g18, .int), (g19, .int), (g20, .int), (g21, .long), (g22, .long)]) [0, 1, 2, 3, 4] rfl)
  generalize H1 = H at hP hS ⊢
  have hP : va_P (dC, dI) vwCl [(a0, .inr (0, [.ref q1, .int 0, .ref q2, .int 1, .int 0, .ref q3, .int 0, .int (-1), .ref q5, .null, .int 0, .int 0, .null, .null])), (q1, .inl (g1, 24, .inl (fun _ => 0))), (q2, .inl (g2, 40, .inr (.inr (.inr (.inr (va_up (fun _ => none) 0 (some q4))))))), (q3, .inl (g3, 0, .inl (fun _ => 0))), (q4, .inr (1, [.ref q3, .int (-1), .int 0, .int (-1)])), (q5, .inr (2, [.ref q6, .ref q7, .ref q8, .ref q9, .ref q10, .ref q16, .int 0, .int 0, .int 0, .int 0, .int 0, .int 0, .int 0])), (q6, .inl (g6, 9, .inl (fun _ => 0))), (q7, .inl (g7, 9, .inl (fun _ => 0))), (q8, .inl (g8, 9, .inl (fun _ => 0))), (q9, .inl (g9, 9, .inl (fun _ => 0))), (q10, .inr (3, [.ref q11, .ref q12, .ref q13, .ref q14, .ref q15, .int 0, .int 0, .int 0, .int 0, .int 0])), (q11, .inl (g11, 50, .inl (fun _ => 0))), (q12, .inl (g12, 50, .inl (fun _ => 0))), (q13, .inl (g13, 50, .inl (fun _ => 0))), (q14, .inl (g14, 50, .inr (.inl (fun _ => 0)))), (q15, .inl (g15, 50, .inr (.inl (fun _ => 0)))), (q16, .inl (g16, 0, .inl (fun _ => 0))), (q17, .inr (3, [.ref q18, .ref q19, .ref q20, .ref q21, .ref q22, .int 0, .int 0, .int 0, .int 0, .int 0])), (q18, .inl (g18, 50, .inl (fun _ => 0))), (q19, .inl (g19, 50, .inl (fun _ => 0))), (q20, .inl (g20, 50, .inl (fun _ => 0))), (q21, .inl (g21, 50, .inr (.inl (fun _ => 0)))), (q22, .inl (g22, 50, .inr (.inl (fun _ => 0))))] H := hP
  have hD : va_D A [(a0, .inr (0, [.ref q1, .int 0, .ref q2, .int 1, .int 0, .ref q3, .int 0, .int (-1), .ref q5, .null, .int 0, .int 0, .null, .null])), (q1, .inl (g1, 24, .inl (fun _ => 0))), (q2, .inl (g2, 40, .inr (.inr (.inr (.inr (va_up (fun _ => none) 0 (some q4))))))), (q3, .inl (g3, 0, .inl (fun _ => 0))), (q4, .inr (1, [.ref q3, .int (-1), .int 0, .int (-1)])), (q5, .inr (2, [.ref q6, .ref q7, .ref q8, .ref q9, .ref q10, .ref q16, .int 0, .int 0, .int 0, .int 0, .int 0, .int 0, .int 0])), (q6, .inl (g6, 9, .inl (fun _ => 0))), (q7, .inl (g7, 9, .inl (fun _ => 0))), (q8, .inl (g8, 9, .inl (fun _ => 0))), (q9, .inl (g9, 9, .inl (fun _ => 0))), (q10, .inr (3, [.ref q11, .ref q12, .ref q13, .ref q14, .ref q15, .int 0, .int 0, .int 0, .int 0, .int 0])), (q11, .inl (g11, 50, .inl (fun _ => 0))), (q12, .inl (g12, 50, .inl (fun _ => 0))), (q13, .inl (g13, 50, .inl (fun _ => 0))), (q14, .inl (g14, 50, .inr (.inl (fun _ => 0)))), (q15, .inl (g15, 50, .inr (.inl (fun _ => 0)))), (q16, .inl (g16, 0, .inl (fun _ => 0))), (q17, .inr (3, [.ref q18, .ref q19, .ref q20, .ref q21, .ref q22, .int 0, .int 0, .int 0, .int 0, .int 0])), (q18, .inl (g18, 50, .inl (fun _ => 0))), (q19, .inl (g19, 50, .inl (fun _ => 0))), (q20, .inl (g20, 50, .inl (fun _ => 0))), (q21, .inl (g21, 50, .inr (.inl (fun _ => 0)))), (q22, .inl (g22, 50, .inr (.inl (fun _ => 0))))] := hD
  have hK : va_K (dC, dI) vwCl [(g1, .char), (g2, .object "DraftTree$State"), (g3, .char), (g6, .int), (g7, .int), (g8, .int), (g9, .int), (g11, .int), (g12, .int), (g13, .int), (g14, .long), (g15, .long), (g16, .char), (g18, .int), (g19, .int), (g20, .int), (g21, .long), (g22, .long)] s := hK
  refine W.cs (cells' := 22) (slots' := 637) rfl rfl ?_
  refine va_put (D := (dC, dI)) (ci := 0) (v := .ref q17) (ty := .object "DraftTree$Automaton") (C := R_D) (T := F_D) (N := 14) hx hb hts (fun w h => List.mem_cons_of_mem _ (in_D w h)) t_D tk_D n_D hown hK hP hD hS 0 rfl rfl 9 (by decide) (hts _ (List.mem_cons_of_mem _ lk_94)) (fun _ h9 => h9) rfl (by decide +kernel) rfl rfl (Nat.le_of_ble_eq_true rfl) d_D_init_76 (fun H locs hP hD hS => ?_)
  have hP : va_P (dC, dI) vwCl [(a0, .inr (0, [.ref q1, .int 0, .ref q2, .int 1, .int 0, .ref q3, .int 0, .int (-1), .ref q5, .ref q17, .int 0, .int 0, .null, .null])), (q1, .inl (g1, 24, .inl (fun _ => 0))), (q2, .inl (g2, 40, .inr (.inr (.inr (.inr (va_up (fun _ => none) 0 (some q4))))))), (q3, .inl (g3, 0, .inl (fun _ => 0))), (q4, .inr (1, [.ref q3, .int (-1), .int 0, .int (-1)])), (q5, .inr (2, [.ref q6, .ref q7, .ref q8, .ref q9, .ref q10, .ref q16, .int 0, .int 0, .int 0, .int 0, .int 0, .int 0, .int 0])), (q6, .inl (g6, 9, .inl (fun _ => 0))), (q7, .inl (g7, 9, .inl (fun _ => 0))), (q8, .inl (g8, 9, .inl (fun _ => 0))), (q9, .inl (g9, 9, .inl (fun _ => 0))), (q10, .inr (3, [.ref q11, .ref q12, .ref q13, .ref q14, .ref q15, .int 0, .int 0, .int 0, .int 0, .int 0])), (q11, .inl (g11, 50, .inl (fun _ => 0))), (q12, .inl (g12, 50, .inl (fun _ => 0))), (q13, .inl (g13, 50, .inl (fun _ => 0))), (q14, .inl (g14, 50, .inr (.inl (fun _ => 0)))), (q15, .inl (g15, 50, .inr (.inl (fun _ => 0)))), (q16, .inl (g16, 0, .inl (fun _ => 0))), (q17, .inr (3, [.ref q18, .ref q19, .ref q20, .ref q21, .ref q22, .int 0, .int 0, .int 0, .int 0, .int 0])), (q18, .inl (g18, 50, .inl (fun _ => 0))), (q19, .inl (g19, 50, .inl (fun _ => 0))), (q20, .inl (g20, 50, .inl (fun _ => 0))), (q21, .inl (g21, 50, .inr (.inl (fun _ => 0)))), (q22, .inl (g22, 50, .inr (.inl (fun _ => 0))))] H := hP
  have hD : va_D A [(a0, .inr (0, [.ref q1, .int 0, .ref q2, .int 1, .int 0, .ref q3, .int 0, .int (-1), .ref q5, .ref q17, .int 0, .int 0, .null, .null])), (q1, .inl (g1, 24, .inl (fun _ => 0))), (q2, .inl (g2, 40, .inr (.inr (.inr (.inr (va_up (fun _ => none) 0 (some q4))))))), (q3, .inl (g3, 0, .inl (fun _ => 0))), (q4, .inr (1, [.ref q3, .int (-1), .int 0, .int (-1)])), (q5, .inr (2, [.ref q6, .ref q7, .ref q8, .ref q9, .ref q10, .ref q16, .int 0, .int 0, .int 0, .int 0, .int 0, .int 0, .int 0])), (q6, .inl (g6, 9, .inl (fun _ => 0))), (q7, .inl (g7, 9, .inl (fun _ => 0))), (q8, .inl (g8, 9, .inl (fun _ => 0))), (q9, .inl (g9, 9, .inl (fun _ => 0))), (q10, .inr (3, [.ref q11, .ref q12, .ref q13, .ref q14, .ref q15, .int 0, .int 0, .int 0, .int 0, .int 0])), (q11, .inl (g11, 50, .inl (fun _ => 0))), (q12, .inl (g12, 50, .inl (fun _ => 0))), (q13, .inl (g13, 50, .inl (fun _ => 0))), (q14, .inl (g14, 50, .inr (.inl (fun _ => 0)))), (q15, .inl (g15, 50, .inr (.inl (fun _ => 0)))), (q16, .inl (g16, 0, .inl (fun _ => 0))), (q17, .inr (3, [.ref q18, .ref q19, .ref q20, .ref q21, .ref q22, .int 0, .int 0, .int 0, .int 0, .int 0])), (q18, .inl (g18, 50, .inl (fun _ => 0))), (q19, .inl (g19, 50, .inl (fun _ => 0))), (q20, .inl (g20, 50, .inl (fun _ => 0))), (q21, .inl (g21, 50, .inr (.inl (fun _ => 0)))), (q22, .inl (g22, 50, .inr (.inl (fun _ => 0))))] := hD
  refine lv_aload_n hx hb d_D_init_79 rfl (lv_at hl 0 rfl) ?_
  refine lv_iconst (v := (-1)) hx hb d_D_init_80 (by decide) ?_
  refine va_put (D := (dC, dI)) (ci := 0) (v := .int (-1)) (ty := .int) (C := R_D) (T := F_D) (N := 14) hx hb hts (fun w h => List.mem_cons_of_mem _ (in_D w h)) t_D tk_D n_D hown hK hP hD hS 0 rfl rfl 11 (by decide) (hts _ (List.mem_cons_of_mem _ lk_95)) (fun _ h9 => h9) rfl (by decide +kernel) rfl rfl (Nat.le_of_ble_eq_true rfl) d_D_init_81 (fun H locs hP hD hS => ?_)
  have hP : va_P (dC, dI) vwCl [(a0, .inr (0, [.ref q1, .int 0, .ref q2, .int 1, .int 0, .ref q3, .int 0, .int (-1), .ref q5, .ref q17, .int 0, .int (-1), .null, .null])), (q1, .inl (g1, 24, .inl (fun _ => 0))), (q2, .inl (g2, 40, .inr (.inr (.inr (.inr (va_up (fun _ => none) 0 (some q4))))))), (q3, .inl (g3, 0, .inl (fun _ => 0))), (q4, .inr (1, [.ref q3, .int (-1), .int 0, .int (-1)])), (q5, .inr (2, [.ref q6, .ref q7, .ref q8, .ref q9, .ref q10, .ref q16, .int 0, .int 0, .int 0, .int 0, .int 0, .int 0, .int 0])), (q6, .inl (g6, 9, .inl (fun _ => 0))), (q7, .inl (g7, 9, .inl (fun _ => 0))), (q8, .inl (g8, 9, .inl (fun _ => 0))), (q9, .inl (g9, 9, .inl (fun _ => 0))), (q10, .inr (3, [.ref q11, .ref q12, .ref q13, .ref q14, .ref q15, .int 0, .int 0, .int 0, .int 0, .int 0])), (q11, .inl (g11, 50, .inl (fun _ => 0))), (q12, .inl (g12, 50, .inl (fun _ => 0))), (q13, .inl (g13, 50, .inl (fun _ => 0))), (q14, .inl (g14, 50, .inr (.inl (fun _ => 0)))), (q15, .inl (g15, 50, .inr (.inl (fun _ => 0)))), (q16, .inl (g16, 0, .inl (fun _ => 0))), (q17, .inr (3, [.ref q18, .ref q19, .ref q20, .ref q21, .ref q22, .int 0, .int 0, .int 0, .int 0, .int 0])), (q18, .inl (g18, 50, .inl (fun _ => 0))), (q19, .inl (g19, 50, .inl (fun _ => 0))), (q20, .inl (g20, 50, .inl (fun _ => 0))), (q21, .inl (g21, 50, .inr (.inl (fun _ => 0)))), (q22, .inl (g22, 50, .inr (.inl (fun _ => 0))))] H := hP
  have hD : va_D A [(a0, .inr (0, [.ref q1, .int 0, .ref q2, .int 1, .int 0, .ref q3, .int 0, .int (-1), .ref q5, .ref q17, .int 0, .int (-1), .null, .null])), (q1, .inl (g1, 24, .inl (fun _ => 0))), (q2, .inl (g2, 40, .inr (.inr (.inr (.inr (va_up (fun _ => none) 0 (some q4))))))), (q3, .inl (g3, 0, .inl (fun _ => 0))), (q4, .inr (1, [.ref q3, .int (-1), .int 0, .int (-1)])), (q5, .inr (2, [.ref q6, .ref q7, .ref q8, .ref q9, .ref q10, .ref q16, .int 0, .int 0, .int 0, .int 0, .int 0, .int 0, .int 0])), (q6, .inl (g6, 9, .inl (fun _ => 0))), (q7, .inl (g7, 9, .inl (fun _ => 0))), (q8, .inl (g8, 9, .inl (fun _ => 0))), (q9, .inl (g9, 9, .inl (fun _ => 0))), (q10, .inr (3, [.ref q11, .ref q12, .ref q13, .ref q14, .ref q15, .int 0, .int 0, .int 0, .int 0, .int 0])), (q11, .inl (g11, 50, .inl (fun _ => 0))), (q12, .inl (g12, 50, .inl (fun _ => 0))), (q13, .inl (g13, 50, .inl (fun _ => 0))), (q14, .inl (g14, 50, .inr (.inl (fun _ => 0)))), (q15, .inl (g15, 50, .inr (.inl (fun _ => 0)))), (q16, .inl (g16, 0, .inl (fun _ => 0))), (q17, .inr (3, [.ref q18, .ref q19, .ref q20, .ref q21, .ref q22, .int 0, .int 0, .int 0, .int 0, .int 0])), (q18, .inl (g18, 50, .inl (fun _ => 0))), (q19, .inl (g19, 50, .inl (fun _ => 0))), (q20, .inl (g20, 50, .inl (fun _ => 0))), (q21, .inl (g21, 50, .inr (.inl (fun _ => 0)))), (q22, .inl (g22, 50, .inr (.inl (fun _ => 0))))] := hD
  refine lv_aload_n hx hb d_D_init_84 rfl (lv_at hl 0 rfl) ?_
  refine lv_sipush (v := 160) hx hb d_D_init_85 (by decide) ?_
  refine va_newa (atype := .int) (ty := .int) (a0 := (160, .inl (fun _ => 0))) (N' := 160) hx hb (hts _ (List.mem_cons_of_mem _ lk_58)) rfl hK hP hD hS hA (fun _ => rfl) (by decide) (by decide) (by decide) (Nat.le_of_ble_eq_true rfl) (Nat.le_of_ble_eq_true rfl) d_D_init_88 (fun q23 g23 H hK hP hD hS => ?_)
  have hP : va_P (dC, dI) vwCl [(a0, .inr (0, [.ref q1, .int 0, .ref q2, .int 1, .int 0, .ref q3, .int 0, .int (-1), .ref q5, .ref q17, .int 0, .int (-1), .null, .null])), (q1, .inl (g1, 24, .inl (fun _ => 0))), (q2, .inl (g2, 40, .inr (.inr (.inr (.inr (va_up (fun _ => none) 0 (some q4))))))), (q3, .inl (g3, 0, .inl (fun _ => 0))), (q4, .inr (1, [.ref q3, .int (-1), .int 0, .int (-1)])), (q5, .inr (2, [.ref q6, .ref q7, .ref q8, .ref q9, .ref q10, .ref q16, .int 0, .int 0, .int 0, .int 0, .int 0, .int 0, .int 0])), (q6, .inl (g6, 9, .inl (fun _ => 0))), (q7, .inl (g7, 9, .inl (fun _ => 0))), (q8, .inl (g8, 9, .inl (fun _ => 0))), (q9, .inl (g9, 9, .inl (fun _ => 0))), (q10, .inr (3, [.ref q11, .ref q12, .ref q13, .ref q14, .ref q15, .int 0, .int 0, .int 0, .int 0, .int 0])), (q11, .inl (g11, 50, .inl (fun _ => 0))), (q12, .inl (g12, 50, .inl (fun _ => 0))), (q13, .inl (g13, 50, .inl (fun _ => 0))), (q14, .inl (g14, 50, .inr (.inl (fun _ => 0)))), (q15, .inl (g15, 50, .inr (.inl (fun _ => 0)))), (q16, .inl (g16, 0, .inl (fun _ => 0))), (q17, .inr (3, [.ref q18, .ref q19, .ref q20, .ref q21, .ref q22, .int 0, .int 0, .int 0, .int 0, .int 0])), (q18, .inl (g18, 50, .inl (fun _ => 0))), (q19, .inl (g19, 50, .inl (fun _ => 0))), (q20, .inl (g20, 50, .inl (fun _ => 0))), (q21, .inl (g21, 50, .inr (.inl (fun _ => 0)))), (q22, .inl (g22, 50, .inr (.inl (fun _ => 0)))), (q23, .inl (g23, 160, .inl (fun _ => 0)))] H := hP
  have hD : va_D A [(a0, .inr (0, [.ref q1, .int 0, .ref q2, .int 1, .int 0, .ref q3, .int 0, .int (-1), .ref q5, .ref q17, .int 0, .int (-1), .null, .null])), (q1, .inl (g1, 24, .inl (fun _ => 0))), (q2, .inl (g2, 40, .inr (.inr (.inr (.inr (va_up (fun _ => none) 0 (some q4))))))), (q3, .inl (g3, 0, .inl (fun _ => 0))), (q4, .inr (1, [.ref q3, .int (-1), .int 0, .int (-1)])), (q5, .inr (2, [.ref q6, .ref q7, .ref q8, .ref q9, .ref q10, .ref q16, .int 0, .int 0, .int 0, .int 0, .int 0, .int 0, .int 0])), (q6, .inl (g6, 9, .inl (fun _ => 0))), (q7, .inl (g7, 9, .inl (fun _ => 0))), (q8, .inl (g8, 9, .inl (fun _ => 0))), (q9, .inl (g9, 9, .inl (fun _ => 0))), (q10, .inr (3, [.ref q11, .ref q12, .ref q13, .ref q14, .ref q15, .int 0, .int 0, .int 0, .int 0, .int 0])), (q11, .inl (g11, 50, .inl (fun _ => 0))), (q12, .inl (g12, 50, .inl (fun _ => 0))), (q13, .inl (g13, 50, .inl (fun _ => 0))), (q14, .inl (g14, 50, .inr (.inl (fun _ => 0)))), (q15, .inl (g15, 50, .inr (.inl (fun _ => 0)))), (q16, .inl (g16, 0, .inl (fun _ => 0))), (q17, .inr (3, [.ref q18, .ref q19, .ref q20, .ref q21, .ref q22, .int 0, .int 0, .int 0, .int 0, .int 0])), (q18, .inl (g18, 50, .inl (fun _ => 0))), (q19, .inl (g19, 50, .inl (fun _ => 0))), (q20, .inl (g20, 50, .inl (fun _ => 0))), (q21, .inl (g21, 50, .inr (.inl (fun _ => 0)))), (q22, .inl (g22, 50, .inr (.inl (fun _ => 0)))), (q23, .inl (g23, 160, .inl (fun _ => 0)))] := hD
  have hK : va_K (dC, dI) vwCl [(g1, .char), (g2, .object "DraftTree$State"), (g3, .char), (g6, .int), (g7, .int), (g8, .int), (g9, .int), (g11, .int), (g12, .int), (g13, .int), (g14, .long), (g15, .long), (g16, .char), (g18, .int), (g19, .int), (g20, .int), (g21, .long), (g22, .long), (g23, .int)] s := hK
  refine W.cs (cells' := 23) (slots' := 797) rfl rfl ?_
  refine va_putF (D := (dC, dI)) (ci := 0) (v := .ref q23) (ty := .array .int) (C := R_D) (T := F_D) (N := 14) hx hb hts (fun w h => List.mem_cons_of_mem _ (in_D w h)) t_D tk_D n_D hown hK hP hD hS 0 rfl rfl 12 (by decide) (hts _ (List.mem_cons_of_mem _ lk_96)) (fun _ h9 => h9) rfl hin rfl (by decide +kernel) rfl rfl (Nat.le_of_ble_eq_true rfl) d_D_init_90 (fun H locs hP hD hS => ?_)
  have hP : va_P (dC, dI) vwCl [(a0, .inr (0, [.ref q1, .int 0, .ref q2, .int 1, .int 0, .ref q3, .int 0, .int (-1), .ref q5, .ref q17, .int 0, .int (-1), .ref q23, .null])), (q1, .inl (g1, 24, .inl (fun _ => 0))), (q2, .inl (g2, 40, .inr (.inr (.inr (.inr (va_up (fun _ => none) 0 (some q4))))))), (q3, .inl (g3, 0, .inl (fun _ => 0))), (q4, .inr (1, [.ref q3, .int (-1), .int 0, .int (-1)])), (q5, .inr (2, [.ref q6, .ref q7, .ref q8, .ref q9, .ref q10, .ref q16, .int 0, .int 0, .int 0, .int 0, .int 0, .int 0, .int 0])), (q6, .inl (g6, 9, .inl (fun _ => 0))), (q7, .inl (g7, 9, .inl (fun _ => 0))), (q8, .inl (g8, 9, .inl (fun _ => 0))), (q9, .inl (g9, 9, .inl (fun _ => 0))), (q10, .inr (3, [.ref q11, .ref q12, .ref q13, .ref q14, .ref q15, .int 0, .int 0, .int 0, .int 0, .int 0])), (q11, .inl (g11, 50, .inl (fun _ => 0))), (q12, .inl (g12, 50, .inl (fun _ => 0))), (q13, .inl (g13, 50, .inl (fun _ => 0))), (q14, .inl (g14, 50, .inr (.inl (fun _ => 0)))), (q15, .inl (g15, 50, .inr (.inl (fun _ => 0)))), (q16, .inl (g16, 0, .inl (fun _ => 0))), (q17, .inr (3, [.ref q18, .ref q19, .ref q20, .ref q21, .ref q22, .int 0, .int 0, .int 0, .int 0, .int 0])), (q18, .inl (g18, 50, .inl (fun _ => 0))), (q19, .inl (g19, 50, .inl (fun _ => 0))), (q20, .inl (g20, 50, .inl (fun _ => 0))), (q21, .inl (g21, 50, .inr (.inl (fun _ => 0)))), (q22, .inl (g22, 50, .inr (.inl (fun _ => 0)))), (q23, .inl (g23, 160, .inl (fun _ => 0)))] H := hP
  have hD : va_D A [(a0, .inr (0, [.ref q1, .int 0, .ref q2, .int 1, .int 0, .ref q3, .int 0, .int (-1), .ref q5, .ref q17, .int 0, .int (-1), .ref q23, .null])), (q1, .inl (g1, 24, .inl (fun _ => 0))), (q2, .inl (g2, 40, .inr (.inr (.inr (.inr (va_up (fun _ => none) 0 (some q4))))))), (q3, .inl (g3, 0, .inl (fun _ => 0))), (q4, .inr (1, [.ref q3, .int (-1), .int 0, .int (-1)])), (q5, .inr (2, [.ref q6, .ref q7, .ref q8, .ref q9, .ref q10, .ref q16, .int 0, .int 0, .int 0, .int 0, .int 0, .int 0, .int 0])), (q6, .inl (g6, 9, .inl (fun _ => 0))), (q7, .inl (g7, 9, .inl (fun _ => 0))), (q8, .inl (g8, 9, .inl (fun _ => 0))), (q9, .inl (g9, 9, .inl (fun _ => 0))), (q10, .inr (3, [.ref q11, .ref q12, .ref q13, .ref q14, .ref q15, .int 0, .int 0, .int 0, .int 0, .int 0])), (q11, .inl (g11, 50, .inl (fun _ => 0))), (q12, .inl (g12, 50, .inl (fun _ => 0))), (q13, .inl (g13, 50, .inl (fun _ => 0))), (q14, .inl (g14, 50, .inr (.inl (fun _ => 0)))), (q15, .inl (g15, 50, .inr (.inl (fun _ => 0)))), (q16, .inl (g16, 0, .inl (fun _ => 0))), (q17, .inr (3, [.ref q18, .ref q19, .ref q20, .ref q21, .ref q22, .int 0, .int 0, .int 0, .int 0, .int 0])), (q18, .inl (g18, 50, .inl (fun _ => 0))), (q19, .inl (g19, 50, .inl (fun _ => 0))), (q20, .inl (g20, 50, .inl (fun _ => 0))), (q21, .inl (g21, 50, .inr (.inl (fun _ => 0)))), (q22, .inl (g22, 50, .inr (.inl (fun _ => 0)))), (q23, .inl (g23, 160, .inl (fun _ => 0)))] := hD
  refine lv_aload_n hx hb d_D_init_93 rfl (lv_at hl 0 rfl) ?_
  refine lv_sipush (v := 160) hx hb d_D_init_94 (by decide) ?_
  refine va_newa (atype := .int) (ty := .int) (a0 := (160, .inl (fun _ => 0))) (N' := 160) hx hb (hts _ (List.mem_cons_of_mem _ lk_58)) rfl hK hP hD hS hA (fun _ => rfl) (by decide) (by decide) (by decide) (Nat.le_of_ble_eq_true rfl) (Nat.le_of_ble_eq_true rfl) d_D_init_97 (fun q24 g24 H hK hP hD hS => ?_)
  have hP : va_P (dC, dI) vwCl [(a0, .inr (0, [.ref q1, .int 0, .ref q2, .int 1, .int 0, .ref q3, .int 0, .int (-1), .ref q5, .ref q17, .int 0, .int (-1), .ref q23, .null])), (q1, .inl (g1, 24, .inl (fun _ => 0))), (q2, .inl (g2, 40, .inr (.inr (.inr (.inr (va_up (fun _ => none) 0 (some q4))))))), (q3, .inl (g3, 0, .inl (fun _ => 0))), (q4, .inr (1, [.ref q3, .int (-1), .int 0, .int (-1)])), (q5, .inr (2, [.ref q6, .ref q7, .ref q8, .ref q9, .ref q10, .ref q16, .int 0, .int 0, .int 0, .int 0, .int 0, .int 0, .int 0])), (q6, .inl (g6, 9, .inl (fun _ => 0))), (q7, .inl (g7, 9, .inl (fun _ => 0))), (q8, .inl (g8, 9, .inl (fun _ => 0))), (q9, .inl (g9, 9, .inl (fun _ => 0))), (q10, .inr (3, [.ref q11, .ref q12, .ref q13, .ref q14, .ref q15, .int 0, .int 0, .int 0, .int 0, .int 0])), (q11, .inl (g11, 50, .inl (fun _ => 0))), (q12, .inl (g12, 50, .inl (fun _ => 0))), (q13, .inl (g13, 50, .inl (fun _ => 0))), (q14, .inl (g14, 50, .inr (.inl (fun _ => 0)))), (q15, .inl (g15, 50, .inr (.inl (fun _ => 0)))), (q16, .inl (g16, 0, .inl (fun _ => 0))), (q17, .inr (3, [.ref q18, .ref q19, .ref q20, .ref q21, .ref q22, .int 0, .int 0, .int 0, .int 0, .int 0])), (q18, .inl (g18, 50, .inl (fun _ => 0))), (q19, .inl (g19, 50, .inl (fun _ => 0))), (q20, .inl (g20, 50, .inl (fun _ => 0))), (q21, .inl (g21, 50, .inr (.inl (fun _ => 0)))), (q22, .inl (g22, 50, .inr (.inl (fun _ => 0)))), (q23, .inl (g23, 160, .inl (fun _ => 0))), (q24, .inl (g24, 160, .inl (fun _ => 0)))] H := hP
  have hD : va_D A [(a0, .inr (0, [.ref q1, .int 0, .ref q2, .int 1, .int 0, .ref q3, .int 0, .int (-1), .ref q5, .ref q17, .int 0, .int (-1), .ref q23, .null])), (q1, .inl (g1, 24, .inl (fun _ => 0))), (q2, .inl (g2, 40, .inr (.inr (.inr (.inr (va_up (fun _ => none) 0 (some q4))))))), (q3, .inl (g3, 0, .inl (fun _ => 0))), (q4, .inr (1, [.ref q3, .int (-1), .int 0, .int (-1)])), (q5, .inr (2, [.ref q6, .ref q7, .ref q8, .ref q9, .ref q10, .ref q16, .int 0, .int 0, .int 0, .int 0, .int 0, .int 0, .int 0])), (q6, .inl (g6, 9, .inl (fun _ => 0))), (q7, .inl (g7, 9, .inl (fun _ => 0))), (q8, .inl (g8, 9, .inl (fun _ => 0))), (q9, .inl (g9, 9, .inl (fun _ => 0))), (q10, .inr (3, [.ref q11, .ref q12, .ref q13, .ref q14, .ref q15, .int 0, .int 0, .int 0, .int 0, .int 0])), (q11, .inl (g11, 50, .inl (fun _ => 0))), (q12, .inl (g12, 50, .inl (fun _ => 0))), (q13, .inl (g13, 50, .inl (fun _ => 0))), (q14, .inl (g14, 50, .inr (.inl (fun _ => 0)))), (q15, .inl (g15, 50, .inr (.inl (fun _ => 0)))), (q16, .inl (g16, 0, .inl (fun _ => 0))), (q17, .inr (3, [.ref q18, .ref q19, .ref q20, .ref q21, .ref q22, .int 0, .int 0, .int 0, .int 0, .int 0])), (q18, .inl (g18, 50, .inl (fun _ => 0))), (q19, .inl (g19, 50, .inl (fun _ => 0))), (q20, .inl (g20, 50, .inl (fun _ => 0))), (q21, .inl (g21, 50, .inr (.inl (fun _ => 0)))), (q22, .inl (g22, 50, .inr (.inl (fun _ => 0)))), (q23, .inl (g23, 160, .inl (fun _ => 0))), (q24, .inl (g24, 160, .inl (fun _ => 0)))] := hD
  have hK : va_K (dC, dI) vwCl [(g1, .char), (g2, .object "DraftTree$State"), (g3, .char), (g6, .int), (g7, .int), (g8, .int), (g9, .int), (g11, .int), (g12, .int), (g13, .int), (g14, .long), (g15, .long), (g16, .char), (g18, .int), (g19, .int), (g20, .int), (g21, .long), (g22, .long), (g23, .int), (g24, .int)] s := hK
  refine W.cs (cells' := 24) (slots' := 957) rfl rfl ?_
  refine va_putF (D := (dC, dI)) (ci := 0) (v := .ref q24) (ty := .array .int) (C := R_D) (T := F_D) (N := 14) hx hb hts (fun w h => List.mem_cons_of_mem _ (in_D w h)) t_D tk_D n_D hown hK hP hD hS 0 rfl rfl 13 (by decide) (hts _ (List.mem_cons_of_mem _ lk_97)) (fun _ h9 => h9) rfl hin rfl (by decide +kernel) rfl rfl (Nat.le_of_ble_eq_true rfl) d_D_init_99 (fun H locs hP hD hS => ?_)
  have hP : va_P (dC, dI) vwCl [(a0, .inr (0, [.ref q1, .int 0, .ref q2, .int 1, .int 0, .ref q3, .int 0, .int (-1), .ref q5, .ref q17, .int 0, .int (-1), .ref q23, .ref q24])), (q1, .inl (g1, 24, .inl (fun _ => 0))), (q2, .inl (g2, 40, .inr (.inr (.inr (.inr (va_up (fun _ => none) 0 (some q4))))))), (q3, .inl (g3, 0, .inl (fun _ => 0))), (q4, .inr (1, [.ref q3, .int (-1), .int 0, .int (-1)])), (q5, .inr (2, [.ref q6, .ref q7, .ref q8, .ref q9, .ref q10, .ref q16, .int 0, .int 0, .int 0, .int 0, .int 0, .int 0, .int 0])), (q6, .inl (g6, 9, .inl (fun _ => 0))), (q7, .inl (g7, 9, .inl (fun _ => 0))), (q8, .inl (g8, 9, .inl (fun _ => 0))), (q9, .inl (g9, 9, .inl (fun _ => 0))), (q10, .inr (3, [.ref q11, .ref q12, .ref q13, .ref q14, .ref q15, .int 0, .int 0, .int 0, .int 0, .int 0])), (q11, .inl (g11, 50, .inl (fun _ => 0))), (q12, .inl (g12, 50, .inl (fun _ => 0))), (q13, .inl (g13, 50, .inl (fun _ => 0))), (q14, .inl (g14, 50, .inr (.inl (fun _ => 0)))), (q15, .inl (g15, 50, .inr (.inl (fun _ => 0)))), (q16, .inl (g16, 0, .inl (fun _ => 0))), (q17, .inr (3, [.ref q18, .ref q19, .ref q20, .ref q21, .ref q22, .int 0, .int 0, .int 0, .int 0, .int 0])), (q18, .inl (g18, 50, .inl (fun _ => 0))), (q19, .inl (g19, 50, .inl (fun _ => 0))), (q20, .inl (g20, 50, .inl (fun _ => 0))), (q21, .inl (g21, 50, .inr (.inl (fun _ => 0)))), (q22, .inl (g22, 50, .inr (.inl (fun _ => 0)))), (q23, .inl (g23, 160, .inl (fun _ => 0))), (q24, .inl (g24, 160, .inl (fun _ => 0)))] H := hP
  have hD : va_D A [(a0, .inr (0, [.ref q1, .int 0, .ref q2, .int 1, .int 0, .ref q3, .int 0, .int (-1), .ref q5, .ref q17, .int 0, .int (-1), .ref q23, .ref q24])), (q1, .inl (g1, 24, .inl (fun _ => 0))), (q2, .inl (g2, 40, .inr (.inr (.inr (.inr (va_up (fun _ => none) 0 (some q4))))))), (q3, .inl (g3, 0, .inl (fun _ => 0))), (q4, .inr (1, [.ref q3, .int (-1), .int 0, .int (-1)])), (q5, .inr (2, [.ref q6, .ref q7, .ref q8, .ref q9, .ref q10, .ref q16, .int 0, .int 0, .int 0, .int 0, .int 0, .int 0, .int 0])), (q6, .inl (g6, 9, .inl (fun _ => 0))), (q7, .inl (g7, 9, .inl (fun _ => 0))), (q8, .inl (g8, 9, .inl (fun _ => 0))), (q9, .inl (g9, 9, .inl (fun _ => 0))), (q10, .inr (3, [.ref q11, .ref q12, .ref q13, .ref q14, .ref q15, .int 0, .int 0, .int 0, .int 0, .int 0])), (q11, .inl (g11, 50, .inl (fun _ => 0))), (q12, .inl (g12, 50, .inl (fun _ => 0))), (q13, .inl (g13, 50, .inl (fun _ => 0))), (q14, .inl (g14, 50, .inr (.inl (fun _ => 0)))), (q15, .inl (g15, 50, .inr (.inl (fun _ => 0)))), (q16, .inl (g16, 0, .inl (fun _ => 0))), (q17, .inr (3, [.ref q18, .ref q19, .ref q20, .ref q21, .ref q22, .int 0, .int 0, .int 0, .int 0, .int 0])), (q18, .inl (g18, 50, .inl (fun _ => 0))), (q19, .inl (g19, 50, .inl (fun _ => 0))), (q20, .inl (g20, 50, .inl (fun _ => 0))), (q21, .inl (g21, 50, .inr (.inl (fun _ => 0)))), (q22, .inl (g22, 50, .inr (.inl (fun _ => 0)))), (q23, .inl (g23, 160, .inl (fun _ => 0))), (q24, .inl (g24, 160, .inl (fun _ => 0)))] := hD
  have hP9 := hP.sub (ws' := [(a0, .inr (0, [.ref q1, .int 0, .ref q2, .int 1, .int 0, .ref q3, .int 0, .int (-1), .ref q5, .ref q17, .int 0, .int (-1), .ref q23, .ref q24])), (q1, .inl (g1, 24, .inl (fun _ => 0))), (q2, .inl (g2, 40, .inr (.inr (.inr (.inr (va_up (fun _ => none) 0 (some q4))))))), (q3, .inl (g3, 0, .inl (fun _ => 0))), (q4, .inr (1, [.ref q3, .int (-1), .int 0, .int (-1)])), (q5, .inr (2, [.ref q6, .ref q7, .ref q8, .ref q9, .ref q10, .ref q16, .int 0, .int 0, .int 0, .int 0, .int 0, .int 0, .int 0])), (q6, .inl (g6, 9, .inl (fun _ => 0))), (q7, .inl (g7, 9, .inl (fun _ => 0))), (q8, .inl (g8, 9, .inl (fun _ => 0))), (q9, .inl (g9, 9, .inl (fun _ => 0))), (q10, .inr (3, [.ref q11, .ref q12, .ref q13, .ref q14, .ref q15, .int 0, .int 0, .int 0, .int 0, .int 0])), (q11, .inl (g11, 50, .inl (fun _ => 0))), (q12, .inl (g12, 50, .inl (fun _ => 0))), (q13, .inl (g13, 50, .inl (fun _ => 0))), (q14, .inl (g14, 50, .inr (.inl (fun _ => 0)))), (q15, .inl (g15, 50, .inr (.inl (fun _ => 0)))), (q16, .inl (g16, 0, .inl (fun _ => 0))), (q17, .inr (3, [.ref q18, .ref q19, .ref q20, .ref q21, .ref q22, .int 0, .int 0, .int 0, .int 0, .int 0])), (q18, .inl (g18, 50, .inl (fun _ => 0))), (q19, .inl (g19, 50, .inl (fun _ => 0))), (q20, .inl (g20, 50, .inl (fun _ => 0))), (q21, .inl (g21, 50, .inr (.inl (fun _ => 0)))), (q22, .inl (g22, 50, .inr (.inl (fun _ => 0)))), (q23, .inl (g23, 160, .inl (fun _ => 0))), (q24, .inl (g24, 160, .inl (fun _ => 0)))]) [0, 1, 2, 3, 4, 5, 6, 7, 8, 9, 10, 11, 12, 13, 14, 15, 16, 17, 18, 19, 20, 21, 22, 23, 24] rfl
  have hD9 := hD.sub (ws' := [(a0, .inr (0, [.ref q1, .int 0, .ref q2, .int 1, .int 0, .ref q3, .int 0, .int (-1), .ref q5, .ref q17, .int 0, .int (-1), .ref q23, .ref q24])), (q1, .inl (g1, 24, .inl (fun _ => 0))), (q2, .inl (g2, 40, .inr (.inr (.inr (.inr (va_up (fun _ => none) 0 (some q4))))))), (q3, .inl (g3, 0, .inl (fun _ => 0))), (q4, .inr (1, [.ref q3, .int (-1), .int 0, .int (-1)])), (q5, .inr (2, [.ref q6, .ref q7, .ref q8, .ref q9, .ref q10, .ref q16, .int 0, .int 0, .int 0, .int 0, .int 0, .int 0, .int 0])), (q6, .inl (g6, 9, .inl (fun _ => 0))), (q7, .inl (g7, 9, .inl (fun _ => 0))), (q8, .inl (g8, 9, .inl (fun _ => 0))), (q9, .inl (g9, 9, .inl (fun _ => 0))), (q10, .inr (3, [.ref q11, .ref q12, .ref q13, .ref q14, .ref q15, .int 0, .int 0, .int 0, .int 0, .int 0])), (q11, .inl (g11, 50, .inl (fun _ => 0))), (q12, .inl (g12, 50, .inl (fun _ => 0))), (q13, .inl (g13, 50, .inl (fun _ => 0))), (q14, .inl (g14, 50, .inr (.inl (fun _ => 0)))), (q15, .inl (g15, 50, .inr (.inl (fun _ => 0)))), (q16, .inl (g16, 0, .inl (fun _ => 0))), (q17, .inr (3, [.ref q18, .ref q19, .ref q20, .ref q21, .ref q22, .int 0, .int 0, .int 0, .int 0, .int 0])), (q18, .inl (g18, 50, .inl (fun _ => 0))), (q19, .inl (g19, 50, .inl (fun _ => 0))), (q20, .inl (g20, 50, .inl (fun _ => 0))), (q21, .inl (g21, 50, .inr (.inl (fun _ => 0)))), (q22, .inl (g22, 50, .inr (.inl (fun _ => 0)))), (q23, .inl (g23, 160, .inl (fun _ => 0))), (q24, .inl (g24, 160, .inl (fun _ => 0)))]) [0, 1, 2, 3, 4, 5, 6, 7, 8, 9, 10, 11, 12, 13, 14, 15, 16, 17, 18, 19, 20, 21, 22, 23, 24] (by decide) rfl
  have hK9 := hK.sub (tys' := [(g1, .char), (g2, (.object "DraftTree$State")), (g3, .char), (g6, .int), (g7, .int), (g8, .int), (g9, .int), (g11, .int), (g12, .int), (g13, .int), (g14, .long), (g15, .long), (g16, .char), (g18, .int), (g19, .int), (g20, .int), (g21, .long), (g22, .long), (g23, .int), (g24, .int)]) [0, 1, 2, 3, 4, 5, 6, 7, 8, 9, 10, 11, 12, 13, 14, 15, 16, 17, 18, 19] rfl
  exact W.vret hx hb hr (fun t ht hW => ⟨⟨(), rfl, rfl, q1, q2, q3, q4, q5, q6, q7, q8, q9, q10, q11, q12, q13, q14, q15, q16, q17, q18, q19, q20, q21, q22, q23, q24, g1, g2, g3, g6, g7, g8, g9, g11, g12, g13, g14, g15, g16, g18, g19, g20, g21, g22, g23, g24, by rw [ht]; exact hP9, va_K.moved hW.alike hK9, hD9⟩, hS.F ht⟩) hS.2.2 d_D_init_102

set_option maxHeartbeats 4000000 in
set_option maxRecDepth 100000 in
theorem c_M_init (l : Launch) (dC : Nat → ClassId) (dI : Nat → Nat → Nat) (a0 : Nat) (sz : Nat)  : Met l y_M_init w_M_init ({ frames := 1, cells := 20, slots := 12126, locals := 12 }) (va_Pc [.ref a0] (fun U => U.heap.size = sz ∧ va_P (dC, dI) vwCl [(a0, .inr (4, [.int 0, .int 0, .null, .int 0, .int 0, .null, .null, .null, .null, .null, .int 0, .int 0, .int 0, .int 0, .int 0, .int 0, .null, .int 0, .null, .null, .null, .null, .null, .int 0, .int 0, .int 0, .null, .null, .int 0, .null, .null, .null, .null, .null, .int 0, .int 0, .int 0, .null]))] U.heap ∧ va_K (dC, dI) vwCl [] U ∧ va_D (fun _ => True) [(a0, .inr (4, [.int 0, .int 0, .null, .int 0, .int 0, .null, .null, .null, .null, .null, .int 0, .int 0, .int 0, .int 0, .int 0, .int 0, .null, .int 0, .null, .null, .null, .null, .null, .int 0, .int 0, .int 0, .null, .null, .int 0, .null, .null, .null, .null, .null, .int 0, .int 0, .int 0, .null]))])) (va_Qv (fun (u : Unit) => u = u) (fun (_ : Unit) t => ∃ (q1 q2 q3 q4 q5 q6 q7 q8 q9 q10 q11 q12 q13 q14 q15 q16 q17 q18 q19 q20 : Nat) (g1 g2 g3 g4 g5 g6 g7 g8 g9 g10 g11 g12 g13 g14 g15 g16 g17 g18 g19 g20 : ClassId) , va_P (dC, dI) vwCl [(a0, .inr (4, [.int 0, .int 0, .ref q1, .int 1, .int 0, .ref q2, .ref q3, .ref q4, .ref q5, .ref q6, .int 0, .int 0, .int (-1), .int 0, .int (-1), .int 0, .ref q7, .int 0, .ref q8, .ref q9, .ref q10, .ref q11, .ref q12, .int 0, .int 0, .int 0, .ref q13, .ref q14, .int 0, .ref q15, .ref q16, .ref q17, .ref q18, .ref q19, .int 0, .int 0, .int 0, .ref q20])), (q1, .inl (g1, 24, .inl (fun _ => 0))), (q2, .inl (g2, 6400, .inl (fun _ => 0))), (q3, .inl (g3, 40, .inl (fun _ => 0))), (q4, .inl (g4, 40, .inl (fun _ => 0))), (q5, .inl (g5, 40, .inl (upd (fun _ => 0) 0 (-1)))), (q6, .inl (g6, 40, .inl (fun _ => 0))), (q7, .inl (g7, 24, .inl (fun _ => 0))), (q8, .inl (g8, 160, .inl (fun _ => 0))), (q9, .inl (g9, 160, .inl (fun _ => 0))), (q10, .inl (g10, 160, .inl (fun _ => 0))), (q11, .inl (g11, 160, .inl (fun _ => 0))), (q12, .inl (g12, 160, .inl (fun _ => 0))), (q13, .inl (g13, 160, .inl (fun _ => 0))), (q14, .inl (g14, 160, .inl (fun _ => 0))), (q15, .inl (g15, 26, .inl (fun _ => 0))), (q16, .inl (g16, 26, .inl (fun _ => 0))), (q17, .inl (g17, 26, .inl (fun _ => 0))), (q18, .inl (g18, 160, .inl (fun _ => 0))), (q19, .inl (g19, 160, .inl (fun _ => 0))), (q20, .inl (g20, 4000, .inl (fun _ => 0)))] t.heap ∧ va_K (dC, dI) vwCl [(g1, .char), (g2, .char), (g3, .int), (g4, .int), (g5, .int), (g6, .int), (g7, .char), (g8, .int), (g9, .int), (g10, .int), (g11, .int), (g12, .int), (g13, .int), (g14, .int), (g15, .int), (g16, .int), (g17, .int), (g18, .boolean), (g19, .boolean), (g20, .char)] t ∧ va_D (va_A [(a0, .inr (4, [.int 0, .int 0, .null, .int 0, .int 0, .null, .null, .null, .null, .null, .int 0, .int 0, .int 0, .int 0, .int 0, .int 0, .null, .int 0, .null, .null, .null, .null, .null, .int 0, .int 0, .int 0, .null, .null, .int 0, .null, .null, .null, .null, .null, .int 0, .int 0, .int 0, .null]))] sz) [(a0, .inr (4, [.int 0, .int 0, .ref q1, .int 1, .int 0, .ref q2, .ref q3, .ref q4, .ref q5, .ref q6, .int 0, .int 0, .int (-1), .int 0, .int (-1), .int 0, .ref q7, .int 0, .ref q8, .ref q9, .ref q10, .ref q11, .ref q12, .int 0, .int 0, .int 0, .ref q13, .ref q14, .int 0, .ref q15, .ref q16, .ref q17, .ref q18, .ref q19, .int 0, .int 0, .int 0, .ref q20])), (q1, .inl (g1, 24, .inl (fun _ => 0))), (q2, .inl (g2, 6400, .inl (fun _ => 0))), (q3, .inl (g3, 40, .inl (fun _ => 0))), (q4, .inl (g4, 40, .inl (fun _ => 0))), (q5, .inl (g5, 40, .inl (upd (fun _ => 0) 0 (-1)))), (q6, .inl (g6, 40, .inl (fun _ => 0))), (q7, .inl (g7, 24, .inl (fun _ => 0))), (q8, .inl (g8, 160, .inl (fun _ => 0))), (q9, .inl (g9, 160, .inl (fun _ => 0))), (q10, .inl (g10, 160, .inl (fun _ => 0))), (q11, .inl (g11, 160, .inl (fun _ => 0))), (q12, .inl (g12, 160, .inl (fun _ => 0))), (q13, .inl (g13, 160, .inl (fun _ => 0))), (q14, .inl (g14, 160, .inl (fun _ => 0))), (q15, .inl (g15, 26, .inl (fun _ => 0))), (q16, .inl (g16, 26, .inl (fun _ => 0))), (q17, .inl (g17, 26, .inl (fun _ => 0))), (q18, .inl (g18, 160, .inl (fun _ => 0))), (q19, .inl (g19, 160, .inl (fun _ => 0))), (q20, .inl (g20, 4000, .inl (fun _ => 0)))]) (va_A [(a0, .inr (4, [.int 0, .int 0, .null, .int 0, .int 0, .null, .null, .null, .null, .null, .int 0, .int 0, .int 0, .int 0, .int 0, .int 0, .null, .int 0, .null, .null, .null, .null, .null, .int 0, .int 0, .int 0, .null, .null, .int 0, .null, .null, .null, .null, .null, .int 0, .int 0, .int 0, .null]))] sz)) 20 12126 (va_A [(a0, .inr (4, [.int 0, .int 0, .null, .int 0, .int 0, .null, .null, .null, .null, .null, .int 0, .int 0, .int 0, .int 0, .int 0, .int 0, .null, .int 0, .null, .null, .null, .null, .null, .int 0, .int 0, .int 0, .null, .null, .int 0, .null, .null, .null, .null, .null, .int 0, .int 0, .int 0, .null]))] sz) := by
  refine Met.ofW (cc := prog_6_method_1_code) (maxL := 1) (ret := none) (by decide) rfl ?_
  intro p e s m args below meth c s₁ B hml hv
  obtain ⟨rfl, hsz, hP, hK, hD0⟩ := hv
  have hx := B.exec
  have hb := B.bytes
  have hr := B.returns
  have hts := atoms_spec (ws := w_M_init) B.pre
  have hown : s.vm.findClass R_M = some m.cls := findClass_of_methodNamed B.named
  have hlocks := B.notSynchronized
  have hin : meth.name = "<init>" := (name_of_methodNamed B.named B.method).1
  subst hsz
  have hD := hD0.self (sz := s.heap.size)
  generalize hAe : va_A [(a0, .inr (4, [.int 0, .int 0, .null, .int 0, .int 0, .null, .null, .null, .null, .null, .int 0, .int 0, .int 0, .int 0, .int 0, .int 0, .null, .int 0, .null, .null, .null, .null, .null, .int 0, .int 0, .int 0, .null, .null, .int 0, .null, .null, .null, .null, .null, .int 0, .int 0, .int 0, .null]))] s.heap.size = A at hD ⊢
  have hA : ∀ q : Nat, s.heap.size ≤ q → A q := fun q h => by rw [← hAe]; exact Or.inr h
  have hS : va_S A s.heap s.heap [] := va_S.rf
  have hP : va_P (dC, dI) vwCl [(a0, .inr (4, [.int 0, .int 0, .null, .int 0, .int 0, .null, .null, .null, .null, .null, .int 0, .int 0, .int 0, .int 0, .int 0, .int 0, .null, .int 0, .null, .null, .null, .null, .null, .int 0, .int 0, .int 0, .null, .null, .int 0, .null, .null, .null, .null, .null, .int 0, .int 0, .int 0, .null]))] s.heap := hP
  have hl := lv_entry ([.ref a0]) (n := 1) (Nat.le_of_ble_eq_true rfl)
  rw [lg_entry_eq]
  generalize (lg_sl ([.ref a0]) ++ List.replicate (1 - (lg_sl ([.ref a0])).length) Slot.unset).toArray = ls at hl ⊢
  have hl : lv_has ls 1 [(0, .ref a0)] := hl
  refine lv_aload_n hx hb d_M_init_0 rfl (lv_at hl 0 rfl) ?_
  refine W.objInit hx hb hown (hts _ (List.mem_cons_of_mem _ lk_142)) (hts _ (List.mem_cons_of_mem _ lk_18)) (hts _ (List.mem_cons_of_mem _ lk_19)) rfl (by rw [hml]; exact hl.1) rfl d_M_init_1 (Nat.le_of_ble_eq_true rfl) (Nat.le_of_ble_eq_true rfl) ?_
  refine W.eq (g2 := F0 m 4 ls []) rfl ?_
  refine lv_aload_n hx hb d_M_init_4 rfl (lv_at hl 0 rfl) ?_
  refine lv_bipush (v := 24) hx hb d_M_init_5 (by decide) ?_
  refine va_newa (atype := .char) (ty := .char) (a0 := (24, .inl (fun _ => 0))) (N' := 24) hx hb (hts _ (List.mem_cons_of_mem _ lk_20)) rfl hK hP hD hS hA (fun _ => rfl) (by decide) (by decide) (by decide) (Nat.le_of_ble_eq_true rfl) (Nat.le_of_ble_eq_true rfl) d_M_init_7 (fun q1 g1 H hK hP hD hS => ?_)
  have hP : va_P (dC, dI) vwCl [(a0, .inr (4, [.int 0, .int 0, .null, .int 0, .int 0, .null, .null, .null, .null, .null, .int 0, .int 0, .int 0, .int 0, .int 0, .int 0, .null, .int 0, .null, .null, .null, .null, .null, .int 0, .int 0, .int 0, .null, .null, .int 0, .null, .null, .null, .null, .null, .int 0, .int 0, .int 0, .null])), (q1, .inl (g1, 24, .inl (fun _ => 0)))] H := hP
  have hD : va_D A [(a0, .inr (4, [.int 0, .int 0, .null, .int 0, .int 0, .null, .null, .null, .null, .null, .int 0, .int 0, .int 0, .int 0, .int 0, .int 0, .null, .int 0, .null, .null, .null, .null, .null, .int 0, .int 0, .int 0, .null, .null, .int 0, .null, .null, .null, .null, .null, .int 0, .int 0, .int 0, .null])), (q1, .inl (g1, 24, .inl (fun _ => 0)))] := hD
  have hK : va_K (dC, dI) vwCl [(g1, .char)] s := hK
  refine W.cs (cells' := 1) (slots' := 24) rfl rfl ?_
  refine va_putF (D := (dC, dI)) (ci := 4) (v := .ref q1) (ty := .array .char) (C := R_M) (T := F_M) (N := 38) hx hb hts (fun w h => List.mem_cons_of_mem _ (in_M w h)) t_M tk_M n_M hown hK hP hD hS 0 rfl rfl 2 (by decide) (hts _ (List.mem_cons_of_mem _ lk_143)) (fun _ h9 => h9) rfl hin rfl (by decide +kernel) rfl rfl (Nat.le_of_ble_eq_true rfl) d_M_init_9 (fun H locs hP hD hS => ?_)
  have hP : va_P (dC, dI) vwCl [(a0, .inr (4, [.int 0, .int 0, .ref q1, .int 0, .int 0, .null, .null, .null, .null, .null, .int 0, .int 0, .int 0, .int 0, .int 0, .int 0, .null, .int 0, .null, .null, .null, .null, .null, .int 0, .int 0, .int 0, .null, .null, .int 0, .null, .null, .null, .null, .null, .int 0, .int 0, .int 0, .null])), (q1, .inl (g1, 24, .inl (fun _ => 0)))] H := hP
  have hD : va_D A [(a0, .inr (4, [.int 0, .int 0, .ref q1, .int 0, .int 0, .null, .null, .null, .null, .null, .int 0, .int 0, .int 0, .int 0, .int 0, .int 0, .null, .int 0, .null, .null, .null, .null, .null, .int 0, .int 0, .int 0, .null, .null, .int 0, .null, .null, .null, .null, .null, .int 0, .int 0, .int 0, .null])), (q1, .inl (g1, 24, .inl (fun _ => 0)))] := hD
  refine lv_aload_n hx hb d_M_init_12 rfl (lv_at hl 0 rfl) ?_
  refine lv_iconst (v := 1) hx hb d_M_init_13 (by decide) ?_
  refine va_put (D := (dC, dI)) (ci := 4) (v := .int 1) (ty := .int) (C := R_M) (T := F_M) (N := 38) hx hb hts (fun w h => List.mem_cons_of_mem _ (in_M w h)) t_M tk_M n_M hown hK hP hD hS 0 rfl rfl 3 (by decide) (hts _ (List.mem_cons_of_mem _ lk_144)) (fun _ h9 => h9) rfl (by decide +kernel) rfl rfl (Nat.le_of_ble_eq_true rfl) d_M_init_14 (fun H locs hP hD hS => ?_)
  have hP : va_P (dC, dI) vwCl [(a0, .inr (4, [.int 0, .int 0, .ref q1, .int 1, .int 0, .null, .null, .null, .null, .null, .int 0, .int 0, .int 0, .int 0, .int 0, .int 0, .null, .int 0, .null, .null, .null, .null, .null, .int 0, .int 0, .int 0, .null, .null, .int 0, .null, .null, .null, .null, .null, .int 0, .int 0, .int 0, .null])), (q1, .inl (g1, 24, .inl (fun _ => 0)))] H := hP
  have hD : va_D A [(a0, .inr (4, [.int 0, .int 0, .ref q1, .int 1, .int 0, .null, .null, .null, .null, .null, .int 0, .int 0, .int 0, .int 0, .int 0, .int 0, .null, .int 0, .null, .null, .null, .null, .null, .int 0, .int 0, .int 0, .null, .null, .int 0, .null, .null, .null, .null, .null, .int 0, .int 0, .int 0, .null])), (q1, .inl (g1, 24, .inl (fun _ => 0)))] := hD
  refine lv_aload_n hx hb d_M_init_17 rfl (lv_at hl 0 rfl) ?_
  refine lv_sipush (v := 6400) hx hb d_M_init_18 (by decide) ?_
  refine va_newa (atype := .char) (ty := .char) (a0 := (6400, .inl (fun _ => 0))) (N' := 6400) hx hb (hts _ (List.mem_cons_of_mem _ lk_20)) rfl hK hP hD hS hA (fun _ => rfl) (by decide) (by decide) (by decide) (Nat.le_of_ble_eq_true rfl) (Nat.le_of_ble_eq_true rfl) d_M_init_21 (fun q2 g2 H hK hP hD hS => ?_)
  have hP : va_P (dC, dI) vwCl [(a0, .inr (4, [.int 0, .int 0, .ref q1, .int 1, .int 0, .null, .null, .null, .null, .null, .int 0, .int 0, .int 0, .int 0, .int 0, .int 0, .null, .int 0, .null, .null, .null, .null, .null, .int 0, .int 0, .int 0, .null, .null, .int 0, .null, .null, .null, .null, .null, .int 0, .int 0, .int 0, .null])), (q1, .inl (g1, 24, .inl (fun _ => 0))), (q2, .inl (g2, 6400, .inl (fun _ => 0)))] H := hP
  have hD : va_D A [(a0, .inr (4, [.int 0, .int 0, .ref q1, .int 1, .int 0, .null, .null, .null, .null, .null, .int 0, .int 0, .int 0, .int 0, .int 0, .int 0, .null, .int 0, .null, .null, .null, .null, .null, .int 0, .int 0, .int 0, .null, .null, .int 0, .null, .null, .null, .null, .null, .int 0, .int 0, .int 0, .null])), (q1, .inl (g1, 24, .inl (fun _ => 0))), (q2, .inl (g2, 6400, .inl (fun _ => 0)))] := hD
  have hK : va_K (dC, dI) vwCl [(g1, .char), (g2, .char)] s := hK
  refine W.cs (cells' := 2) (slots' := 6424) rfl rfl ?_
  refine va_putF (D := (dC, dI)) (ci := 4) (v := .ref q2) (ty := .array .char) (C := R_M) (T := F_M) (N := 38) hx hb hts (fun w h => List.mem_cons_of_mem _ (in_M w h)) t_M tk_M n_M hown hK hP hD hS 0 rfl rfl 5 (by decide) (hts _ (List.mem_cons_of_mem _ lk_145)) (fun _ h9 => h9) rfl hin rfl (by decide +kernel) rfl rfl (Nat.le_of_ble_eq_true rfl) d_M_init_23 (fun H locs hP hD hS => ?_)
  have hP : va_P (dC, dI) vwCl [(a0, .inr (4, [.int 0, .int 0, .ref q1, .int 1, .int 0, .ref q2, .null, .null, .null, .null, .int 0, .int 0, .int 0, .int 0, .int 0, .int 0, .null, .int 0, .null, .null, .null, .null, .null, .int 0, .int 0, .int 0, .null, .null, .int 0, .null, .null, .null, .null, .null, .int 0, .int 0, .int 0, .null])), (q1, .inl (g1, 24, .inl (fun _ => 0))), (q2, .inl (g2, 6400, .inl (fun _ => 0)))] H := hP
  have hD : va_D A [(a0, .inr (4, [.int 0, .int 0, .ref q1, .int 1, .int 0, .ref q2, .null, .null, .null, .null, .int 0, .int 0, .int 0, .int 0, .int 0, .int 0, .null, .int 0, .null, .null, .null, .null, .null, .int 0, .int 0, .int 0, .null, .null, .int 0, .null, .null, .null, .null, .null, .int 0, .int 0, .int 0, .null])), (q1, .inl (g1, 24, .inl (fun _ => 0))), (q2, .inl (g2, 6400, .inl (fun _ => 0)))] := hD
  refine lv_aload_n hx hb d_M_init_26 rfl (lv_at hl 0 rfl) ?_
  refine lv_bipush (v := 40) hx hb d_M_init_27 (by decide) ?_
  refine va_newa (atype := .int) (ty := .int) (a0 := (40, .inl (fun _ => 0))) (N' := 40) hx hb (hts _ (List.mem_cons_of_mem _ lk_58)) rfl hK hP hD hS hA (fun _ => rfl) (by decide) (by decide) (by decide) (Nat.le_of_ble_eq_true rfl) (Nat.le_of_ble_eq_true rfl) d_M_init_29 (fun q3 g3 H hK hP hD hS => ?_)
  have hP : va_P (dC, dI) vwCl [(a0, .inr (4, [.int 0, .int 0, .ref q1, .int 1, .int 0, .ref q2, .null, .null, .null, .null, .int 0, .int 0, .int 0, .int 0, .int 0, .int 0, .null, .int 0, .null, .null, .null, .null, .null, .int 0, .int 0, .int 0, .null, .null, .int 0, .null, .null, .null, .null, .null, .int 0, .int 0, .int 0, .null])), (q1, .inl (g1, 24, .inl (fun _ => 0))), (q2, .inl (g2, 6400, .inl (fun _ => 0))), (q3, .inl (g3, 40, .inl (fun _ => 0)))] H := hP
  have hD : va_D A [(a0, .inr (4, [.int 0, .int 0, .ref q1, .int 1, .int 0, .ref q2, .null, .null, .null, .null, .int 0, .int 0, .int 0, .int 0, .int 0, .int 0, .null, .int 0, .null, .null, .null, .null, .null, .int 0, .int 0, .int 0, .null, .null, .int 0, .null, .null, .null, .null, .null, .int 0, .int 0, .int 0, .null])), (q1, .inl (g1, 24, .inl (fun _ => 0))), (q2, .inl (g2, 6400, .inl (fun _ => 0))), (q3, .inl (g3, 40, .inl (fun _ => 0)))] := hD
  have hK : va_K (dC, dI) vwCl [(g1, .char), (g2, .char), (g3, .int)] s := hK
  refine W.cs (cells' := 3) (slots' := 6464) rfl rfl ?_
  refine va_putF (D := (dC, dI)) (ci := 4) (v := .ref q3) (ty := .array .int) (C := R_M) (T := F_M) (N := 38) hx hb hts (fun w h => List.mem_cons_of_mem _ (in_M w h)) t_M tk_M n_M hown hK hP hD hS 0 rfl rfl 6 (by decide) (hts _ (List.mem_cons_of_mem _ lk_146)) (fun _ h9 => h9) rfl hin rfl (by decide +kernel) rfl rfl (Nat.le_of_ble_eq_true rfl) d_M_init_31 (fun H locs hP hD hS => ?_)
  have hP : va_P (dC, dI) vwCl [(a0, .inr (4, [.int 0, .int 0, .ref q1, .int 1, .int 0, .ref q2, .ref q3, .null, .null, .null, .int 0, .int 0, .int 0, .int 0, .int 0, .int 0, .null, .int 0, .null, .null, .null, .null, .null, .int 0, .int 0, .int 0, .null, .null, .int 0, .null, .null, .null, .null, .null, .int 0, .int 0, .int 0, .null])), (q1, .inl (g1, 24, .inl (fun _ => 0))), (q2, .inl (g2, 6400, .inl (fun _ => 0))), (q3, .inl (g3, 40, .inl (fun _ => 0)))] H := hP
  have hD : va_D A [(a0, .inr (4, [.int 0, .int 0, .ref q1, .int 1, .int 0, .ref q2, .ref q3, .null, .null, .null, .int 0, .int 0, .int 0, .int 0, .int 0, .int 0, .null, .int 0, .null, .null, .null, .null, .null, .int 0, .int 0, .int 0, .null, .null, .int 0, .null, .null, .null, .null, .null, .int 0, .int 0, .int 0, .null])), (q1, .inl (g1, 24, .inl (fun _ => 0))), (q2, .inl (g2, 6400, .inl (fun _ => 0))), (q3, .inl (g3, 40, .inl (fun _ => 0)))] := hD
  refine lv_aload_n hx hb d_M_init_34 rfl (lv_at hl 0 rfl) ?_
  refine lv_bipush (v := 40) hx hb d_M_init_35 (by decide) ?_
  refine va_newa (atype := .int) (ty := .int) (a0 := (40, .inl (fun _ => 0))) (N' := 40) hx hb (hts _ (List.mem_cons_of_mem _ lk_58)) rfl hK hP hD hS hA (fun _ => rfl) (by decide) (by decide) (by decide) (Nat.le_of_ble_eq_true rfl) (Nat.le_of_ble_eq_true rfl) d_M_init_37 (fun q4 g4 H hK hP hD hS => ?_)
  have hP : va_P (dC, dI) vwCl [(a0, .inr (4, [.int 0, .int 0, .ref q1, .int 1, .int 0, .ref q2, .ref q3, .null, .null, .null, .int 0, .int 0, .int 0, .int 0, .int 0, .int 0, .null, .int 0, .null, .null, .null, .null, .null, .int 0, .int 0, .int 0, .null, .null, .int 0, .null, .null, .null, .null, .null, .int 0, .int 0, .int 0, .null])), (q1, .inl (g1, 24, .inl (fun _ => 0))), (q2, .inl (g2, 6400, .inl (fun _ => 0))), (q3, .inl (g3, 40, .inl (fun _ => 0))), (q4, .inl (g4, 40, .inl (fun _ => 0)))] H := hP
  have hD : va_D A [(a0, .inr (4, [.int 0, .int 0, .ref q1, .int 1, .int 0, .ref q2, .ref q3, .null, .null, .null, .int 0, .int 0, .int 0, .int 0, .int 0, .int 0, .null, .int 0, .null, .null, .null, .null, .null, .int 0, .int 0, .int 0, .null, .null, .int 0, .null, .null, .null, .null, .null, .int 0, .int 0, .int 0, .null])), (q1, .inl (g1, 24, .inl (fun _ => 0))), (q2, .inl (g2, 6400, .inl (fun _ => 0))), (q3, .inl (g3, 40, .inl (fun _ => 0))), (q4, .inl (g4, 40, .inl (fun _ => 0)))] := hD
  have hK : va_K (dC, dI) vwCl [(g1, .char), (g2, .char), (g3, .int), (g4, .int)] s := hK
  refine W.cs (cells' := 4) (slots' := 6504) rfl rfl ?_
  refine va_putF (D := (dC, dI)) (ci := 4) (v := .ref q4) (ty := .array .int) (C := R_M) (T := F_M) (N := 38) hx hb hts (fun w h => List.mem_cons_of_mem _ (in_M w h)) t_M tk_M n_M hown hK hP hD hS 0 rfl rfl 7 (by decide) (hts _ (List.mem_cons_of_mem _ lk_147)) (fun _ h9 => h9) rfl hin rfl (by decide +kernel) rfl rfl (Nat.le_of_ble_eq_true rfl) d_M_init_39 (fun H locs hP hD hS => ?_)
  have hP : va_P (dC, dI) vwCl [(a0, .inr (4, [.int 0, .int 0, .ref q1, .int 1, .int 0, .ref q2, .ref q3, .ref q4, .null, .null, .int 0, .int 0, .int 0, .int 0, .int 0, .int 0, .null, .int 0, .null, .null, .null, .null, .null, .int 0, .int 0, .int 0, .null, .null, .int 0, .null, .null, .null, .null, .null, .int 0, .int 0, .int 0, .null])), (q1, .inl (g1, 24, .inl (fun _ => 0))), (q2, .inl (g2, 6400, .inl (fun _ => 0))), (q3, .inl (g3, 40, .inl (fun _ => 0))), (q4, .inl (g4, 40, .inl (fun _ => 0)))] H := hP
  have hD : va_D A [(a0, .inr (4, [.int 0, .int 0, .ref q1, .int 1, .int 0, .ref q2, .ref q3, .ref q4, .null, .null, .int 0, .int 0, .int 0, .int 0, .int 0, .int 0, .null, .int 0, .null, .null, .null, .null, .null, .int 0, .int 0, .int 0, .null, .null, .int 0, .null, .null, .null, .null, .null, .int 0, .int 0, .int 0, .null])), (q1, .inl (g1, 24, .inl (fun _ => 0))), (q2, .inl (g2, 6400, .inl (fun _ => 0))), (q3, .inl (g3, 40, .inl (fun _ => 0))), (q4, .inl (g4, 40, .inl (fun _ => 0)))] := hD
  refine lv_aload_n hx hb d_M_init_42 rfl (lv_at hl 0 rfl) ?_
  refine lv_bipush (v := 40) hx hb d_M_init_43 (by decide) ?_
  refine va_newa (atype := .int) (ty := .int) (a0 := (40, .inl (fun _ => 0))) (N' := 40) hx hb (hts _ (List.mem_cons_of_mem _ lk_58)) rfl hK hP hD hS hA (fun _ => rfl) (by decide) (by decide) (by decide) (Nat.le_of_ble_eq_true rfl) (Nat.le_of_ble_eq_true rfl) d_M_init_45 (fun q5 g5 H hK hP hD hS => ?_)
  have hP : va_P (dC, dI) vwCl [(a0, .inr (4, [.int 0, .int 0, .ref q1, .int 1, .int 0, .ref q2, .ref q3, .ref q4, .null, .null, .int 0, .int 0, .int 0, .int 0, .int 0, .int 0, .null, .int 0, .null, .null, .null, .null, .null, .int 0, .int 0, .int 0, .null, .null, .int 0, .null, .null, .null, .null, .null, .int 0, .int 0, .int 0, .null])), (q1, .inl (g1, 24, .inl (fun _ => 0))), (q2, .inl (g2, 6400, .inl (fun _ => 0))), (q3, .inl (g3, 40, .inl (fun _ => 0))), (q4, .inl (g4, 40, .inl (fun _ => 0))), (q5, .inl (g5, 40, .inl (fun _ => 0)))] H := hP
  have hD : va_D A [(a0, .inr (4, [.int 0, .int 0, .ref q1, .int 1, .int 0, .ref q2, .ref q3, .ref q4, .null, .null, .int 0, .int 0, .int 0, .int 0, .int 0, .int 0, .null, .int 0, .null, .null, .null, .null, .null, .int 0, .int 0, .int 0, .null, .null, .int 0, .null, .null, .null, .null, .null, .int 0, .int 0, .int 0, .null])), (q1, .inl (g1, 24, .inl (fun _ => 0))), (q2, .inl (g2, 6400, .inl (fun _ => 0))), (q3, .inl (g3, 40, .inl (fun _ => 0))), (q4, .inl (g4, 40, .inl (fun _ => 0))), (q5, .inl (g5, 40, .inl (fun _ => 0)))] := hD
  have hK : va_K (dC, dI) vwCl [(g1, .char), (g2, .char), (g3, .int), (g4, .int), (g5, .int)] s := hK
  refine W.cs (cells' := 5) (slots' := 6544) rfl rfl ?_
  refine va_putF (D := (dC, dI)) (ci := 4) (v := .ref q5) (ty := .array .int) (C := R_M) (T := F_M) (N := 38) hx hb hts (fun w h => List.mem_cons_of_mem _ (in_M w h)) t_M tk_M n_M hown hK hP hD hS 0 rfl rfl 8 (by decide) (hts _ (List.mem_cons_of_mem _ lk_148)) (fun _ h9 => h9) rfl hin rfl (by decide +kernel) rfl rfl (Nat.le_of_ble_eq_true rfl) d_M_init_47 (fun H locs hP hD hS => ?_)
  have hP : va_P (dC, dI) vwCl [(a0, .inr (4, [.int 0, .int 0, .ref q1, .int 1, .int 0, .ref q2, .ref q3, .ref q4, .ref q5, .null, .int 0, .int 0, .int 0, .int 0, .int 0, .int 0, .null, .int 0, .null, .null, .null, .null, .null, .int 0, .int 0, .int 0, .null, .null, .int 0, .null, .null, .null, .null, .null, .int 0, .int 0, .int 0, .null])), (q1, .inl (g1, 24, .inl (fun _ => 0))), (q2, .inl (g2, 6400, .inl (fun _ => 0))), (q3, .inl (g3, 40, .inl (fun _ => 0))), (q4, .inl (g4, 40, .inl (fun _ => 0))), (q5, .inl (g5, 40, .inl (fun _ => 0)))] H := hP
  have hD : va_D A [(a0, .inr (4, [.int 0, .int 0, .ref q1, .int 1, .int 0, .ref q2, .ref q3, .ref q4, .ref q5, .null, .int 0, .int 0, .int 0, .int 0, .int 0, .int 0, .null, .int 0, .null, .null, .null, .null, .null, .int 0, .int 0, .int 0, .null, .null, .int 0, .null, .null, .null, .null, .null, .int 0, .int 0, .int 0, .null])), (q1, .inl (g1, 24, .inl (fun _ => 0))), (q2, .inl (g2, 6400, .inl (fun _ => 0))), (q3, .inl (g3, 40, .inl (fun _ => 0))), (q4, .inl (g4, 40, .inl (fun _ => 0))), (q5, .inl (g5, 40, .inl (fun _ => 0)))] := hD
  refine lv_aload_n hx hb d_M_init_50 rfl (lv_at hl 0 rfl) ?_
  refine lv_bipush (v := 40) hx hb d_M_init_51 (by decide) ?_
  refine va_newa (atype := .int) (ty := .int) (a0 := (40, .inl (fun _ => 0))) (N' := 40) hx hb (hts _ (List.mem_cons_of_mem _ lk_58)) rfl hK hP hD hS hA (fun _ => rfl) (by decide) (by decide) (by decide) (Nat.le_of_ble_eq_true rfl) (Nat.le_of_ble_eq_true rfl) d_M_init_53 (fun q6 g6 H hK hP hD hS => ?_)
  have hP : va_P (dC, dI) vwCl [(a0, .inr (4, [.int 0, .int 0, .ref q1, .int 1, .int 0, .ref q2, .ref q3, .ref q4, .ref q5, .null, .int 0, .int 0, .int 0, .int 0, .int 0, .int 0, .null, .int 0, .null, .null, .null, .null, .null, .int 0, .int 0, .int 0, .null, .null, .int 0, .null, .null, .null, .null, .null, .int 0, .int 0, .int 0, .null])), (q1, .inl (g1, 24, .inl (fun _ => 0))), (q2, .inl (g2, 6400, .inl (fun _ => 0))), (q3, .inl (g3, 40, .inl (fun _ => 0))), (q4, .inl (g4, 40, .inl (fun _ => 0))), (q5, .inl (g5, 40, .inl (fun _ => 0))), (q6, .inl (g6, 40, .inl (fun _ => 0)))] H := hP
  have hD : va_D A [(a0, .inr (4, [.int 0, .int 0, .ref q1, .int 1, .int 0, .ref q2, .ref q3, .ref q4, .ref q5, .null, .int 0, .int 0, .int 0, .int 0, .int 0, .int 0, .null, .int 0, .null, .null, .null, .null, .null, .int 0, .int 0, .int 0, .null, .null, .int 0, .null, .null, .null, .null, .null, .int 0, .int 0, .int 0, .null])), (q1, .inl (g1, 24, .inl (fun _ => 0))), (q2, .inl (g2, 6400, .inl (fun _ => 0))), (q3, .inl (g3, 40, .inl (fun _ => 0))), (q4, .inl (g4, 40, .inl (fun _ => 0))), (q5, .inl (g5, 40, .inl (fun _ => 0))), (q6, .inl (g6, 40, .inl (fun _ => 0)))] := hD
  have hK : va_K (dC, dI) vwCl [(g1, .char), (g2, .char), (g3, .int), (g4, .int), (g5, .int), (g6, .int)] s := hK
  refine W.cs (cells' := 6) (slots' := 6584) rfl rfl ?_
  refine va_putF (D := (dC, dI)) (ci := 4) (v := .ref q6) (ty := .array .int) (C := R_M) (T := F_M) (N := 38) hx hb hts (fun w h => List.mem_cons_of_mem _ (in_M w h)) t_M tk_M n_M hown hK hP hD hS 0 rfl rfl 9 (by decide) (hts _ (List.mem_cons_of_mem _ lk_149)) (fun _ h9 => h9) rfl hin rfl (by decide +kernel) rfl rfl (Nat.le_of_ble_eq_true rfl) d_M_init_55 (fun H locs hP hD hS => ?_)
  have hP : va_P (dC, dI) vwCl [(a0, .inr (4, [.int 0, .int 0, .ref q1, .int 1, .int 0, .ref q2, .ref q3, .ref q4, .ref q5, .ref q6, .int 0, .int 0, .int 0, .int 0, .int 0, .int 0, .null, .int 0, .null, .null, .null, .null, .null, .int 0, .int 0, .int 0, .null, .null, .int 0, .null, .null, .null, .null, .null, .int 0, .int 0, .int 0, .null])), (q1, .inl (g1, 24, .inl (fun _ => 0))), (q2, .inl (g2, 6400, .inl (fun _ => 0))), (q3, .inl (g3, 40, .inl (fun _ => 0))), (q4, .inl (g4, 40, .inl (fun _ => 0))), (q5, .inl (g5, 40, .inl (fun _ => 0))), (q6, .inl (g6, 40, .inl (fun _ => 0)))] H := hP
  have hD : va_D A [(a0, .inr (4, [.int 0, .int 0, .ref q1, .int 1, .int 0, .ref q2, .ref q3, .ref q4, .ref q5, .ref q6, .int 0, .int 0, .int 0, .int 0, .int 0, .int 0, .null, .int 0, .null, .null, .null, .null, .null, .int 0, .int 0, .int 0, .null, .null, .int 0, .null, .null, .null, .null, .null, .int 0, .int 0, .int 0, .null])), (q1, .inl (g1, 24, .inl (fun _ => 0))), (q2, .inl (g2, 6400, .inl (fun _ => 0))), (q3, .inl (g3, 40, .inl (fun _ => 0))), (q4, .inl (g4, 40, .inl (fun _ => 0))), (q5, .inl (g5, 40, .inl (fun _ => 0))), (q6, .inl (g6, 40, .inl (fun _ => 0)))] := hD
  refine lv_aload_n hx hb d_M_init_58 rfl (lv_at hl 0 rfl) ?_
  refine lv_iconst (v := (-1)) hx hb d_M_init_59 (by decide) ?_
  refine va_put (D := (dC, dI)) (ci := 4) (v := .int (-1)) (ty := .int) (C := R_M) (T := F_M) (N := 38) hx hb hts (fun w h => List.mem_cons_of_mem _ (in_M w h)) t_M tk_M n_M hown hK hP hD hS 0 rfl rfl 12 (by decide) (hts _ (List.mem_cons_of_mem _ lk_150)) (fun _ h9 => h9) rfl (by decide +kernel) rfl rfl (Nat.le_of_ble_eq_true rfl) d_M_init_60 (fun H locs hP hD hS => ?_)
  have hP : va_P (dC, dI) vwCl [(a0, .inr (4, [.int 0, .int 0, .ref q1, .int 1, .int 0, .ref q2, .ref q3, .ref q4, .ref q5, .ref q6, .int 0, .int 0, .int (-1), .int 0, .int 0, .int 0, .null, .int 0, .null, .null, .null, .null, .null, .int 0, .int 0, .int 0, .null, .null, .int 0, .null, .null, .null, .null, .null, .int 0, .int 0, .int 0, .null])), (q1, .inl (g1, 24, .inl (fun _ => 0))), (q2, .inl (g2, 6400, .inl (fun _ => 0))), (q3, .inl (g3, 40, .inl (fun _ => 0))), (q4, .inl (g4, 40, .inl (fun _ => 0))), (q5, .inl (g5, 40, .inl (fun _ => 0))), (q6, .inl (g6, 40, .inl (fun _ => 0)))] H := hP
  have hD : va_D A [(a0, .inr (4, [.int 0, .int 0, .ref q1, .int 1, .int 0, .ref q2, .ref q3, .ref q4, .ref q5, .ref q6, .int 0, .int 0, .int (-1), .int 0, .int 0, .int 0, .null, .int 0, .null, .null, .null, .null, .null, .int 0, .int 0, .int 0, .null, .null, .int 0, .null, .null, .null, .null, .null, .int 0, .int 0, .int 0, .null])), (q1, .inl (g1, 24, .inl (fun _ => 0))), (q2, .inl (g2, 6400, .inl (fun _ => 0))), (q3, .inl (g3, 40, .inl (fun _ => 0))), (q4, .inl (g4, 40, .inl (fun _ => 0))), (q5, .inl (g5, 40, .inl (fun _ => 0))), (q6, .inl (g6, 40, .inl (fun _ => 0)))] := hD
  refine lv_aload_n hx hb d_M_init_63 rfl (lv_at hl 0 rfl) ?_
  refine lv_iconst (v := (-1)) hx hb d_M_init_64 (by decide) ?_
  refine va_put (D := (dC, dI)) (ci := 4) (v := .int (-1)) (ty := .int) (C := R_M) (T := F_M) (N := 38) hx hb hts (fun w h => List.mem_cons_of_mem _ (in_M w h)) t_M tk_M n_M hown hK hP hD hS 0 rfl rfl 14 (by decide) (hts _ (List.mem_cons_of_mem _ lk_151)) (fun _ h9 => h9) rfl (by decide +kernel) rfl rfl (Nat.le_of_ble_eq_true rfl) d_M_init_65 (fun H locs hP hD hS => ?_)
  have hP : va_P (dC, dI) vwCl [(a0, .inr (4, [.int 0, .int 0, .ref q1, .int 1, .int 0, .ref q2, .ref q3, .ref q4, .ref q5, .ref q6, .int 0, .int 0, .int (-1), .int 0, .int (-1), .int 0, .null, .int 0, .null, .null, .null, .null, .null, .int 0, .int 0, .int 0, .null, .null, .int 0, .null, .null, .null, .null, .null, .int 0, .int 0, .int 0, .null])), (q1, .inl (g1, 24, .inl (fun _ => 0))), (q2, .inl (g2, 6400, .inl (fun _ => 0))), (q3, .inl (g3, 40, .inl (fun _ => 0))), (q4, .inl (g4, 40, .inl (fun _ => 0))), (q5, .inl (g5, 40, .inl (fun _ => 0))), (q6, .inl (g6, 40, .inl (fun _ => 0)))] H := hP
  have hD : va_D A [(a0, .inr (4, [.int 0, .int 0, .ref q1, .int 1, .int 0, .ref q2, .ref q3, .ref q4, .ref q5, .ref q6, .int 0, .int 0, .int (-1), .int 0, .int (-1), .int 0, .null, .int 0, .null, .null, .null, .null, .null, .int 0, .int 0, .int 0, .null, .null, .int 0, .null, .null, .null, .null, .null, .int 0, .int 0, .int 0, .null])), (q1, .inl (g1, 24, .inl (fun _ => 0))), (q2, .inl (g2, 6400, .inl (fun _ => 0))), (q3, .inl (g3, 40, .inl (fun _ => 0))), (q4, .inl (g4, 40, .inl (fun _ => 0))), (q5, .inl (g5, 40, .inl (fun _ => 0))), (q6, .inl (g6, 40, .inl (fun _ => 0)))] := hD
  refine lv_aload_n hx hb d_M_init_68 rfl (lv_at hl 0 rfl) ?_
  refine lv_bipush (v := 24) hx hb d_M_init_69 (by decide) ?_
  refine va_newa (atype := .char) (ty := .char) (a0 := (24, .inl (fun _ => 0))) (N' := 24) hx hb (hts _ (List.mem_cons_of_mem _ lk_20)) rfl hK hP hD hS hA (fun _ => rfl) (by decide) (by decide) (by decide) (Nat.le_of_ble_eq_true rfl) (Nat.le_of_ble_eq_true rfl) d_M_init_71 (fun q7 g7 H hK hP hD hS => ?_)
  have hP : va_P (dC, dI) vwCl [(a0, .inr (4, [.int 0, .int 0, .ref q1, .int 1, .int 0, .ref q2, .ref q3, .ref q4, .ref q5, .ref q6, .int 0, .int 0, .int (-1), .int 0, .int (-1), .int 0, .null, .int 0, .null, .null, .null, .null, .null, .int 0, .int 0, .int 0, .null, .null, .int 0, .null, .null, .null, .null, .null, .int 0, .int 0, .int 0, .null])), (q1, .inl (g1, 24, .inl (fun _ => 0))), (q2, .inl (g2, 6400, .inl (fun _ => 0))), (q3, .inl (g3, 40, .inl (fun _ => 0))), (q4, .inl (g4, 40, .inl (fun _ => 0))), (q5, .inl (g5, 40, .inl (fun _ => 0))), (q6, .inl (g6, 40, .inl (fun _ => 0))), (q7, .inl (g7, 24, .inl (fun _ => 0)))] H := hP
  have hD : va_D A [(a0, .inr (4, [.int 0, .int 0, .ref q1, .int 1, .int 0, .ref q2, .ref q3, .ref q4, .ref q5, .ref q6, .int 0, .int 0, .int (-1), .int 0, .int (-1), .int 0, .null, .int 0, .null, .null, .null, .null, .null, .int 0, .int 0, .int 0, .null, .null, .int 0, .null, .null, .null, .null, .null, .int 0, .int 0, .int 0, .null])), (q1, .inl (g1, 24, .inl (fun _ => 0))), (q2, .inl (g2, 6400, .inl (fun _ => 0))), (q3, .inl (g3, 40, .inl (fun _ => 0))), (q4, .inl (g4, 40, .inl (fun _ => 0))), (q5, .inl (g5, 40, .inl (fun _ => 0))), (q6, .inl (g6, 40, .inl (fun _ => 0))), (q7, .inl (g7, 24, .inl (fun _ => 0)))] := hD
  have hK : va_K (dC, dI) vwCl [(g1, .char), (g2, .char), (g3, .int), (g4, .int), (g5, .int), (g6, .int), (g7, .char)] s := hK
  refine W.cs (cells' := 7) (slots' := 6608) rfl rfl ?_
  refine va_putF (D := (dC, dI)) (ci := 4) (v := .ref q7) (ty := .array .char) (C := R_M) (T := F_M) (N := 38) hx hb hts (fun w h => List.mem_cons_of_mem _ (in_M w h)) t_M tk_M n_M hown hK hP hD hS 0 rfl rfl 16 (by decide) (hts _ (List.mem_cons_of_mem _ lk_152)) (fun _ h9 => h9) rfl hin rfl (by decide +kernel) rfl rfl (Nat.le_of_ble_eq_true rfl) d_M_init_73 (fun H locs hP hD hS => ?_)
  have hP : va_P (dC, dI) vwCl [(a0, .inr (4, [.int 0, .int 0, .ref q1, .int 1, .int 0, .ref q2, .ref q3, .ref q4, .ref q5, .ref q6, .int 0, .int 0, .int (-1), .int 0, .int (-1), .int 0, .ref q7, .int 0, .null, .null, .null, .null, .null, .int 0, .int 0, .int 0, .null, .null, .int 0, .null, .null, .null, .null, .null, .int 0, .int 0, .int 0, .null])), (q1, .inl (g1, 24, .inl (fun _ => 0))), (q2, .inl (g2, 6400, .inl (fun _ => 0))), (q3, .inl (g3, 40, .inl (fun _ => 0))), (q4, .inl (g4, 40, .inl (fun _ => 0))), (q5, .inl (g5, 40, .inl (fun _ => 0))), (q6, .inl (g6, 40, .inl (fun _ => 0))), (q7, .inl (g7, 24, .inl (fun _ => 0)))] H := hP
  have hD : va_D A [(a0, .inr (4, [.int 0, .int 0, .ref q1, .int 1, .int 0, .ref q2, .ref q3, .ref q4, .ref q5, .ref q6, .int 0, .int 0, .int (-1), .int 0, .int (-1), .int 0, .ref q7, .int 0, .null, .null, .null, .null, .null, .int 0, .int 0, .int 0, .null, .null, .int 0, .null, .null, .null, .null, .null, .int 0, .int 0, .int 0, .null])), (q1, .inl (g1, 24, .inl (fun _ => 0))), (q2, .inl (g2, 6400, .inl (fun _ => 0))), (q3, .inl (g3, 40, .inl (fun _ => 0))), (q4, .inl (g4, 40, .inl (fun _ => 0))), (q5, .inl (g5, 40, .inl (fun _ => 0))), (q6, .inl (g6, 40, .inl (fun _ => 0))), (q7, .inl (g7, 24, .inl (fun _ => 0)))] := hD
  refine lv_aload_n hx hb d_M_init_76 rfl (lv_at hl 0 rfl) ?_
  refine lv_sipush (v := 160) hx hb d_M_init_77 (by decide) ?_
  refine va_newa (atype := .int) (ty := .int) (a0 := (160, .inl (fun _ => 0))) (N' := 160) hx hb (hts _ (List.mem_cons_of_mem _ lk_58)) rfl hK hP hD hS hA (fun _ => rfl) (by decide) (by decide) (by decide) (Nat.le_of_ble_eq_true rfl) (Nat.le_of_ble_eq_true rfl) d_M_init_80 (fun q8 g8 H hK hP hD hS => ?_)
  have hP : va_P (dC, dI) vwCl [(a0, .inr (4, [.int 0, .int 0, .ref q1, .int 1, .int 0, .ref q2, .ref q3, .ref q4, .ref q5, .ref q6, .int 0, .int 0, .int (-1), .int 0, .int (-1), .int 0, .ref q7, .int 0, .null, .null, .null, .null, .null, .int 0, .int 0, .int 0, .null, .null, .int 0, .null, .null, .null, .null, .null, .int 0, .int 0, .int 0, .null])), (q1, .inl (g1, 24, .inl (fun _ => 0))), (q2, .inl (g2, 6400, .inl (fun _ => 0))), (q3, .inl (g3, 40, .inl (fun _ => 0))), (q4, .inl (g4, 40, .inl (fun _ => 0))), (q5, .inl (g5, 40, .inl (fun _ => 0))), (q6, .inl (g6, 40, .inl (fun _ => 0))), (q7, .inl (g7, 24, .inl (fun _ => 0))), (q8, .inl (g8, 160, .inl (fun _ => 0)))] H := hP
  have hD : va_D A [(a0, .inr (4, [.int 0, .int 0, .ref q1, .int 1, .int 0, .ref q2, .ref q3, .ref q4, .ref q5, .ref q6, .int 0, .int 0, .int (-1), .int 0, .int (-1), .int 0, .ref q7, .int 0, .null, .null, .null, .null, .null, .int 0, .int 0, .int 0, .null, .null, .int 0, .null, .null, .null, .null, .null, .int 0, .int 0, .int 0, .null])), (q1, .inl (g1, 24, .inl (fun _ => 0))), (q2, .inl (g2, 6400, .inl (fun _ => 0))), (q3, .inl (g3, 40, .inl (fun _ => 0))), (q4, .inl (g4, 40, .inl (fun _ => 0))), (q5, .inl (g5, 40, .inl (fun _ => 0))), (q6, .inl (g6, 40, .inl (fun _ => 0))), (q7, .inl (g7, 24, .inl (fun _ => 0))), (q8, .inl (g8, 160, .inl (fun _ => 0)))] := hD
  have hK : va_K (dC, dI) vwCl [(g1, .char), (g2, .char), (g3, .int), (g4, .int), (g5, .int), (g6, .int), (g7, .char), (g8, .int)] s := hK
  refine W.cs (cells' := 8) (slots' := 6768) rfl rfl ?_
  refine va_putF (D := (dC, dI)) (ci := 4) (v := .ref q8) (ty := .array .int) (C := R_M) (T := F_M) (N := 38) hx hb hts (fun w h => List.mem_cons_of_mem _ (in_M w h)) t_M tk_M n_M hown hK hP hD hS 0 rfl rfl 18 (by decide) (hts _ (List.mem_cons_of_mem _ lk_153)) (fun _ h9 => h9) rfl hin rfl (by decide +kernel) rfl rfl (Nat.le_of_ble_eq_true rfl) d_M_init_82 (fun H locs hP hD hS => ?_)
  have hP : va_P (dC, dI) vwCl [(a0, .inr (4, [.int 0, .int 0, .ref q1, .int 1, .int 0, .ref q2, .ref q3, .ref q4, .ref q5, .ref q6, .int 0, .int 0, .int (-1), .int 0, .int (-1), .int 0, .ref q7, .int 0, .ref q8, .null, .null, .null, .null, .int 0, .int 0, .int 0, .null, .null, .int 0, .null, .null, .null, .null, .null, .int 0, .int 0, .int 0, .null])), (q1, .inl (g1, 24, .inl (fun _ => 0))), (q2, .inl (g2, 6400, .inl (fun _ => 0))), (q3, .inl (g3, 40, .inl (fun _ => 0))), (q4, .inl (g4, 40, .inl (fun _ => 0))), (q5, .inl (g5, 40, .inl (fun _ => 0))), (q6, .inl (g6, 40, .inl (fun _ => 0))), (q7, .inl (g7, 24, .inl (fun _ => 0))), (q8, .inl (g8, 160, .inl (fun _ => 0)))] H := hP
  have hD : va_D A [(a0, .inr (4, [.int 0, .int 0, .ref q1, .int 1, .int 0, .ref q2, .ref q3, .ref q4, .ref q5, .ref q6, .int 0, .int 0, .int (-1), .int 0, .int (-1), .int 0, .ref q7, .int 0, .ref q8, .null, .null, .null, .null, .int 0, .int 0, .int 0, .null, .null, .int 0, .null, .null, .null, .null, .null, .int 0, .int 0, .int 0, .null])), (q1, .inl (g1, 24, .inl (fun _ => 0))), (q2, .inl (g2, 6400, .inl (fun _ => 0))), (q3, .inl (g3, 40, .inl (fun _ => 0))), (q4, .inl (g4, 40, .inl (fun _ => 0))), (q5, .inl (g5, 40, .inl (fun _ => 0))), (q6, .inl (g6, 40, .inl (fun _ => 0))), (q7, .inl (g7, 24, .inl (fun _ => 0))), (q8, .inl (g8, 160, .inl (fun _ => 0)))] := hD
  refine lv_aload_n hx hb d_M_init_85 rfl (lv_at hl 0 rfl) ?_
  refine lv_sipush (v := 160) hx hb d_M_init_86 (by decide) ?_
  refine va_newa (atype := .int) (ty := .int) (a0 := (160, .inl (fun _ => 0))) (N' := 160) hx hb (hts _ (List.mem_cons_of_mem _ lk_58)) rfl hK hP hD hS hA (fun _ => rfl) (by decide) (by decide) (by decide) (Nat.le_of_ble_eq_true rfl) (Nat.le_of_ble_eq_true rfl) d_M_init_89 (fun q9 g9 H hK hP hD hS => ?_)
  have hP : va_P (dC, dI) vwCl [(a0, .inr (4, [.int 0, .int 0, .ref q1, .int 1, .int 0, .ref q2, .ref q3, .ref q4, .ref q5, .ref q6, .int 0, .int 0, .int (-1), .int 0, .int (-1), .int 0, .ref q7, .int 0, .ref q8, .null, .null, .null, .null, .int 0, .int 0, .int 0, .null, .null, .int 0, .null, .null, .null, .null, .null, .int 0, .int 0, .int 0, .null])), (q1, .inl (g1, 24, .inl (fun _ => 0))), (q2, .inl (g2, 6400, .inl (fun _ => 0))), (q3, .inl (g3, 40, .inl (fun _ => 0))), (q4, .inl (g4, 40, .inl (fun _ => 0))), (q5, .inl (g5, 40, .inl (fun _ => 0))), (q6, .inl (g6, 40, .inl (fun _ => 0))), (q7, .inl (g7, 24, .inl (fun _ => 0))), (q8, .inl (g8, 160, .inl (fun _ => 0))), (q9, .inl (g9, 160, .inl (fun _ => 0)))] H := hP
  have hD : va_D A [(a0, .inr (4, [.int 0, .int 0, .ref q1, .int 1, .int 0, .ref q2, .ref q3, .ref q4, .ref q5, .ref q6, .int 0, .int 0, .int (-1), .int 0, .int (-1), .int 0, .ref q7, .int 0, .ref q8, .null, .null, .null, .null, .int 0, .int 0, .int 0, .null, .null, .int 0, .null, .null, .null, .null, .null, .int 0, .int 0, .int 0, .null])), (q1, .inl (g1, 24, .inl (fun _ => 0))), (q2, .inl (g2, 6400, .inl (fun _ => 0))), (q3, .inl (g3, 40, .inl (fun _ => 0))), (q4, .inl (g4, 40, .inl (fun _ => 0))), (q5, .inl (g5, 40, .inl (fun _ => 0))), (q6, .inl (g6, 40, .inl (fun _ => 0))), (q7, .inl (g7, 24, .inl (fun _ => 0))), (q8, .inl (g8, 160, .inl (fun _ => 0))), (q9, .inl (g9, 160, .inl (fun _ => 0)))] := hD
  have hK : va_K (dC, dI) vwCl [(g1, .char), (g2, .char), (g3, .int), (g4, .int), (g5, .int), (g6, .int), (g7, .char), (g8, .int), (g9, .int)] s := hK
  refine W.cs (cells' := 9) (slots' := 6928) rfl rfl ?_
  refine va_putF (D := (dC, dI)) (ci := 4) (v := .ref q9) (ty := .array .int) (C := R_M) (T := F_M) (N := 38) hx hb hts (fun w h => List.mem_cons_of_mem _ (in_M w h)) t_M tk_M n_M hown hK hP hD hS 0 rfl rfl 19 (by decide) (hts _ (List.mem_cons_of_mem _ lk_154)) (fun _ h9 => h9) rfl hin rfl (by decide +kernel) rfl rfl (Nat.le_of_ble_eq_true rfl) d_M_init_91 (fun H locs hP hD hS => ?_)
  have hP : va_P (dC, dI) vwCl [(a0, .inr (4, [.int 0, .int 0, .ref q1, .int 1, .int 0, .ref q2, .ref q3, .ref q4, .ref q5, .ref q6, .int 0, .int 0, .int (-1), .int 0, .int (-1), .int 0, .ref q7, .int 0, .ref q8, .ref q9, .null, .null, .null, .int 0, .int 0, .int 0, .null, .null, .int 0, .null, .null, .null, .null, .null, .int 0, .int 0, .int 0, .null])), (q1, .inl (g1, 24, .inl (fun _ => 0))), (q2, .inl (g2, 6400, .inl (fun _ => 0))), (q3, .inl (g3, 40, .inl (fun _ => 0))), (q4, .inl (g4, 40, .inl (fun _ => 0))), (q5, .inl (g5, 40, .inl (fun _ => 0))), (q6, .inl (g6, 40, .inl (fun _ => 0))), (q7, .inl (g7, 24, .inl (fun _ => 0))), (q8, .inl (g8, 160, .inl (fun _ => 0))), (q9, .inl (g9, 160, .inl (fun _ => 0)))] H := hP
  have hD : va_D A [(a0, .inr (4, [.int 0, .int 0, .ref q1, .int 1, .int 0, .ref q2, .ref q3, .ref q4, .ref q5, .ref q6, .int 0, .int 0, .int (-1), .int 0, .int (-1), .int 0, .ref q7, .int 0, .ref q8, .ref q9, .null, .null, .null, .int 0, .int 0, .int 0, .null, .null, .int 0, .null, .null, .null, .null, .null, .int 0, .int 0, .int 0, .null])), (q1, .inl (g1, 24, .inl (fun _ => 0))), (q2, .inl (g2, 6400, .inl (fun _ => 0))), (q3, .inl (g3, 40, .inl (fun _ => 0))), (q4, .inl (g4, 40, .inl (fun _ => 0))), (q5, .inl (g5, 40, .inl (fun _ => 0))), (q6, .inl (g6, 40, .inl (fun _ => 0))), (q7, .inl (g7, 24, .inl (fun _ => 0))), (q8, .inl (g8, 160, .inl (fun _ => 0))), (q9, .inl (g9, 160, .inl (fun _ => 0)))] := hD
  refine lv_aload_n hx hb d_M_init_94 rfl (lv_at hl 0 rfl) ?_
  refine lv_sipush (v := 160) hx hb d_M_init_95 (by decide) ?_
  refine va_newa (atype := .int) (ty := .int) (a0 := (160, .inl (fun _ => 0))) (N' := 160) hx hb (hts _ (List.mem_cons_of_mem _ lk_58)) rfl hK hP hD hS hA (fun _ => rfl) (by decide) (by decide) (by decide) (Nat.le_of_ble_eq_true rfl) (Nat.le_of_ble_eq_true rfl) d_M_init_98 (fun q10 g10 H hK hP hD hS => ?_)
  have hP : va_P (dC, dI) vwCl [(a0, .inr (4, [.int 0, .int 0, .ref q1, .int 1, .int 0, .ref q2, .ref q3, .ref q4, .ref q5, .ref q6, .int 0, .int 0, .int (-1), .int 0, .int (-1), .int 0, .ref q7, .int 0, .ref q8, .ref q9, .null, .null, .null, .int 0, .int 0, .int 0, .null, .null, .int 0, .null, .null, .null, .null, .null, .int 0, .int 0, .int 0, .null])), (q1, .inl (g1, 24, .inl (fun _ => 0))), (q2, .inl (g2, 6400, .inl (fun _ => 0))), (q3, .inl (g3, 40, .inl (fun _ => 0))), (q4, .inl (g4, 40, .inl (fun _ => 0))), (q5, .inl (g5, 40, .inl (fun _ => 0))), (q6, .inl (g6, 40, .inl (fun _ => 0))), (q7, .inl (g7, 24, .inl (fun _ => 0))), (q8, .inl (g8, 160, .inl (fun _ => 0))), (q9, .inl (g9, 160, .inl (fun _ => 0))), (q10, .inl (g10, 160, .inl (fun _ => 0)))] H := hP
  have hD : va_D A [(a0, .inr (4, [.int 0, .int 0, .ref q1, .int 1, .int 0, .ref q2, .ref q3, .ref q4, .ref q5, .ref q6, .int 0, .int 0, .int (-1), .int 0, .int (-1), .int 0, .ref q7, .int 0, .ref q8, .ref q9, .null, .null, .null, .int 0, .int 0, .int 0, .null, .null, .int 0, .null, .null, .null, .null, .null, .int 0, .int 0, .int 0, .null])), (q1, .inl (g1, 24, .inl (fun _ => 0))), (q2, .inl (g2, 6400, .inl (fun _ => 0))), (q3, .inl (g3, 40, .inl (fun _ => 0))), (q4, .inl (g4, 40, .inl (fun _ => 0))), (q5, .inl (g5, 40, .inl (fun _ => 0))), (q6, .inl (g6, 40, .inl (fun _ => 0))), (q7, .inl (g7, 24, .inl (fun _ => 0))), (q8, .inl (g8, 160, .inl (fun _ => 0))), (q9, .inl (g9, 160, .inl (fun _ => 0))), (q10, .inl (g10, 160, .inl (fun _ => 0)))] := hD
  have hK : va_K (dC, dI) vwCl [(g1, .char), (g2, .char), (g3, .int), (g4, .int), (g5, .int), (g6, .int), (g7, .char), (g8, .int), (g9, .int), (g10, .int)] s := hK
  refine W.cs (cells' := 10) (slots' := 7088) rfl rfl ?_
  refine va_putF (D := (dC, dI)) (ci := 4) (v := .ref q10) (ty := .array .int) (C := R_M) (T := F_M) (N := 38) hx hb hts (fun w h => List.mem_cons_of_mem _ (in_M w h)) t_M tk_M n_M hown hK hP hD hS 0 rfl rfl 20 (by decide) (hts _ (List.mem_cons_of_mem _ lk_155)) (fun _ h9 => h9) rfl hin rfl (by decide +kernel) rfl rfl (Nat.le_of_ble_eq_true rfl) d_M_init_100 (fun H locs hP hD hS => ?_)
  have hP : va_P (dC, dI) vwCl [(a0, .inr (4, [.int 0, .int 0, .ref q1, .int 1, .int 0, .ref q2, .ref q3, .ref q4, .ref q5, .ref q6, .int 0, .int 0, .int (-1), .int 0, .int (-1), .int 0, .ref q7, .int 0, .ref q8, .ref q9, .ref q10, .null, .null, .int 0, .int 0, .int 0, .null, .null, .int 0, .null, .null, .null, .null, .null, .int 0, .int 0, .int 0, .null])), (q1, .inl (g1, 24, .inl (fun _ => 0))), (q2, .inl (g2, 6400, .inl (fun _ => 0))), (q3, .inl (g3, 40, .inl (fun _ => 0))), (q4, .inl (g4, 40, .inl (fun _ => 0))), (q5, .inl (g5, 40, .inl (fun _ => 0))), (q6, .inl (g6, 40, .inl (fun _ => 0))), (q7, .inl (g7, 24, .inl (fun _ => 0))), (q8, .inl (g8, 160, .inl (fun _ => 0))), (q9, .inl (g9, 160, .inl (fun _ => 0))), (q10, .inl (g10, 160, .inl (fun _ => 0)))] H := hP
  have hD : va_D A [(a0, .inr (4, [.int 0, .int 0, .ref q1, .int 1, .int 0, .ref q2, .ref q3, .ref q4, .ref q5, .ref q6, .int 0, .int 0, .int (-1), .int 0, .int (-1), .int 0, .ref q7, .int 0, .ref q8, .ref q9, .ref q10, .null, .null, .int 0, .int 0, .int 0, .null, .null, .int 0, .null, .null, .null, .null, .null, .int 0, .int 0, .int 0, .null])), (q1, .inl (g1, 24, .inl (fun _ => 0))), (q2, .inl (g2, 6400, .inl (fun _ => 0))), (q3, .inl (g3, 40, .inl (fun _ => 0))), (q4, .inl (g4, 40, .inl (fun _ => 0))), (q5, .inl (g5, 40, .inl (fun _ => 0))), (q6, .inl (g6, 40, .inl (fun _ => 0))), (q7, .inl (g7, 24, .inl (fun _ => 0))), (q8, .inl (g8, 160, .inl (fun _ => 0))), (q9, .inl (g9, 160, .inl (fun _ => 0))), (q10, .inl (g10, 160, .inl (fun _ => 0)))] := hD
  refine lv_aload_n hx hb d_M_init_103 rfl (lv_at hl 0 rfl) ?_
  refine lv_sipush (v := 160) hx hb d_M_init_104 (by decide) ?_
  refine va_newa (atype := .int) (ty := .int) (a0 := (160, .inl (fun _ => 0))) (N' := 160) hx hb (hts _ (List.mem_cons_of_mem _ lk_58)) rfl hK hP hD hS hA (fun _ => rfl) (by decide) (by decide) (by decide) (Nat.le_of_ble_eq_true rfl) (Nat.le_of_ble_eq_true rfl) d_M_init_107 (fun q11 g11 H hK hP hD hS => ?_)
  have hP : va_P (dC, dI) vwCl [(a0, .inr (4, [.int 0, .int 0, .ref q1, .int 1, .int 0, .ref q2, .ref q3, .ref q4, .ref q5, .ref q6, .int 0, .int 0, .int (-1), .int 0, .int (-1), .int 0, .ref q7, .int 0, .ref q8, .ref q9, .ref q10, .null, .null, .int 0, .int 0, .int 0, .null, .null, .int 0, .null, .null, .null, .null, .null, .int 0, .int 0, .int 0, .null])), (q1, .inl (g1, 24, .inl (fun _ => 0))), (q2, .inl (g2, 6400, .inl (fun _ => 0))), (q3, .inl (g3, 40, .inl (fun _ => 0))), (q4, .inl (g4, 40, .inl (fun _ => 0))), (q5, .inl (g5, 40, .inl (fun _ => 0))), (q6, .inl (g6, 40, .inl (fun _ => 0))), (q7, .inl (g7, 24, .inl (fun _ => 0))), (q8, .inl (g8, 160, .inl (fun _ => 0))), (q9, .inl (g9, 160, .inl (fun _ => 0))), (q10, .inl (g10, 160, .inl (fun _ => 0))), (q11, .inl (g11, 160, .inl (fun _ => 0)))] H := hP
  have hD : va_D A [(a0, .inr (4, [.int 0, .int 0, .ref q1, .int 1, .int 0, .ref q2, .ref q3, .ref q4, .ref q5, .ref q6, .int 0, .int 0, .int (-1), .int 0, .int (-1), .int 0, .ref q7, .int 0, .ref q8, .ref q9, .ref q10, .null, .null, .int 0, .int 0, .int 0, .null, .null, .int 0, .null, .null, .null, .null, .null, .int 0, .int 0, .int 0, .null])), (q1, .inl (g1, 24, .inl (fun _ => 0))), (q2, .inl (g2, 6400, .inl (fun _ => 0))), (q3, .inl (g3, 40, .inl (fun _ => 0))), (q4, .inl (g4, 40, .inl (fun _ => 0))), (q5, .inl (g5, 40, .inl (fun _ => 0))), (q6, .inl (g6, 40, .inl (fun _ => 0))), (q7, .inl (g7, 24, .inl (fun _ => 0))), (q8, .inl (g8, 160, .inl (fun _ => 0))), (q9, .inl (g9, 160, .inl (fun _ => 0))), (q10, .inl (g10, 160, .inl (fun _ => 0))), (q11, .inl (g11, 160, .inl (fun _ => 0)))] := hD
  have hK : va_K (dC, dI) vwCl [(g1, .char), (g2, .char), (g3, .int), (g4, .int), (g5, .int), (g6, .int), (g7, .char), (g8, .int), (g9, .int), (g10, .int), (g11, .int)] s := hK
  refine W.cs (cells' := 11) (slots' := 7248) rfl rfl ?_
  refine va_putF (D := (dC, dI)) (ci := 4) (v := .ref q11) (ty := .array .int) (C := R_M) (T := F_M) (N := 38) hx hb hts (fun w h => List.mem_cons_of_mem _ (in_M w h)) t_M tk_M n_M hown hK hP hD hS 0 rfl rfl 21 (by decide) (hts _ (List.mem_cons_of_mem _ lk_156)) (fun _ h9 => h9) rfl hin rfl (by decide +kernel) rfl rfl (Nat.le_of_ble_eq_true rfl) d_M_init_109 (fun H locs hP hD hS => ?_)
  have hP : va_P (dC, dI) vwCl [(a0, .inr (4, [.int 0, .int 0, .ref q1, .int 1, .int 0, .ref q2, .ref q3, .ref q4, .ref q5, .ref q6, .int 0, .int 0, .int (-1), .int 0, .int (-1), .int 0, .ref q7, .int 0, .ref q8, .ref q9, .ref q10, .ref q11, .null, .int 0, .int 0, .int 0, .null, .null, .int 0, .null, .null, .null, .null, .null, .int 0, .int 0, .int 0, .null])), (q1, .inl (g1, 24, .inl (fun _ => 0))), (q2, .inl (g2, 6400, .inl (fun _ => 0))), (q3, .inl (g3, 40, .inl (fun _ => 0))), (q4, .inl (g4, 40, .inl (fun _ => 0))), (q5, .inl (g5, 40, .inl (fun _ => 0))), (q6, .inl (g6, 40, .inl (fun _ => 0))), (q7, .inl (g7, 24, .inl (fun _ => 0))), (q8, .inl (g8, 160, .inl (fun _ => 0))), (q9, .inl (g9, 160, .inl (fun _ => 0))), (q10, .inl (g10, 160, .inl (fun _ => 0))), (q11, .inl (g11, 160, .inl (fun _ => 0)))] H := hP
  have hD : va_D A [(a0, .inr (4, [.int 0, .int 0, .ref q1, .int 1, .int 0, .ref q2, .ref q3, .ref q4, .ref q5, .ref q6, .int 0, .int 0, .int (-1), .int 0, .int (-1), .int 0, .ref q7, .int 0, .ref q8, .ref q9, .ref q10, .ref q11, .null, .int 0, .int 0, .int 0, .null, .null, .int 0, .null, .null, .null, .null, .null, .int 0, .int 0, .int 0, .null])), (q1, .inl (g1, 24, .inl (fun _ => 0))), (q2, .inl (g2, 6400, .inl (fun _ => 0))), (q3, .inl (g3, 40, .inl (fun _ => 0))), (q4, .inl (g4, 40, .inl (fun _ => 0))), (q5, .inl (g5, 40, .inl (fun _ => 0))), (q6, .inl (g6, 40, .inl (fun _ => 0))), (q7, .inl (g7, 24, .inl (fun _ => 0))), (q8, .inl (g8, 160, .inl (fun _ => 0))), (q9, .inl (g9, 160, .inl (fun _ => 0))), (q10, .inl (g10, 160, .inl (fun _ => 0))), (q11, .inl (g11, 160, .inl (fun _ => 0)))] := hD
  refine lv_aload_n hx hb d_M_init_112 rfl (lv_at hl 0 rfl) ?_
  refine lv_sipush (v := 160) hx hb d_M_init_113 (by decide) ?_
  refine va_newa (atype := .int) (ty := .int) (a0 := (160, .inl (fun _ => 0))) (N' := 160) hx hb (hts _ (List.mem_cons_of_mem _ lk_58)) rfl hK hP hD hS hA (fun _ => rfl) (by decide) (by decide) (by decide) (Nat.le_of_ble_eq_true rfl) (Nat.le_of_ble_eq_true rfl) d_M_init_116 (fun q12 g12 H hK hP hD hS => ?_)
  have hP : va_P (dC, dI) vwCl [(a0, .inr (4, [.int 0, .int 0, .ref q1, .int 1, .int 0, .ref q2, .ref q3, .ref q4, .ref q5, .ref q6, .int 0, .int 0, .int (-1), .int 0, .int (-1), .int 0, .ref q7, .int 0, .ref q8, .ref q9, .ref q10, .ref q11, .null, .int 0, .int 0, .int 0, .null, .null, .int 0, .null, .null, .null, .null, .null, .int 0, .int 0, .int 0, .null])), (q1, .inl (g1, 24, .inl (fun _ => 0))), (q2, .inl (g2, 6400, .inl (fun _ => 0))), (q3, .inl (g3, 40, .inl (fun _ => 0))), (q4, .inl (g4, 40, .inl (fun _ => 0))), (q5, .inl (g5, 40, .inl (fun _ => 0))), (q6, .inl (g6, 40, .inl (fun _ => 0))), (q7, .inl (g7, 24, .inl (fun _ => 0))), (q8, .inl (g8, 160, .inl (fun _ => 0))), (q9, .inl (g9, 160, .inl (fun _ => 0))), (q10, .inl (g10, 160, .inl (fun _ => 0))), (q11, .inl (g11, 160, .inl (fun _ => 0))), (q12, .inl (g12, 160, .inl (fun _ => 0)))] H := hP
  have hD : va_D A [(a0, .inr (4, [.int 0, .int 0, .ref q1, .int 1, .int 0, .ref q2, .ref q3, .ref q4, .ref q5, .ref q6, .int 0, .int 0, .int (-1), .int 0, .int (-1), .int 0, .ref q7, .int 0, .ref q8, .ref q9, .ref q10, .ref q11, .null, .int 0, .int 0, .int 0, .null, .null, .int 0, .null, .null, .null, .null, .null, .int 0, .int 0, .int 0, .null])), (q1, .inl (g1, 24, .inl (fun _ => 0))), (q2, .inl (g2, 6400, .inl (fun _ => 0))), (q3, .inl (g3, 40, .inl (fun _ => 0))), (q4, .inl (g4, 40, .inl (fun _ => 0))), (q5, .inl (g5, 40, .inl (fun _ => 0))), (q6, .inl (g6, 40, .inl (fun _ => 0))), (q7, .inl (g7, 24, .inl (fun _ => 0))), (q8, .inl (g8, 160, .inl (fun _ => 0))), (q9, .inl (g9, 160, .inl (fun _ => 0))), (q10, .inl (g10, 160, .inl (fun _ => 0))), (q11, .inl (g11, 160, .inl (fun _ => 0))), (q12, .inl (g12, 160, .inl (fun _ => 0)))] := hD
  have hK : va_K (dC, dI) vwCl [(g1, .char), (g2, .char), (g3, .int), (g4, .int), (g5, .int), (g6, .int), (g7, .char), (g8, .int), (g9, .int), (g10, .int), (g11, .int), (g12, .int)] s := hK
  refine W.cs (cells' := 12) (slots' := 7408) rfl rfl ?_
  refine va_putF (D := (dC, dI)) (ci := 4) (v := .ref q12) (ty := .array .int) (C := R_M) (T := F_M) (N := 38) hx hb hts (fun w h => List.mem_cons_of_mem _ (in_M w h)) t_M tk_M n_M hown hK hP hD hS 0 rfl rfl 22 (by decide) (hts _ (List.mem_cons_of_mem _ lk_157)) (fun _ h9 => h9) rfl hin rfl (by decide +kernel) rfl rfl (Nat.le_of_ble_eq_true rfl) d_M_init_118 (fun H locs hP hD hS => ?_)
  have hP : va_P (dC, dI) vwCl [(a0, .inr (4, [.int 0, .int 0, .ref q1, .int 1, .int 0, .ref q2, .ref q3, .ref q4, .ref q5, .ref q6, .int 0, .int 0, .int (-1), .int 0, .int (-1), .int 0, .ref q7, .int 0, .ref q8, .ref q9, .ref q10, .ref q11, .ref q12, .int 0, .int 0, .int 0, .null, .null, .int 0, .null, .null, .null, .null, .null, .int 0, .int 0, .int 0, .null])), (q1, .inl (g1, 24, .inl (fun _ => 0))), (q2, .inl (g2, 6400, .inl (fun _ => 0))), (q3, .inl (g3, 40, .inl (fun _ => 0))), (q4, .inl (g4, 40, .inl (fun _ => 0))), (q5, .inl (g5, 40, .inl (fun _ => 0))), (q6, .inl (g6, 40, .inl (fun _ => 0))), (q7, .inl (g7, 24, .inl (fun _ => 0))), (q8, .inl (g8, 160, .inl (fun _ => 0))), (q9, .inl (g9, 160, .inl (fun _ => 0))), (q10, .inl (g10, 160, .inl (fun _ => 0))), (q11, .inl (g11, 160, .inl (fun _ => 0))), (q12, .inl (g12, 160, .inl (fun _ => 0)))] H := hP
  have hD : va_D A [(a0, .inr (4, [.int 0, .int 0, .ref q1, .int 1, .int 0, .ref q2, .ref q3, .ref q4, .ref q5, .ref q6, .int 0, .int 0, .int (-1), .int 0, .int (-1), .int 0, .ref q7, .int 0, .ref q8, .ref q9, .ref q10, .ref q11, .ref q12, .int 0, .int 0, .int 0, .null, .null, .int 0, .null, .null, .null, .null, .null, .int 0, .int 0, .int 0, .null])), (q1, .inl (g1, 24, .inl (fun _ => 0))), (q2, .inl (g2, 6400, .inl (fun _ => 0))), (q3, .inl (g3, 40, .inl (fun _ => 0))), (q4, .inl (g4, 40, .inl (fun _ => 0))), (q5, .inl (g5, 40, .inl (fun _ => 0))), (q6, .inl (g6, 40, .inl (fun _ => 0))), (q7, .inl (g7, 24, .inl (fun _ => 0))), (q8, .inl (g8, 160, .inl (fun _ => 0))), (q9, .inl (g9, 160, .inl (fun _ => 0))), (q10, .inl (g10, 160, .inl (fun _ => 0))), (q11, .inl (g11, 160, .inl (fun _ => 0))), (q12, .inl (g12, 160, .inl (fun _ => 0)))] := hD
  refine lv_aload_n hx hb d_M_init_121 rfl (lv_at hl 0 rfl) ?_
  refine lv_sipush (v := 160) hx hb d_M_init_122 (by decide) ?_
  refine va_newa (atype := .int) (ty := .int) (a0 := (160, .inl (fun _ => 0))) (N' := 160) hx hb (hts _ (List.mem_cons_of_mem _ lk_58)) rfl hK hP hD hS hA (fun _ => rfl) (by decide) (by decide) (by decide) (Nat.le_of_ble_eq_true rfl) (Nat.le_of_ble_eq_true rfl) d_M_init_125 (fun q13 g13 H hK hP hD hS => ?_)
  have hP : va_P (dC, dI) vwCl [(a0, .inr (4, [.int 0, .int 0, .ref q1, .int 1, .int 0, .ref q2, .ref q3, .ref q4, .ref q5, .ref q6, .int 0, .int 0, .int (-1), .int 0, .int (-1), .int 0, .ref q7, .int 0, .ref q8, .ref q9, .ref q10, .ref q11, .ref q12, .int 0, .int 0, .int 0, .null, .null, .int 0, .null, .null, .null, .null, .null, .int 0, .int 0, .int 0, .null])), (q1, .inl (g1, 24, .inl (fun _ => 0))), (q2, .inl (g2, 6400, .inl (fun _ => 0))), (q3, .inl (g3, 40, .inl (fun _ => 0))), (q4, .inl (g4, 40, .inl (fun _ => 0))), (q5, .inl (g5, 40, .inl (fun _ => 0))), (q6, .inl (g6, 40, .inl (fun _ => 0))), (q7, .inl (g7, 24, .inl (fun _ => 0))), (q8, .inl (g8, 160, .inl (fun _ => 0))), (q9, .inl (g9, 160, .inl (fun _ => 0))), (q10, .inl (g10, 160, .inl (fun _ => 0))), (q11, .inl (g11, 160, .inl (fun _ => 0))), (q12, .inl (g12, 160, .inl (fun _ => 0))), (q13, .inl (g13, 160, .inl (fun _ => 0)))] H := hP
  have hD : va_D A [(a0, .inr (4, [.int 0, .int 0, .ref q1, .int 1, .int 0, .ref q2, .ref q3, .ref q4, .ref q5, .ref q6, .int 0, .int 0, .int (-1), .int 0, .int (-1), .int 0, .ref q7, .int 0, .ref q8, .ref q9, .ref q10, .ref q11, .ref q12, .int 0, .int 0, .int 0, .null, .null, .int 0, .null, .null, .null, .null, .null, .int 0, .int 0, .int 0, .null])), (q1, .inl (g1, 24, .inl (fun _ => 0))), (q2, .inl (g2, 6400, .inl (fun _ => 0))), (q3, .inl (g3, 40, .inl (fun _ => 0))), (q4, .inl (g4, 40, .inl (fun _ => 0))), (q5, .inl (g5, 40, .inl (fun _ => 0))), (q6, .inl (g6, 40, .inl (fun _ => 0))), (q7, .inl (g7, 24, .inl (fun _ => 0))), (q8, .inl (g8, 160, .inl (fun _ => 0))), (q9, .inl (g9, 160, .inl (fun _ => 0))), (q10, .inl (g10, 160, .inl (fun _ => 0))), (q11, .inl (g11, 160, .inl (fun _ => 0))), (q12, .inl (g12, 160, .inl (fun _ => 0))), (q13, .inl (g13, 160, .inl (fun _ => 0)))] := hD
  have hK : va_K (dC, dI) vwCl [(g1, .char), (g2, .char), (g3, .int), (g4, .int), (g5, .int), (g6, .int), (g7, .char), (g8, .int), (g9, .int), (g10, .int), (g11, .int), (g12, .int), (g13, .int)] s := hK
  refine W.cs (cells' := 13) (slots' := 7568) rfl rfl ?_
  refine va_putF (D := (dC, dI)) (ci := 4) (v := .ref q13) (ty := .array .int) (C := R_M) (T := F_M) (N := 38) hx hb hts (fun w h => List.mem_cons_of_mem _ (in_M w h)) t_M tk_M n_M hown hK hP hD hS 0 rfl rfl 26 (by decide) (hts _ (List.mem_cons_of_mem _ lk_158)) (fun _ h9 => h9) rfl hin rfl (by decide +kernel) rfl rfl (Nat.le_of_ble_eq_true rfl) d_M_init_127 (fun H locs hP hD hS => ?_)
  have hP : va_P (dC, dI) vwCl [(a0, .inr (4, [.int 0, .int 0, .ref q1, .int 1, .int 0, .ref q2, .ref q3, .ref q4, .ref q5, .ref q6, .int 0, .int 0, .int (-1), .int 0, .int (-1), .int 0, .ref q7, .int 0, .ref q8, .ref q9, .ref q10, .ref q11, .ref q12, .int 0, .int 0, .int 0, .ref q13, .null, .int 0, .null, .null, .null, .null, .null, .int 0, .int 0, .int 0, .null])), (q1, .inl (g1, 24, .inl (fun _ => 0))), (q2, .inl (g2, 6400, .inl (fun _ => 0))), (q3, .inl (g3, 40, .inl (fun _ => 0))), (q4, .inl (g4, 40, .inl (fun _ => 0))), (q5, .inl (g5, 40, .inl (fun _ => 0))), (q6, .inl (g6, 40, .inl (fun _ => 0))), (q7, .inl (g7, 24, .inl (fun _ => 0))), (q8, .inl (g8, 160, .inl (fun _ => 0))), (q9, .inl (g9, 160, .inl (fun _ => 0))), (q10, .inl (g10, 160, .inl (fun _ => 0))), (q11, .inl (g11, 160, .inl (fun _ => 0))), (q12, .inl (g12, 160, .inl (fun _ => 0))), (q13, .inl (g13, 160, .inl (fun _ => 0)))] H := hP
  have hD : va_D A [(a0, .inr (4, [.int 0, .int 0, .ref q1, .int 1, .int 0, .ref q2, .ref q3, .ref q4, .ref q5, .ref q6, .int 0, .int 0, .int (-1), .int 0, .int (-1), .int 0, .ref q7, .int 0, .ref q8, .ref q9, .ref q10, .ref q11, .ref q12, .int 0, .int 0, .int 0, .ref q13, .null, .int 0, .null, .null, .null, .null, .null, .int 0, .int 0, .int 0, .null])), (q1, .inl (g1, 24, .inl (fun _ => 0))), (q2, .inl (g2, 6400, .inl (fun _ => 0))), (q3, .inl (g3, 40, .inl (fun _ => 0))), (q4, .inl (g4, 40, .inl (fun _ => 0))), (q5, .inl (g5, 40, .inl (fun _ => 0))), (q6, .inl (g6, 40, .inl (fun _ => 0))), (q7, .inl (g7, 24, .inl (fun _ => 0))), (q8, .inl (g8, 160, .inl (fun _ => 0))), (q9, .inl (g9, 160, .inl (fun _ => 0))), (q10, .inl (g10, 160, .inl (fun _ => 0))), (q11, .inl (g11, 160, .inl (fun _ => 0))), (q12, .inl (g12, 160, .inl (fun _ => 0))), (q13, .inl (g13, 160, .inl (fun _ => 0)))] := hD
  refine lv_aload_n hx hb d_M_init_130 rfl (lv_at hl 0 rfl) ?_
  refine lv_sipush (v := 160) hx hb d_M_init_131 (by decide) ?_
  refine va_newa (atype := .int) (ty := .int) (a0 := (160, .inl (fun _ => 0))) (N' := 160) hx hb (hts _ (List.mem_cons_of_mem _ lk_58)) rfl hK hP hD hS hA (fun _ => rfl) (by decide) (by decide) (by decide) (Nat.le_of_ble_eq_true rfl) (Nat.le_of_ble_eq_true rfl) d_M_init_134 (fun q14 g14 H hK hP hD hS => ?_)
  have hP : va_P (dC, dI) vwCl [(a0, .inr (4, [.int 0, .int 0, .ref q1, .int 1, .int 0, .ref q2, .ref q3, .ref q4, .ref q5, .ref q6, .int 0, .int 0, .int (-1), .int 0, .int (-1), .int 0, .ref q7, .int 0, .ref q8, .ref q9, .ref q10, .ref q11, .ref q12, .int 0, .int 0, .int 0, .ref q13, .null, .int 0, .null, .null, .null, .null, .null, .int 0, .int 0, .int 0, .null])), (q1, .inl (g1, 24, .inl (fun _ => 0))), (q2, .inl (g2, 6400, .inl (fun _ => 0))), (q3, .inl (g3, 40, .inl (fun _ => 0))), (q4, .inl (g4, 40, .inl (fun _ => 0))), (q5, .inl (g5, 40, .inl (fun _ => 0))), (q6, .inl (g6, 40, .inl (fun _ => 0))), (q7, .inl (g7, 24, .inl (fun _ => 0))), (q8, .inl (g8, 160, .inl (fun _ => 0))), (q9, .inl (g9, 160, .inl (fun _ => 0))), (q10, .inl (g10, 160, .inl (fun _ => 0))), (q11, .inl (g11, 160, .inl (fun _ => 0))), (q12, .inl (g12, 160, .inl (fun _ => 0))), (q13, .inl (g13, 160, .inl (fun _ => 0))), (q14, .inl (g14, 160, .inl (fun _ => 0)))] H := hP
  have hD : va_D A [(a0, .inr (4, [.int 0, .int 0, .ref q1, .int 1, .int 0, .ref q2, .ref q3, .ref q4, .ref q5, .ref q6, .int 0, .int 0, .int (-1), .int 0, .int (-1), .int 0, .ref q7, .int 0, .ref q8, .ref q9, .ref q10, .ref q11, .ref q12, .int 0, .int 0, .int 0, .ref q13, .null, .int 0, .null, .null, .null, .null, .null, .int 0, .int 0, .int 0, .null])), (q1, .inl (g1, 24, .inl (fun _ => 0))), (q2, .inl (g2, 6400, .inl (fun _ => 0))), (q3, .inl (g3, 40, .inl (fun _ => 0))), (q4, .inl (g4, 40, .inl (fun _ => 0))), (q5, .inl (g5, 40, .inl (fun _ => 0))), (q6, .inl (g6, 40, .inl (fun _ => 0))), (q7, .inl (g7, 24, .inl (fun _ => 0))), (q8, .inl (g8, 160, .inl (fun _ => 0))), (q9, .inl (g9, 160, .inl (fun _ => 0))), (q10, .inl (g10, 160, .inl (fun _ => 0))), (q11, .inl (g11, 160, .inl (fun _ => 0))), (q12, .inl (g12, 160, .inl (fun _ => 0))), (q13, .inl (g13, 160, .inl (fun _ => 0))), (q14, .inl (g14, 160, .inl (fun _ => 0)))] := hD
  have hK : va_K (dC, dI) vwCl [(g1, .char), (g2, .char), (g3, .int), (g4, .int), (g5, .int), (g6, .int), (g7, .char), (g8, .int), (g9, .int), (g10, .int), (g11, .int), (g12, .int), (g13, .int), (g14, .int)] s := hK
  refine W.cs (cells' := 14) (slots' := 7728) rfl rfl ?_
  refine va_putF (D := (dC, dI)) (ci := 4) (v := .ref q14) (ty := .array .int) (C := R_M) (T := F_M) (N := 38) hx hb hts (fun w h => List.mem_cons_of_mem _ (in_M w h)) t_M tk_M n_M hown hK hP hD hS 0 rfl rfl 27 (by decide) (hts _ (List.mem_cons_of_mem _ lk_159)) (fun _ h9 => h9) rfl hin rfl (by decide +kernel) rfl rfl (Nat.le_of_ble_eq_true rfl) d_M_init_136 (fun H locs hP hD hS => ?_)
  have hP : va_P (dC, dI) vwCl [(a0, .inr (4, [.int 0, .int 0, .ref q1, .int 1, .int 0, .ref q2, .ref q3, .ref q4, .ref q5, .ref q6, .int 0, .int 0, .int (-1), .int 0, .int (-1), .int 0, .ref q7, .int 0, .ref q8, .ref q9, .ref q10, .ref q11, .ref q12, .int 0, .int 0, .int 0, .ref q13, .ref q14, .int 0, .null, .null, .null, .null, .null, .int 0, .int 0, .int 0, .null])), (q1, .inl (g1, 24, .inl (fun _ => 0))), (q2, .inl (g2, 6400, .inl (fun _ => 0))), (q3, .inl (g3, 40, .inl (fun _ => 0))), (q4, .inl (g4, 40, .inl (fun _ => 0))), (q5, .inl (g5, 40, .inl (fun _ => 0))), (q6, .inl (g6, 40, .inl (fun _ => 0))), (q7, .inl (g7, 24, .inl (fun _ => 0))), (q8, .inl (g8, 160, .inl (fun _ => 0))), (q9, .inl (g9, 160, .inl (fun _ => 0))), (q10, .inl (g10, 160, .inl (fun _ => 0))), (q11, .inl (g11, 160, .inl (fun _ => 0))), (q12, .inl (g12, 160, .inl (fun _ => 0))), (q13, .inl (g13, 160, .inl (fun _ => 0))), (q14, .inl (g14, 160, .inl (fun _ => 0)))] H := hP
  have hD : va_D A [(a0, .inr (4, [.int 0, .int 0, .ref q1, .int 1, .int 0, .ref q2, .ref q3, .ref q4, .ref q5, .ref q6, .int 0, .int 0, .int (-1), .int 0, .int (-1), .int 0, .ref q7, .int 0, .ref q8, .ref q9, .ref q10, .ref q11, .ref q12, .int 0, .int 0, .int 0, .ref q13, .ref q14, .int 0, .null, .null, .null, .null, .null, .int 0, .int 0, .int 0, .null])), (q1, .inl (g1, 24, .inl (fun _ => 0))), (q2, .inl (g2, 6400, .inl (fun _ => 0))), (q3, .inl (g3, 40, .inl (fun _ => 0))), (q4, .inl (g4, 40, .inl (fun _ => 0))), (q5, .inl (g5, 40, .inl (fun _ => 0))), (q6, .inl (g6, 40, .inl (fun _ => 0))), (q7, .inl (g7, 24, .inl (fun _ => 0))), (q8, .inl (g8, 160, .inl (fun _ => 0))), (q9, .inl (g9, 160, .inl (fun _ => 0))), (q10, .inl (g10, 160, .inl (fun _ => 0))), (q11, .inl (g11, 160, .inl (fun _ => 0))), (q12, .inl (g12, 160, .inl (fun _ => 0))), (q13, .inl (g13, 160, .inl (fun _ => 0))), (q14, .inl (g14, 160, .inl (fun _ => 0)))] := hD
  refine lv_aload_n hx hb d_M_init_139 rfl (lv_at hl 0 rfl) ?_
  refine lv_bipush (v := 26) hx hb d_M_init_140 (by decide) ?_
  refine va_newa (atype := .int) (ty := .int) (a0 := (26, .inl (fun _ => 0))) (N' := 26) hx hb (hts _ (List.mem_cons_of_mem _ lk_58)) rfl hK hP hD hS hA (fun _ => rfl) (by decide) (by decide) (by decide) (Nat.le_of_ble_eq_true rfl) (Nat.le_of_ble_eq_true rfl) d_M_init_142 (fun q15 g15 H hK hP hD hS => ?_)
  have hP : va_P (dC, dI) vwCl [(a0, .inr (4, [.int 0, .int 0, .ref q1, .int 1, .int 0, .ref q2, .ref q3, .ref q4, .ref q5, .ref q6, .int 0, .int 0, .int (-1), .int 0, .int (-1), .int 0, .ref q7, .int 0, .ref q8, .ref q9, .ref q10, .ref q11, .ref q12, .int 0, .int 0, .int 0, .ref q13, .ref q14, .int 0, .null, .null, .null, .null, .null, .int 0, .int 0, .int 0, .null])), (q1, .inl (g1, 24, .inl (fun _ => 0))), (q2, .inl (g2, 6400, .inl (fun _ => 0))), (q3, .inl (g3, 40, .inl (fun _ => 0))), (q4, .inl (g4, 40, .inl (fun _ => 0))), (q5, .inl (g5, 40, .inl (fun _ => 0))), (q6, .inl (g6, 40, .inl (fun _ => 0))), (q7, .inl (g7, 24, .inl (fun _ => 0))), (q8, .inl (g8, 160, .inl (fun _ => 0))), (q9, .inl (g9, 160, .inl (fun _ => 0))), (q10, .inl (g10, 160, .inl (fun _ => 0))), (q11, .inl (g11, 160, .inl (fun _ => 0))), (q12, .inl (g12, 160, .inl (fun _ => 0))), (q13, .inl (g13, 160, .inl (fun _ => 0))), (q14, .inl (g14, 160, .inl (fun _ => 0))), (q15, .inl (g15, 26, .inl (fun _ => 0)))] H := hP
  have hD : va_D A [(a0, .inr (4, [.int 0, .int 0, .ref q1, .int 1, .int 0, .ref q2, .ref q3, .ref q4, .ref q5, .ref q6, .int 0, .int 0, .int (-1), .int 0, .int (-1), .int 0, .ref q7, .int 0, .ref q8, .ref q9, .ref q10, .ref q11, .ref q12, .int 0, .int 0, .int 0, .ref q13, .ref q14, .int 0, .null, .null, .null, .null, .null, .int 0, .int 0, .int 0, .null])), (q1, .inl (g1, 24, .inl (fun _ => 0))), (q2, .inl (g2, 6400, .inl (fun _ => 0))), (q3, .inl (g3, 40, .inl (fun _ => 0))), (q4, .inl (g4, 40, .inl (fun _ => 0))), (q5, .inl (g5, 40, .inl (fun _ => 0))), (q6, .inl (g6, 40, .inl (fun _ => 0))), (q7, .inl (g7, 24, .inl (fun _ => 0))), (q8, .inl (g8, 160, .inl (fun _ => 0))), (q9, .inl (g9, 160, .inl (fun _ => 0))), (q10, .inl (g10, 160, .inl (fun _ => 0))), (q11, .inl (g11, 160, .inl (fun _ => 0))), (q12, .inl (g12, 160, .inl (fun _ => 0))), (q13, .inl (g13, 160, .inl (fun _ => 0))), (q14, .inl (g14, 160, .inl (fun _ => 0))), (q15, .inl (g15, 26, .inl (fun _ => 0)))] := hD
  have hK : va_K (dC, dI) vwCl [(g1, .char), (g2, .char), (g3, .int), (g4, .int), (g5, .int), (g6, .int), (g7, .char), (g8, .int), (g9, .int), (g10, .int), (g11, .int), (g12, .int), (g13, .int), (g14, .int), (g15, .int)] s := hK
  refine W.cs (cells' := 15) (slots' := 7754) rfl rfl ?_
  refine va_putF (D := (dC, dI)) (ci := 4) (v := .ref q15) (ty := .array .int) (C := R_M) (T := F_M) (N := 38) hx hb hts (fun w h => List.mem_cons_of_mem _ (in_M w h)) t_M tk_M n_M hown hK hP hD hS 0 rfl rfl 29 (by decide) (hts _ (List.mem_cons_of_mem _ lk_160)) (fun _ h9 => h9) rfl hin rfl (by decide +kernel) rfl rfl (Nat.le_of_ble_eq_true rfl) d_M_init_144 (fun H locs hP hD hS => ?_)
  have hP : va_P (dC, dI) vwCl [(a0, .inr (4, [.int 0, .int 0, .ref q1, .int 1, .int 0, .ref q2, .ref q3, .ref q4, .ref q5, .ref q6, .int 0, .int 0, .int (-1), .int 0, .int (-1), .int 0, .ref q7, .int 0, .ref q8, .ref q9, .ref q10, .ref q11, .ref q12, .int 0, .int 0, .int 0, .ref q13, .ref q14, .int 0, .ref q15, .null, .null, .null, .null, .int 0, .int 0, .int 0, .null])), (q1, .inl (g1, 24, .inl (fun _ => 0))), (q2, .inl (g2, 6400, .inl (fun _ => 0))), (q3, .inl (g3, 40, .inl (fun _ => 0))), (q4, .inl (g4, 40, .inl (fun _ => 0))), (q5, .inl (g5, 40, .inl (fun _ => 0))), (q6, .inl (g6, 40, .inl (fun _ => 0))), (q7, .inl (g7, 24, .inl (fun _ => 0))), (q8, .inl (g8, 160, .inl (fun _ => 0))), (q9, .inl (g9, 160, .inl (fun _ => 0))), (q10, .inl (g10, 160, .inl (fun _ => 0))), (q11, .inl (g11, 160, .inl (fun _ => 0))), (q12, .inl (g12, 160, .inl (fun _ => 0))), (q13, .inl (g13, 160, .inl (fun _ => 0))), (q14, .inl (g14, 160, .inl (fun _ => 0))), (q15, .inl (g15, 26, .inl (fun _ => 0)))] H := hP
  have hD : va_D A [(a0, .inr (4, [.int 0, .int 0, .ref q1, .int 1, .int 0, .ref q2, .ref q3, .ref q4, .ref q5, .ref q6, .int 0, .int 0, .int (-1), .int 0, .int (-1), .int 0, .ref q7, .int 0, .ref q8, .ref q9, .ref q10, .ref q11, .ref q12, .int 0, .int 0, .int 0, .ref q13, .ref q14, .int 0, .ref q15, .null, .null, .null, .null, .int 0, .int 0, .int 0, .null])), (q1, .inl (g1, 24, .inl (fun _ => 0))), (q2, .inl (g2, 6400, .inl (fun _ => 0))), (q3, .inl (g3, 40, .inl (fun _ => 0))), (q4, .inl (g4, 40, .inl (fun _ => 0))), (q5, .inl (g5, 40, .inl (fun _ => 0))), (q6, .inl (g6, 40, .inl (fun _ => 0))), (q7, .inl (g7, 24, .inl (fun _ => 0))), (q8, .inl (g8, 160, .inl (fun _ => 0))), (q9, .inl (g9, 160, .inl (fun _ => 0))), (q10, .inl (g10, 160, .inl (fun _ => 0))), (q11, .inl (g11, 160, .inl (fun _ => 0))), (q12, .inl (g12, 160, .inl (fun _ => 0))), (q13, .inl (g13, 160, .inl (fun _ => 0))), (q14, .inl (g14, 160, .inl (fun _ => 0))), (q15, .inl (g15, 26, .inl (fun _ => 0)))] := hD
  refine lv_aload_n hx hb d_M_init_147 rfl (lv_at hl 0 rfl) ?_
  refine lv_bipush (v := 26) hx hb d_M_init_148 (by decide) ?_
  refine va_newa (atype := .int) (ty := .int) (a0 := (26, .inl (fun _ => 0))) (N' := 26) hx hb (hts _ (List.mem_cons_of_mem _ lk_58)) rfl hK hP hD hS hA (fun _ => rfl) (by decide) (by decide) (by decide) (Nat.le_of_ble_eq_true rfl) (Nat.le_of_ble_eq_true rfl) d_M_init_150 (fun q16 g16 H hK hP hD hS => ?_)
  have hP : va_P (dC, dI) vwCl [(a0, .inr (4, [.int 0, .int 0, .ref q1, .int 1, .int 0, .ref q2, .ref q3, .ref q4, .ref q5, .ref q6, .int 0, .int 0, .int (-1), .int 0, .int (-1), .int 0, .ref q7, .int 0, .ref q8, .ref q9, .ref q10, .ref q11, .ref q12, .int 0, .int 0, .int 0, .ref q13, .ref q14, .int 0, .ref q15, .null, .null, .null, .null, .int 0, .int 0, .int 0, .null])), (q1, .inl (g1, 24, .inl (fun _ => 0))), (q2, .inl (g2, 6400, .inl (fun _ => 0))), (q3, .inl (g3, 40, .inl (fun _ => 0))), (q4, .inl (g4, 40, .inl (fun _ => 0))), (q5, .inl (g5, 40, .inl (fun _ => 0))), (q6, .inl (g6, 40, .inl (fun _ => 0))), (q7, .inl (g7, 24, .inl (fun _ => 0))), (q8, .inl (g8, 160, .inl (fun _ => 0))), (q9, .inl (g9, 160, .inl (fun _ => 0))), (q10, .inl (g10, 160, .inl (fun _ => 0))), (q11, .inl (g11, 160, .inl (fun _ => 0))), (q12, .inl (g12, 160, .inl (fun _ => 0))), (q13, .inl (g13, 160, .inl (fun _ => 0))), (q14, .inl (g14, 160, .inl (fun _ => 0))), (q15, .inl (g15, 26, .inl (fun _ => 0))), (q16, .inl (g16, 26, .inl (fun _ => 0)))] H := hP
  have hD : va_D A [(a0, .inr (4, [.int 0, .int 0, .ref q1, .int 1, .int 0, .ref q2, .ref q3, .ref q4, .ref q5, .ref q6, .int 0, .int 0, .int (-1), .int 0, .int (-1), .int 0, .ref q7, .int 0, .ref q8, .ref q9, .ref q10, .ref q11, .ref q12, .int 0, .int 0, .int 0, .ref q13, .ref q14, .int 0, .ref q15, .null, .null, .null, .null, .int 0, .int 0, .int 0, .null])), (q1, .inl (g1, 24, .inl (fun _ => 0))), (q2, .inl (g2, 6400, .inl (fun _ => 0))), (q3, .inl (g3, 40, .inl (fun _ => 0))), (q4, .inl (g4, 40, .inl (fun _ => 0))), (q5, .inl (g5, 40, .inl (fun _ => 0))), (q6, .inl (g6, 40, .inl (fun _ => 0))), (q7, .inl (g7, 24, .inl (fun _ => 0))), (q8, .inl (g8, 160, .inl (fun _ => 0))), (q9, .inl (g9, 160, .inl (fun _ => 0))), (q10, .inl (g10, 160, .inl (fun _ => 0))), (q11, .inl (g11, 160, .inl (fun _ => 0))), (q12, .inl (g12, 160, .inl (fun _ => 0))), (q13, .inl (g13, 160, .inl (fun _ => 0))), (q14, .inl (g14, 160, .inl (fun _ => 0))), (q15, .inl (g15, 26, .inl (fun _ => 0))), (q16, .inl (g16, 26, .inl (fun _ => 0)))] := hD
  have hK : va_K (dC, dI) vwCl [(g1, .char), (g2, .char), (g3, .int), (g4, .int), (g5, .int), (g6, .int), (g7, .char), (g8, .int), (g9, .int), (g10, .int), (g11, .int), (g12, .int), (g13, .int), (g14, .int), (g15, .int), (g16, .int)] s := hK
  refine W.cs (cells' := 16) (slots' := 7780) rfl rfl ?_
  refine va_putF (D := (dC, dI)) (ci := 4) (v := .ref q16) (ty := .array .int) (C := R_M) (T := F_M) (N := 38) hx hb hts (fun w h => List.mem_cons_of_mem _ (in_M w h)) t_M tk_M n_M hown hK hP hD hS 0 rfl rfl 30 (by decide) (hts _ (List.mem_cons_of_mem _ lk_161)) (fun _ h9 => h9) rfl hin rfl (by decide +kernel) rfl rfl (Nat.le_of_ble_eq_true rfl) d_M_init_152 (fun H locs hP hD hS => ?_)
  have hP : va_P (dC, dI) vwCl [(a0, .inr (4, [.int 0, .int 0, .ref q1, .int 1, .int 0, .ref q2, .ref q3, .ref q4, .ref q5, .ref q6, .int 0, .int 0, .int (-1), .int 0, .int (-1), .int 0, .ref q7, .int 0, .ref q8, .ref q9, .ref q10, .ref q11, .ref q12, .int 0, .int 0, .int 0, .ref q13, .ref q14, .int 0, .ref q15, .ref q16, .null, .null, .null, .int 0, .int 0, .int 0, .null])), (q1, .inl (g1, 24, .inl (fun _ => 0))), (q2, .inl (g2, 6400, .inl (fun _ => 0))), (q3, .inl (g3, 40, .inl (fun _ => 0))), (q4, .inl (g4, 40, .inl (fun _ => 0))), (q5, .inl (g5, 40, .inl (fun _ => 0))), (q6, .inl (g6, 40, .inl (fun _ => 0))), (q7, .inl (g7, 24, .inl (fun _ => 0))), (q8, .inl (g8, 160, .inl (fun _ => 0))), (q9, .inl (g9, 160, .inl (fun _ => 0))), (q10, .inl (g10, 160, .inl (fun _ => 0))), (q11, .inl (g11, 160, .inl (fun _ => 0))), (q12, .inl (g12, 160, .inl (fun _ => 0))), (q13, .inl (g13, 160, .inl (fun _ => 0))), (q14, .inl (g14, 160, .inl (fun _ => 0))), (q15, .inl (g15, 26, .inl (fun _ => 0))), (q16, .inl (g16, 26, .inl (fun _ => 0)))] H := hP
  have hD : va_D A [(a0, .inr (4, [.int 0, .int 0, .ref q1, .int 1, .int 0, .ref q2, .ref q3, .ref q4, .ref q5, .ref q6, .int 0, .int 0, .int (-1), .int 0, .int (-1), .int 0, .ref q7, .int 0, .ref q8, .ref q9, .ref q10, .ref q11, .ref q12, .int 0, .int 0, .int 0, .ref q13, .ref q14, .int 0, .ref q15, .ref q16, .null, .null, .null, .int 0, .int 0, .int 0, .null])), (q1, .inl (g1, 24, .inl (fun _ => 0))), (q2, .inl (g2, 6400, .inl (fun _ => 0))), (q3, .inl (g3, 40, .inl (fun _ => 0))), (q4, .inl (g4, 40, .inl (fun _ => 0))), (q5, .inl (g5, 40, .inl (fun _ => 0))), (q6, .inl (g6, 40, .inl (fun _ => 0))), (q7, .inl (g7, 24, .inl (fun _ => 0))), (q8, .inl (g8, 160, .inl (fun _ => 0))), (q9, .inl (g9, 160, .inl (fun _ => 0))), (q10, .inl (g10, 160, .inl (fun _ => 0))), (q11, .inl (g11, 160, .inl (fun _ => 0))), (q12, .inl (g12, 160, .inl (fun _ => 0))), (q13, .inl (g13, 160, .inl (fun _ => 0))), (q14, .inl (g14, 160, .inl (fun _ => 0))), (q15, .inl (g15, 26, .inl (fun _ => 0))), (q16, .inl (g16, 26, .inl (fun _ => 0)))] := hD
  refine lv_aload_n hx hb d_M_init_155 rfl (lv_at hl 0 rfl) ?_
  refine lv_bipush (v := 26) hx hb d_M_init_156 (by decide) ?_
  refine va_newa (atype := .int) (ty := .int) (a0 := (26, .inl (fun _ => 0))) (N' := 26) hx hb (hts _ (List.mem_cons_of_mem _ lk_58)) rfl hK hP hD hS hA (fun _ => rfl) (by decide) (by decide) (by decide) (Nat.le_of_ble_eq_true rfl) (Nat.le_of_ble_eq_true rfl) d_M_init_158 (fun q17 g17 H hK hP hD hS => ?_)
  have hP : va_P (dC, dI) vwCl [(a0, .inr (4, [.int 0, .int 0, .ref q1, .int 1, .int 0, .ref q2, .ref q3, .ref q4, .ref q5, .ref q6, .int 0, .int 0, .int (-1), .int 0, .int (-1), .int 0, .ref q7, .int 0, .ref q8, .ref q9, .ref q10, .ref q11, .ref q12, .int 0, .int 0, .int 0, .ref q13, .ref q14, .int 0, .ref q15, .ref q16, .null, .null, .null, .int 0, .int 0, .int 0, .null])), (q1, .inl (g1, 24, .inl (fun _ => 0))), (q2, .inl (g2, 6400, .inl (fun _ => 0))), (q3, .inl (g3, 40, .inl (fun _ => 0))), (q4, .inl (g4, 40, .inl (fun _ => 0))), (q5, .inl (g5, 40, .inl (fun _ => 0))), (q6, .inl (g6, 40, .inl (fun _ => 0))), (q7, .inl (g7, 24, .inl (fun _ => 0))), (q8, .inl (g8, 160, .inl (fun _ => 0))), (q9, .inl (g9, 160, .inl (fun _ => 0))), (q10, .inl (g10, 160, .inl (fun _ => 0))), (q11, .inl (g11, 160, .inl (fun _ => 0))), (q12, .inl (g12, 160, .inl (fun _ => 0))), (q13, .inl (g13, 160, .inl (fun _ => 0))), (q14, .inl (g14, 160, .inl (fun _ => 0))), (q15, .inl (g15, 26, .inl (fun _ => 0))), (q16, .inl (g16, 26, .inl (fun _ => 0))), (q17, .inl (g17, 26, .inl (fun _ => 0)))] H := hP
  have hD : va_D A [(a0, .inr (4, [.int 0, .int 0, .ref q1, .int 1, .int 0, .ref q2, .ref q3, .ref q4, .ref q5, .ref q6, .int 0, .int 0, .int (-1), .int 0, .int (-1), .int 0, .ref q7, .int 0, .ref q8, .ref q9, .ref q10, .ref q11, .ref q12, .int 0, .int 0, .int 0, .ref q13, .ref q14, .int 0, .ref q15, .ref q16, .null, .null, .null, .int 0, .int 0, .int 0, .null])), (q1, .inl (g1, 24, .inl (fun _ => 0))), (q2, .inl (g2, 6400, .inl (fun _ => 0))), (q3, .inl (g3, 40, .inl (fun _ => 0))), (q4, .inl (g4, 40, .inl (fun _ => 0))), (q5, .inl (g5, 40, .inl (fun _ => 0))), (q6, .inl (g6, 40, .inl (fun _ => 0))), (q7, .inl (g7, 24, .inl (fun _ => 0))), (q8, .inl (g8, 160, .inl (fun _ => 0))), (q9, .inl (g9, 160, .inl (fun _ => 0))), (q10, .inl (g10, 160, .inl (fun _ => 0))), (q11, .inl (g11, 160, .inl (fun _ => 0))), (q12, .inl (g12, 160, .inl (fun _ => 0))), (q13, .inl (g13, 160, .inl (fun _ => 0))), (q14, .inl (g14, 160, .inl (fun _ => 0))), (q15, .inl (g15, 26, .inl (fun _ => 0))), (q16, .inl (g16, 26, .inl (fun _ => 0))), (q17, .inl (g17, 26, .inl (fun _ => 0)))] := hD
  have hK : va_K (dC, dI) vwCl [(g1, .char), (g2, .char), (g3, .int), (g4, .int), (g5, .int), (g6, .int), (g7, .char), (g8, .int), (g9, .int), (g10, .int), (g11, .int), (g12, .int), (g13, .int), (g14, .int), (g15, .int), (g16, .int), (g17, .int)] s := hK
  refine W.cs (cells' := 17) (slots' := 7806) rfl rfl ?_
  refine va_putF (D := (dC, dI)) (ci := 4) (v := .ref q17) (ty := .array .int) (C := R_M) (T := F_M) (N := 38) hx hb hts (fun w h => List.mem_cons_of_mem _ (in_M w h)) t_M tk_M n_M hown hK hP hD hS 0 rfl rfl 31 (by decide) (hts _ (List.mem_cons_of_mem _ lk_162)) (fun _ h9 => h9) rfl hin rfl (by decide +kernel) rfl rfl (Nat.le_of_ble_eq_true rfl) d_M_init_160 (fun H locs hP hD hS => ?_)
  have hP : va_P (dC, dI) vwCl [(a0, .inr (4, [.int 0, .int 0, .ref q1, .int 1, .int 0, .ref q2, .ref q3, .ref q4, .ref q5, .ref q6, .int 0, .int 0, .int (-1), .int 0, .int (-1), .int 0, .ref q7, .int 0, .ref q8, .ref q9, .ref q10, .ref q11, .ref q12, .int 0, .int 0, .int 0, .ref q13, .ref q14, .int 0, .ref q15, .ref q16, .ref q17, .null, .null, .int 0, .int 0, .int 0, .null])), (q1, .inl (g1, 24, .inl (fun _ => 0))), (q2, .inl (g2, 6400, .inl (fun _ => 0))), (q3, .inl (g3, 40, .inl (fun _ => 0))), (q4, .inl (g4, 40, .inl (fun _ => 0))), (q5, .inl (g5, 40, .inl (fun _ => 0))), (q6, .inl (g6, 40, .inl (fun _ => 0))), (q7, .inl (g7, 24, .inl (fun _ => 0))), (q8, .inl (g8, 160, .inl (fun _ => 0))), (q9, .inl (g9, 160, .inl (fun _ => 0))), (q10, .inl (g10, 160, .inl (fun _ => 0))), (q11, .inl (g11, 160, .inl (fun _ => 0))), (q12, .inl (g12, 160, .inl (fun _ => 0))), (q13, .inl (g13, 160, .inl (fun _ => 0))), (q14, .inl (g14, 160, .inl (fun _ => 0))), (q15, .inl (g15, 26, .inl (fun _ => 0))), (q16, .inl (g16, 26, .inl (fun _ => 0))), (q17, .inl (g17, 26, .inl (fun _ => 0)))] H := hP
  have hD : va_D A [(a0, .inr (4, [.int 0, .int 0, .ref q1, .int 1, .int 0, .ref q2, .ref q3, .ref q4, .ref q5, .ref q6, .int 0, .int 0, .int (-1), .int 0, .int (-1), .int 0, .ref q7, .int 0, .ref q8, .ref q9, .ref q10, .ref q11, .ref q12, .int 0, .int 0, .int 0, .ref q13, .ref q14, .int 0, .ref q15, .ref q16, .ref q17, .null, .null, .int 0, .int 0, .int 0, .null])), (q1, .inl (g1, 24, .inl (fun _ => 0))), (q2, .inl (g2, 6400, .inl (fun _ => 0))), (q3, .inl (g3, 40, .inl (fun _ => 0))), (q4, .inl (g4, 40, .inl (fun _ => 0))), (q5, .inl (g5, 40, .inl (fun _ => 0))), (q6, .inl (g6, 40, .inl (fun _ => 0))), (q7, .inl (g7, 24, .inl (fun _ => 0))), (q8, .inl (g8, 160, .inl (fun _ => 0))), (q9, .inl (g9, 160, .inl (fun _ => 0))), (q10, .inl (g10, 160, .inl (fun _ => 0))), (q11, .inl (g11, 160, .inl (fun _ => 0))), (q12, .inl (g12, 160, .inl (fun _ => 0))), (q13, .inl (g13, 160, .inl (fun _ => 0))), (q14, .inl (g14, 160, .inl (fun _ => 0))), (q15, .inl (g15, 26, .inl (fun _ => 0))), (q16, .inl (g16, 26, .inl (fun _ => 0))), (q17, .inl (g17, 26, .inl (fun _ => 0)))] := hD
  refine lv_aload_n hx hb d_M_init_163 rfl (lv_at hl 0 rfl) ?_
  refine lv_sipush (v := 160) hx hb d_M_init_164 (by decide) ?_
  refine va_newa (atype := .boolean) (ty := .boolean) (a0 := (160, .inl (fun _ => 0))) (N' := 160) hx hb (hts _ (List.mem_cons_of_mem _ lk_163)) rfl hK hP hD hS hA (fun _ => rfl) (by decide) (by decide) (by decide) (Nat.le_of_ble_eq_true rfl) (Nat.le_of_ble_eq_true rfl) d_M_init_167 (fun q18 g18 H hK hP hD hS => ?_)
  have hP : va_P (dC, dI) vwCl [(a0, .inr (4, [.int 0, .int 0, .ref q1, .int 1, .int 0, .ref q2, .ref q3, .ref q4, .ref q5, .ref q6, .int 0, .int 0, .int (-1), .int 0, .int (-1), .int 0, .ref q7, .int 0, .ref q8, .ref q9, .ref q10, .ref q11, .ref q12, .int 0, .int 0, .int 0, .ref q13, .ref q14, .int 0, .ref q15, .ref q16, .ref q17, .null, .null, .int 0, .int 0, .int 0, .null])), (q1, .inl (g1, 24, .inl (fun _ => 0))), (q2, .inl (g2, 6400, .inl (fun _ => 0))), (q3, .inl (g3, 40, .inl (fun _ => 0))), (q4, .inl (g4, 40, .inl (fun _ => 0))), (q5, .inl (g5, 40, .inl (fun _ => 0))), (q6, .inl (g6, 40, .inl (fun _ => 0))), (q7, .inl (g7, 24, .inl (fun _ => 0))), (q8, .inl (g8, 160, .inl (fun _ => 0))), (q9, .inl (g9, 160, .inl (fun _ => 0))), (q10, .inl (g10, 160, .inl (fun _ => 0))), (q11, .inl (g11, 160, .inl (fun _ => 0))), (q12, .inl (g12, 160, .inl (fun _ => 0))), (q13, .inl (g13, 160, .inl (fun _ => 0))), (q14, .inl (g14, 160, .inl (fun _ => 0))), (q15, .inl (g15, 26, .inl (fun _ => 0))), (q16, .inl (g16, 26, .inl (fun _ => 0))), (q17, .inl (g17, 26, .inl (fun _ => 0))), (q18, .inl (g18, 160, .inl (fun _ => 0)))] H := hP
  have hD : va_D A [(a0, .inr (4, [.int 0, .int 0, .ref q1, .int 1, .int 0, .ref q2, .ref q3, .ref q4, .ref q5, .ref q6, .int 0, .int 0, .int (-1), .int 0, .int (-1), .int 0, .ref q7, .int 0, .ref q8, .ref q9, .ref q10, .ref q11, .ref q12, .int 0, .int 0, .int 0, .ref q13, .ref q14, .int 0, .ref q15, .ref q16, .ref q17, .null, .null, .int 0, .int 0, .int 0, .null])), (q1, .inl (g1, 24, .inl (fun _ => 0))), (q2, .inl (g2, 6400, .inl (fun _ => 0))), (q3, .inl (g3, 40, .inl (fun _ => 0))), (q4, .inl (g4, 40, .inl (fun _ => 0))), (q5, .inl (g5, 40, .inl (fun _ => 0))), (q6, .inl (g6, 40, .inl (fun _ => 0))), (q7, .inl (g7, 24, .inl (fun _ => 0))), (q8, .inl (g8, 160, .inl (fun _ => 0))), (q9, .inl (g9, 160, .inl (fun _ => 0))), (q10, .inl (g10, 160, .inl (fun _ => 0))), (q11, .inl (g11, 160, .inl (fun _ => 0))), (q12, .inl (g12, 160, .inl (fun _ => 0))), (q13, .inl (g13, 160, .inl (fun _ => 0))), (q14, .inl (g14, 160, .inl (fun _ => 0))), (q15, .inl (g15, 26, .inl (fun _ => 0))), (q16, .inl (g16, 26, .inl (fun _ => 0))), (q17, .inl (g17, 26, .inl (fun _ => 0))), (q18, .inl (g18, 160, .inl (fun _ => 0)))] := hD
  have hK : va_K (dC, dI) vwCl [(g1, .char), (g2, .char), (g3, .int), (g4, .int), (g5, .int), (g6, .int), (g7, .char), (g8, .int), (g9, .int), (g10, .int), (g11, .int), (g12, .int), (g13, .int), (g14, .int), (g15, .int), (g16, .int), (g17, .int), (g18, .boolean)] s := hK
  refine W.cs (cells' := 18) (slots' := 7966) rfl rfl ?_
  refine va_putF (D := (dC, dI)) (ci := 4) (v := .ref q18) (ty := .array .boolean) (C := R_M) (T := F_M) (N := 38) hx hb hts (fun w h => List.mem_cons_of_mem _ (in_M w h)) t_M tk_M n_M hown hK hP hD hS 0 rfl rfl 32 (by decide) (hts _ (List.mem_cons_of_mem _ lk_164)) (fun _ h9 => h9) rfl hin rfl (by decide +kernel) rfl rfl (Nat.le_of_ble_eq_true rfl) d_M_init_169 (fun H locs hP hD hS => ?_)
  have hP : va_P (dC, dI) vwCl [(a0, .inr (4, [.int 0, .int 0, .ref q1, .int 1, .int 0, .ref q2, .ref q3, .ref q4, .ref q5, .ref q6, .int 0, .int 0, .int (-1), .int 0, .int (-1), .int 0, .ref q7, .int 0, .ref q8, .ref q9, .ref q10, .ref q11, .ref q12, .int 0, .int 0, .int 0, .ref q13, .ref q14, .int 0, .ref q15, .ref q16, .ref q17, .ref q18, .null, .int 0, .int 0, .int 0, .null])), (q1, .inl (g1, 24, .inl (fun _ => 0))), (q2, .inl (g2, 6400, .inl (fun _ => 0))), (q3, .inl (g3, 40, .inl (fun _ => 0))), (q4, .inl (g4, 40, .inl (fun _ => 0))), (q5, .inl (g5, 40, .inl (fun _ => 0))), (q6, .inl (g6, 40, .inl (fun _ => 0))), (q7, .inl (g7, 24, .inl (fun _ => 0))), (q8, .inl (g8, 160, .inl (fun _ => 0))), (q9, .inl (g9, 160, .inl (fun _ => 0))), (q10, .inl (g10, 160, .inl (fun _ => 0))), (q11, .inl (g11, 160, .inl (fun _ => 0))), (q12, .inl (g12, 160, .inl (fun _ => 0))), (q13, .inl (g13, 160, .inl (fun _ => 0))), (q14, .inl (g14, 160, .inl (fun _ => 0))), (q15, .inl (g15, 26, .inl (fun _ => 0))), (q16, .inl (g16, 26, .inl (fun _ => 0))), (q17, .inl (g17, 26, .inl (fun _ => 0))), (q18, .inl (g18, 160, .inl (fun _ => 0)))] H := hP
  have hD : va_D A [(a0, .inr (4, [.int 0, .int 0, .ref q1, .int 1, .int 0, .ref q2, .ref q3, .ref q4, .ref q5, .ref q6, .int 0, .int 0, .int (-1), .int 0, .int (-1), .int 0, .ref q7, .int 0, .ref q8, .ref q9, .ref q10, .ref q11, .ref q12, .int 0, .int 0, .int 0, .ref q13, .ref q14, .int 0, .ref q15, .ref q16, .ref q17, .ref q18, .null, .int 0, .int 0, .int 0, .null])), (q1, .inl (g1, 24, .inl (fun _ => 0))), (q2, .inl (g2, 6400, .inl (fun _ => 0))), (q3, .inl (g3, 40, .inl (fun _ => 0))), (q4, .inl (g4, 40, .inl (fun _ => 0))), (q5, .inl (g5, 40, .inl (fun _ => 0))), (q6, .inl (g6, 40, .inl (fun _ => 0))), (q7, .inl (g7, 24, .inl (fun _ => 0))), (q8, .inl (g8, 160, .inl (fun _ => 0))), (q9, .inl (g9, 160, .inl (fun _ => 0))), (q10, .inl (g10, 160, .inl (fun _ => 0))), (q11, .inl (g11, 160, .inl (fun _ => 0))), (q12, .inl (g12, 160, .inl (fun _ => 0))), (q13, .inl (g13, 160, .inl (fun _ => 0))), (q14, .inl (g14, 160, .inl (fun _ => 0))), (q15, .inl (g15, 26, .inl (fun _ => 0))), (q16, .inl (g16, 26, .inl (fun _ => 0))), (q17, .inl (g17, 26, .inl (fun _ => 0))), (q18, .inl (g18, 160, .inl (fun _ => 0)))] := hD
  refine lv_aload_n hx hb d_M_init_172 rfl (lv_at hl 0 rfl) ?_
  refine lv_sipush (v := 160) hx hb d_M_init_173 (by decide) ?_
  refine va_newa (atype := .boolean) (ty := .boolean) (a0 := (160, .inl (fun _ => 0))) (N' := 160) hx hb (hts _ (List.mem_cons_of_mem _ lk_163)) rfl hK hP hD hS hA (fun _ => rfl) (by decide) (by decide) (by decide) (Nat.le_of_ble_eq_true rfl) (Nat.le_of_ble_eq_true rfl) d_M_init_176 (fun q19 g19 H hK hP hD hS => ?_)
  have hP : va_P (dC, dI) vwCl [(a0, .inr (4, [.int 0, .int 0, .ref q1, .int 1, .int 0, .ref q2, .ref q3, .ref q4, .ref q5, .ref q6, .int 0, .int 0, .int (-1), .int 0, .int (-1), .int 0, .ref q7, .int 0, .ref q8, .ref q9, .ref q10, .ref q11, .ref q12, .int 0, .int 0, .int 0, .ref q13, .ref q14, .int 0, .ref q15, .ref q16, .ref q17, .ref q18, .null, .int 0, .int 0, .int 0, .null])), (q1, .inl (g1, 24, .inl (fun _ => 0))), (q2, .inl (g2, 6400, .inl (fun _ => 0))), (q3, .inl (g3, 40, .inl (fun _ => 0))), (q4, .inl (g4, 40, .inl (fun _ => 0))), (q5, .inl (g5, 40, .inl (fun _ => 0))), (q6, .inl (g6, 40, .inl (fun _ => 0))), (q7, .inl (g7, 24, .inl (fun _ => 0))), (q8, .inl (g8, 160, .inl (fun _ => 0))), (q9, .inl (g9, 160, .inl (fun _ => 0))), (q10, .inl (g10, 160, .inl (fun _ => 0))), (q11, .inl (g11, 160, .inl (fun _ => 0))), (q12, .inl (g12, 160, .inl (fun _ => 0))), (q13, .inl (g13, 160, .inl (fun _ => 0))), (q14, .inl (g14, 160, .inl (fun _ => 0))), (q15, .inl (g15, 26, .inl (fun _ => 0))), (q16, .inl (g16, 26, .inl (fun _ => 0))), (q17, .inl (g17, 26, .inl (fun _ => 0))), (q18, .inl (g18, 160, .inl (fun _ => 0))), (q19, .inl (g19, 160, .inl (fun _ => 0)))] H := hP
  have hD : va_D A [(a0, .inr (4, [.int 0, .int 0, .ref q1, .int 1, .int 0, .ref q2, .ref q3, .ref q4, .ref q5, .ref q6, .int 0, .int 0, .int (-1), .int 0, .int (-1), .int 0, .ref q7, .int 0, .ref q8, .ref q9, .ref q10, .ref q11, .ref q12, .int 0, .int 0, .int 0, .ref q13, .ref q14, .int 0, .ref q15, .ref q16, .ref q17, .ref q18, .null, .int 0, .int 0, .int 0, .null])), (q1, .inl (g1, 24, .inl (fun _ => 0))), (q2, .inl (g2, 6400, .inl (fun _ => 0))), (q3, .inl (g3, 40, .inl (fun _ => 0))), (q4, .inl (g4, 40, .inl (fun _ => 0))), (q5, .inl (g5, 40, .inl (fun _ => 0))), (q6, .inl (g6, 40, .inl (fun _ => 0))), (q7, .inl (g7, 24, .inl (fun _ => 0))), (q8, .inl (g8, 160, .inl (fun _ => 0))), (q9, .inl (g9, 160, .inl (fun _ => 0))), (q10, .inl (g10, 160, .inl (fun _ => 0))), (q11, .inl (g11, 160, .inl (fun _ => 0))), (q12, .inl (g12, 160, .inl (fun _ => 0))), (q13, .inl (g13, 160, .inl (fun _ => 0))), (q14, .inl (g14, 160, .inl (fun _ => 0))), (q15, .inl (g15, 26, .inl (fun _ => 0))), (q16, .inl (g16, 26, .inl (fun _ => 0))), (q17, .inl (g17, 26, .inl (fun _ => 0))), (q18, .inl (g18, 160, .inl (fun _ => 0))), (q19, .inl (g19, 160, .inl (fun _ => 0)))] := hD
  have hK : va_K (dC, dI) vwCl [(g1, .char), (g2, .char), (g3, .int), (g4, .int), (g5, .int), (g6, .int), (g7, .char), (g8, .int), (g9, .int), (g10, .int), (g11, .int), (g12, .int), (g13, .int), (g14, .int), (g15, .int), (g16, .int), (g17, .int), (g18, .boolean), (g19, .boolean)] s := hK
  refine W.cs (cells' := 19) (slots' := 8126) rfl rfl ?_
  refine va_putF (D := (dC, dI)) (ci := 4) (v := .ref q19) (ty := .array .boolean) (C := R_M) (T := F_M) (N := 38) hx hb hts (fun w h => List.mem_cons_of_mem _ (in_M w h)) t_M tk_M n_M hown hK hP hD hS 0 rfl rfl 33 (by decide) (hts _ (List.mem_cons_of_mem _ lk_165)) (fun _ h9 => h9) rfl hin rfl (by decide +kernel) rfl rfl (Nat.le_of_ble_eq_true rfl) d_M_init_178 (fun H locs hP hD hS => ?_)
  have hP : va_P (dC, dI) vwCl [(a0, .inr (4, [.int 0, .int 0, .ref q1, .int 1, .int 0, .ref q2, .ref q3, .ref q4, .ref q5, .ref q6, .int 0, .int 0, .int (-1), .int 0, .int (-1), .int 0, .ref q7, .int 0, .ref q8, .ref q9, .ref q10, .ref q11, .ref q12, .int 0, .int 0, .int 0, .ref q13, .ref q14, .int 0, .ref q15, .ref q16, .ref q17, .ref q18, .ref q19, .int 0, .int 0, .int 0, .null])), (q1, .inl (g1, 24, .inl (fun _ => 0))), (q2, .inl (g2, 6400, .inl (fun _ => 0))), (q3, .inl (g3, 40, .inl (fun _ => 0))), (q4, .inl (g4, 40, .inl (fun _ => 0))), (q5, .inl (g5, 40, .inl (fun _ => 0))), (q6, .inl (g6, 40, .inl (fun _ => 0))), (q7, .inl (g7, 24, .inl (fun _ => 0))), (q8, .inl (g8, 160, .inl (fun _ => 0))), (q9, .inl (g9, 160, .inl (fun _ => 0))), (q10, .inl (g10, 160, .inl (fun _ => 0))), (q11, .inl (g11, 160, .inl (fun _ => 0))), (q12, .inl (g12, 160, .inl (fun _ => 0))), (q13, .inl (g13, 160, .inl (fun _ => 0))), (q14, .inl (g14, 160, .inl (fun _ => 0))), (q15, .inl (g15, 26, .inl (fun _ => 0))), (q16, .inl (g16, 26, .inl (fun _ => 0))), (q17, .inl (g17, 26, .inl (fun _ => 0))), (q18, .inl (g18, 160, .inl (fun _ => 0))), (q19, .inl (g19, 160, .inl (fun _ => 0)))] H := hP
  have hD : va_D A [(a0, .inr (4, [.int 0, .int 0, .ref q1, .int 1, .int 0, .ref q2, .ref q3, .ref q4, .ref q5, .ref q6, .int 0, .int 0, .int (-1), .int 0, .int (-1), .int 0, .ref q7, .int 0, .ref q8, .ref q9, .ref q10, .ref q11, .ref q12, .int 0, .int 0, .int 0, .ref q13, .ref q14, .int 0, .ref q15, .ref q16, .ref q17, .ref q18, .ref q19, .int 0, .int 0, .int 0, .null])), (q1, .inl (g1, 24, .inl (fun _ => 0))), (q2, .inl (g2, 6400, .inl (fun _ => 0))), (q3, .inl (g3, 40, .inl (fun _ => 0))), (q4, .inl (g4, 40, .inl (fun _ => 0))), (q5, .inl (g5, 40, .inl (fun _ => 0))), (q6, .inl (g6, 40, .inl (fun _ => 0))), (q7, .inl (g7, 24, .inl (fun _ => 0))), (q8, .inl (g8, 160, .inl (fun _ => 0))), (q9, .inl (g9, 160, .inl (fun _ => 0))), (q10, .inl (g10, 160, .inl (fun _ => 0))), (q11, .inl (g11, 160, .inl (fun _ => 0))), (q12, .inl (g12, 160, .inl (fun _ => 0))), (q13, .inl (g13, 160, .inl (fun _ => 0))), (q14, .inl (g14, 160, .inl (fun _ => 0))), (q15, .inl (g15, 26, .inl (fun _ => 0))), (q16, .inl (g16, 26, .inl (fun _ => 0))), (q17, .inl (g17, 26, .inl (fun _ => 0))), (q18, .inl (g18, 160, .inl (fun _ => 0))), (q19, .inl (g19, 160, .inl (fun _ => 0)))] := hD
  refine lv_aload_n hx hb d_M_init_181 rfl (lv_at hl 0 rfl) ?_
  refine lv_sipush (v := 4000) hx hb d_M_init_182 (by decide) ?_
  refine va_newa (atype := .char) (ty := .char) (a0 := (4000, .inl (fun _ => 0))) (N' := 4000) hx hb (hts _ (List.mem_cons_of_mem _ lk_20)) rfl hK hP hD hS hA (fun _ => rfl) (by decide) (by decide) (by decide) (Nat.le_of_ble_eq_true rfl) (Nat.le_of_ble_eq_true rfl) d_M_init_185 (fun q20 g20 H hK hP hD hS => ?_)
  have hP : va_P (dC, dI) vwCl [(a0, .inr (4, [.int 0, .int 0, .ref q1, .int 1, .int 0, .ref q2, .ref q3, .ref q4, .ref q5, .ref q6, .int 0, .int 0, .int (-1), .int 0, .int (-1), .int 0, .ref q7, .int 0, .ref q8, .ref q9, .ref q10, .ref q11, .ref q12, .int 0, .int 0, .int 0, .ref q13, .ref q14, .int 0, .ref q15, .ref q16, .ref q17, .ref q18, .ref q19, .int 0, .int 0, .int 0, .null])), (q1, .inl (g1, 24, .inl (fun _ => 0))), (q2, .inl (g2, 6400, .inl (fun _ => 0))), (q3, .inl (g3, 40, .inl (fun _ => 0))), (q4, .inl (g4, 40, .inl (fun _ => 0))), (q5, .inl (g5, 40, .inl (fun _ => 0))), (q6, .inl (g6, 40, .inl (fun _ => 0))), (q7, .inl (g7, 24, .inl (fun _ => 0))), (q8, .inl (g8, 160, .inl (fun _ => 0))), (q9, .inl (g9, 160, .inl (fun _ => 0))), (q10, .inl (g10, 160, .inl (fun _ => 0))), (q11, .inl (g11, 160, .inl (fun _ => 0))), (q12, .inl (g12, 160, .inl (fun _ => 0))), (q13, .inl (g13, 160, .inl (fun _ => 0))), (q14, .inl (g14, 160, .inl (fun _ => 0))), (q15, .inl (g15, 26, .inl (fun _ => 0))), (q16, .inl (g16, 26, .inl (fun _ => 0))), (q17, .inl (g17, 26, .inl (fun _ => 0))), (q18, .inl (g18, 160, .inl (fun _ => 0))), (q19, .inl (g19, 160, .inl (fun _ => 0))), (q20, .inl (g20, 4000, .inl (fun _ => 0)))] H := hP
  have hD : va_D A [(a0, .inr (4, [.int 0, .int 0, .ref q1, .int 1, .int 0, .ref q2, .ref q3, .ref q4, .ref q5, .ref q6, .int 0, .int 0, .int (-1), .int 0, .int (-1), .int 0, .ref q7, .int 0, .ref q8, .ref q9, .ref q10, .ref q11, .ref q12, .int 0, .int 0, .int 0, .ref q13, .ref q14, .int 0, .ref q15, .ref q16, .ref q17, .ref q18, .ref q19, .int 0, .int 0, .int 0, .null])), (q1, .inl (g1, 24, .inl (fun _ => 0))), (q2, .inl (g2, 6400, .inl (fun _ => 0))), (q3, .inl (g3, 40, .inl (fun _ => 0))), (q4, .inl (g4, 40, .inl (fun _ => 0))), (q5, .inl (g5, 40, .inl (fun _ => 0))), (q6, .inl (g6, 40, .inl (fun _ => 0))), (q7, .inl (g7, 24, .inl (fun _ => 0))), (q8, .inl (g8, 160, .inl (fun _ => 0))), (q9, .inl (g9, 160, .inl (fun _ => 0))), (q10, .inl (g10, 160, .inl (fun _ => 0))), (q11, .inl (g11, 160, .inl (fun _ => 0))), (q12, .inl (g12, 160, .inl (fun _ => 0))), (q13, .inl (g13, 160, .inl (fun _ => 0))), (q14, .inl (g14, 160, .inl (fun _ => 0))), (q15, .inl (g15, 26, .inl (fun _ => 0))), (q16, .inl (g16, 26, .inl (fun _ => 0))), (q17, .inl (g17, 26, .inl (fun _ => 0))), (q18, .inl (g18, 160, .inl (fun _ => 0))), (q19, .inl (g19, 160, .inl (fun _ => 0))), (q20, .inl (g20, 4000, .inl (fun _ => 0)))] := hD
  have hK : va_K (dC, dI) vwCl [(g1, .char), (g2, .char), (g3, .int), (g4, .int), (g5, .int), (g6, .int), (g7, .char), (g8, .int), (g9, .int), (g10, .int), (g11, .int), (g12, .int), (g13, .int), (g14, .int), (g15, .int), (g16, .int), (g17, .int), (g18, .boolean), (g19, .boolean), (g20, .char)] s := hK
  refine W.cs (cells' := 20) (slots' := 12126) rfl rfl ?_
  refine va_putF (D := (dC, dI)) (ci := 4) (v := .ref q20) (ty := .array .char) (C := R_M) (T := F_M) (N := 38) hx hb hts (fun w h => List.mem_cons_of_mem _ (in_M w h)) t_M tk_M n_M hown hK hP hD hS 0 rfl rfl 37 (by decide) (hts _ (List.mem_cons_of_mem _ lk_166)) (fun _ h9 => h9) rfl hin rfl (by decide +kernel) rfl rfl (Nat.le_of_ble_eq_true rfl) d_M_init_187 (fun H locs hP hD hS => ?_)
  have hP : va_P (dC, dI) vwCl [(a0, .inr (4, [.int 0, .int 0, .ref q1, .int 1, .int 0, .ref q2, .ref q3, .ref q4, .ref q5, .ref q6, .int 0, .int 0, .int (-1), .int 0, .int (-1), .int 0, .ref q7, .int 0, .ref q8, .ref q9, .ref q10, .ref q11, .ref q12, .int 0, .int 0, .int 0, .ref q13, .ref q14, .int 0, .ref q15, .ref q16, .ref q17, .ref q18, .ref q19, .int 0, .int 0, .int 0, .ref q20])), (q1, .inl (g1, 24, .inl (fun _ => 0))), (q2, .inl (g2, 6400, .inl (fun _ => 0))), (q3, .inl (g3, 40, .inl (fun _ => 0))), (q4, .inl (g4, 40, .inl (fun _ => 0))), (q5, .inl (g5, 40, .inl (fun _ => 0))), (q6, .inl (g6, 40, .inl (fun _ => 0))), (q7, .inl (g7, 24, .inl (fun _ => 0))), (q8, .inl (g8, 160, .inl (fun _ => 0))), (q9, .inl (g9, 160, .inl (fun _ => 0))), (q10, .inl (g10, 160, .inl (fun _ => 0))), (q11, .inl (g11, 160, .inl (fun _ => 0))), (q12, .inl (g12, 160, .inl (fun _ => 0))), (q13, .inl (g13, 160, .inl (fun _ => 0))), (q14, .inl (g14, 160, .inl (fun _ => 0))), (q15, .inl (g15, 26, .inl (fun _ => 0))), (q16, .inl (g16, 26, .inl (fun _ => 0))), (q17, .inl (g17, 26, .inl (fun _ => 0))), (q18, .inl (g18, 160, .inl (fun _ => 0))), (q19, .inl (g19, 160, .inl (fun _ => 0))), (q20, .inl (g20, 4000, .inl (fun _ => 0)))] H := hP
  have hD : va_D A [(a0, .inr (4, [.int 0, .int 0, .ref q1, .int 1, .int 0, .ref q2, .ref q3, .ref q4, .ref q5, .ref q6, .int 0, .int 0, .int (-1), .int 0, .int (-1), .int 0, .ref q7, .int 0, .ref q8, .ref q9, .ref q10, .ref q11, .ref q12, .int 0, .int 0, .int 0, .ref q13, .ref q14, .int 0, .ref q15, .ref q16, .ref q17, .ref q18, .ref q19, .int 0, .int 0, .int 0, .ref q20])), (q1, .inl (g1, 24, .inl (fun _ => 0))), (q2, .inl (g2, 6400, .inl (fun _ => 0))), (q3, .inl (g3, 40, .inl (fun _ => 0))), (q4, .inl (g4, 40, .inl (fun _ => 0))), (q5, .inl (g5, 40, .inl (fun _ => 0))), (q6, .inl (g6, 40, .inl (fun _ => 0))), (q7, .inl (g7, 24, .inl (fun _ => 0))), (q8, .inl (g8, 160, .inl (fun _ => 0))), (q9, .inl (g9, 160, .inl (fun _ => 0))), (q10, .inl (g10, 160, .inl (fun _ => 0))), (q11, .inl (g11, 160, .inl (fun _ => 0))), (q12, .inl (g12, 160, .inl (fun _ => 0))), (q13, .inl (g13, 160, .inl (fun _ => 0))), (q14, .inl (g14, 160, .inl (fun _ => 0))), (q15, .inl (g15, 26, .inl (fun _ => 0))), (q16, .inl (g16, 26, .inl (fun _ => 0))), (q17, .inl (g17, 26, .inl (fun _ => 0))), (q18, .inl (g18, 160, .inl (fun _ => 0))), (q19, .inl (g19, 160, .inl (fun _ => 0))), (q20, .inl (g20, 4000, .inl (fun _ => 0)))] := hD
  refine lv_aload_n hx hb d_M_init_190 rfl (lv_at hl 0 rfl) ?_
  refine va_get (D := (dC, dI)) (ci := 4) (v := .ref q5) (C := R_M) (T := F_M) (N := 38) hx hb hts (fun w h => List.mem_cons_of_mem _ (in_M w h)) hown hK hP 0 rfl rfl 8 (by decide) (hts _ (List.mem_cons_of_mem _ lk_148)) (fun _ h9 => h9) rfl d_M_init_191 ?_
  refine lv_iconst (v := 0) hx hb d_M_init_194 (by decide) ?_
  refine lv_iconst (v := (-1)) hx hb d_M_init_195 (by decide) ?_
  refine va_iast hx hb hK hP hD hS 5 4 rfl rfl (wk_in (by decide +kernel)) d_M_init_196 (fun H locs hP hD hS => ?_)
  have hP : va_P (dC, dI) vwCl [(a0, .inr (4, [.int 0, .int 0, .ref q1, .int 1, .int 0, .ref q2, .ref q3, .ref q4, .ref q5, .ref q6, .int 0, .int 0, .int (-1), .int 0, .int (-1), .int 0, .ref q7, .int 0, .ref q8, .ref q9, .ref q10, .ref q11, .ref q12, .int 0, .int 0, .int 0, .ref q13, .ref q14, .int 0, .ref q15, .ref q16, .ref q17, .ref q18, .ref q19, .int 0, .int 0, .int 0, .ref q20])), (q1, .inl (g1, 24, .inl (fun _ => 0))), (q2, .inl (g2, 6400, .inl (fun _ => 0))), (q3, .inl (g3, 40, .inl (fun _ => 0))), (q4, .inl (g4, 40, .inl (fun _ => 0))), (q5, .inl (g5, 40, .inl (upd (fun _ => 0) 0 (-1)))), (q6, .inl (g6, 40, .inl (fun _ => 0))), (q7, .inl (g7, 24, .inl (fun _ => 0))), (q8, .inl (g8, 160, .inl (fun _ => 0))), (q9, .inl (g9, 160, .inl (fun _ => 0))), (q10, .inl (g10, 160, .inl (fun _ => 0))), (q11, .inl (g11, 160, .inl (fun _ => 0))), (q12, .inl (g12, 160, .inl (fun _ => 0))), (q13, .inl (g13, 160, .inl (fun _ => 0))), (q14, .inl (g14, 160, .inl (fun _ => 0))), (q15, .inl (g15, 26, .inl (fun _ => 0))), (q16, .inl (g16, 26, .inl (fun _ => 0))), (q17, .inl (g17, 26, .inl (fun _ => 0))), (q18, .inl (g18, 160, .inl (fun _ => 0))), (q19, .inl (g19, 160, .inl (fun _ => 0))), (q20, .inl (g20, 4000, .inl (fun _ => 0)))] H := hP
  have hD : va_D A [(a0, .inr (4, [.int 0, .int 0, .ref q1, .int 1, .int 0, .ref q2, .ref q3, .ref q4, .ref q5, .ref q6, .int 0, .int 0, .int (-1), .int 0, .int (-1), .int 0, .ref q7, .int 0, .ref q8, .ref q9, .ref q10, .ref q11, .ref q12, .int 0, .int 0, .int 0, .ref q13, .ref q14, .int 0, .ref q15, .ref q16, .ref q17, .ref q18, .ref q19, .int 0, .int 0, .int 0, .ref q20])), (q1, .inl (g1, 24, .inl (fun _ => 0))), (q2, .inl (g2, 6400, .inl (fun _ => 0))), (q3, .inl (g3, 40, .inl (fun _ => 0))), (q4, .inl (g4, 40, .inl (fun _ => 0))), (q5, .inl (g5, 40, .inl (upd (fun _ => 0) 0 (-1)))), (q6, .inl (g6, 40, .inl (fun _ => 0))), (q7, .inl (g7, 24, .inl (fun _ => 0))), (q8, .inl (g8, 160, .inl (fun _ => 0))), (q9, .inl (g9, 160, .inl (fun _ => 0))), (q10, .inl (g10, 160, .inl (fun _ => 0))), (q11, .inl (g11, 160, .inl (fun _ => 0))), (q12, .inl (g12, 160, .inl (fun _ => 0))), (q13, .inl (g13, 160, .inl (fun _ => 0))), (q14, .inl (g14, 160, .inl (fun _ => 0))), (q15, .inl (g15, 26, .inl (fun _ => 0))), (q16, .inl (g16, 26, .inl (fun _ => 0))), (q17, .inl (g17, 26, .inl (fun _ => 0))), (q18, .inl (g18, 160, .inl (fun _ => 0))), (q19, .inl (g19, 160, .inl (fun _ => 0))), (q20, .inl (g20, 4000, .inl (fun _ => 0)))] := hD
  have hP9 := hP.sub (ws' := [(a0, .inr (4, [.int 0, .int 0, .ref q1, .int 1, .int 0, .ref q2, .ref q3, .ref q4, .ref q5, .ref q6, .int 0, .int 0, .int (-1), .int 0, .int (-1), .int 0, .ref q7, .int 0, .ref q8, .ref q9, .ref q10, .ref q11, .ref q12, .int 0, .int 0, .int 0, .ref q13, .ref q14, .int 0, .ref q15, .ref q16, .ref q17, .ref q18, .ref q19, .int 0, .int 0, .int 0, .ref q20])), (q1, .inl (g1, 24, .inl (fun _ => 0))), (q2, .inl (g2, 6400, .inl (fun _ => 0))), (q3, .inl (g3, 40, .inl (fun _ => 0))), (q4, .inl (g4, 40, .inl (fun _ => 0))), (q5, .inl (g5, 40, .inl (upd (fun _ => 0) 0 (-1)))), (q6, .inl (g6, 40, .inl (fun _ => 0))), (q7, .inl (g7, 24, .inl (fun _ => 0))), (q8, .inl (g8, 160, .inl (fun _ => 0))), (q9, .inl (g9, 160, .inl (fun _ => 0))), (q10, .inl (g10, 160, .inl (fun _ => 0))), (q11, .inl (g11, 160, .inl (fun _ => 0))), (q12, .inl (g12, 160, .inl (fun _ => 0))), (q13, .inl (g13, 160, .inl (fun _ => 0))), (q14, .inl (g14, 160, .inl (fun _ => 0))), (q15, .inl (g15, 26, .inl (fun _ => 0))), (q16, .inl (g16, 26, .inl (fun _ => 0))), (q17, .inl (g17, 26, .inl (fun _ => 0))), (q18, .inl (g18, 160, .inl (fun _ => 0))), (q19, .inl (g19, 160, .inl (fun _ => 0))), (q20, .inl (g20, 4000, .inl (fun _ => 0)))]) [0, 1, 2, 3, 4, 5, 6, 7, 8, 9, 10, 11, 12, 13, 14, 15, 16, 17, 18, 19, 20] rfl
  have hD9 := hD.sub (ws' := [(a0, .inr (4, [.int 0, .int 0, .ref q1, .int 1, .int 0, .ref q2, .ref q3, .ref q4, .ref q5, .ref q6, .int 0, .int 0, .int (-1), .int 0, .int (-1), .int 0, .ref q7, .int 0, .ref q8, .ref q9, .ref q10, .ref q11, .ref q12, .int 0, .int 0, .int 0, .ref q13, .ref q14, .int 0, .ref q15, .ref q16, .ref q17, .ref q18, .ref q19, .int 0, .int 0, .int 0, .ref q20])), (q1, .inl (g1, 24, .inl (fun _ => 0))), (q2, .inl (g2, 6400, .inl (fun _ => 0))), (q3, .inl (g3, 40, .inl (fun _ => 0))), (q4, .inl (g4, 40, .inl (fun _ => 0))), (q5, .inl (g5, 40, .inl (upd (fun _ => 0) 0 (-1)))), (q6, .inl (g6, 40, .inl (fun _ => 0))), (q7, .inl (g7, 24, .inl (fun _ => 0))), (q8, .inl (g8, 160, .inl (fun _ => 0))), (q9, .inl (g9, 160, .inl (fun _ => 0))), (q10, .inl (g10, 160, .inl (fun _ => 0))), (q11, .inl (g11, 160, .inl (fun _ => 0))), (q12, .inl (g12, 160, .inl (fun _ => 0))), (q13, .inl (g13, 160, .inl (fun _ => 0))), (q14, .inl (g14, 160, .inl (fun _ => 0))), (q15, .inl (g15, 26, .inl (fun _ => 0))), (q16, .inl (g16, 26, .inl (fun _ => 0))), (q17, .inl (g17, 26, .inl (fun _ => 0))), (q18, .inl (g18, 160, .inl (fun _ => 0))), (q19, .inl (g19, 160, .inl (fun _ => 0))), (q20, .inl (g20, 4000, .inl (fun _ => 0)))]) [0, 1, 2, 3, 4, 5, 6, 7, 8, 9, 10, 11, 12, 13, 14, 15, 16, 17, 18, 19, 20] (by decide) rfl
  have hK9 := hK.sub (tys' := [(g1, .char), (g2, .char), (g3, .int), (g4, .int), (g5, .int), (g6, .int), (g7, .char), (g8, .int), (g9, .int), (g10, .int), (g11, .int), (g12, .int), (g13, .int), (g14, .int), (g15, .int), (g16, .int), (g17, .int), (g18, .boolean), (g19, .boolean), (g20, .char)]) [0, 1, 2, 3, 4, 5, 6, 7, 8, 9, 10, 11, 12, 13, 14, 15, 16, 17, 18, 19] rfl
  exact W.vret hx hb hr (fun t ht hW => ⟨⟨(), rfl, rfl, q1, q2, q3, q4, q5, q6, q7, q8, q9, q10, q11, q12, q13, q14, q15, q16, q17, q18, q19, q20, g1, g2, g3, g4, g5, g6, g7, g8, g9, g10, g11, g12, g13, g14, g15, g16, g17, g18, g19, g20, by rw [ht]; exact hP9, va_K.moved hW.alike hK9, hD9⟩, hS.F ht⟩) hS.2.2 d_M_init_197

set_option maxHeartbeats 4000000 in
set_option maxRecDepth 100000 in
theorem c_D_type (l : Launch) (dC : Nat → ClassId) (dI : Nat → Nat → Nat) (a0 a1 r0 r1 r2 r3 r4 r5 : Nat) (t0 : ClassId) (sz : Nat)  : Met l y_D_type w_D_type ({ frames := 0, cells := 0, slots := 0, locals := 0 }) (va_Pc [.ref a0, .int 10] (fun U => U.heap.size = sz ∧ va_P (dC, dI) vwCl [(a0, .inr (0, [.ref a1, .int 0, .ref r0, .int 1, .int 0, .ref r1, .int 0, .int (-1), .ref r2, .ref r3, .int 0, .int (-1), .ref r4, .ref r5])), (a1, .inl (t0, 24, .inl (fun _ => 0)))] U.heap ∧ va_K (dC, dI) vwCl [(t0, .char)] U ∧ va_D (fun _ => True) [(a0, .inr (0, [.ref a1, .int 0, .ref r0, .int 1, .int 0, .ref r1, .int 0, .int (-1), .ref r2, .ref r3, .int 0, .int (-1), .ref r4, .ref r5])), (a1, .inl (t0, 24, .inl (fun _ => 0)))])) (va_Qi (fun (r : Int32) (_ : Unit) => r = 1) (fun (_ : Unit) t => va_P (dC, dI) vwCl [(a0, .inr (0, [.ref a1, .int 1, .ref r0, .int 1, .int 0, .ref r1, .int 0, .int (-1), .ref r2, .ref r3, .int 0, .int (-1), .ref r4, .ref r5])), (a1, .inl (t0, 24, .inl (upd (fun _ => 0) 0 10)))] t.heap ∧ va_K (dC, dI) vwCl [(t0, .char)] t ∧ va_D (va_A [(a0, .inr (0, [.ref a1, .int 0, .ref r0, .int 1, .int 0, .ref r1, .int 0, .int (-1), .ref r2, .ref r3, .int 0, .int (-1), .ref r4, .ref r5])), (a1, .inl (t0, 24, .inl (fun _ => 0)))] sz) [(a0, .inr (0, [.ref a1, .int 1, .ref r0, .int 1, .int 0, .ref r1, .int 0, .int (-1), .ref r2, .ref r3, .int 0, .int (-1), .ref r4, .ref r5])), (a1, .inl (t0, 24, .inl (upd (fun _ => 0) 0 10)))]) (va_A [(a0, .inr (0, [.ref a1, .int 0, .ref r0, .int 1, .int 0, .ref r1, .int 0, .int (-1), .ref r2, .ref r3, .int 0, .int (-1), .ref r4, .ref r5])), (a1, .inl (t0, 24, .inl (fun _ => 0)))] sz)) 0 0 (va_A [(a0, .inr (0, [.ref a1, .int 0, .ref r0, .int 1, .int 0, .ref r1, .int 0, .int (-1), .ref r2, .ref r3, .int 0, .int (-1), .ref r4, .ref r5])), (a1, .inl (t0, 24, .inl (fun _ => 0)))] sz) := by
  refine Met.ofW (cc := prog_1_method_2_code) (maxL := 3) (ret := (some .boolean)) (by decide) rfl ?_
  intro p e s m args below meth c s₁ B hml hv
  obtain ⟨rfl, hsz, hP, hK, hD0⟩ := hv
  have hx := B.exec
  have hb := B.bytes
  have hr := B.returns
  have hts := atoms_spec (ws := w_D_type) B.pre
  have hown : s.vm.findClass R_D = some m.cls := findClass_of_methodNamed B.named
  have hlocks := B.notSynchronized
  subst hsz
  have hD := hD0.self (sz := s.heap.size)
  generalize hAe : va_A [(a0, .inr (0, [.ref a1, .int 0, .ref r0, .int 1, .int 0, .ref r1, .int 0, .int (-1), .ref r2, .ref r3, .int 0, .int (-1), .ref r4, .ref r5])), (a1, .inl (t0, 24, .inl (fun _ => 0)))] s.heap.size = A at hD ⊢
  have hA : ∀ q : Nat, s.heap.size ≤ q → A q := fun q h => by rw [← hAe]; exact Or.inr h
  have hS : va_S A s.heap s.heap [] := va_S.rf
  have hP : va_P (dC, dI) vwCl [(a0, .inr (0, [.ref a1, .int 0, .ref r0, .int 1, .int 0, .ref r1, .int 0, .int (-1), .ref r2, .ref r3, .int 0, .int (-1), .ref r4, .ref r5])), (a1, .inl (t0, 24, .inl (fun _ => 0)))] s.heap := hP
  have hl := lv_entry ([.ref a0, .int 10]) (n := 3) (Nat.le_of_ble_eq_true rfl)
  rw [lg_entry_eq]
  generalize (lg_sl ([.ref a0, .int 10]) ++ List.replicate (3 - (lg_sl ([.ref a0, .int 10])).length) Slot.unset).toArray = ls at hl ⊢
  have hl : lv_has ls 3 [(0, .ref a0), (1, .int 10)] := hl
  refine lv_iload_n hx hb d_D_type_0 rfl (lv_at hl 1 rfl) ?_
  refine lv_bipush (v := 10) hx hb d_D_type_1 (by decide) ?_
  refine lv_icmp_eq (tgt := 18) hx hb d_D_type_3 (by decide) (fun _ => ?_) (fun h => absurd (by decide +kernel) h)
  refine lv_iconst (v := 1) hx hb d_D_type_18 (by decide) ?_
  refine lv_goto (tgt := 23) hx hb d_D_type_19 (by decide) ?_
  refine lv_istore_n (lv' := [(2, .int 1), (0, .ref a0), (1, .int 10)]) hx hb d_D_type_23 rfl hl (by decide) rfl (fun ls hl => ?_)
  have hl : lv_has ls 3 [(2, .int 1), (0, .ref a0), (1, .int 10)] := hl
  refine lv_iload_n hx hb d_D_type_24 rfl (lv_at hl 0 rfl) ?_
  refine lv_if_eq (tgt := 37) hx hb d_D_type_25 (by decide) (fun h => absurd h (by decide +kernel)) (fun _ => ?_)
  refine lv_aload_n hx hb d_D_type_28 rfl (lv_at hl 1 rfl) ?_
  refine va_get (D := (dC, dI)) (ci := 0) (v := .int 0) (C := R_D) (T := F_D) (N := 14) hx hb hts (fun w h => List.mem_cons_of_mem _ (in_D w h)) hown hK hP 0 rfl rfl 1 (by decide) (hts _ (List.mem_cons_of_mem _ lk_170)) (fun _ h9 => h9) rfl d_D_type_29 ?_
  refine lv_bipush (v := 24) hx hb d_D_type_32 (by decide) ?_
  refine lv_icmp_ne (tgt := 39) hx hb d_D_type_34 (by decide) (fun _ => ?_) (fun h => absurd h (by decide +kernel))
  refine lv_aload_n hx hb d_D_type_39 rfl (lv_at hl 1 rfl) ?_
  refine va_get (D := (dC, dI)) (ci := 0) (v := .ref a1) (C := R_D) (T := F_D) (N := 14) hx hb hts (fun w h => List.mem_cons_of_mem _ (in_D w h)) hown hK hP 0 rfl rfl 0 (by decide) (hts _ (List.mem_cons_of_mem _ lk_21)) (fun _ h9 => h9) rfl d_D_type_40 ?_
  refine lv_aload_n hx hb d_D_type_43 rfl (lv_at hl 1 rfl) ?_
  refine va_get (D := (dC, dI)) (ci := 0) (v := .int 0) (C := R_D) (T := F_D) (N := 14) hx hb hts (fun w h => List.mem_cons_of_mem _ (in_D w h)) hown hK hP 0 rfl rfl 1 (by decide) (hts _ (List.mem_cons_of_mem _ lk_170)) (fun _ h9 => h9) rfl d_D_type_44 ?_
  refine lv_iload_n hx hb d_D_type_47 rfl (lv_at hl 2 rfl) ?_
  refine va_cast hx hb hK hP hD hS 1 0 rfl rfl (wk_in (by decide +kernel)) d_D_type_48 (fun H locs hP hD hS => ?_)
  have hP : va_P (dC, dI) vwCl [(a0, .inr (0, [.ref a1, .int 0, .ref r0, .int 1, .int 0, .ref r1, .int 0, .int (-1), .ref r2, .ref r3, .int 0, .int (-1), .ref r4, .ref r5])), (a1, .inl (t0, 24, .inl (upd (fun _ => 0) 0 10)))] H := hP
  have hD : va_D A [(a0, .inr (0, [.ref a1, .int 0, .ref r0, .int 1, .int 0, .ref r1, .int 0, .int (-1), .ref r2, .ref r3, .int 0, .int (-1), .ref r4, .ref r5])), (a1, .inl (t0, 24, .inl (upd (fun _ => 0) 0 10)))] := hD
  refine lv_aload_n hx hb d_D_type_49 rfl (lv_at hl 1 rfl) ?_
  refine lv_dup hx hb d_D_type_50 rfl ?_
  refine va_get (D := (dC, dI)) (ci := 0) (v := .int 0) (C := R_D) (T := F_D) (N := 14) hx hb hts (fun w h => List.mem_cons_of_mem _ (in_D w h)) hown hK hP 0 rfl rfl 1 (by decide) (hts _ (List.mem_cons_of_mem _ lk_170)) (fun _ h9 => h9) rfl d_D_type_51 ?_
  refine lv_iconst (v := 1) hx hb d_D_type_54 (by decide) ?_
  refine t_iadd (v := 1) hx hb d_D_type_55 (by decide +kernel) ?_
  refine va_put (D := (dC, dI)) (ci := 0) (v := .int 1) (ty := .int) (C := R_D) (T := F_D) (N := 14) hx hb hts (fun w h => List.mem_cons_of_mem _ (in_D w h)) t_D tk_D n_D hown hK hP hD hS 0 rfl rfl 1 (by decide) (hts _ (List.mem_cons_of_mem _ lk_170)) (fun _ h9 => h9) rfl (by decide +kernel) rfl rfl (Nat.le_of_ble_eq_true rfl) d_D_type_56 (fun H locs hP hD hS => ?_)
  have hP : va_P (dC, dI) vwCl [(a0, .inr (0, [.ref a1, .int 1, .ref r0, .int 1, .int 0, .ref r1, .int 0, .int (-1), .ref r2, .ref r3, .int 0, .int (-1), .ref r4, .ref r5])), (a1, .inl (t0, 24, .inl (upd (fun _ => 0) 0 10)))] H := hP
  have hD : va_D A [(a0, .inr (0, [.ref a1, .int 1, .ref r0, .int 1, .int 0, .ref r1, .int 0, .int (-1), .ref r2, .ref r3, .int 0, .int (-1), .ref r4, .ref r5])), (a1, .inl (t0, 24, .inl (upd (fun _ => 0) 0 10)))] := hD
  refine lv_iconst (v := 1) hx hb d_D_type_59 (by decide) ?_
  have hP9 := hP.sub (ws' := [(a0, .inr (0, [.ref a1, .int 1, .ref r0, .int 1, .int 0, .ref r1, .int 0, .int (-1), .ref r2, .ref r3, .int 0, .int (-1), .ref r4, .ref r5])), (a1, .inl (t0, 24, .inl (upd (fun _ => 0) 0 10)))]) [0, 1] rfl
  have hD9 := hD.sub (ws' := [(a0, .inr (0, [.ref a1, .int 1, .ref r0, .int 1, .int 0, .ref r1, .int 0, .int (-1), .ref r2, .ref r3, .int 0, .int (-1), .ref r4, .ref r5])), (a1, .inl (t0, 24, .inl (upd (fun _ => 0) 0 10)))]) [0, 1] (by decide) rfl
  have hK9 := hK.sub (tys' := [(t0, .char)]) [0] rfl
  exact W.zret (v := 1) hx hb hr rfl (fun t ht hW => ⟨⟨1, (), rfl, rfl, by rw [ht]; exact hP9, va_K.moved hW.alike hK9, hD9⟩, hS.F ht⟩) hS.2.2 d_D_type_60

set_option maxHeartbeats 4000000 in
set_option maxRecDepth 100000 in
theorem c_M_isCharacter (l : Launch) (dC : Nat → ClassId) (dI : Nat → Nat → Nat) (sz : Nat)  : Met l y_M_isCharacter w_M_isCharacter ({ frames := 0, cells := 0, slots := 0, locals := 0 }) (va_Pc [.int 10] (fun U => U.heap.size = sz ∧ va_P (dC, dI) vwCl [] U.heap ∧ va_K (dC, dI) vwCl [] U ∧ va_D (fun _ => True) [])) (va_Qi (fun (r : Int32) (_ : Unit) => r = 1) (fun (_ : Unit) t => va_P (dC, dI) vwCl [] t.heap ∧ va_K (dC, dI) vwCl [] t ∧ va_D (va_A [] sz) []) (va_A [] sz)) 0 0 (va_A [] sz) := by
  refine Met.ofW (cc := prog_6_method_3_code) (maxL := 1) (ret := (some .boolean)) (by decide) rfl ?_
  intro p e s m args below meth c s₁ B hml hv
  obtain ⟨rfl, hsz, hP, hK, hD0⟩ := hv
  have hx := B.exec
  have hb := B.bytes
  have hr := B.returns
  have hts := atoms_spec (ws := w_M_isCharacter) B.pre
  have hown : s.vm.findClass R_M = some m.cls := findClass_of_methodNamed B.named
  have hlocks := B.notSynchronized
  subst hsz
  have hD := hD0.self (sz := s.heap.size)
  generalize hAe : va_A [] s.heap.size = A at hD ⊢
  have hA : ∀ q : Nat, s.heap.size ≤ q → A q := fun q h => by rw [← hAe]; exact Or.inr h
  have hS : va_S A s.heap s.heap [] := va_S.rf
  have hP : va_P (dC, dI) vwCl [] s.heap := hP
  have hl := lv_entry ([.int 10]) (n := 1) (Nat.le_of_ble_eq_true rfl)
  rw [lg_entry_eq]
  generalize (lg_sl ([.int 10]) ++ List.replicate (1 - (lg_sl ([.int 10])).length) Slot.unset).toArray = ls at hl ⊢
  have hl : lv_has ls 1 [(0, .int 10)] := hl
  refine lv_iload_n hx hb d_M_isCharacter_0 rfl (lv_at hl 0 rfl) ?_
  refine lv_bipush (v := 10) hx hb d_M_isCharacter_1 (by decide) ?_
  refine lv_icmp_eq (tgt := 18) hx hb d_M_isCharacter_3 (by decide) (fun _ => ?_) (fun h => absurd (by decide +kernel) h)
  refine lv_iconst (v := 1) hx hb d_M_isCharacter_18 (by decide) ?_
  refine lv_goto (tgt := 23) hx hb d_M_isCharacter_19 (by decide) ?_
  have hP9 := hP.sub (ws' := []) [] rfl
  have hD9 := hD.sub (ws' := []) [] (by decide) rfl
  have hK9 := hK.sub (tys' := []) [] rfl
  exact W.zret (v := 1) hx hb hr rfl (fun t ht hW => ⟨⟨1, (), rfl, rfl, by rw [ht]; exact hP9, va_K.moved hW.alike hK9, hD9⟩, hS.F ht⟩) hS.2.2 d_M_isCharacter_23

set_option maxHeartbeats 4000000 in
set_option maxRecDepth 100000 in
theorem c_M_type (l : Launch) (dC : Nat → ClassId) (dI : Nat → Nat → Nat) (a0 a1 r0 r1 r2 r3 r4 r5 r6 r7 r8 r9 r10 r11 r12 r13 r14 r15 r16 r17 r18 : Nat) (t0 : ClassId) (sz : Nat)  : Met l y_M_type w_M_type ({ frames := 1, cells := 0, slots := 0, locals := 20 }) (va_Pc [.ref a0, .int 10] (fun U => U.heap.size = sz ∧ va_P (dC, dI) vwCl [(a0, .inr (4, [.int 0, .int 0, .ref a1, .int 1, .int 0, .ref r0, .ref r1, .ref r2, .ref r3, .ref r4, .int 0, .int 0, .int (-1), .int 0, .int (-1), .int 0, .ref r5, .int 0, .ref r6, .ref r7, .ref r8, .ref r9, .ref r10, .int 0, .int 0, .int 0, .ref r11, .ref r12, .int 0, .ref r13, .ref r14, .ref r15, .ref r16, .ref r17, .int 0, .int 0, .int 0, .ref r18])), (a1, .inl (t0, 24, .inl (fun _ => 0)))] U.heap ∧ va_K (dC, dI) vwCl [(t0, .char)] U ∧ va_D (fun _ => True) [(a0, .inr (4, [.int 0, .int 0, .ref a1, .int 1, .int 0, .ref r0, .ref r1, .ref r2, .ref r3, .ref r4, .int 0, .int 0, .int (-1), .int 0, .int (-1), .int 0, .ref r5, .int 0, .ref r6, .ref r7, .ref r8, .ref r9, .ref r10, .int 0, .int 0, .int 0, .ref r11, .ref r12, .int 0, .ref r13, .ref r14, .ref r15, .ref r16, .ref r17, .int 0, .int 0, .int 0, .ref r18])), (a1, .inl (t0, 24, .inl (fun _ => 0)))])) (va_Qi (fun (r : Int32) (_ : Unit) => r = 1) (fun (_ : Unit) t => va_P (dC, dI) vwCl [(a0, .inr (4, [.int 0, .int 1, .ref a1, .int 1, .int 0, .ref r0, .ref r1, .ref r2, .ref r3, .ref r4, .int 0, .int 0, .int (-1), .int 0, .int (-1), .int 0, .ref r5, .int 0, .ref r6, .ref r7, .ref r8, .ref r9, .ref r10, .int 0, .int 0, .int 0, .ref r11, .ref r12, .int 0, .ref r13, .ref r14, .ref r15, .ref r16, .ref r17, .int 0, .int 0, .int 0, .ref r18])), (a1, .inl (t0, 24, .inl (upd (fun _ => 0) 0 10)))] t.heap ∧ va_K (dC, dI) vwCl [(t0, .char)] t ∧ va_D (va_A [(a0, .inr (4, [.int 0, .int 0, .ref a1, .int 1, .int 0, .ref r0, .ref r1, .ref r2, .ref r3, .ref r4, .int 0, .int 0, .int (-1), .int 0, .int (-1), .int 0, .ref r5, .int 0, .ref r6, .ref r7, .ref r8, .ref r9, .ref r10, .int 0, .int 0, .int 0, .ref r11, .ref r12, .int 0, .ref r13, .ref r14, .ref r15, .ref r16, .ref r17, .int 0, .int 0, .int 0, .ref r18])), (a1, .inl (t0, 24, .inl (fun _ => 0)))] sz) [(a0, .inr (4, [.int 0, .int 1, .ref a1, .int 1, .int 0, .ref r0, .ref r1, .ref r2, .ref r3, .ref r4, .int 0, .int 0, .int (-1), .int 0, .int (-1), .int 0, .ref r5, .int 0, .ref r6, .ref r7, .ref r8, .ref r9, .ref r10, .int 0, .int 0, .int 0, .ref r11, .ref r12, .int 0, .ref r13, .ref r14, .ref r15, .ref r16, .ref r17, .int 0, .int 0, .int 0, .ref r18])), (a1, .inl (t0, 24, .inl (upd (fun _ => 0) 0 10)))]) (va_A [(a0, .inr (4, [.int 0, .int 0, .ref a1, .int 1, .int 0, .ref r0, .ref r1, .ref r2, .ref r3, .ref r4, .int 0, .int 0, .int (-1), .int 0, .int (-1), .int 0, .ref r5, .int 0, .ref r6, .ref r7, .ref r8, .ref r9, .ref r10, .int 0, .int 0, .int 0, .ref r11, .ref r12, .int 0, .ref r13, .ref r14, .ref r15, .ref r16, .ref r17, .int 0, .int 0, .int 0, .ref r18])), (a1, .inl (t0, 24, .inl (fun _ => 0)))] sz)) 0 0 (va_A [(a0, .inr (4, [.int 0, .int 0, .ref a1, .int 1, .int 0, .ref r0, .ref r1, .ref r2, .ref r3, .ref r4, .int 0, .int 0, .int (-1), .int 0, .int (-1), .int 0, .ref r5, .int 0, .ref r6, .ref r7, .ref r8, .ref r9, .ref r10, .int 0, .int 0, .int 0, .ref r11, .ref r12, .int 0, .ref r13, .ref r14, .ref r15, .ref r16, .ref r17, .int 0, .int 0, .int 0, .ref r18])), (a1, .inl (t0, 24, .inl (fun _ => 0)))] sz) := by
  refine Met.ofW (cc := prog_6_method_4_code) (maxL := 2) (ret := (some .boolean)) (by decide) rfl ?_
  intro p e s m args below meth c s₁ B hml hv
  obtain ⟨rfl, hsz, hP, hK, hD0⟩ := hv
  have hx := B.exec
  have hb := B.bytes
  have hr := B.returns
  have hts := atoms_spec (ws := w_M_type) B.pre
  have hown : s.vm.findClass R_M = some m.cls := findClass_of_methodNamed B.named
  have hlocks := B.notSynchronized
  subst hsz
  have hD := hD0.self (sz := s.heap.size)
  generalize hAe : va_A [(a0, .inr (4, [.int 0, .int 0, .ref a1, .int 1, .int 0, .ref r0, .ref r1, .ref r2, .ref r3, .ref r4, .int 0, .int 0, .int (-1), .int 0, .int (-1), .int 0, .ref r5, .int 0, .ref r6, .ref r7, .ref r8, .ref r9, .ref r10, .int 0, .int 0, .int 0, .ref r11, .ref r12, .int 0, .ref r13, .ref r14, .ref r15, .ref r16, .ref r17, .int 0, .int 0, .int 0, .ref r18])), (a1, .inl (t0, 24, .inl (fun _ => 0)))] s.heap.size = A at hD ⊢
  have hA : ∀ q : Nat, s.heap.size ≤ q → A q := fun q h => by rw [← hAe]; exact Or.inr h
  have hS : va_S A s.heap s.heap [] := va_S.rf
  have hP : va_P (dC, dI) vwCl [(a0, .inr (4, [.int 0, .int 0, .ref a1, .int 1, .int 0, .ref r0, .ref r1, .ref r2, .ref r3, .ref r4, .int 0, .int 0, .int (-1), .int 0, .int (-1), .int 0, .ref r5, .int 0, .ref r6, .ref r7, .ref r8, .ref r9, .ref r10, .int 0, .int 0, .int 0, .ref r11, .ref r12, .int 0, .ref r13, .ref r14, .ref r15, .ref r16, .ref r17, .int 0, .int 0, .int 0, .ref r18])), (a1, .inl (t0, 24, .inl (fun _ => 0)))] s.heap := hP
  have hl := lv_entry ([.ref a0, .int 10]) (n := 2) (Nat.le_of_ble_eq_true rfl)
  rw [lg_entry_eq]
  generalize (lg_sl ([.ref a0, .int 10]) ++ List.replicate (2 - (lg_sl ([.ref a0, .int 10])).length) Slot.unset).toArray = ls at hl ⊢
  have hl : lv_has ls 2 [(0, .ref a0), (1, .int 10)] := hl
  refine lv_aload_n hx hb d_M_type_0 rfl (lv_at hl 0 rfl) ?_
  refine lv_iconst (v := 0) hx hb d_M_type_1 (by decide) ?_
  refine va_put (D := (dC, dI)) (ci := 4) (v := .int 0) (ty := .int) (C := R_M) (T := F_M) (N := 38) hx hb hts (fun w h => List.mem_cons_of_mem _ (in_M w h)) t_M tk_M n_M hown hK hP hD hS 0 rfl rfl 0 (by decide) (hts _ (List.mem_cons_of_mem _ lk_175)) (fun _ h9 => h9) rfl (by decide +kernel) rfl rfl (Nat.le_of_ble_eq_true rfl) d_M_type_2 (fun H locs hP hD hS => ?_)
  have hP : va_P (dC, dI) vwCl [(a0, .inr (4, [.int 0, .int 0, .ref a1, .int 1, .int 0, .ref r0, .ref r1, .ref r2, .ref r3, .ref r4, .int 0, .int 0, .int (-1), .int 0, .int (-1), .int 0, .ref r5, .int 0, .ref r6, .ref r7, .ref r8, .ref r9, .ref r10, .int 0, .int 0, .int 0, .ref r11, .ref r12, .int 0, .ref r13, .ref r14, .ref r15, .ref r16, .ref r17, .int 0, .int 0, .int 0, .ref r18])), (a1, .inl (t0, 24, .inl (fun _ => 0)))] H := hP
  have hD : va_D A [(a0, .inr (4, [.int 0, .int 0, .ref a1, .int 1, .int 0, .ref r0, .ref r1, .ref r2, .ref r3, .ref r4, .int 0, .int 0, .int (-1), .int 0, .int (-1), .int 0, .ref r5, .int 0, .ref r6, .ref r7, .ref r8, .ref r9, .ref r10, .int 0, .int 0, .int 0, .ref r11, .ref r12, .int 0, .ref r13, .ref r14, .ref r15, .ref r16, .ref r17, .int 0, .int 0, .int 0, .ref r18])), (a1, .inl (t0, 24, .inl (fun _ => 0)))] := hD
  refine lv_iload_n hx hb d_M_type_5 rfl (lv_at hl 1 rfl) ?_
  have hPc := hP.sub (ws' := []) [] rfl
  have hDc := hD.sub (ws' := []) [] (by decide) rfl
  have hKc := hK.sub (tys' := []) [] rfl
  have hFc := va_free (wc := []) hD hS hA [] rfl
  refine va_calli (va_runS (As := [.int 10]) (rest := []) ⟨hx, hb, hml, hown, hts⟩ (c_M_isCharacter l dC dI H.size) (cwS 1 hts (gd_s lk_177 lk_178 lk_141 lk_176) rfl rfl rfl (by decide +kernel) ⟨Nat.le_of_ble_eq_true rfl, Nat.le_of_ble_eq_true rfl⟩) ⟨fun a U g mk q => by obtain ⟨q0, q1, qP, qK, qD⟩ := q; exact ⟨q0, q1, qP, va_K.moved (u := U) (U := U.calling g mk a) (Vm.Alike.refl U.vm) qK, qD⟩, fun U hU hW => ⟨rfl, by rw [hU], by rw [hU]; exact hPc, va_K.moved hW.alike hKc, hDc.weaken (fun _ _ _ _ => trivial)⟩⟩ rfl rfl hl.1 rfl (lv_room (Nat.le_of_ble_eq_true rfl)) d_M_type_6 ⟨Nat.le_of_ble_eq_true rfl, Nat.le_of_ble_eq_true rfl⟩) hS (fun q _ h => hFc q h) hFc (fun r u t H1 locs ht hvm hw hB hz1 hk1 hS => ?_)
  obtain ⟨hP1, hK1, hD1⟩ := hB
  rw [ht] at hP1
  have hK1 := va_K.moved hvm.symm hK1
  subst hw
  obtain ⟨hP, hD⟩ := va_join (wr := [(a0, .inr (4, [.int 0, .int 0, .ref a1, .int 1, .int 0, .ref r0, .ref r1, .ref r2, .ref r3, .ref r4, .int 0, .int 0, .int (-1), .int 0, .int (-1), .int 0, .ref r5, .int 0, .ref r6, .ref r7, .ref r8, .ref r9, .ref r10, .int 0, .int 0, .int 0, .ref r11, .ref r12, .int 0, .ref r13, .ref r14, .ref r15, .ref r16, .ref r17, .int 0, .int 0, .int 0, .ref r18])), (a1, .inl (t0, 24, .inl (fun _ => 0)))]) (w1 := []) hP hD [] [0, 1] rfl rfl (by decide) (by decide) hk1 hFc hP1 hD1
  generalize H1 = H at hP hS ⊢
  have hP : va_P (dC, dI) vwCl [(a0, .inr (4, [.int 0, .int 0, .ref a1, .int 1, .int 0, .ref r0, .ref r1, .ref r2, .ref r3, .ref r4, .int 0, .int 0, .int (-1), .int 0, .int (-1), .int 0, .ref r5, .int 0, .ref r6, .ref r7, .ref r8, .ref r9, .ref r10, .int 0, .int 0, .int 0, .ref r11, .ref r12, .int 0, .ref r13, .ref r14, .ref r15, .ref r16, .ref r17, .int 0, .int 0, .int 0, .ref r18])), (a1, .inl (t0, 24, .inl (fun _ => 0)))] H := hP
  have hD : va_D A [(a0, .inr (4, [.int 0, .int 0, .ref a1, .int 1, .int 0, .ref r0, .ref r1, .ref r2, .ref r3, .ref r4, .int 0, .int 0, .int (-1), .int 0, .int (-1), .int 0, .ref r5, .int 0, .ref r6, .ref r7, .ref r8, .ref r9, .ref r10, .int 0, .int 0, .int 0, .ref r11, .ref r12, .int 0, .ref r13, .ref r14, .ref r15, .ref r16, .ref r17, .int 0, .int 0, .int 0, .ref r18])), (a1, .inl (t0, 24, .inl (fun _ => 0)))] := hD
  refine lv_if_eq (tgt := 21) hx hb d_M_type_9 (by decide) (fun h => absurd h (by decide +kernel)) (fun _ => ?_)
  refine lv_aload_n hx hb d_M_type_12 rfl (lv_at hl 0 rfl) ?_
  refine va_get (D := (dC, dI)) (ci := 4) (v := .int 0) (C := R_M) (T := F_M) (N := 38) hx hb hts (fun w h => List.mem_cons_of_mem _ (in_M w h)) hown hK hP 0 rfl rfl 1 (by decide) (hts _ (List.mem_cons_of_mem _ lk_179)) (fun _ h9 => h9) rfl d_M_type_13 ?_
  refine lv_bipush (v := 24) hx hb d_M_type_16 (by decide) ?_
  refine lv_icmp_ne (tgt := 23) hx hb d_M_type_18 (by decide) (fun _ => ?_) (fun h => absurd h (by decide +kernel))
  refine lv_aload_n hx hb d_M_type_23 rfl (lv_at hl 0 rfl) ?_
  refine va_get (D := (dC, dI)) (ci := 4) (v := .ref a1) (C := R_M) (T := F_M) (N := 38) hx hb hts (fun w h => List.mem_cons_of_mem _ (in_M w h)) hown hK hP 0 rfl rfl 2 (by decide) (hts _ (List.mem_cons_of_mem _ lk_143)) (fun _ h9 => h9) rfl d_M_type_24 ?_
  refine lv_aload_n hx hb d_M_type_27 rfl (lv_at hl 0 rfl) ?_
  refine va_get (D := (dC, dI)) (ci := 4) (v := .int 0) (C := R_M) (T := F_M) (N := 38) hx hb hts (fun w h => List.mem_cons_of_mem _ (in_M w h)) hown hK hP 0 rfl rfl 1 (by decide) (hts _ (List.mem_cons_of_mem _ lk_179)) (fun _ h9 => h9) rfl d_M_type_28 ?_
  refine lv_iload_n hx hb d_M_type_31 rfl (lv_at hl 1 rfl) ?_
  refine va_cast hx hb hK hP hD hS 1 0 rfl rfl (wk_in (by decide +kernel)) d_M_type_32 (fun H locs hP hD hS => ?_)
  have hP : va_P (dC, dI) vwCl [(a0, .inr (4, [.int 0, .int 0, .ref a1, .int 1, .int 0, .ref r0, .ref r1, .ref r2, .ref r3, .ref r4, .int 0, .int 0, .int (-1), .int 0, .int (-1), .int 0, .ref r5, .int 0, .ref r6, .ref r7, .ref r8, .ref r9, .ref r10, .int 0, .int 0, .int 0, .ref r11, .ref r12, .int 0, .ref r13, .ref r14, .ref r15, .ref r16, .ref r17, .int 0, .int 0, .int 0, .ref r18])), (a1, .inl (t0, 24, .inl (upd (fun _ => 0) 0 10)))] H := hP
  have hD : va_D A [(a0, .inr (4, [.int 0, .int 0, .ref a1, .int 1, .int 0, .ref r0, .ref r1, .ref r2, .ref r3, .ref r4, .int 0, .int 0, .int (-1), .int 0, .int (-1), .int 0, .ref r5, .int 0, .ref r6, .ref r7, .ref r8, .ref r9, .ref r10, .int 0, .int 0, .int 0, .ref r11, .ref r12, .int 0, .ref r13, .ref r14, .ref r15, .ref r16, .ref r17, .int 0, .int 0, .int 0, .ref r18])), (a1, .inl (t0, 24, .inl (upd (fun _ => 0) 0 10)))] := hD
  refine lv_aload_n hx hb d_M_type_33 rfl (lv_at hl 0 rfl) ?_
  refine lv_dup hx hb d_M_type_34 rfl ?_
  refine va_get (D := (dC, dI)) (ci := 4) (v := .int 0) (C := R_M) (T := F_M) (N := 38) hx hb hts (fun w h => List.mem_cons_of_mem _ (in_M w h)) hown hK hP 0 rfl rfl 1 (by decide) (hts _ (List.mem_cons_of_mem _ lk_179)) (fun _ h9 => h9) rfl d_M_type_35 ?_
  refine lv_iconst (v := 1) hx hb d_M_type_38 (by decide) ?_
  refine t_iadd (v := 1) hx hb d_M_type_39 (by decide +kernel) ?_
  refine va_put (D := (dC, dI)) (ci := 4) (v := .int 1) (ty := .int) (C := R_M) (T := F_M) (N := 38) hx hb hts (fun w h => List.mem_cons_of_mem _ (in_M w h)) t_M tk_M n_M hown hK hP hD hS 0 rfl rfl 1 (by decide) (hts _ (List.mem_cons_of_mem _ lk_179)) (fun _ h9 => h9) rfl (by decide +kernel) rfl rfl (Nat.le_of_ble_eq_true rfl) d_M_type_40 (fun H locs hP hD hS => ?_)
  have hP : va_P (dC, dI) vwCl [(a0, .inr (4, [.int 0, .int 1, .ref a1, .int 1, .int 0, .ref r0, .ref r1, .ref r2, .ref r3, .ref r4, .int 0, .int 0, .int (-1), .int 0, .int (-1), .int 0, .ref r5, .int 0, .ref r6, .ref r7, .ref r8, .ref r9, .ref r10, .int 0, .int 0, .int 0, .ref r11, .ref r12, .int 0, .ref r13, .ref r14, .ref r15, .ref r16, .ref r17, .int 0, .int 0, .int 0, .ref r18])), (a1, .inl (t0, 24, .inl (upd (fun _ => 0) 0 10)))] H := hP
  have hD : va_D A [(a0, .inr (4, [.int 0, .int 1, .ref a1, .int 1, .int 0, .ref r0, .ref r1, .ref r2, .ref r3, .ref r4, .int 0, .int 0, .int (-1), .int 0, .int (-1), .int 0, .ref r5, .int 0, .ref r6, .ref r7, .ref r8, .ref r9, .ref r10, .int 0, .int 0, .int 0, .ref r11, .ref r12, .int 0, .ref r13, .ref r14, .ref r15, .ref r16, .ref r17, .int 0, .int 0, .int 0, .ref r18])), (a1, .inl (t0, 24, .inl (upd (fun _ => 0) 0 10)))] := hD
  refine lv_iconst (v := 1) hx hb d_M_type_43 (by decide) ?_
  have hP9 := hP.sub (ws' := [(a0, .inr (4, [.int 0, .int 1, .ref a1, .int 1, .int 0, .ref r0, .ref r1, .ref r2, .ref r3, .ref r4, .int 0, .int 0, .int (-1), .int 0, .int (-1), .int 0, .ref r5, .int 0, .ref r6, .ref r7, .ref r8, .ref r9, .ref r10, .int 0, .int 0, .int 0, .ref r11, .ref r12, .int 0, .ref r13, .ref r14, .ref r15, .ref r16, .ref r17, .int 0, .int 0, .int 0, .ref r18])), (a1, .inl (t0, 24, .inl (upd (fun _ => 0) 0 10)))]) [0, 1] rfl
  have hD9 := hD.sub (ws' := [(a0, .inr (4, [.int 0, .int 1, .ref a1, .int 1, .int 0, .ref r0, .ref r1, .ref r2, .ref r3, .ref r4, .int 0, .int 0, .int (-1), .int 0, .int (-1), .int 0, .ref r5, .int 0, .ref r6, .ref r7, .ref r8, .ref r9, .ref r10, .int 0, .int 0, .int 0, .ref r11, .ref r12, .int 0, .ref r13, .ref r14, .ref r15, .ref r16, .ref r17, .int 0, .int 0, .int 0, .ref r18])), (a1, .inl (t0, 24, .inl (upd (fun _ => 0) 0 10)))]) [0, 1] (by decide) rfl
  have hK9 := hK.sub (tys' := [(t0, .char)]) [0] rfl
  exact W.zret (v := 1) hx hb hr rfl (fun t ht hW => ⟨⟨1, (), rfl, rfl, by rw [ht]; exact hP9, va_K.moved hW.alike hK9, hD9⟩, hS.F ht⟩) hS.2.2 d_M_type_44

set_option maxHeartbeats 4000000 in
set_option maxRecDepth 100000 in
theorem c_D_type_2 (l : Launch) (dC : Nat → ClassId) (dI : Nat → Nat → Nat) (a0 r0 r1 r2 r3 r4 r5 r6 : Nat) (sz : Nat) (k0 : Int32) (hh0 : k0.toInt ≤ 31) (hh1 : ¬ k0.toInt = 10) : Met l y_D_type w_D_type ({ frames := 0, cells := 0, slots := 0, locals := 0 }) (va_Pc [.ref a0, .int k0] (fun U => U.heap.size = sz ∧ va_P (dC, dI) vwCl [(a0, .inr (0, [.ref r0, .int 0, .ref r1, .int 1, .int 0, .ref r2, .int 0, .int (-1), .ref r3, .ref r4, .int 0, .int (-1), .ref r5, .ref r6]))] U.heap ∧ va_K (dC, dI) vwCl [] U ∧ va_D (fun _ => True) [(a0, .inr (0, [.ref r0, .int 0, .ref r1, .int 1, .int 0, .ref r2, .int 0, .int (-1), .ref r3, .ref r4, .int 0, .int (-1), .ref r5, .ref r6]))])) (va_Qi (fun (r : Int32) (_ : Unit) => r = 0) (fun (_ : Unit) t => va_P (dC, dI) vwCl [(a0, .inr (0, [.ref r0, .int 0, .ref r1, .int 1, .int 0, .ref r2, .int 0, .int (-1), .ref r3, .ref r4, .int 0, .int (-1), .ref r5, .ref r6]))] t.heap ∧ va_K (dC, dI) vwCl [] t ∧ va_D (va_A [(a0, .inr (0, [.ref r0, .int 0, .ref r1, .int 1, .int 0, .ref r2, .int 0, .int (-1), .ref r3, .ref r4, .int 0, .int (-1), .ref r5, .ref r6]))] sz) [(a0, .inr (0, [.ref r0, .int 0, .ref r1, .int 1, .int 0, .ref r2, .int 0, .int (-1), .ref r3, .ref r4, .int 0, .int (-1), .ref r5, .ref r6]))]) (va_A [(a0, .inr (0, [.ref r0, .int 0, .ref r1, .int 1, .int 0, .ref r2, .int 0, .int (-1), .ref r3, .ref r4, .int 0, .int (-1), .ref r5, .ref r6]))] sz)) 0 0 (va_A [(a0, .inr (0, [.ref r0, .int 0, .ref r1, .int 1, .int 0, .ref r2, .int 0, .int (-1), .ref r3, .ref r4, .int 0, .int (-1), .ref r5, .ref r6]))] sz) := by
  refine Met.ofW (cc := prog_1_method_2_code) (maxL := 3) (ret := (some .boolean)) (by decide) rfl ?_
  intro p e s m args below meth c s₁ B hml hv
  obtain ⟨rfl, hsz, hP, hK, hD0⟩ := hv
  have hx := B.exec
  have hb := B.bytes
  have hr := B.returns
  have hts := atoms_spec (ws := w_D_type) B.pre
  have hown : s.vm.findClass R_D = some m.cls := findClass_of_methodNamed B.named
  have hlocks := B.notSynchronized
  subst hsz
  have hD := hD0.self (sz := s.heap.size)
  generalize hAe : va_A [(a0, .inr (0, [.ref r0, .int 0, .ref r1, .int 1, .int 0, .ref r2, .int 0, .int (-1), .ref r3, .ref r4, .int 0, .int (-1), .ref r5, .ref r6]))] s.heap.size = A at hD ⊢
  have hA : ∀ q : Nat, s.heap.size ≤ q → A q := fun q h => by rw [← hAe]; exact Or.inr h
  have hS : va_S A s.heap s.heap [] := va_S.rf
  have hP : va_P (dC, dI) vwCl [(a0, .inr (0, [.ref r0, .int 0, .ref r1, .int 1, .int 0, .ref r2, .int 0, .int (-1), .ref r3, .ref r4, .int 0, .int (-1), .ref r5, .ref r6]))] s.heap := hP
  have hl := lv_entry ([.ref a0, .int k0]) (n := 3) (Nat.le_of_ble_eq_true rfl)
  rw [lg_entry_eq]
  generalize (lg_sl ([.ref a0, .int k0]) ++ List.replicate (3 - (lg_sl ([.ref a0, .int k0])).length) Slot.unset).toArray = ls at hl ⊢
  have hl : lv_has ls 3 [(0, .ref a0), (1, .int k0)] := hl
  refine lv_iload_n hx hb d_D_type_0 rfl (lv_at hl 1 rfl) ?_
  refine lv_bipush (v := 10) hx hb d_D_type_1 (by decide) ?_
  refine lv_icmp_eq (tgt := 18) hx hb d_D_type_3 (by decide) (fun h => absurd h (fun z => absurd ((wk_eq 10 (by decide)).mp z) (by omega))) (fun _ => ?_)
  refine lv_iload_n hx hb d_D_type_6 rfl (lv_at hl 1 rfl) ?_
  refine lv_bipush (v := 32) hx hb d_D_type_7 (by decide) ?_
  refine lv_icmp_lt (tgt := 22) hx hb d_D_type_9 (by decide) (fun _ => ?_) (fun h => absurd ((wk_lt 32 (by decide)).mpr (by omega)) h)
  refine lv_iconst (v := 0) hx hb d_D_type_22 (by decide) ?_
  refine lv_istore_n (lv' := [(2, .int 0), (0, .ref a0), (1, .int k0)]) hx hb d_D_type_23 rfl hl (by decide) rfl (fun ls hl => ?_)
  have hl : lv_has ls 3 [(2, .int 0), (0, .ref a0), (1, .int k0)] := hl
  refine lv_iload_n hx hb d_D_type_24 rfl (lv_at hl 0 rfl) ?_
  refine lv_if_eq (tgt := 37) hx hb d_D_type_25 (by decide) (fun _ => ?_) (fun h => absurd (by decide +kernel) h)
  refine lv_iconst (v := 0) hx hb d_D_type_37 (by decide) ?_
  have hP9 := hP.sub (ws' := [(a0, .inr (0, [.ref r0, .int 0, .ref r1, .int 1, .int 0, .ref r2, .int 0, .int (-1), .ref r3, .ref r4, .int 0, .int (-1), .ref r5, .ref r6]))]) [0] rfl
  have hD9 := hD.sub (ws' := [(a0, .inr (0, [.ref r0, .int 0, .ref r1, .int 1, .int 0, .ref r2, .int 0, .int (-1), .ref r3, .ref r4, .int 0, .int (-1), .ref r5, .ref r6]))]) [0] (by decide) rfl
  have hK9 := hK.sub (tys' := []) [] rfl
  exact W.zret (v := 0) hx hb hr rfl (fun t ht hW => ⟨⟨0, (), rfl, rfl, by rw [ht]; exact hP9, va_K.moved hW.alike hK9, hD9⟩, hS.F ht⟩) hS.2.2 d_D_type_38

set_option maxHeartbeats 4000000 in
set_option maxRecDepth 100000 in
theorem c_M_isCharacter_2 (l : Launch) (dC : Nat → ClassId) (dI : Nat → Nat → Nat) (sz : Nat) (k0 : Int32) (hh0 : k0.toInt ≤ 31) (hh1 : ¬ k0.toInt = 10) : Met l y_M_isCharacter w_M_isCharacter ({ frames := 0, cells := 0, slots := 0, locals := 0 }) (va_Pc [.int k0] (fun U => U.heap.size = sz ∧ va_P (dC, dI) vwCl [] U.heap ∧ va_K (dC, dI) vwCl [] U ∧ va_D (fun _ => True) [])) (va_Qi (fun (r : Int32) (_ : Unit) => r = 0) (fun (_ : Unit) t => va_P (dC, dI) vwCl [] t.heap ∧ va_K (dC, dI) vwCl [] t ∧ va_D (va_A [] sz) []) (va_A [] sz)) 0 0 (va_A [] sz) := by
  refine Met.ofW (cc := prog_6_method_3_code) (maxL := 1) (ret := (some .boolean)) (by decide) rfl ?_
  intro p e s m args below meth c s₁ B hml hv
  obtain ⟨rfl, hsz, hP, hK, hD0⟩ := hv
  have hx := B.exec
  have hb := B.bytes
  have hr := B.returns
  have hts := atoms_spec (ws := w_M_isCharacter) B.pre
  have hown : s.vm.findClass R_M = some m.cls := findClass_of_methodNamed B.named
  have hlocks := B.notSynchronized
  subst hsz
  have hD := hD0.self (sz := s.heap.size)
  generalize hAe : va_A [] s.heap.size = A at hD ⊢
  have hA : ∀ q : Nat, s.heap.size ≤ q → A q := fun q h => by rw [← hAe]; exact Or.inr h
  have hS : va_S A s.heap s.heap [] := va_S.rf
  have hP : va_P (dC, dI) vwCl [] s.heap := hP
  have hl := lv_entry ([.int k0]) (n := 1) (Nat.le_of_ble_eq_true rfl)
  rw [lg_entry_eq]
  generalize (lg_sl ([.int k0]) ++ List.replicate (1 - (lg_sl ([.int k0])).length) Slot.unset).toArray = ls at hl ⊢
  have hl : lv_has ls 1 [(0, .int k0)] := hl
  refine lv_iload_n hx hb d_M_isCharacter_0 rfl (lv_at hl 0 rfl) ?_
  refine lv_bipush (v := 10) hx hb d_M_isCharacter_1 (by decide) ?_
  refine lv_icmp_eq (tgt := 18) hx hb d_M_isCharacter_3 (by decide) (fun h => absurd h (fun z => absurd ((wk_eq 10 (by decide)).mp z) (by omega))) (fun _ => ?_)
  refine lv_iload_n hx hb d_M_isCharacter_6 rfl (lv_at hl 0 rfl) ?_
  refine lv_bipush (v := 32) hx hb d_M_isCharacter_7 (by decide) ?_
  refine lv_icmp_lt (tgt := 22) hx hb d_M_isCharacter_9 (by decide) (fun _ => ?_) (fun h => absurd ((wk_lt 32 (by decide)).mpr (by omega)) h)
  refine lv_iconst (v := 0) hx hb d_M_isCharacter_22 (by decide) ?_
  have hP9 := hP.sub (ws' := []) [] rfl
  have hD9 := hD.sub (ws' := []) [] (by decide) rfl
  have hK9 := hK.sub (tys' := []) [] rfl
  exact W.zret (v := 0) hx hb hr rfl (fun t ht hW => ⟨⟨0, (), rfl, rfl, by rw [ht]; exact hP9, va_K.moved hW.alike hK9, hD9⟩, hS.F ht⟩) hS.2.2 d_M_isCharacter_23

set_option maxHeartbeats 4000000 in
set_option maxRecDepth 100000 in
theorem c_M_type_2 (l : Launch) (dC : Nat → ClassId) (dI : Nat → Nat → Nat) (a0 r0 r1 r2 r3 r4 r5 r6 r7 r8 r9 r10 r11 r12 r13 r14 r15 r16 r17 r18 r19 : Nat) (sz : Nat) (k0 : Int32) (hh0 : k0.toInt ≤ 31) (hh1 : ¬ k0.toInt = 10) : Met l y_M_type w_M_type ({ frames := 1, cells := 0, slots := 0, locals := 20 }) (va_Pc [.ref a0, .int k0] (fun U => U.heap.size = sz ∧ va_P (dC, dI) vwCl [(a0, .inr (4, [.int 0, .int 0, .ref r0, .int 1, .int 0, .ref r1, .ref r2, .ref r3, .ref r4, .ref r5, .int 0, .int 0, .int (-1), .int 0, .int (-1), .int 0, .ref r6, .int 0, .ref r7, .ref r8, .ref r9, .ref r10, .ref r11, .int 0, .int 0, .int 0, .ref r12, .ref r13, .int 0, .ref r14, .ref r15, .ref r16, .ref r17, .ref r18, .int 0, .int 0, .int 0, .ref r19]))] U.heap ∧ va_K (dC, dI) vwCl [] U ∧ va_D (fun _ => True) [(a0, .inr (4, [.int 0, .int 0, .ref r0, .int 1, .int 0, .ref r1, .ref r2, .ref r3, .ref r4, .ref r5, .int 0, .int 0, .int (-1), .int 0, .int (-1), .int 0, .ref r6, .int 0, .ref r7, .ref r8, .ref r9, .ref r10, .ref r11, .int 0, .int 0, .int 0, .ref r12, .ref r13, .int 0, .ref r14, .ref r15, .ref r16, .ref r17, .ref r18, .int 0, .int 0, .int 0, .ref r19]))])) (va_Qi (fun (r : Int32) (_ : Unit) => r = 0) (fun (_ : Unit) t => va_P (dC, dI) vwCl [(a0, .inr (4, [.int 0, .int 0, .ref r0, .int 1, .int 0, .ref r1, .ref r2, .ref r3, .ref r4, .ref r5, .int 0, .int 0, .int (-1), .int 0, .int (-1), .int 0, .ref r6, .int 0, .ref r7, .ref r8, .ref r9, .ref r10, .ref r11, .int 0, .int 0, .int 0, .ref r12, .ref r13, .int 0, .ref r14, .ref r15, .ref r16, .ref r17, .ref r18, .int 0, .int 0, .int 0, .ref r19]))] t.heap ∧ va_K (dC, dI) vwCl [] t ∧ va_D (va_A [(a0, .inr (4, [.int 0, .int 0, .ref r0, .int 1, .int 0, .ref r1, .ref r2, .ref r3, .ref r4, .ref r5, .int 0, .int 0, .int (-1), .int 0, .int (-1), .int 0, .ref r6, .int 0, .ref r7, .ref r8, .ref r9, .ref r10, .ref r11, .int 0, .int 0, .int 0, .ref r12, .ref r13, .int 0, .ref r14, .ref r15, .ref r16, .ref r17, .ref r18, .int 0, .int 0, .int 0, .ref r19]))] sz) [(a0, .inr (4, [.int 0, .int 0, .ref r0, .int 1, .int 0, .ref r1, .ref r2, .ref r3, .ref r4, .ref r5, .int 0, .int 0, .int (-1), .int 0, .int (-1), .int 0, .ref r6, .int 0, .ref r7, .ref r8, .ref r9, .ref r10, .ref r11, .int 0, .int 0, .int 0, .ref r12, .ref r13, .int 0, .ref r14, .ref r15, .ref r16, .ref r17, .ref r18, .int 0, .int 0, .int 0, .ref r19]))]) (va_A [(a0, .inr (4, [.int 0, .int 0, .ref r0, .int 1, .int 0, .ref r1, .ref r2, .ref r3, .ref r4, .ref r5, .int 0, .int 0, .int (-1), .int 0, .int (-1), .int 0, .ref r6, .int 0, .ref r7, .ref r8, .ref r9, .ref r10, .ref r11, .int 0, .int 0, .int 0, .ref r12, .ref r13, .int 0, .ref r14, .ref r15, .ref r16, .ref r17, .ref r18, .int 0, .int 0, .int 0, .ref r19]))] sz)) 0 0 (va_A [(a0, .inr (4, [.int 0, .int 0, .ref r0, .int 1, .int 0, .ref r1, .ref r2, .ref r3, .ref r4, .ref r5, .int 0, .int 0, .int (-1), .int 0, .int (-1), .int 0, .ref r6, .int 0, .ref r7, .ref r8, .ref r9, .ref r10, .ref r11, .int 0, .int 0, .int 0, .ref r12, .ref r13, .int 0, .ref r14, .ref r15, .ref r16, .ref r17, .ref r18, .int 0, .int 0, .int 0, .ref r19]))] sz) := by
  refine Met.ofW (cc := prog_6_method_4_code) (maxL := 2) (ret := (some .boolean)) (by decide) rfl ?_
  intro p e s m args below meth c s₁ B hml hv
  obtain ⟨rfl, hsz, hP, hK, hD0⟩ := hv
  have hx := B.exec
  have hb := B.bytes
  have hr := B.returns
  have hts := atoms_spec (ws := w_M_type) B.pre
  have hown : s.vm.findClass R_M = some m.cls := findClass_of_methodNamed B.named
  have hlocks := B.notSynchronized
  subst hsz
  have hD := hD0.self (sz := s.heap.size)
  generalize hAe : va_A [(a0, .inr (4, [.int 0, .int 0, .ref r0, .int 1, .int 0, .ref r1, .ref r2, .ref r3, .ref r4, .ref r5, .int 0, .int 0, .int (-1), .int 0, .int (-1), .int 0, .ref r6, .int 0, .ref r7, .ref r8, .ref r9, .ref r10, .ref r11, .int 0, .int 0, .int 0, .ref r12, .ref r13, .int 0, .ref r14, .ref r15, .ref r16, .ref r17, .ref r18, .int 0, .int 0, .int 0, .ref r19]))] s.heap.size = A at hD ⊢
  have hA : ∀ q : Nat, s.heap.size ≤ q → A q := fun q h => by rw [← hAe]; exact Or.inr h
  have hS : va_S A s.heap s.heap [] := va_S.rf
  have hP : va_P (dC, dI) vwCl [(a0, .inr (4, [.int 0, .int 0, .ref r0, .int 1, .int 0, .ref r1, .ref r2, .ref r3, .ref r4, .ref r5, .int 0, .int 0, .int (-1), .int 0, .int (-1), .int 0, .ref r6, .int 0, .ref r7, .ref r8, .ref r9, .ref r10, .ref r11, .int 0, .int 0, .int 0, .ref r12, .ref r13, .int 0, .ref r14, .ref r15, .ref r16, .ref r17, .ref r18, .int 0, .int 0, .int 0, .ref r19]))] s.heap := hP
  have hl := lv_entry ([.ref a0, .int k0]) (n := 2) (Nat.le_of_ble_eq_true rfl)
  rw [lg_entry_eq]
  generalize (lg_sl ([.ref a0, .int k0]) ++ List.replicate (2 - (lg_sl ([.ref a0, .int k0])).length) Slot.unset).toArray = ls at hl ⊢
  have hl : lv_has ls 2 [(0, .ref a0), (1, .int k0)] := hl
  refine lv_aload_n hx hb d_M_type_0 rfl (lv_at hl 0 rfl) ?_
  refine lv_iconst (v := 0) hx hb d_M_type_1 (by decide) ?_
  refine va_put (D := (dC, dI)) (ci := 4) (v := .int 0) (ty := .int) (C := R_M) (T := F_M) (N := 38) hx hb hts (fun w h => List.mem_cons_of_mem _ (in_M w h)) t_M tk_M n_M hown hK hP hD hS 0 rfl rfl 0 (by decide) (hts _ (List.mem_cons_of_mem _ lk_175)) (fun _ h9 => h9) rfl (by decide +kernel) rfl rfl (Nat.le_of_ble_eq_true rfl) d_M_type_2 (fun H locs hP hD hS => ?_)
  have hP : va_P (dC, dI) vwCl [(a0, .inr (4, [.int 0, .int 0, .ref r0, .int 1, .int 0, .ref r1, .ref r2, .ref r3, .ref r4, .ref r5, .int 0, .int 0, .int (-1), .int 0, .int (-1), .int 0, .ref r6, .int 0, .ref r7, .ref r8, .ref r9, .ref r10, .ref r11, .int 0, .int 0, .int 0, .ref r12, .ref r13, .int 0, .ref r14, .ref r15, .ref r16, .ref r17, .ref r18, .int 0, .int 0, .int 0, .ref r19]))] H := hP
  have hD : va_D A [(a0, .inr (4, [.int 0, .int 0, .ref r0, .int 1, .int 0, .ref r1, .ref r2, .ref r3, .ref r4, .ref r5, .int 0, .int 0, .int (-1), .int 0, .int (-1), .int 0, .ref r6, .int 0, .ref r7, .ref r8, .ref r9, .ref r10, .ref r11, .int 0, .int 0, .int 0, .ref r12, .ref r13, .int 0, .ref r14, .ref r15, .ref r16, .ref r17, .ref r18, .int 0, .int 0, .int 0, .ref r19]))] := hD
  refine lv_iload_n hx hb d_M_type_5 rfl (lv_at hl 1 rfl) ?_
  have hPc := hP.sub (ws' := []) [] rfl
  have hDc := hD.sub (ws' := []) [] (by decide) rfl
  have hKc := hK.sub (tys' := []) [] rfl
  have hFc := va_free (wc := []) hD hS hA [] rfl
  refine va_calli (va_runS (As := [.int k0]) (rest := []) ⟨hx, hb, hml, hown, hts⟩ (c_M_isCharacter_2 l dC dI H.size k0 (by omega) (by omega)) (cwS 1 hts (gd_s lk_177 lk_178 lk_141 lk_176) rfl rfl rfl (by decide +kernel) ⟨Nat.le_of_ble_eq_true rfl, Nat.le_of_ble_eq_true rfl⟩) ⟨fun a U g mk q => by obtain ⟨q0, q1, qP, qK, qD⟩ := q; exact ⟨q0, q1, qP, va_K.moved (u := U) (U := U.calling g mk a) (Vm.Alike.refl U.vm) qK, qD⟩, fun U hU hW => ⟨rfl, by rw [hU], by rw [hU]; exact hPc, va_K.moved hW.alike hKc, hDc.weaken (fun _ _ _ _ => trivial)⟩⟩ rfl rfl hl.1 rfl (lv_room (Nat.le_of_ble_eq_true rfl)) d_M_type_6 ⟨Nat.le_of_ble_eq_true rfl, Nat.le_of_ble_eq_true rfl⟩) hS (fun q _ h => hFc q h) hFc (fun r u t H1 locs ht hvm hw hB hz1 hk1 hS => ?_)
  obtain ⟨hP1, hK1, hD1⟩ := hB
  rw [ht] at hP1
  have hK1 := va_K.moved hvm.symm hK1
  subst hw
  obtain ⟨hP, hD⟩ := va_join (wr := [(a0, .inr (4, [.int 0, .int 0, .ref r0, .int 1, .int 0, .ref r1, .ref r2, .ref r3, .ref r4, .ref r5, .int 0, .int 0, .int (-1), .int 0, .int (-1), .int 0, .ref r6, .int 0, .ref r7, .ref r8, .ref r9, .ref r10, .ref r11, .int 0, .int 0, .int 0, .ref r12, .ref r13, .int 0, .ref r14, .ref r15, .ref r16, .ref r17, .ref r18, .int 0, .int 0, .int 0, .ref r19]))]) (w1 := []) hP hD [] [0] rfl rfl (by decide) (by decide) hk1 hFc hP1 hD1
  generalize H1 = H at hP hS ⊢
  have hP : va_P (dC, dI) vwCl [(a0, .inr (4, [.int 0, .int 0, .ref r0, .int 1, .int 0, .ref r1, .ref r2, .ref r3, .ref r4, .ref r5, .int 0, .int 0, .int (-1), .int 0, .int (-1), .int 0, .ref r6, .int 0, .ref r7, .ref r8, .ref r9, .ref r10, .ref r11, .int 0, .int 0, .int 0, .ref r12, .ref r13, .int 0, .ref r14, .ref r15, .ref r16, .ref r17, .ref r18, .int 0, .int 0, .int 0, .ref r19]))] H := hP
  have hD : va_D A [(a0, .inr (4, [.int 0, .int 0, .ref r0, .int 1, .int 0, .ref r1, .ref r2, .ref r3, .ref r4, .ref r5, .int 0, .int 0, .int (-1), .int 0, .int (-1), .int 0, .ref r6, .int 0, .ref r7, .ref r8, .ref r9, .ref r10, .ref r11, .int 0, .int 0, .int 0, .ref r12, .ref r13, .int 0, .ref r14, .ref r15, .ref r16, .ref r17, .ref r18, .int 0, .int 0, .int 0, .ref r19]))] := hD
  refine lv_if_eq (tgt := 21) hx hb d_M_type_9 (by decide) (fun _ => ?_) (fun h => absurd (by decide +kernel) h)
  refine lv_iconst (v := 0) hx hb d_M_type_21 (by decide) ?_
  have hP9 := hP.sub (ws' := [(a0, .inr (4, [.int 0, .int 0, .ref r0, .int 1, .int 0, .ref r1, .ref r2, .ref r3, .ref r4, .ref r5, .int 0, .int 0, .int (-1), .int 0, .int (-1), .int 0, .ref r6, .int 0, .ref r7, .ref r8, .ref r9, .ref r10, .ref r11, .int 0, .int 0, .int 0, .ref r12, .ref r13, .int 0, .ref r14, .ref r15, .ref r16, .ref r17, .ref r18, .int 0, .int 0, .int 0, .ref r19]))]) [0] rfl
  have hD9 := hD.sub (ws' := [(a0, .inr (4, [.int 0, .int 0, .ref r0, .int 1, .int 0, .ref r1, .ref r2, .ref r3, .ref r4, .ref r5, .int 0, .int 0, .int (-1), .int 0, .int (-1), .int 0, .ref r6, .int 0, .ref r7, .ref r8, .ref r9, .ref r10, .ref r11, .int 0, .int 0, .int 0, .ref r12, .ref r13, .int 0, .ref r14, .ref r15, .ref r16, .ref r17, .ref r18, .int 0, .int 0, .int 0, .ref r19]))]) [0] (by decide) rfl
  have hK9 := hK.sub (tys' := []) [] rfl
  exact W.zret (v := 0) hx hb hr rfl (fun t ht hW => ⟨⟨0, (), rfl, rfl, by rw [ht]; exact hP9, va_K.moved hW.alike hK9, hD9⟩, hS.F ht⟩) hS.2.2 d_M_type_22
end
