theorem goodIn_r {big : List Cond} (ws : List Cond) (ps : List Nat) (hp : ws = ps.filterMap (fun i => big[i]?)) (h : ws.all goodWord = true) : GoodIn big ws := by
  intro w hw
  have h1 := List.all_eq_true.mp h w hw
  rw [hp] at hw
  obtain ⟨i, -, hi⟩ := List.mem_filterMap.mp hw
  have hm : w ∈ big := by first | exact List.mem_of_getElem? hi | exact List.getElem?_mem hi
  exact ⟨hm, good_of_word h1⟩
-- own rows: methods that throw, calls that throw, handlers
section ThrowKit
variable {p : Program} {l : Launch} {e : Env} {R : Room} {s : State} {m : MethodId} {args : Array Value} {below : List Frame} {meth : Method} {c : Code} {H : Heap} {locs : List Loc} {cells slots : Nat} {Q : State → Prop}
/-- how a throwing method leaves the machine: the thrown object's address, what the contract says of it, and the frame -/
def th_Q (below : List Frame) (Qc : Array Value → State → Addr → State → Prop) (a : Array Value) (s : State) (mc ms : Nat) (free : Addr → Prop) : State → Prop := fun t =>
  ∃ x, t.status = .running ∧ Ended t below (.threw x) ∧ Qc a s x t ∧ s.WarmedH t.vm ∧ ∃ L, s.sameButNew ({ t with vm := s.vm } : State) L mc ms ∧ ∀ q ∈ L, free q.base
/-- the contract of a method that throws -/
def th_Met (l : Launch) (y : MethodName) (ws : List Cond) (rm : Room) (Pc : Array Value → State → Prop) (Qc : Array Value → State → Addr → State → Prop) (mc ms : Nat) (free : Addr → Prop) : Prop :=
  MetFree l y (headSpec ws rm) Pc (fun _ _ _ _ _ => True) (fun a st o t => ∃ x, o = .threw x ∧ Qc a st x t ∧ st.WarmedH t.vm ∧ ∃ L, st.sameButNew ({ t with vm := st.vm } : State) L mc ms ∧ ∀ q ∈ L, free q.base)
theorem th_out {c : Code} (h : c.exceptionTable.isEmpty = true) (pc : Nat) : ∀ x ∈ c.exceptionTable.toList, covers x pc = false := by
  have h0 : c.exceptionTable.size = 0 := by simpa [Array.isEmpty] using h
  have h1 : c.exceptionTable.toList = [] := List.eq_nil_of_length_eq_zero (by simpa using h0)
  intro y hy
  rw [h1] at hy
  cases hy
theorem th_Met.ofW {y : MethodName} {ws ws' : List Cond} {rm : Room} {Pc : Array Value → State → Prop} {Qc : Array Value → State → Addr → State → Prop} {mc ms : Nat} {free : Addr → Prop} {cc : ByteArray} {maxL : Nat} {ret : Option FieldType}
    (hy : plainName y.cls = true) (hw : ws = Cond.code y cc maxL ret :: ws')
    (body : ∀ p e s m args below meth c s₁, BodyLoose p l y (headSpec ws rm) cc maxL ret e s m args below meth c s₁ → c.maxLocals = maxL → c.exceptionTable.isEmpty = true → Pc args s →
      W p l e (headSpec ws rm).room s m args below meth c s.heap [] 0 0 (th_Q below Qc args s mc ms free) (entryFrame m args maxL)) : th_Met l y ws rm Pc Qc mc ms free := by
  refine MetFree.of_bodyS (code := cc) (maxLocals := maxL) (ret := ret) hy ?_ ?_
  · intro args s m h hn
    obtain ⟨meth, c, h1, h2, h3, h4, h5, h6, -, -⟩ := Cond.code_spec hn (atoms_spec (ws := ws) h _ (by rw [hw]; exact List.mem_cons_self))
    exact ⟨meth, c, h1, h2, h3, h4, h5, h6⟩
  · intro p e s m args below meth c s₁ B hml hP _
    have hh0 : s₁.heap = s.heap := by rw [B.state]; rfl
    have hnh := B.noHandlers (atoms_spec (ws := ws) B.pre _ (by rw [hw]; exact List.mem_cons_self))
    obtain ⟨t, a1, x, b1, b2, b3⟩ := body p e s m args below meth c s₁ B hml hnh hP s₁ hh0 (Stand.of_body B)
    exact ⟨t, .threw x, a1, b1, b2, x, rfl, b3⟩
/-- nothing old has changed -/
theorem th_kept {s t : State} {k n : Nat} (h : s.sameButNew t [] k n) {a : Nat} {c : Cell} (hc : s.heap[a]? = some c) : t.heap[a]? = some c := by
  obtain ⟨-, -, -, -, -, h6⟩ := h
  obtain ⟨c', h1, h2, h3, h4⟩ := h6 a c hc
  have hs : c'.slots = c.slots := Array.ext_getElem? (fun i => h4 i (by simp))
  have : c' = c := by rw [h2, hs]
  rw [h1, this]
theorem th_keptq {s t : State} {k n : Nat} (h : s.sameButNew t [] k n) {a : Nat} (ha : a < s.heap.size) : t.heap[a]? = s.heap[a]? := by
  have h1 : s.heap[a]? = some s.heap[a] := Array.getElem?_eq_getElem ha
  rw [h1]
  exact th_kept h h1
/-- what is said of a thrown object: it is new, and of that class -/
def th_Is (C : String) (s : State) (x : Addr) (t : State) : Prop := s.heap.size ≤ x ∧ ∃ ce : Cell, t.heap[x]? = some ce ∧ ce.vm.isStatics = false ∧ s.vm.findClass C = some ce.cls ∧ s.vm.assignable ce.cls ce.cls = true
/-- the end of a method that throws a C: nothing old has changed -/
def th_Qn (C : String) : Array Value → State → Addr → State → Prop := fun _ st x t => th_Is C st x t ∧ va_F (fun _ => False) st t
/-- new X; dup; X(); athrow, where nothing has been written yet -/
theorem th_new {cc : ByteArray} (hexec : p.tables.exec = Jvm.exec) (hb : c.code = cc) (htr : e.platform.stackTraces = false) {own cls : String} {names : List String} {ix ic : Nat} (hown : s.vm.findClass own = some m.cls)
    (hcls : Bundle.fit cls = true) (hnames : ∀ n ∈ names, Bundle.fit n = true) (hat : ∀ a ∈ Bundle.ownAtoms0 own ic cls names, a.before args s = true)
    (hcl : (Cond.classLink own ix cls).before args s = true) (hini : (Cond.initialized cls).before args s = true)
    (hnh : c.exceptionTable.isEmpty = true) {pc : Nat} {ls : Array Slot} (hml : ls.size = c.maxLocals) {rest : List Value} (hsz : s.heap.size ≤ H.size)
    (hfr : names.length + 3 < R.frames) (hlo : 1 + (rest.map fun v => v.category).sum + (13 * (names.length + 1) + 41) ≤ R.locals) (hc : cells + 1 ≤ R.cells) (hsl : slots + 6 ≤ R.slots) {free : Addr → Prop}
    (hlocks : meth.locks = false)
    (hd0 : decode cc pc = .ok (.new ix, 3)) (hd3 : decode cc (pc + 3) = .ok (.dup, 1)) (hd4 : decode cc (pc + 4) = .ok (.invokespecial ic, 3)) (hd7 : decode cc (pc + 7) = .ok (.athrow, 1)) :
    W p l e R s m args below meth c H [] cells slots (th_Q below (th_Qn cls) args s (cells + 1) (slots + 6) free) (F0 m pc ls rest) := by
  refine W.newc hexec hb hown hcl (hat (.instantiable cls 6) (by simp [Bundle.ownAtoms0])) hini rfl hd0 hc hsl (fun cC kC h1 h2 h3 h4 => ?_)
  refine W.eq (g2 := F0 m (pc + 3) ls (.ref H.size :: rest)) rfl ?_
  refine lv_dup hexec hb hd3 rfl ?_
  refine W.eq (g2 := F0 m (pc + 4) ls (.ref H.size :: .ref H.size :: rest)) rfl ?_
  intro T hT X
  subst hb
  have hcell : T.heap[H.size]? = some (freshCell cC kC) := by
    rw [hT]
    simp [freshCell]
  obtain ⟨U, st, hrun, hend, hW, hsame, ce, hce, ho⟩ := X.ctorThrow0 hexec htr hown hcls hnames hat (fun x hx => by cases hx) h1 h2 hcell hsz (g := F0 m (pc + 4) ls (.ref H.size :: .ref H.size :: rest)) rfl hml rfl rfl (rest := rest) rfl hd4 hd7 (th_out hnh _) hfr
    (by simpa [JFrame.monitorRoom, Value.category, Nat.add_assoc] using hlo) hlocks
  exact ⟨U, st, H.size, hrun, hend, ⟨⟨hsz, ce, hce, by rw [ho.vm]; rfl, ho.cls, ho.self⟩, hsame.2.1, fun q hq _ => th_keptq hsame hq⟩, hW, [], hsame, fun q hq => by cases hq⟩
/-- a call of a method that throws: the walk stands again behind it, the note on top -/
def th_Run (p : Program) (l : Launch) (e : Env) (R : Room) (s : State) (m : MethodId) (args : Array Value) (below : List Frame) (meth : Method) (c : Code) (H : Heap) (locs : List Loc) (cells slots mc ms : Nat) (g : JFrame) (rest : List Value) (Qa : State → Addr → State → Prop) (free : Addr → Prop) : Prop :=
  ∀ T : State, T.heap = H → Stand p l e R s m args below meth c T locs cells slots → ∃ (x : Addr) (st₀ t T' : State) (L : List Loc), st₀.heap = H ∧ s.vm.Alike st₀.vm ∧ Stand p l e R s m args below meth c T' (locs ++ L) (cells + mc) (slots + ms) ∧ (∀ q ∈ L, free q.base) ∧ T'.heap = t.heap ∧ T'.vm = t.vm ∧ Qa st₀ x t ∧
    Steps p.tables e below (T.setTop g) ((T'.setTop { g with stack := rest }).pushFrame (.throwing x))
theorem th_back {y : MethodName} {ws : List Cond} {rm : Room} {Pc : Array Value → State → Prop} {Qc : Array Value → State → Addr → State → Prop} {mc ms : Nat} {free : Addr → Prop} {bytes : ByteArray} {maxL : Nat} {ret : Option FieldType} {own : String} {index n : Nat}
    (hM : th_Met l y ws rm Pc Qc mc ms free) (hbl : FrameBlind Pc) (cb : CallB R s args own index y bytes maxL ret ws rm mc ms n) {U : State}
    (X : Stand p l e R s m args below meth c U locs cells slots) {g : JFrame} (hg : g.method = m) (hsize : g.locals.size = c.maxLocals) {ig : Instr} {len : Nat} (hdg : decode c.code g.pc = .ok (ig, len))
    (hW : 2 * g.monitorRoom + (g.stack.map fun v => v.category).sum ≤ 8) {mk : MethodId} (hn : U.methodNamed? y = some mk) {a : Array Value} (hc : cells + mc ≤ R.cells) (hs : slots + ms ≤ R.slots) (hP : Pc a U) :
    ∃ (x : Addr) (T' t : State) (L : List Loc), Stand p l e R s m args below meth c T' (locs ++ L) (cells + mc) (slots + ms) ∧ T'.heap = t.heap ∧ T'.vm = t.vm ∧ (∀ q ∈ L, free q.base) ∧ Qc a (U.calling g mk a) x t ∧
      Steps p.tables e below (doInvoke e (U.setTop g) [] mk a).1 ((T'.setTop g).pushFrame (.throwing x)) := by
  obtain ⟨hrc, hrs, hfr, hlo, hws, hcw, -, hini, -⟩ := cb
  have h2 : (Cond.code y bytes maxL ret).before a U = true := hws _ hcw a U X.warmed
  have h1 : (headSpec ws rm).pre.before a U = true := atoms_intro fun w hw => hws w hw _ _ X.warmed
  have h3 : (Cond.initialized y.cls).before a U = true := word_at X.warmed (Or.inl (by first | rfl | simp [Cond.onTables, Cond.keeps, Cond.steady])) hini
  obtain ⟨methY, cY, hmY, hcY, -, hlY, -, -, -, -⟩ := Cond.code_spec hn h2
  obtain ⟨kY, hkY, -⟩ := className_of_methodNamed hn
  have hinitY : kY.init = .initialized := Cond.initialized_spec (findClass_of_methodNamed hn) hkY h3
  have h : At U g.method c below := by rw [hg]; exact X.here
  have happ : (headSpec ws rm).appliesLoose y e.platform (U.calling g mk a) = true :=
    Spec.appliesLoose_calling (g := g) h hdg hn hkY hinitY
      (X.room_calling (g := g) (R' := (headSpec ws rm).room) hsize hmY hcY hfr (by rw [hlY]; show _ + rm.locals ≤ _; omega) (by show cells + rm.cells ≤ _; rw [hrc]; exact hc) (by show slots + rm.slots ≤ _; rw [hrs]; exact hs)) h1
  obtain ⟨mid, hmid⟩ := h.above
  have hfr' : (U.setTop g).frames = (.java g :: mid) ++ below := by rw [State.frames_setTop' g h.top, hmid]; rfl
  obtain ⟨o, s₂, hsteps, -, hend, x, rfl, hq, hW₂, L, hsame, hL⟩ := Steps.callFree hM p X.admits X.cas X.clock (acts := []) hfr' happ (hbl _ _ _ _ hP) trivial
  rw [State.frames_setTop' g h.top, X.tail] at hend
  obtain ⟨T', X', -, -, ht⟩ := X.outOfThrown hg (mk := mk) (a := a) hend hW₂ hsame
  subst ht
  exact ⟨x, T', (T'.setTop g).pushFrame (.throwing x), L, X', rfl, rfl, hL, hq, hsteps⟩
section Runs
variable {y : MethodName} {bytes cc : ByteArray} {maxL nL mc ms n index : Nat} {ret : Option FieldType} {ws : List Cond} {rm : Room} {Pc : Array Value → State → Prop} {Qc : Array Value → State → Addr → State → Prop} {free : Addr → Prop} {Ts : List Cond} {own C : String} {b : Addr} {As rest : List Value} {g : JFrame}
theorem th_runV (S : CallFix p m c cc nL s args Ts own) (hM : th_Met l y ws rm Pc Qc mc ms free) (cw : CallW R s args own C index y bytes maxL ret ws rm mc ms n) (hp : PreV s H C b Pc As)
    (hg : g.method = m) (hn : As.length = n) (hsize : g.locals.size = nL) (hstack : g.stack = As.reverse ++ .ref b :: rest) (hW : 2 * g.monitorRoom + (rest.map fun v => v.category).sum ≤ 8) (hdg : decode cc g.pc = .ok (.invokevirtual index, 3)) (hf : cells + mc ≤ R.cells ∧ slots + ms ≤ R.slots) :
    th_Run p l e R s m args below meth c H locs cells slots mc ms g rest (Qc (Value.ref b :: As).toArray) free := by
  obtain ⟨hx, hb, hml, ho, -⟩ := S
  obtain ⟨hbl, ⟨cellB, hcB, hoB, hclB⟩, hPc⟩ := hp
  have cb := cw.1
  obtain ⟨⟨-, -, -, -, -, -, hcode, -, hy, hlen, hl⟩, hin, hse⟩ := cw
  intro T hT X
  obtain ⟨mk, methM, hnamed, hmethM, hstM, habM⟩ := Cond.instanceMethod_spec hin
  obtain ⟨methM', cM, hmethM', -, -, -, -, -, -, hsigM⟩ := Cond.code_spec hnamed hcode
  cases hmethM.symm.trans hmethM'
  obtain ⟨c2, r2, m2, q1, q2, q3, q4, kP, hkP, hkPi⟩ := Cond.selects_spec hse
  cases hclB.symm.trans q1
  cases (State.methodFound?_of_named hnamed hy).symm.trans q2
  cases hnamed.symm.trans q3
  have hselP : selectMethod e.platform s.vm cellB.cls mk = .method mk := by rw [Launch.admits_selectMethod X.admits]; exact q4
  subst hb
  obtain ⟨vm₁, X₁, hstep₁⟩ := X.invokevirtual hx ho hl hnamed hmethM hstM hkP hkPi hy (a := b) (cell := cellB) (by rw [hT]; exact hcB) (fun z h => by rw [h] at hoB; cases hoB) hselP hmethM habM hkP hkPi (g := g) hg (argsL := As) (rest := rest) (hn.trans (hlen _ hsigM)) hstack hdg
  obtain ⟨x, T', t, L, X', e1, e2, hL, hq, hsteps⟩ := th_back hM hbl cb X₁ (g := { g with stack := rest }) hg (hsize.trans hml.symm) hdg hW (X₁.named hnamed) hf.1 hf.2 (hPc (T.setVm vm₁) hT X₁.warmed)
  exact ⟨x, (T.setVm vm₁).calling { g with stack := rest } mk (Value.ref b :: As).toArray, t, T', L, hT, X₁.warmed.alike, X', hL, e1, e2, hq, hstep₁ _ fun acts => by rw [doInvoke_state]; exact hsteps⟩
end Runs
theorem th_Is.moved {C : String} {s st t u : State} {x : Addr} (hsz : s.heap.size ≤ st.heap.size) (hal : s.vm.Alike st.vm) (hu : u.heap = t.heap) (h : th_Is C st x t) : th_Is C s x u := by
  obtain ⟨h1, ce, h2, h3, h4, h5⟩ := h
  exact ⟨Nat.le_trans hsz h1, ce, by rw [hu]; exact h2, h3, by rw [← hal.findClass]; exact h4, by rw [← hal.assignable]; exact h5⟩
/-- the call throws, the caller has no handler: it throws too; nothing has been written before -/
theorem th_pass {C : String} {a : Array Value} {mc ms : Nat} {free free' : Addr → Prop} {pc : Nat} {ls : Array Slot} {st0 rest : List Value} (hr : th_Run p l e R s m args below meth c s.heap [] cells slots mc ms (F0 m pc ls st0) rest (th_Qn C a) free) (hnh : c.exceptionTable.isEmpty = true) (hlocks : meth.locks = false)
    (hf : ∀ q, free q → free' q) : W p l e R s m args below meth c s.heap [] cells slots (th_Q below (th_Qn C) args s (cells + mc) (slots + ms) free') (F0 m pc ls st0) := by
  intro T hT X
  obtain ⟨x, st₀, t, T', L, h0, hal, X', hL, e1, e2, ⟨hI, hz, hk⟩, st⟩ := hr T hT X
  obtain ⟨hw, hrun, hend, hW, hsame⟩ := X'.leaveThrown x (g := F0 m pc ls rest) rfl rfl rfl (th_out hnh _) hlocks
  refine ⟨_, st.trans hw, x, hrun, hend, ⟨hI.moved (by rw [h0]; exact Nat.le_refl _) hal e1, ?_, fun q hq _ => ?_⟩, hW, [] ++ L, hsame, fun q hq => hf _ (hL q (by simpa using hq))⟩
  · show s.heap.size ≤ T'.heap.size
    rw [e1]; rw [h0] at hz; exact hz
  · show T'.heap[q]? = s.heap[q]?
    rw [e1]
    have h9 := hk q (by rw [h0]; exact hq) (fun z => z)
    rw [h0] at h9
    exact h9
/-- the search gives a handler, at tables that it may have warmed -/
def th_Finds (e : Env) (s : State) (f : JFrame) (a : Addr) (pc : Nat) (vm' : Vm) : Prop :=
  ∀ (Q : Handler → Jvm.Pre) (E : Jvm.CtlPost) (d : Bool) (acts : List Action), Jvm.Sem.wp (findHandler f a) Q E e d acts s ↔ Q (.found pc) d acts (s.setVm vm')
theorem th_go {E : Jvm.CtlPost} {e : Env} {d : Bool} {acts : List Action} {t0 : State} {f : JFrame} {a : Addr} {Q : Handler → Jvm.Pre} {x : ExceptionTableEntry} {t : List ExceptionTableEntry} {cC : ClassId} {cell : Cell} {vm' : Vm} (hx : covers x f.pc = true) (h0 : x.catchType ≠ 0)
    (hg : (Jvm.resolveClass f.method.cls x.catchType).Gives e.toSetting t0.vm (.ok cC) vm') (hsz : vm'.classes.size ≤ t0.vm.classes.size) (hcell : t0.heap[a]? = some cell) (hobj : ∀ k, cell.vm ≠ .statics k) (hk : ∃ k, vm'.classes[cell.cls]? = some k) (hc : ∃ k, vm'.classes[cC]? = some k) :
    Jvm.Sem.wp (findHandler.go f a (x :: t)) Q E e d acts t0 ↔ if vm'.assignable cell.cls cC = true then Q (.found x.handlerPc) d acts (t0.setVm vm') else Jvm.Sem.wp (findHandler.go f a t) Q E e d acts (t0.setVm vm') := by
  simp only [covers] at hx
  obtain ⟨ha, ht⟩ := hg.op (op := VmOp.resolveClass f.method.cls x.catchType) rfl
  cases hfit : vm'.assignable cell.cls cC <;> simp [findHandler.go, hx, h0, ha, ht, hsz, hcell, hobj, hk, hc, hfit, VmOp.dirties, VmOp.acts]
theorem th_step {e : Env} {s : State} {a : Addr} {f : JFrame} {r : List Frame} {pc : Nat} {vm' : Vm} (hfind : th_Finds e s f a pc vm') :
    (stepThrowing e s a (.java f :: r)).Is ((s.setVm vm').setFrames (.java { f with pc := pc, stack := [.ref a] } :: r)) [] := by
  simp only [stepThrowing, searchFrame, vmDo]
  generalize hr : Sem.go _ e false [] s = res
  obtain ⟨as, rfl, ha⟩ := Sem.eq_ok_of hr (a := Handler.found pc) (s' := s.setVm vm') (acts' := []) (by simp [hfind _ _ _ _])
  exact ⟨rfl, ha⟩
theorem th_caught {tb : Tables} {e : Env} {s target : State} {g : JFrame} {c : Code} {below : List Frame} {a : Addr} {pc : Nat} {vm' : Vm} (h : At s g.method c below) (hfind : th_Finds e ((s.setTop g).pushFrame (.throwing a)) g a pc vm')
    (hrest : Steps tb e below ((s.setVm vm').setTop { g with pc := pc, stack := [.ref a] }) target) :
    Steps tb e below ((s.setTop g).pushFrame (.throwing a)) target := by
  obtain ⟨hgo, hw⟩ := h.throwing a
  refine Steps.head hgo hw ?_
  rw [stepThread_throwing (frames_entered h.top _), (th_step (s := (s.setTop g).pushFrame (.throwing a)) hfind).1]
  obtain ⟨g₀, hg⟩ := Option.isSome_iff_exists.mp h.top
  obtain ⟨r, hr⟩ := State.topJava?_eq_some.mp hg
  have hr' : (s.setVm vm').frames = .java g₀ :: r := hr
  rw [State.setTop_of_frames _ hr'] at hrest
  rw [State.pushFrame, State.setTop_of_frames _ hr, hr]
  have e1 : (((s.setFrames (.java g :: r)).setFrames (.throwing a :: (s.setFrames (.java g :: r)).frames)).setVm vm').setFrames (.java { g with pc := pc, stack := [.ref a] } :: r) = (s.setVm vm').setFrames (.java { g with pc := pc, stack := [.ref a] } :: r) := by
    rw [State.setFrames_setFrames]
    show ((s.setVm vm').setFrames _).setFrames _ = _
    rw [State.setFrames_setFrames]
  exact e1 ▸ hrest
/-- the table's entries ahead of the one that takes a C don't take it -/
def th_Tab (args : Array Value) (s : State) (own C : String) (pc hpc : Nat) : List (Nat × Nat × Nat × Nat) → Prop
  | [] => False
  | (a, b, h, t) :: r => (a ≤ pc ∧ pc < b ∧ t ≠ 0) ∧ ∃ D : String, (Cond.classLink own t D).before args s = true ∧ ((D = C ∧ h = hpc) ∨ (va_Nc C D s ∧ th_Tab args s own C pc hpc r))
theorem th_finds_go {own C : String} {pc hpc : Nat} (hadm : l.admits e) (hown : s.vm.findClass own = some m.cls) {ce : Cell} {x : Addr} (hstat : ce.vm.isStatics = false) (hC : s.vm.findClass C = some ce.cls) (hself : s.vm.assignable ce.cls ce.cls = true) {f : JFrame} (hfm : f.method = m) (hfp : f.pc = pc) : ∀ (tab : List (Nat × Nat × Nat × Nat)), th_Tab args s own C pc hpc tab → ∀ (t0 : State), s.WarmedH t0.vm → t0.heap[x]? = some ce →
    ∃ vm', s.WarmedH vm' ∧ ∀ (Q : Handler → Jvm.Pre) (E : Jvm.CtlPost) (d : Bool) (acts : List Action), Jvm.Sem.wp (findHandler.go f x (tableOf tab)) Q E e d acts t0 ↔ Q (.found hpc) d acts (t0.setVm vm') := by
  intro tab
  induction tab with
  | nil => intro h; exact h.elim
  | cons q r ih =>
    obtain ⟨a, b, hh, t⟩ := q
    intro hT t0 hW hce
    obtain ⟨⟨h1, h2, h3⟩, D, hcl, hd⟩ := hT
    have hpl : e.platform.magicAccessors = ({} : Platform).magicAccessors := by rw [hadm.platform]
    obtain ⟨cD, hfD, hlinks⟩ := Cond.classLink_spec hown hcl e.platform hpl
    obtain ⟨hg, hwarm, -⟩ := State.classEntry (e := e) hW hlinks
    have hal := hwarm.alike
    have hsz : (t0.vm.noted m.cls t (.cls cD)).classes.size ≤ t0.vm.classes.size := Nat.le_of_eq (by simp)
    generalize t0.vm.noted m.cls t (.cls cD) = vm1 at hg hwarm hal hsz
    have hkD : ∃ k, vm1.classes[cD]? = some k := Vm.classAt_of_findClass (name := D) (by rw [hal.findClass]; exact hfD)
    have hkC : ∃ k, vm1.classes[ce.cls]? = some k := Vm.classAt_of_findClass (name := C) (by rw [hal.findClass]; exact hC)
    have hgo := fun (Q : Handler → Jvm.Pre) (E : Jvm.CtlPost) (d : Bool) (acts : List Action) => th_go (E := E) (d := d) (acts := acts) (Q := Q) (e := e) (t0 := t0) (a := x) (t := tableOf r) (x := ⟨a, b, hh, t⟩) (f := f) (by simp [covers, hfp, h1, h2]) h3 (by rw [hfm]; exact hg) hsz hce (VmData.ne_statics_of hstat) hkC hkD
    rcases hd with ⟨rfl, rfl⟩ | ⟨hn, hr⟩
    · have hcc : cD = ce.cls := Option.some.inj (hfD.symm.trans hC)
      subst hcc
      refine ⟨vm1, hwarm, fun Q E d acts => (hgo Q E d acts).trans ?_⟩
      rw [if_pos (by rw [hal.assignable]; exact hself)]
    · obtain ⟨vm', hw', hih⟩ := ih hr (t0.setVm vm1) hwarm hce
      obtain ⟨c0, d0, g1, g2, g3⟩ := hn
      cases hC.symm.trans g1
      cases hfD.symm.trans g2
      refine ⟨vm', hw', fun Q E d acts => (hgo Q E d acts).trans ?_⟩
      rw [if_neg (by rw [hal.assignable, g3]; decide)]
      exact hih Q E d acts
/-- the call throws a C, and the table's entry for it goes on at hpc -/
theorem th_catch {own C : String} {tab : List (Nat × Nat × Nat × Nat)} {hpc mc ms pc : Nat} {free : Addr → Prop} {A0 A1 : Nat → Prop} {H0 : Heap} {Qa : State → Addr → State → Prop} {ls : Array Slot} {st0 rest : List Value}
    (hr : th_Run p l e R s m args below meth c H locs cells slots mc ms (F0 m pc ls st0) rest Qa free) (hown : s.vm.findClass own = some m.cls) (htab : c.exceptionTable.toList = tableOf tab) (hT : th_Tab args s own C pc hpc tab)
    (hI : ∀ st x t, Qa st x t → th_Is C st x t ∧ va_F A1 st t) (hS : va_S A0 H0 H locs) (hA : ∀ q, q < H.size → A1 q → A0 q) (hf : ∀ q, free q → A0 q)
    (kk : ∀ (x : Addr) (st₀ t : State) (H1 : Heap) (locs1 : List Loc), t.heap = H1 → s.vm.Alike t.vm → st₀.heap = H → Qa st₀ x t → H.size ≤ H1.size → (∀ q : Nat, q < H.size → ¬ A1 q → H1[q]? = H[q]?) → va_S A0 H0 H1 locs1 → W p l e R s m args below meth c H1 locs1 (cells + mc) (slots + ms) Q (F0 m hpc ls [.ref x])) :
    W p l e R s m args below meth c H locs cells slots Q (F0 m pc ls st0) := by
  intro T hT0 X
  obtain ⟨x, st₀, t, T', L, h0, hal, X', hL, e1, e2, hqa, st⟩ := hr T hT0 X
  obtain ⟨⟨hx1, ce, hx2, hx3, hx4, hx5⟩, hz, hk⟩ := hI _ _ _ hqa
  rw [h0] at hz hk
  obtain ⟨vm', hw', hfind⟩ := th_finds_go (args := args) X.admits hown hx3 (by rw [← hal.findClass]; exact hx4) (by rw [← hal.assignable]; exact hx5) (f := F0 m pc ls rest) rfl rfl tab hT ((T'.setTop (F0 m pc ls rest)).pushFrame (.throwing x)) X'.warmed (by show T'.heap[x]? = _; rw [e1]; exact hx2)
  have hF : th_Finds e ((T'.setTop (F0 m pc ls rest)).pushFrame (.throwing x)) (F0 m pc ls rest) x hpc vm' := fun Q E d acts => (Jvm.W.findHandler_eq (meth := meth) (code := c) X'.method' X'.code).trans (by rw [htab]; exact hfind Q E d acts)
  have X2 := X'.noted hw'
  obtain ⟨t2, a1, b1⟩ := kk x st₀ t T'.heap (locs ++ L) e1.symm (by rw [← e2]; exact X'.warmed.alike) h0 hqa (by rw [e1]; exact hz) (fun q h1 h2 => by rw [e1]; exact hk q h1 h2)
    ⟨Nat.le_trans hS.1 (by rw [e1]; exact hz), fun q h1 h2 => by rw [e1, hk q (Nat.lt_of_lt_of_le h1 hS.1) (fun z => h2 (hA q (Nat.lt_of_lt_of_le h1 hS.1) z))]; exact hS.2.1 q h1 h2, fun q hq => by
      rcases List.mem_append.mp hq with h | h
      · exact hS.2.2 q h
      · exact hf _ (hL q h)⟩ (T'.setVm vm') rfl X2
  exact ⟨t2, st.trans (th_caught (g := F0 m pc ls rest) X'.here hF a1), b1⟩
/-- a method with a table of handlers that returns -/
theorem th_ofWw {y : MethodName} {ws ws' : List Cond} {rm : Room} {Pc : Array Value → State → Prop} {Qc : Array Value → State → Outcome → State → Prop} {mc ms : Nat} {free : Addr → Prop} {cc : ByteArray} {maxL : Nat} {ret : Option FieldType} {tab : List (Nat × Nat × Nat × Nat)}
    (hy : plainName y.cls = true) (hw : ws = Cond.codeWith y cc maxL ret tab :: ws')
    (body : ∀ p e s m args below meth c s₁, BodyLoose p l y (headSpec ws rm) cc maxL ret e s m args below meth c s₁ → c.maxLocals = maxL → c.exceptionTable.toList = tableOf tab → Pc args s →
      W p l e (headSpec ws rm).room s m args below meth c s.heap [] 0 0 (MQ below Qc args s mc ms free) (entryFrame m args maxL)) : Met l y ws rm Pc Qc mc ms free := by
  refine MetFree.of_bodyS (code := cc) (maxLocals := maxL) (ret := ret) hy ?_ ?_
  · intro args s m h hn
    obtain ⟨m', meth, c, hn', h1, h2, h3, h4, -, h5, h6, -⟩ := Cond.codeWith_spec (atoms_spec (ws := ws) h _ (by rw [hw]; exact List.mem_cons_self))
    cases hn.symm.trans hn'
    exact ⟨meth, c, h1, h2, h3, h4, h5, h6⟩
  · intro p e s m args below meth c s₁ B hml hP _
    have hh0 : s₁.heap = s.heap := by rw [B.state]; rfl
    obtain ⟨m', meth', c', hn', h1, h2, -, -, ht, -, -, -⟩ := Cond.codeWith_spec (atoms_spec (ws := ws) B.pre _ (by rw [hw]; exact List.mem_cons_self))
    cases B.named.symm.trans hn'
    cases B.method.symm.trans h1
    cases (Stand.of_body B).code.symm.trans h2
    obtain ⟨t, a1, o, b1, b2, b3⟩ := body p e s m args below meth c s₁ B hml (by rw [← ht, table_eq]) hP s₁ hh0 (Stand.of_body B)
    exact ⟨t, o, a1, b1, b2, ⟨b3.1, b3.2⟩⟩
/-- a call of a static method with a table of handlers -/
theorem th_runSw {y : MethodName} {bytes cc : ByteArray} {maxL nL mc ms n index : Nat} {ret : Option FieldType} {ws ws' : List Cond} {rm : Room} {Pc : Array Value → State → Prop} {Qc : Array Value → State → Outcome → State → Prop} {free : Addr → Prop} {Ts : List Cond} {own : String} {As rest : List Value} {g : JFrame} {tab : List (Nat × Nat × Nat × Nat)}
    (S : CallFix p m c cc nL s args Ts own) (hM : Met l y ws rm Pc Qc mc ms free) (hG : GoodIn Ts ws) (hw : ws = Cond.codeWith y bytes maxL ret tab :: ws') (hrc : rm.cells = mc) (hrs : rm.slots = ms)
    (hini : (Cond.initialized y.cls).before args s = true) (hl : (Cond.methodLink own index y).before args s = true) (hstat : (Cond.static y).before args s = true)
    (hd : y.cls ≠ "java/lang/invoke/MethodHandle" ∧ y.cls ≠ "java/lang/invoke/VarHandle" ∧ (parseMethodDescriptor y.desc).map (fun d => d.parameters.length) = some n) (hR : rm.frames + 1 ≤ R.frames ∧ 8 + (maxL + 11) + rm.locals ≤ R.locals)
    (hp : PreS s H Pc As) (hg : g.method = m) (hn : As.length = n) (hsize : g.locals.size = nL) (hstack : g.stack = As.reverse ++ rest) (hW : 2 * g.monitorRoom + (rest.map fun v => v.category).sum ≤ 8) (hdg : decode cc g.pc = .ok (.invokestatic index, 3)) (hf : cells + mc ≤ R.cells ∧ slots + ms ≤ R.slots) :
    va_Run p l e R s m args below meth c H locs cells slots mc ms g rest (Qc As.toArray) free := by
  obtain ⟨hx, hb, hml, ho, hts⟩ := S
  have hws := pay_in hts hG
  have hcw : Cond.codeWith y bytes maxL ret tab ∈ ws := by rw [hw]; exact List.mem_cons_self
  have hK : Back l R p e below s args y 3 8 (PreOf R mc ms Pc) (PostOf Qc mc ms free) := by
    refine Back.of_freeWith (handlers := tab) (S := headSpec ws rm) (P := Pc) (K := fun _ _ _ _ _ => True) (Q := fun a st o t => Qc a st o t ∧ ∃ L, FrameEnd st o t L mc ms ∧ ∀ q ∈ L, free q.base) (bytes := bytes) (maxL := maxL) (ret := ret)
      (E := fun a st o t L k n => k = mc ∧ n = ms ∧ ∀ q ∈ L, free q.base) hM hR.1 hR.2 ?_ ?_ (fun _ _ _ _ _ _ _ _ _ => trivial) ?_ ?_
    · intro m meth c A a X hp
      exact ⟨atoms_intro fun w hw => hws w hw _ _ X.warmed, hws _ hcw _ _ X.warmed, word_at X.warmed (Or.inl (by first | rfl | simp [Cond.onTables, Cond.keeps, Cond.steady])) hini, by rw [show (headSpec ws rm).room.cells = mc from hrc]; exact hp.1, by rw [show (headSpec ws rm).room.slots = ms from hrs]; exact hp.2.1⟩
    · intro m meth c A a g mk X hp9
      exact hp.1 _ _ _ _ hp9.2.2
    · intro a st o t ⟨hq, L, hF, hL⟩
      exact ⟨L, mc, ms, hF, rfl, rfl, hL⟩
    · intro m meth c A a g mk v t L k n X hp hq hF ⟨e1, e2, hL⟩
      subst e1; subst e2
      exact ⟨g, mk, t, L, rfl, rfl, hq.1, rfl, hL, rfl, rfl⟩
  obtain ⟨mk, methM, cM, hnamed, hmethM, -, -, -, -, -, -, hsigM⟩ := Cond.codeWith_spec (hts _ (hG _ hcw).1)
  have hstatic : methM.isStatic = true := Cond.static_spec hnamed hmethM hstat
  obtain ⟨kP, hkP, -⟩ := className_of_methodNamed hnamed
  have hinitP : kP.init = .initialized := Cond.initialized_spec (findClass_of_methodNamed hnamed) hkP hini
  have hlen : n = methM.sig.parameters.length := by
    have h2 := hd.2.2
    rw [hsigM] at h2
    exact (Option.some.inj h2).symm
  intro T hT X
  subst hb
  obtain ⟨vm₁, X₁, hstep₁⟩ := X.invokestatic hx ho hl hnamed hmethM hstatic hkP hinitP ⟨hd.1, hd.2.1⟩ (g := g) hg (argsL := As) (rest := rest) (hn.trans hlen) hstack hdg
  obtain ⟨v, ⟨U', l2, c2, s2⟩, X', ⟨g', mk', t, L, e1, e2, hq, h1, hL, h2, h3⟩, st⟩ := hK m meth c ⟨T.setVm vm₁, locs, cells, slots⟩ { g with stack := rest } (.invokestatic index) mk As.toArray X₁ hg (hsize.trans hml.symm) hdg hW (X₁.named hnamed) ⟨hf.1, hf.2, hp.2 (T.setVm vm₁) hT X₁.warmed⟩
  dsimp only [Pt.U, Pt.locs, Pt.cells, Pt.slots] at X' e1 e2 h1 h2 h3 st
  subst h1; subst h2; subst h3
  exact ⟨v, (T.setVm vm₁).calling g' mk' As.toArray, t, U', L, hT, X', hL, e1, e2, hq, fun target h => hstep₁ _ fun acts => by rw [doInvoke_state]; exact st.trans h⟩
def vx_L (C n d : String) (A : Nat → Prop) (U : State) (H : Heap) : Prop := ∃ (c : ClassId) (k : Class) (i : Nat) (f : Field) (a : Nat) (cell : Cell), U.vm.findClass C = some c ∧ U.fieldFound? C n d = some (c, k, i, f) ∧ f.isStatic = true ∧ k.statics = some a ∧ H[a]? = some cell ∧ cell.vm.isStatics = true ∧ cell.cls = c ∧ f.slot < cell.slots.size ∧ k.staticTypes[f.slot]? = some f.type ∧ ¬ A a
theorem vx_L.moved {C n d : String} {A : Nat → Prop} {u U : State} {H : Heap} (hvm : u.vm.Alike U.vm) (h : vx_L C n d A u H) : vx_L C n d A U H := by
  obtain ⟨c, k, i, f, a, cell, h1, h2, h3, h4, h5, h6, h7, h8, h9, h10⟩ := h
  obtain ⟨k', hi', he⟩ := State.fieldFound?_setVm hvm h2
  exact ⟨c, k', i, f, a, cell, by rw [hvm.findClass]; exact h1, hi', h3, by rw [he]; exact h4, h5, h6, h7, h8, by rw [he]; exact h9, h10⟩
theorem vx_L.kept {C n d : String} {A : Nat → Prop} {U : State} {H H1 : Heap} (h : vx_L C n d A U H) (hq : ∀ a : Nat, a < H.size → ¬ A a → H1[a]? = H[a]?) : vx_L C n d A U H1 := by
  obtain ⟨c, k, i, f, a, cell, h1, h2, h3, h4, h5, h6, h7, h8, h9, h10⟩ := h
  exact ⟨c, k, i, f, a, cell, h1, h2, h3, h4, by rw [hq a (Array.getElem?_eq_some_iff.mp h5).1 h10]; exact h5, h6, h7, h8, h9, h10⟩
theorem vx_L.narrow {C n d : String} {A B : Nat → Prop} {U : State} {H : Heap} (h : vx_L C n d A U H) (hAB : ∀ q, B q → A q) : vx_L C n d B U H := by
  obtain ⟨c, k, i, f, a, cell, h1, h2, h3, h4, h5, h6, h7, h8, h9, h10⟩ := h
  exact ⟨c, k, i, f, a, cell, h1, h2, h3, h4, h5, h6, h7, h8, h9, fun z => h10 (hAB _ z)⟩
theorem vx_L.word {C n d : String} {A : Nat → Prop} {s : State} {args : Array Value} (h : vx_L C n d A s s.heap) : (Cond.laysStatic C n d).before args s = true := by
  obtain ⟨c, k, i, f, a, cell, h1, h2, h3, h4, h5, h6, h7, h8, h9, -⟩ := h
  show (Cond.laysStatic C n d).holds args s none s [] = true
  exact Cond.laysStatic_of h1 h2 h3 h4 h5 h6 h7 h8 h9
/-- .. and what it holds: null or some reference -/
def vx_Zq (C n d : String) (A : Nat → Prop) (U : State) (H : Heap) : Prop := va_Zq C n d A U H ∧ vx_L C n d A U H
theorem vx_Zq.moved {C n d : String} {A : Nat → Prop} {u U : State} {H : Heap} (hvm : u.vm.Alike U.vm) (h : vx_Zq C n d A u H) : vx_Zq C n d A U H := ⟨va_Zq.moved hvm h.1, vx_L.moved hvm h.2⟩
theorem vx_Zq.kept {C n d : String} {A : Nat → Prop} {U : State} {H H1 : Heap} (h : vx_Zq C n d A U H) (hq : ∀ a : Nat, a < H.size → ¬ A a → H1[a]? = H[a]?) : vx_Zq C n d A U H1 := ⟨va_Zq.kept h.1 hq, vx_L.kept h.2 hq⟩
theorem vx_Zq.narrow {C n d : String} {A B : Nat → Prop} {U : State} {H : Heap} (h : vx_Zq C n d A U H) (hAB : ∀ q, B q → A q) : vx_Zq C n d B U H := ⟨va_Zq.narrow h.1 hAB, vx_L.narrow h.2 hAB⟩
theorem vx_Zqof {args : Array Value} {s : State} {C n d : String} {A : Nat → Prop} (hl : (Cond.laysStatic C n d).before args s = true) (hini : (Cond.initialized C).before args s = true) (h : (Cond.isRef (.static C n d)).before args s = true) (hA : ∀ a : Nat, a < s.heap.size → ¬ A a) : vx_Zq C n d A s s.heap := by
  refine ⟨va_Zqof hl hini h hA, ?_⟩
  obtain ⟨c, k, i, f, a, cell, h1, h2, h3, h4, h5, h6, h7, h8, h9⟩ := Cond.laysStatic_spec hl
  exact ⟨c, k, i, f, a, cell, h1, h2, h3, h4, h5, h6, h7, h8, h9, hA a (Array.getElem?_eq_some_iff.mp h5).1⟩
theorem vx_isRef {C n d : String} {v : Value} {A : Nat → Prop} {s : State} {args : Array Value} (h : va_Z C n d v A s s.heap) (hv : v.isRef = true) : (Cond.isRef (.static C n d)).before args s = true := by
  obtain ⟨cf, kf, fi, f, a, cell, h1, h2, h3, h4, h5, h6, h7, -⟩ := h
  have he : (Term.static C n d).eval args s none [] s = some v := by
    simp [Term.eval, State.fieldNamed?, h1, h2, h4, h5, h6, h7]
  simp only [Cond.before, Cond.holds, Cond.value, he]
  cases v <;> simp_all [Value.isRef]
theorem vx_isRefq {C n d : String} {A : Nat → Prop} {s : State} {args : Array Value} (h : va_Zq C n d A s s.heap) : (Cond.isRef (.static C n d)).before args s = true := by
  rcases h with h | ⟨t, h⟩
  · exact vx_isRef h rfl
  · exact vx_isRef h rfl
/-- words that the tables alone decide, but that aren't among the good ones -/
def th_bad : List Cond := [.declares (Bundle.init0 "java/lang/RuntimeException"), .declares (Bundle.init0 "java/lang/Exception"), .declares (Bundle.init0 Bundle.tN), .castable "java/lang/IllegalStateException" "java/lang/IllegalStateException", .castable "java/lang/IllegalArgumentException" "java/lang/IllegalArgumentException", .castable "java/lang/IndexOutOfBoundsException" "java/lang/IndexOutOfBoundsException", .castable "java/util/NoSuchElementException" "java/util/NoSuchElementException"]
theorem th_bad_ok : ∀ w ∈ th_bad, w.onTables = true ∧ w.keepsFace = true := by decide
theorem th_face {args a' : Array Value} {s U : State} {w : Cond} (hW : s.WarmedH U.vm) (h1 : w.onTables = true) (h2 : w.keepsFace = true) (h : w.before args s = true) : w.before a' U = true :=
  va_tabs (u := s.setVm U.vm) h1 rfl (Cond.before_shiftedFace (State.Shifted.of_warmed hW) _ h2 h)
def th_Nq (U : State) : Prop := va_Nc "java/lang/IndexOutOfBoundsException" "java/lang/IllegalArgumentException" U ∧ va_Nc "java/lang/IndexOutOfBoundsException" "java/lang/IllegalStateException" U ∧ va_Nc "java/util/NoSuchElementException" "java/lang/IllegalStateException" U ∧ va_Nc "java/util/NoSuchElementException" "java/lang/IndexOutOfBoundsException" U
theorem th_Nq.moved {u U : State} (hvm : u.vm.Alike U.vm) (h : th_Nq u) : th_Nq U := ⟨va_Nc.moved hvm h.1, va_Nc.moved hvm h.2.1, va_Nc.moved hvm h.2.2.1, va_Nc.moved hvm h.2.2.2⟩
def th_N (U : State) : Prop := (∀ w ∈ th_bad, w.before #[] U = true) ∧ va_AO "DraftTree$State" U ∧ th_Nq U
theorem th_N.warm {s U : State} (hW : s.WarmedH U.vm) (h : th_N s) : th_N U := ⟨fun w hw => th_face hW (th_bad_ok w hw).1 (th_bad_ok w hw).2 (h.1 w hw), va_AO.moved hW.alike h.2.1, th_Nq.moved hW.alike h.2.2⟩
theorem th_N.calling {U : State} {g : JFrame} {mk : MethodId} {a : Array Value} (h : th_N U) : th_N (U.calling g mk a) := ⟨fun w hw => va_tabs (u := U) (th_bad_ok w hw).1 rfl (h.1 w hw), va_AO.moved (u := U) (U := U.calling g mk a) (Vm.Alike.refl U.vm) h.2.1, th_Nq.moved (u := U) (U := U.calling g mk a) (Vm.Alike.refl U.vm) h.2.2⟩
/-- what a throw needs of the start: the two statics of Throwable hold references, and words of the tables -/
def th_Zs (U : State) : Prop := vx_Zq Bundle.tN "UNASSIGNED_STACK" Bundle.steD (fun _ => False) U U.heap ∧ vx_Zq Bundle.tN "SUPPRESSED_SENTINEL" Bundle.listD (fun _ => False) U U.heap ∧ th_N U
def th_ZA (A : Nat → Prop) (s : State) : Prop := vx_Zq Bundle.tN "UNASSIGNED_STACK" Bundle.steD A s s.heap ∧ vx_Zq Bundle.tN "SUPPRESSED_SENTINEL" Bundle.listD A s s.heap ∧ th_N s
theorem th_Zs.calling {U : State} {g : JFrame} {mk : MethodId} {a : Array Value} (h : th_Zs U) : th_Zs (U.calling g mk a) :=
  ⟨vx_Zq.moved (u := U) (U := U.calling g mk a) (Vm.Alike.refl U.vm) h.1, vx_Zq.moved (u := U) (U := U.calling g mk a) (Vm.Alike.refl U.vm) h.2.1, h.2.2.calling⟩
theorem th_Zs.same {s U : State} (h : th_Zs s) (hU : U.heap = s.heap) (hW : s.WarmedH U.vm) : th_Zs U := by
  refine ⟨?_, ?_, h.2.2.warm hW⟩
  · rw [hU]; exact vx_Zq.moved hW.alike h.1
  · rw [hU]; exact vx_Zq.moved hW.alike h.2.1
theorem th_ZA.of {A : Nat → Prop} {s U : State} {H : Heap} {locs : List Loc} (h : th_ZA A s) (hS : va_S A s.heap H locs) (hU : U.heap = H) (hW : s.WarmedH U.vm) : th_Zs U := by
  refine ⟨?_, ?_, h.2.2.warm hW⟩
  · rw [hU]; exact vx_Zq.moved hW.alike ((h.1.kept hS.2.1).narrow (fun _ z => z.elim))
  · rw [hU]; exact vx_Zq.moved hW.alike ((h.2.1.kept hS.2.1).narrow (fun _ z => z.elim))
/-- the words of a throw: the good ones, four of the heap, and those of th_bad -/
theorem th_atoms {args : Array Value} {s : State} (hZ : th_Zs s) {L : List Cond} (h : ∀ w ∈ L, w.before args s = true ∨ w = .isRef (.static Bundle.tN "UNASSIGNED_STACK" Bundle.steD) ∨ w = .isRef (.static Bundle.tN "SUPPRESSED_SENTINEL" Bundle.listD) ∨ w = .laysStatic Bundle.tN "UNASSIGNED_STACK" Bundle.steD ∨ w = .laysStatic Bundle.tN "SUPPRESSED_SENTINEL" Bundle.listD ∨ w ∈ th_bad) : ∀ w ∈ L, w.before args s = true := by
  intro w hw
  rcases h w hw with h | rfl | rfl | rfl | rfl | h
  · exact h
  · exact vx_isRefq hZ.1.1
  · exact vx_isRefq hZ.2.1.1
  · exact hZ.1.2.word
  · exact hZ.2.1.2.word
  · exact va_tabs (th_bad_ok w h).1 rfl (hZ.2.2.1 w h)
end ThrowKit
section WalkKit
variable {p : Program} {l : Launch} {e : Env} {R : Room} {s : State} {m : MethodId} {args : Array Value} {below : List Frame} {meth : Method} {c : Code} {H : Heap} {locs : List Loc} {cells slots : Nat} {Q : State → Prop}
theorem wk_top {v w : Value} {pc : Nat} {ls : Array Slot} {rest : List Value} (h : v = w) (k : W p l e R s m args below meth c H locs cells slots Q (F0 m pc ls (w :: rest))) : W p l e R s m args below meth c H locs cells slots Q (F0 m pc ls (v :: rest)) := by
  subst h
  exact k
theorem wk_in {x : Int32} {n : Nat} (h : decide (x < 0 ∨ n ≤ x.toNatClampNeg) = false) : vp_in x n := of_decide_eq_false h
theorem wk_eq {x c : Int32} (n : Int) (hc : c.toInt = n) : x = c ↔ x.toInt = n := by subst hc; exact Int32.toInt_inj.symm
theorem wk_qe {x c : Int32} (n : Int) (hc : c.toInt = n) : c = x ↔ x.toInt = n := by subst hc; exact ⟨fun h => by rw [h], fun h => (Int32.toInt_inj.mp h).symm⟩
theorem wk_lt {x c : Int32} (n : Int) (hc : c.toInt = n) : x < c ↔ x.toInt < n := by subst hc; exact Int32.lt_iff_toInt_lt
theorem wk_gt {x c : Int32} (n : Int) (hc : c.toInt = n) : c < x ↔ x.toInt > n := by subst hc; exact Int32.lt_iff_toInt_lt
theorem wk_le {x c : Int32} (n : Int) (hc : c.toInt = n) : x ≤ c ↔ x.toInt ≤ n := by subst hc; exact Int32.le_iff_toInt_le
theorem wk_ge {x c : Int32} (n : Int) (hc : c.toInt = n) : c ≤ x ↔ x.toInt ≥ n := by subst hc; exact Int32.le_iff_toInt_le
theorem wk_and31 (x : Int32) : ∃ z : Int32, x &&& 31 = z ∧ 0 ≤ z.toInt ∧ z.toInt ≤ 31 := by
  obtain ⟨j, hj, h⟩ := pk_andE x (m := 31) 5 (by decide)
  refine ⟨nI j, h, ?_⟩
  rw [nI_toInt (by omega)]
  omega
end WalkKit
