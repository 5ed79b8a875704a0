-- 01.throw
theorem goodIn_r {big : List Cond} (ws : List Cond) (ps : List Nat) (hp : ws = ps.filterMap (fun i => big[i]?)) (h : ws.all goodWord = true) : GoodIn big ws := by
  intro w hw
  have h1 := List.all_eq_true.mp h w hw
  rw [hp] at hw
  obtain ⟨i, -, hi⟩ := List.mem_filterMap.mp hw
  have hm : w ∈ big := by first | exact List.mem_of_getElem? hi | exact List.getElem?_mem hi
  exact ⟨hm, good_of_word h1⟩
-- own rows: methods that throw, calls that throw, handlers
section ThrowKit
variable {p : Program} {l : Launch} {e : Env} {R : Room} {s : State} {m : MethodId} {args : Array Value} {below : List Frame} {meth : Method} {c : Code} {H : Heap} {locs : List Loc} {cells slots : Nat} {Q : State → Prop}
/-- how a throwing method leaves the machine: the thrown object's address, what the contract says of it, and the frame -/
def th_Q (below : List Frame) (Qc : Array Value → State → Addr → State → Prop) (a : Array Value) (s : State) (mc ms : Nat) (free : Addr → Prop) : State → Prop := fun t =>
  ∃ x, t.status = .running ∧ Ended t below (.threw x) ∧ Qc a s x t ∧ s.WarmedH t.vm ∧ ∃ L, s.sameButNew ({ t with vm := s.vm } : State) L mc ms ∧ ∀ q ∈ L, free q.base
/-- the contract of a method that throws -/
def th_Met (l : Launch) (y : MethodName) (ws : List Cond) (rm : Room) (Pc : Array Value → State → Prop) (Qc : Array Value → State → Addr → State → Prop) (mc ms : Nat) (free : Addr → Prop) : Prop :=
  MetFree l y (headSpec ws rm) Pc (fun _ _ _ _ _ => True) (fun a st o t => ∃ x, o = .threw x ∧ Qc a st x t ∧ st.WarmedH t.vm ∧ ∃ L, st.sameButNew ({ t with vm := st.vm } : State) L mc ms ∧ ∀ q ∈ L, free q.base)
theorem th_out {c : Code} (h : c.exceptionTable.isEmpty = true) (pc : Nat) : ∀ x ∈ c.exceptionTable.toList, covers x pc = false := by
  have h0 : c.exceptionTable.size = 0 := by simpa [Array.isEmpty] using h
  have h1 : c.exceptionTable.toList = [] := List.eq_nil_of_length_eq_zero (by simpa using h0)
  intro y hy
  rw [h1] at hy
  cases hy
theorem th_Met.ofW {y : MethodName} {ws ws' : List Cond} {rm : Room} {Pc : Array Value → State → Prop} {Qc : Array Value → State → Addr → State → Prop} {mc ms : Nat} {free : Addr → Prop} {cc : ByteArray} {maxL : Nat} {ret : Option FieldType}
    (hy : plainName y.cls = true) (hw : ws = Cond.code y cc maxL ret :: ws')
    (body : ∀ p e s m args below meth c s₁, BodyLoose p l y (headSpec ws rm) cc maxL ret e s m args below meth c s₁ → c.maxLocals = maxL → c.exceptionTable.isEmpty = true → Pc args s →
      W p l e (headSpec ws rm).room s m args below meth c s.heap [] 0 0 (th_Q below Qc args s mc ms free) (entryFrame m args maxL)) : th_Met l y ws rm Pc Qc mc ms free := by
  refine MetFree.of_bodyS (code := cc) (maxLocals := maxL) (ret := ret) hy ?_ ?_
  · intro args s m h hn
    obtain ⟨meth, c, h1, h2, h3, h4, h5, h6, -, -⟩ := Cond.code_spec hn (atoms_spec (ws := ws) h _ (by rw [hw]; exact List.mem_cons_self))
    exact ⟨meth, c, h1, h2, h3, h4, h5, h6⟩
  · intro p e s m args below meth c s₁ B hml hP _
    have hh0 : s₁.heap = s.heap := by rw [B.state]; rfl
    have hnh := B.noHandlers (atoms_spec (ws := ws) B.pre _ (by rw [hw]; exact List.mem_cons_self))
    obtain ⟨t, a1, x, b1, b2, b3⟩ := body p e s m args below meth c s₁ B hml hnh hP s₁ hh0 (Stand.of_body B)
    exact ⟨t, .threw x, a1, b1, b2, x, rfl, b3⟩
/-- nothing old has changed -/
theorem th_kept {s t : State} {k n : Nat} (h : s.sameButNew t [] k n) {a : Nat} {c : Cell} (hc : s.heap[a]? = some c) : t.heap[a]? = some c := by
  obtain ⟨-, -, -, -, -, h6⟩ := h
  obtain ⟨c', h1, h2, h3, h4⟩ := h6 a c hc
  have hs : c'.slots = c.slots := Array.ext_getElem? (fun i => h4 i (by simp))
  have : c' = c := by rw [h2, hs]
  rw [h1, this]
theorem th_keptq {s t : State} {k n : Nat} (h : s.sameButNew t [] k n) {a : Nat} (ha : a < s.heap.size) : t.heap[a]? = s.heap[a]? := by
  have h1 : s.heap[a]? = some s.heap[a] := Array.getElem?_eq_getElem ha
  rw [h1]
  exact th_kept h h1
/-- what is said of a thrown object: it is new, and of that class -/
def th_Is (C : String) (s : State) (x : Addr) (t : State) : Prop := s.heap.size ≤ x ∧ ∃ ce : Cell, t.heap[x]? = some ce ∧ ce.vm.isStatics = false ∧ s.vm.findClass C = some ce.cls ∧ s.vm.assignable ce.cls ce.cls = true
/-- the end of a method that throws a C: nothing old has changed -/
def th_Qn (C : String) : Array Value → State → Addr → State → Prop := fun _ st x t => th_Is C st x t ∧ va_F (fun _ => False) st t
/-- new X; dup; X(); athrow, where nothing has been written yet -/
theorem th_new {cc : ByteArray} (hexec : p.tables.exec = Jvm.exec) (hb : c.code = cc) (htr : e.platform.stackTraces = false) {own cls : String} {names : List String} {ix ic : Nat} (hown : s.vm.findClass own = some m.cls)
    (hcls : Bundle.fit cls = true) (hnames : ∀ n ∈ names, Bundle.fit n = true) (hat : ∀ a ∈ Bundle.ownAtoms0 own ic cls names, a.before args s = true)
    (hcl : (Cond.classLink own ix cls).before args s = true) (hini : (Cond.initialized cls).before args s = true)
    (hnh : c.exceptionTable.isEmpty = true) {pc : Nat} {ls : Array Slot} (hml : ls.size = c.maxLocals) {rest : List Value} (hsz : s.heap.size ≤ H.size)
    (hfr : names.length + 3 < R.frames) (hlo : 1 + (rest.map fun v => v.category).sum + (13 * (names.length + 1) + 41) ≤ R.locals) (hc : cells + 1 ≤ R.cells) (hsl : slots + 6 ≤ R.slots) {free : Addr → Prop}
    (hlocks : meth.locks = false)
    (hd0 : decode cc pc = .ok (.new ix, 3)) (hd3 : decode cc (pc + 3) = .ok (.dup, 1)) (hd4 : decode cc (pc + 4) = .ok (.invokespecial ic, 3)) (hd7 : decode cc (pc + 7) = .ok (.athrow, 1)) :
    W p l e R s m args below meth c H [] cells slots (th_Q below (th_Qn cls) args s (cells + 1) (slots + 6) free) (F0 m pc ls rest) := by
  refine W.newc hexec hb hown hcl (hat (.instantiable cls 6) (by simp [Bundle.ownAtoms0])) hini rfl hd0 hc hsl (fun cC kC h1 h2 h3 h4 => ?_)
  refine W.eq (g2 := F0 m (pc + 3) ls (.ref H.size :: rest)) rfl ?_
  refine lv_dup hexec hb hd3 rfl ?_
  refine W.eq (g2 := F0 m (pc + 4) ls (.ref H.size :: .ref H.size :: rest)) rfl ?_
  intro T hT X
  subst hb
  have hcell : T.heap[H.size]? = some (freshCell cC kC) := by
    rw [hT]
    simp [freshCell]
  obtain ⟨U, st, hrun, hend, hW, hsame, ce, hce, ho⟩ := X.ctorThrow0 hexec htr hown hcls hnames hat (fun x hx => by cases hx) h1 h2 hcell hsz (g := F0 m (pc + 4) ls (.ref H.size :: .ref H.size :: rest)) rfl hml rfl rfl (rest := rest) rfl hd4 hd7 (th_out hnh _) hfr
    (by simpa [JFrame.monitorRoom, Value.category, Nat.add_assoc] using hlo) hlocks
  exact ⟨U, st, H.size, hrun, hend, ⟨⟨hsz, ce, hce, by rw [ho.vm]; rfl, ho.cls, ho.self⟩, hsame.2.1, fun q hq _ => th_keptq hsame hq⟩, hW, [], hsame, fun q hq => by cases hq⟩
/-- a call of a method that throws: the walk stands again behind it, the note on top -/
def th_Run (p : Program) (l : Launch) (e : Env) (R : Room) (s : State) (m : MethodId) (args : Array Value) (below : List Frame) (meth : Method) (c : Code) (H : Heap) (locs : List Loc) (cells slots mc ms : Nat) (g : JFrame) (rest : List Value) (Qa : State → Addr → State → Prop) (free : Addr → Prop) : Prop :=
  ∀ T : State, T.heap = H → Stand p l e R s m args below meth c T locs cells slots → ∃ (x : Addr) (st₀ t T' : State) (L : List Loc), st₀.heap = H ∧ s.vm.Alike st₀.vm ∧ Stand p l e R s m args below meth c T' (locs ++ L) (cells + mc) (slots + ms) ∧ (∀ q ∈ L, free q.base) ∧ T'.heap = t.heap ∧ T'.vm = t.vm ∧ Qa st₀ x t ∧
    Steps p.tables e below (T.setTop g) ((T'.setTop { g with stack := rest }).pushFrame (.throwing x))
theorem th_back {y : MethodName} {ws : List Cond} {rm : Room} {Pc : Array Value → State → Prop} {Qc : Array Value → State → Addr → State → Prop} {mc ms : Nat} {free : Addr → Prop} {bytes : ByteArray} {maxL : Nat} {ret : Option FieldType} {own : String} {index n : Nat}
    (hM : th_Met l y ws rm Pc Qc mc ms free) (hbl : FrameBlind Pc) (cb : CallB R s args own index y bytes maxL ret ws rm mc ms n) {U : State}
    (X : Stand p l e R s m args below meth c U locs cells slots) {g : JFrame} (hg : g.method = m) (hsize : g.locals.size = c.maxLocals) {ig : Instr} {len : Nat} (hdg : decode c.code g.pc = .ok (ig, len))
    (hW : 2 * g.monitorRoom + (g.stack.map fun v => v.category).sum ≤ 8) {mk : MethodId} (hn : U.methodNamed? y = some mk) {a : Array Value} (hc : cells + mc ≤ R.cells) (hs : slots + ms ≤ R.slots) (hP : Pc a U) :
    ∃ (x : Addr) (T' t : State) (L : List Loc), Stand p l e R s m args below meth c T' (locs ++ L) (cells + mc) (slots + ms) ∧ T'.heap = t.heap ∧ T'.vm = t.vm ∧ (∀ q ∈ L, free q.base) ∧ Qc a (U.calling g mk a) x t ∧
      Steps p.tables e below (doInvoke e (U.setTop g) [] mk a).1 ((T'.setTop g).pushFrame (.throwing x)) := by
  obtain ⟨hrc, hrs, hfr, hlo, hws, hcw, -, hini, -⟩ := cb
  have h2 : (Cond.code y bytes maxL ret).before a U = true := hws _ hcw a U X.warmed
  have h1 : (headSpec ws rm).pre.before a U = true := atoms_intro fun w hw => hws w hw _ _ X.warmed
  have h3 : (Cond.initialized y.cls).before a U = true := word_at X.warmed (Or.inl (by first | rfl | simp [Cond.onTables, Cond.keeps, Cond.steady])) hini
  obtain ⟨methY, cY, hmY, hcY, -, hlY, -, -, -, -⟩ := Cond.code_spec hn h2
  obtain ⟨kY, hkY, -⟩ := className_of_methodNamed hn
  have hinitY : kY.init = .initialized := Cond.initialized_spec (findClass_of_methodNamed hn) hkY h3
  have h : At U g.method c below := by rw [hg]; exact X.here
  have happ : (headSpec ws rm).appliesLoose y e.platform (U.calling g mk a) = true :=
    Spec.appliesLoose_calling (g := g) h hdg hn hkY hinitY
      (X.room_calling (g := g) (R' := (headSpec ws rm).room) hsize hmY hcY hfr (by rw [hlY]; show _ + rm.locals ≤ _; omega) (by show cells + rm.cells ≤ _; rw [hrc]; exact hc) (by show slots + rm.slots ≤ _; rw [hrs]; exact hs)) h1
  obtain ⟨mid, hmid⟩ := h.above
  have hfr' : (U.setTop g).frames = (.java g :: mid) ++ below := by rw [State.frames_setTop' g h.top, hmid]; rfl
  obtain ⟨o, s₂, hsteps, -, hend, x, rfl, hq, hW₂, L, hsame, hL⟩ := Steps.callFree hM p X.admits X.cas X.clock (acts := []) hfr' happ (hbl _ _ _ _ hP) trivial
  rw [State.frames_setTop' g h.top, X.tail] at hend
  obtain ⟨T', X', -, -, ht⟩ := X.outOfThrown hg (mk := mk) (a := a) hend hW₂ hsame
  subst ht
  exact ⟨x, T', (T'.setTop g).pushFrame (.throwing x), L, X', rfl, rfl, hL, hq, hsteps⟩
section Runs
variable {y : MethodName} {bytes cc : ByteArray} {maxL nL mc ms n index : Nat} {ret : Option FieldType} {ws : List Cond} {rm : Room} {Pc : Array Value → State → Prop} {Qc : Array Value → State → Addr → State → Prop} {free : Addr → Prop} {Ts : List Cond} {own C : String} {b : Addr} {As rest : List Value} {g : JFrame}
theorem th_runV (S : CallFix p m c cc nL s args Ts own) (hM : th_Met l y ws rm Pc Qc mc ms free) (cw : CallW R s args own C index y bytes maxL ret ws rm mc ms n) (hp : PreV s H C b Pc As)
    (hg : g.method = m) (hn : As.length = n) (hsize : g.locals.size = nL) (hstack : g.stack = As.reverse ++ .ref b :: rest) (hW : 2 * g.monitorRoom + (rest.map fun v => v.category).sum ≤ 8) (hdg : decode cc g.pc = .ok (.invokevirtual index, 3)) (hf : cells + mc ≤ R.cells ∧ slots + ms ≤ R.slots) :
    th_Run p l e R s m args below meth c H locs cells slots mc ms g rest (Qc (Value.ref b :: As).toArray) free := by
  obtain ⟨hx, hb, hml, ho, -⟩ := S
  obtain ⟨hbl, ⟨cellB, hcB, hoB, hclB⟩, hPc⟩ := hp
  have cb := cw.1
  obtain ⟨⟨-, -, -, -, -, -, hcode, -, hy, hlen, hl⟩, hin, hse⟩ := cw
  intro T hT X
  obtain ⟨mk, methM, hnamed, hmethM, hstM, habM⟩ := Cond.instanceMethod_spec hin
  obtain ⟨methM', cM, hmethM', -, -, -, -, -, -, hsigM⟩ := Cond.code_spec hnamed hcode
  cases hmethM.symm.trans hmethM'
  obtain ⟨c2, r2, m2, q1, q2, q3, q4, kP, hkP, hkPi⟩ := Cond.selects_spec hse
  cases hclB.symm.trans q1
  cases (State.methodFound?_of_named hnamed hy).symm.trans q2
  cases hnamed.symm.trans q3
  have hselP : selectMethod e.platform s.vm cellB.cls mk = .method mk := by rw [Launch.admits_selectMethod X.admits]; exact q4
  subst hb
  obtain ⟨vm₁, X₁, hstep₁⟩ := X.invokevirtual hx ho hl hnamed hmethM hstM hkP hkPi hy (a := b) (cell := cellB) (by rw [hT]; exact hcB) (fun z h => by rw [h] at hoB; cases hoB) hselP hmethM habM hkP hkPi (g := g) hg (argsL := As) (rest := rest) (hn.trans (hlen _ hsigM)) hstack hdg
  obtain ⟨x, T', t, L, X', e1, e2, hL, hq, hsteps⟩ := th_back hM hbl cb X₁ (g := { g with stack := rest }) hg (hsize.trans hml.symm) hdg hW (X₁.named hnamed) hf.1 hf.2 (hPc (T.setVm vm₁) hT X₁.warmed)
  exact ⟨x, (T.setVm vm₁).calling { g with stack := rest } mk (Value.ref b :: As).toArray, t, T', L, hT, X₁.warmed.alike, X', hL, e1, e2, hq, hstep₁ _ fun acts => by rw [doInvoke_state]; exact hsteps⟩
end Runs
theorem th_Is.moved {C : String} {s st t u : State} {x : Addr} (hsz : s.heap.size ≤ st.heap.size) (hal : s.vm.Alike st.vm) (hu : u.heap = t.heap) (h : th_Is C st x t) : th_Is C s x u := by
  obtain ⟨h1, ce, h2, h3, h4, h5⟩ := h
  exact ⟨Nat.le_trans hsz h1, ce, by rw [hu]; exact h2, h3, by rw [← hal.findClass]; exact h4, by rw [← hal.assignable]; exact h5⟩
/-- the call throws, the caller has no handler: it throws too; nothing has been written before -/
theorem th_pass {C : String} {a : Array Value} {mc ms : Nat} {free free' : Addr → Prop} {pc : Nat} {ls : Array Slot} {st0 rest : List Value} (hr : th_Run p l e R s m args below meth c s.heap [] cells slots mc ms (F0 m pc ls st0) rest (th_Qn C a) free) (hnh : c.exceptionTable.isEmpty = true) (hlocks : meth.locks = false)
    (hf : ∀ q, free q → free' q) : W p l e R s m args below meth c s.heap [] cells slots (th_Q below (th_Qn C) args s (cells + mc) (slots + ms) free') (F0 m pc ls st0) := by
  intro T hT X
  obtain ⟨x, st₀, t, T', L, h0, hal, X', hL, e1, e2, ⟨hI, hz, hk⟩, st⟩ := hr T hT X
  obtain ⟨hw, hrun, hend, hW, hsame⟩ := X'.leaveThrown x (g := F0 m pc ls rest) rfl rfl rfl (th_out hnh _) hlocks
  refine ⟨_, st.trans hw, x, hrun, hend, ⟨hI.moved (by rw [h0]; exact Nat.le_refl _) hal e1, ?_, fun q hq _ => ?_⟩, hW, [] ++ L, hsame, fun q hq => hf _ (hL q (by simpa using hq))⟩
  · show s.heap.size ≤ T'.heap.size
    rw [e1]; rw [h0] at hz; exact hz
  · show T'.heap[q]? = s.heap[q]?
    rw [e1]
    have h9 := hk q (by rw [h0]; exact hq) (fun z => z)
    rw [h0] at h9
    exact h9
/-- the search gives a handler, at tables that it may have warmed -/
def th_Finds (e : Env) (s : State) (f : JFrame) (a : Addr) (pc : Nat) (vm' : Vm) : Prop :=
  ∀ (Q : Handler → Jvm.Pre) (E : Jvm.CtlPost) (d : Bool) (acts : List Action), Jvm.Sem.wp (findHandler f a) Q E e d acts s ↔ Q (.found pc) d acts (s.setVm vm')
theorem th_go {E : Jvm.CtlPost} {e : Env} {d : Bool} {acts : List Action} {t0 : State} {f : JFrame} {a : Addr} {Q : Handler → Jvm.Pre} {x : ExceptionTableEntry} {t : List ExceptionTableEntry} {cC : ClassId} {cell : Cell} {vm' : Vm} (hx : covers x f.pc = true) (h0 : x.catchType ≠ 0)
    (hg : (Jvm.resolveClass f.method.cls x.catchType).Gives e.toSetting t0.vm (.ok cC) vm') (hsz : vm'.classes.size ≤ t0.vm.classes.size) (hcell : t0.heap[a]? = some cell) (hobj : ∀ k, cell.vm ≠ .statics k) (hk : ∃ k, vm'.classes[cell.cls]? = some k) (hc : ∃ k, vm'.classes[cC]? = some k) :
    Jvm.Sem.wp (findHandler.go f a (x :: t)) Q E e d acts t0 ↔ if vm'.assignable cell.cls cC = true then Q (.found x.handlerPc) d acts (t0.setVm vm') else Jvm.Sem.wp (findHandler.go f a t) Q E e d acts (t0.setVm vm') := by
  simp only [covers] at hx
  obtain ⟨ha, ht⟩ := hg.op (op := VmOp.resolveClass f.method.cls x.catchType) rfl
  cases hfit : vm'.assignable cell.cls cC <;> simp [findHandler.go, hx, h0, ha, ht, hsz, hcell, hobj, hk, hc, hfit, VmOp.dirties, VmOp.acts]
theorem th_step {e : Env} {s : State} {a : Addr} {f : JFrame} {r : List Frame} {pc : Nat} {vm' : Vm} (hfind : th_Finds e s f a pc vm') :
    (stepThrowing e s a (.java f :: r)).Is ((s.setVm vm').setFrames (.java { f with pc := pc, stack := [.ref a] } :: r)) [] := by
  simp only [stepThrowing, searchFrame, vmDo]
  generalize hr : Sem.go _ e false [] s = res
  obtain ⟨as, rfl, ha⟩ := Sem.eq_ok_of hr (a := Handler.found pc) (s' := s.setVm vm') (acts' := []) (by simp [hfind _ _ _ _])
  exact ⟨rfl, ha⟩
theorem th_caught {tb : Tables} {e : Env} {s target : State} {g : JFrame} {c : Code} {below : List Frame} {a : Addr} {pc : Nat} {vm' : Vm} (h : At s g.method c below) (hfind : th_Finds e ((s.setTop g).pushFrame (.throwing a)) g a pc vm')
    (hrest : Steps tb e below ((s.setVm vm').setTop { g with pc := pc, stack := [.ref a] }) target) :
    Steps tb e below ((s.setTop g).pushFrame (.throwing a)) target := by
  obtain ⟨hgo, hw⟩ := h.throwing a
  refine Steps.head hgo hw ?_
  rw [stepThread_throwing (frames_entered h.top _), (th_step (s := (s.setTop g).pushFrame (.throwing a)) hfind).1]
  obtain ⟨g₀, hg⟩ := Option.isSome_iff_exists.mp h.top
  obtain ⟨r, hr⟩ := State.topJava?_eq_some.mp hg
  have hr' : (s.setVm vm').frames = .java g₀ :: r := hr
  rw [State.setTop_of_frames _ hr'] at hrest
  rw [State.pushFrame, State.setTop_of_frames _ hr, hr]
  have e1 : (((s.setFrames (.java g :: r)).setFrames (.throwing a :: (s.setFrames (.java g :: r)).frames)).setVm vm').setFrames (.java { g with pc := pc, stack := [.ref a] } :: r) = (s.setVm vm').setFrames (.java { g with pc := pc, stack := [.ref a] } :: r) := by
    rw [State.setFrames_setFrames]
    show ((s.setVm vm').setFrames _).setFrames _ = _
    rw [State.setFrames_setFrames]
  exact e1 ▸ hrest
/-- the table's entries ahead of the one that takes a C don't take it -/
def th_Tab (args : Array Value) (s : State) (own C : String) (pc hpc : Nat) : List (Nat × Nat × Nat × Nat) → Prop
  | [] => False
  | (a, b, h, t) :: r => (a ≤ pc ∧ pc < b ∧ t ≠ 0) ∧ ∃ D : String, (Cond.classLink own t D).before args s = true ∧ ((D = C ∧ h = hpc) ∨ (va_Nc C D s ∧ th_Tab args s own C pc hpc r))
theorem th_finds_go {own C : String} {pc hpc : Nat} (hadm : l.admits e) (hown : s.vm.findClass own = some m.cls) {ce : Cell} {x : Addr} (hstat : ce.vm.isStatics = false) (hC : s.vm.findClass C = some ce.cls) (hself : s.vm.assignable ce.cls ce.cls = true) {f : JFrame} (hfm : f.method = m) (hfp : f.pc = pc) : ∀ (tab : List (Nat × Nat × Nat × Nat)), th_Tab args s own C pc hpc tab → ∀ (t0 : State), s.WarmedH t0.vm → t0.heap[x]? = some ce →
    ∃ vm', s.WarmedH vm' ∧ ∀ (Q : Handler → Jvm.Pre) (E : Jvm.CtlPost) (d : Bool) (acts : List Action), Jvm.Sem.wp (findHandler.go f x (tableOf tab)) Q E e d acts t0 ↔ Q (.found hpc) d acts (t0.setVm vm') := by
  intro tab
  induction tab with
  | nil => intro h; exact h.elim
  | cons q r ih =>
    obtain ⟨a, b, hh, t⟩ := q
    intro hT t0 hW hce
    obtain ⟨⟨h1, h2, h3⟩, D, hcl, hd⟩ := hT
    have hpl : e.platform.magicAccessors = ({} : Platform).magicAccessors := by rw [hadm.platform]
    obtain ⟨cD, hfD, hlinks⟩ := Cond.classLink_spec hown hcl e.platform hpl
    obtain ⟨hg, hwarm, -⟩ := State.classEntry (e := e) hW hlinks
    have hal := hwarm.alike
    have hsz : (t0.vm.noted m.cls t (.cls cD)).classes.size ≤ t0.vm.classes.size := Nat.le_of_eq (by simp)
    generalize t0.vm.noted m.cls t (.cls cD) = vm1 at hg hwarm hal hsz
    have hkD : ∃ k, vm1.classes[cD]? = some k := Vm.classAt_of_findClass (name := D) (by rw [hal.findClass]; exact hfD)
    have hkC : ∃ k, vm1.classes[ce.cls]? = some k := Vm.classAt_of_findClass (name := C) (by rw [hal.findClass]; exact hC)
    have hgo := fun (Q : Handler → Jvm.Pre) (E : Jvm.CtlPost) (d : Bool) (acts : List Action) => th_go (E := E) (d := d) (acts := acts) (Q := Q) (e := e) (t0 := t0) (a := x) (t := tableOf r) (x := ⟨a, b, hh, t⟩) (f := f) (by simp [covers, hfp, h1, h2]) h3 (by rw [hfm]; exact hg) hsz hce (VmData.ne_statics_of hstat) hkC hkD
    rcases hd with ⟨rfl, rfl⟩ | ⟨hn, hr⟩
    · have hcc : cD = ce.cls := Option.some.inj (hfD.symm.trans hC)
      subst hcc
      refine ⟨vm1, hwarm, fun Q E d acts => (hgo Q E d acts).trans ?_⟩
      rw [if_pos (by rw [hal.assignable]; exact hself)]
    · obtain ⟨vm', hw', hih⟩ := ih hr (t0.setVm vm1) hwarm hce
      obtain ⟨c0, d0, g1, g2, g3⟩ := hn
      cases hC.symm.trans g1
      cases hfD.symm.trans g2
      refine ⟨vm', hw', fun Q E d acts => (hgo Q E d acts).trans ?_⟩
      rw [if_neg (by rw [hal.assignable, g3]; decide)]
      exact hih Q E d acts
/-- the call throws a C, and the table's entry for it goes on at hpc -/
theorem th_catch {own C : String} {tab : List (Nat × Nat × Nat × Nat)} {hpc mc ms pc : Nat} {free : Addr → Prop} {A0 A1 : Nat → Prop} {H0 : Heap} {Qa : State → Addr → State → Prop} {ls : Array Slot} {st0 rest : List Value}
    (hr : th_Run p l e R s m args below meth c H locs cells slots mc ms (F0 m pc ls st0) rest Qa free) (hown : s.vm.findClass own = some m.cls) (htab : c.exceptionTable.toList = tableOf tab) (hT : th_Tab args s own C pc hpc tab)
    (hI : ∀ st x t, Qa st x t → th_Is C st x t ∧ va_F A1 st t) (hS : va_S A0 H0 H locs) (hA : ∀ q, q < H.size → A1 q → A0 q) (hf : ∀ q, free q → A0 q)
    (kk : ∀ (x : Addr) (st₀ t : State) (H1 : Heap) (locs1 : List Loc), t.heap = H1 → s.vm.Alike t.vm → st₀.heap = H → Qa st₀ x t → H.size ≤ H1.size → (∀ q : Nat, q < H.size → ¬ A1 q → H1[q]? = H[q]?) → va_S A0 H0 H1 locs1 → W p l e R s m args below meth c H1 locs1 (cells + mc) (slots + ms) Q (F0 m hpc ls [.ref x])) :
    W p l e R s m args below meth c H locs cells slots Q (F0 m pc ls st0) := by
  intro T hT0 X
  obtain ⟨x, st₀, t, T', L, h0, hal, X', hL, e1, e2, hqa, st⟩ := hr T hT0 X
  obtain ⟨⟨hx1, ce, hx2, hx3, hx4, hx5⟩, hz, hk⟩ := hI _ _ _ hqa
  rw [h0] at hz hk
  obtain ⟨vm', hw', hfind⟩ := th_finds_go (args := args) X.admits hown hx3 (by rw [← hal.findClass]; exact hx4) (by rw [← hal.assignable]; exact hx5) (f := F0 m pc ls rest) rfl rfl tab hT ((T'.setTop (F0 m pc ls rest)).pushFrame (.throwing x)) X'.warmed (by show T'.heap[x]? = _; rw [e1]; exact hx2)
  have hF : th_Finds e ((T'.setTop (F0 m pc ls rest)).pushFrame (.throwing x)) (F0 m pc ls rest) x hpc vm' := fun Q E d acts => (Jvm.W.findHandler_eq (meth := meth) (code := c) X'.method' X'.code).trans (by rw [htab]; exact hfind Q E d acts)
  have X2 := X'.noted hw'
  obtain ⟨t2, a1, b1⟩ := kk x st₀ t T'.heap (locs ++ L) e1.symm (by rw [← e2]; exact X'.warmed.alike) h0 hqa (by rw [e1]; exact hz) (fun q h1 h2 => by rw [e1]; exact hk q h1 h2)
    ⟨Nat.le_trans hS.1 (by rw [e1]; exact hz), fun q h1 h2 => by rw [e1, hk q (Nat.lt_of_lt_of_le h1 hS.1) (fun z => h2 (hA q (Nat.lt_of_lt_of_le h1 hS.1) z))]; exact hS.2.1 q h1 h2, fun q hq => by
      rcases List.mem_append.mp hq with h | h
      · exact hS.2.2 q h
      · exact hf _ (hL q h)⟩ (T'.setVm vm') rfl X2
  exact ⟨t2, st.trans (th_caught (g := F0 m pc ls rest) X'.here hF a1), b1⟩
/-- a method with a table of handlers that returns -/
theorem th_ofWw {y : MethodName} {ws ws' : List Cond} {rm : Room} {Pc : Array Value → State → Prop} {Qc : Array Value → State → Outcome → State → Prop} {mc ms : Nat} {free : Addr → Prop} {cc : ByteArray} {maxL : Nat} {ret : Option FieldType} {tab : List (Nat × Nat × Nat × Nat)}
    (hy : plainName y.cls = true) (hw : ws = Cond.codeWith y cc maxL ret tab :: ws')
    (body : ∀ p e s m args below meth c s₁, BodyLoose p l y (headSpec ws rm) cc maxL ret e s m args below meth c s₁ → c.maxLocals = maxL → c.exceptionTable.toList = tableOf tab → Pc args s →
      W p l e (headSpec ws rm).room s m args below meth c s.heap [] 0 0 (MQ below Qc args s mc ms free) (entryFrame m args maxL)) : Met l y ws rm Pc Qc mc ms free := by
  refine MetFree.of_bodyS (code := cc) (maxLocals := maxL) (ret := ret) hy ?_ ?_
  · intro args s m h hn
    obtain ⟨m', meth, c, hn', h1, h2, h3, h4, -, h5, h6, -⟩ := Cond.codeWith_spec (atoms_spec (ws := ws) h _ (by rw [hw]; exact List.mem_cons_self))
    cases hn.symm.trans hn'
    exact ⟨meth, c, h1, h2, h3, h4, h5, h6⟩
  · intro p e s m args below meth c s₁ B hml hP _
    have hh0 : s₁.heap = s.heap := by rw [B.state]; rfl
    obtain ⟨m', meth', c', hn', h1, h2, -, -, ht, -, -, -⟩ := Cond.codeWith_spec (atoms_spec (ws := ws) B.pre _ (by rw [hw]; exact List.mem_cons_self))
    cases B.named.symm.trans hn'
    cases B.method.symm.trans h1
    cases (Stand.of_body B).code.symm.trans h2
    obtain ⟨t, a1, o, b1, b2, b3⟩ := body p e s m args below meth c s₁ B hml (by rw [← ht, table_eq]) hP s₁ hh0 (Stand.of_body B)
    exact ⟨t, o, a1, b1, b2, ⟨b3.1, b3.2⟩⟩
/-- a call of a static method with a table of handlers -/
theorem th_runSw {y : MethodName} {bytes cc : ByteArray} {maxL nL mc ms n index : Nat} {ret : Option FieldType} {ws ws' : List Cond} {rm : Room} {Pc : Array Value → State → Prop} {Qc : Array Value → State → Outcome → State → Prop} {free : Addr → Prop} {Ts : List Cond} {own : String} {As rest : List Value} {g : JFrame} {tab : List (Nat × Nat × Nat × Nat)}
    (S : CallFix p m c cc nL s args Ts own) (hM : Met l y ws rm Pc Qc mc ms free) (hG : GoodIn Ts ws) (hw : ws = Cond.codeWith y bytes maxL ret tab :: ws') (hrc : rm.cells = mc) (hrs : rm.slots = ms)
    (hini : (Cond.initialized y.cls).before args s = true) (hl : (Cond.methodLink own index y).before args s = true) (hstat : (Cond.static y).before args s = true)
    (hd : y.cls ≠ "java/lang/invoke/MethodHandle" ∧ y.cls ≠ "java/lang/invoke/VarHandle" ∧ (parseMethodDescriptor y.desc).map (fun d => d.parameters.length) = some n) (hR : rm.frames + 1 ≤ R.frames ∧ 8 + (maxL + 11) + rm.locals ≤ R.locals)
    (hp : PreS s H Pc As) (hg : g.method = m) (hn : As.length = n) (hsize : g.locals.size = nL) (hstack : g.stack = As.reverse ++ rest) (hW : 2 * g.monitorRoom + (rest.map fun v => v.category).sum ≤ 8) (hdg : decode cc g.pc = .ok (.invokestatic index, 3)) (hf : cells + mc ≤ R.cells ∧ slots + ms ≤ R.slots) :
    va_Run p l e R s m args below meth c H locs cells slots mc ms g rest (Qc As.toArray) free := by
  obtain ⟨hx, hb, hml, ho, hts⟩ := S
  have hws := pay_in hts hG
  have hcw : Cond.codeWith y bytes maxL ret tab ∈ ws := by rw [hw]; exact List.mem_cons_self
  have hK : Back l R p e below s args y 3 8 (PreOf R mc ms Pc) (PostOf Qc mc ms free) := by
    refine Back.of_freeWith (handlers := tab) (S := headSpec ws rm) (P := Pc) (K := fun _ _ _ _ _ => True) (Q := fun a st o t => Qc a st o t ∧ ∃ L, FrameEnd st o t L mc ms ∧ ∀ q ∈ L, free q.base) (bytes := bytes) (maxL := maxL) (ret := ret)
      (E := fun a st o t L k n => k = mc ∧ n = ms ∧ ∀ q ∈ L, free q.base) hM hR.1 hR.2 ?_ ?_ (fun _ _ _ _ _ _ _ _ _ => trivial) ?_ ?_
    · intro m meth c A a X hp
      exact ⟨atoms_intro fun w hw => hws w hw _ _ X.warmed, hws _ hcw _ _ X.warmed, word_at X.warmed (Or.inl (by first | rfl | simp [Cond.onTables, Cond.keeps, Cond.steady])) hini, by rw [show (headSpec ws rm).room.cells = mc from hrc]; exact hp.1, by rw [show (headSpec ws rm).room.slots = ms from hrs]; exact hp.2.1⟩
    · intro m meth c A a g mk X hp9
      exact hp.1 _ _ _ _ hp9.2.2
    · intro a st o t ⟨hq, L, hF, hL⟩
      exact ⟨L, mc, ms, hF, rfl, rfl, hL⟩
    · intro m meth c A a g mk v t L k n X hp hq hF ⟨e1, e2, hL⟩
      subst e1; subst e2
      exact ⟨g, mk, t, L, rfl, rfl, hq.1, rfl, hL, rfl, rfl⟩
  obtain ⟨mk, methM, cM, hnamed, hmethM, -, -, -, -, -, -, hsigM⟩ := Cond.codeWith_spec (hts _ (hG _ hcw).1)
  have hstatic : methM.isStatic = true := Cond.static_spec hnamed hmethM hstat
  obtain ⟨kP, hkP, -⟩ := className_of_methodNamed hnamed
  have hinitP : kP.init = .initialized := Cond.initialized_spec (findClass_of_methodNamed hnamed) hkP hini
  have hlen : n = methM.sig.parameters.length := by
    have h2 := hd.2.2
    rw [hsigM] at h2
    exact (Option.some.inj h2).symm
  intro T hT X
  subst hb
  obtain ⟨vm₁, X₁, hstep₁⟩ := X.invokestatic hx ho hl hnamed hmethM hstatic hkP hinitP ⟨hd.1, hd.2.1⟩ (g := g) hg (argsL := As) (rest := rest) (hn.trans hlen) hstack hdg
  obtain ⟨v, ⟨U', l2, c2, s2⟩, X', ⟨g', mk', t, L, e1, e2, hq, h1, hL, h2, h3⟩, st⟩ := hK m meth c ⟨T.setVm vm₁, locs, cells, slots⟩ { g with stack := rest } (.invokestatic index) mk As.toArray X₁ hg (hsize.trans hml.symm) hdg hW (X₁.named hnamed) ⟨hf.1, hf.2, hp.2 (T.setVm vm₁) hT X₁.warmed⟩
  dsimp only [Pt.U, Pt.locs, Pt.cells, Pt.slots] at X' e1 e2 h1 h2 h3 st
  subst h1; subst h2; subst h3
  exact ⟨v, (T.setVm vm₁).calling g' mk' As.toArray, t, U', L, hT, X', hL, e1, e2, hq, fun target h => hstep₁ _ fun acts => by rw [doInvoke_state]; exact st.trans h⟩
def vx_L (C n d : String) (A : Nat → Prop) (U : State) (H : Heap) : Prop := ∃ (c : ClassId) (k : Class) (i : Nat) (f : Field) (a : Nat) (cell : Cell), U.vm.findClass C = some c ∧ U.fieldFound? C n d = some (c, k, i, f) ∧ f.isStatic = true ∧ k.statics = some a ∧ H[a]? = some cell ∧ cell.vm.isStatics = true ∧ cell.cls = c ∧ f.slot < cell.slots.size ∧ k.staticTypes[f.slot]? = some f.type ∧ ¬ A a
theorem vx_L.moved {C n d : String} {A : Nat → Prop} {u U : State} {H : Heap} (hvm : u.vm.Alike U.vm) (h : vx_L C n d A u H) : vx_L C n d A U H := by
  obtain ⟨c, k, i, f, a, cell, h1, h2, h3, h4, h5, h6, h7, h8, h9, h10⟩ := h
  obtain ⟨k', hi', he⟩ := State.fieldFound?_setVm hvm h2
  exact ⟨c, k', i, f, a, cell, by rw [hvm.findClass]; exact h1, hi', h3, by rw [he]; exact h4, h5, h6, h7, h8, by rw [he]; exact h9, h10⟩
theorem vx_L.kept {C n d : String} {A : Nat → Prop} {U : State} {H H1 : Heap} (h : vx_L C n d A U H) (hq : ∀ a : Nat, a < H.size → ¬ A a → H1[a]? = H[a]?) : vx_L C n d A U H1 := by
  obtain ⟨c, k, i, f, a, cell, h1, h2, h3, h4, h5, h6, h7, h8, h9, h10⟩ := h
  exact ⟨c, k, i, f, a, cell, h1, h2, h3, h4, by rw [hq a (Array.getElem?_eq_some_iff.mp h5).1 h10]; exact h5, h6, h7, h8, h9, h10⟩
theorem vx_L.narrow {C n d : String} {A B : Nat → Prop} {U : State} {H : Heap} (h : vx_L C n d A U H) (hAB : ∀ q, B q → A q) : vx_L C n d B U H := by
  obtain ⟨c, k, i, f, a, cell, h1, h2, h3, h4, h5, h6, h7, h8, h9, h10⟩ := h
  exact ⟨c, k, i, f, a, cell, h1, h2, h3, h4, h5, h6, h7, h8, h9, fun z => h10 (hAB _ z)⟩
theorem vx_L.word {C n d : String} {A : Nat → Prop} {s : State} {args : Array Value} (h : vx_L C n d A s s.heap) : (Cond.laysStatic C n d).before args s = true := by
  obtain ⟨c, k, i, f, a, cell, h1, h2, h3, h4, h5, h6, h7, h8, h9, -⟩ := h
  show (Cond.laysStatic C n d).holds args s none s [] = true
  exact Cond.laysStatic_of h1 h2 h3 h4 h5 h6 h7 h8 h9
/-- .. and what it holds: null or some reference -/
def vx_Zq (C n d : String) (A : Nat → Prop) (U : State) (H : Heap) : Prop := va_Zq C n d A U H ∧ vx_L C n d A U H
theorem vx_Zq.moved {C n d : String} {A : Nat → Prop} {u U : State} {H : Heap} (hvm : u.vm.Alike U.vm) (h : vx_Zq C n d A u H) : vx_Zq C n d A U H := ⟨va_Zq.moved hvm h.1, vx_L.moved hvm h.2⟩
theorem vx_Zq.kept {C n d : String} {A : Nat → Prop} {U : State} {H H1 : Heap} (h : vx_Zq C n d A U H) (hq : ∀ a : Nat, a < H.size → ¬ A a → H1[a]? = H[a]?) : vx_Zq C n d A U H1 := ⟨va_Zq.kept h.1 hq, vx_L.kept h.2 hq⟩
theorem vx_Zq.narrow {C n d : String} {A B : Nat → Prop} {U : State} {H : Heap} (h : vx_Zq C n d A U H) (hAB : ∀ q, B q → A q) : vx_Zq C n d B U H := ⟨va_Zq.narrow h.1 hAB, vx_L.narrow h.2 hAB⟩
theorem vx_Zqof {args : Array Value} {s : State} {C n d : String} {A : Nat → Prop} (hl : (Cond.laysStatic C n d).before args s = true) (hini : (Cond.initialized C).before args s = true) (h : (Cond.isRef (.static C n d)).before args s = true) (hA : ∀ a : Nat, a < s.heap.size → ¬ A a) : vx_Zq C n d A s s.heap := by
  refine ⟨va_Zqof hl hini h hA, ?_⟩
  obtain ⟨c, k, i, f, a, cell, h1, h2, h3, h4, h5, h6, h7, h8, h9⟩ := Cond.laysStatic_spec hl
  exact ⟨c, k, i, f, a, cell, h1, h2, h3, h4, h5, h6, h7, h8, h9, hA a (Array.getElem?_eq_some_iff.mp h5).1⟩
theorem vx_isRef {C n d : String} {v : Value} {A : Nat → Prop} {s : State} {args : Array Value} (h : va_Z C n d v A s s.heap) (hv : v.isRef = true) : (Cond.isRef (.static C n d)).before args s = true := by
  obtain ⟨cf, kf, fi, f, a, cell, h1, h2, h3, h4, h5, h6, h7, -⟩ := h
  have he : (Term.static C n d).eval args s none [] s = some v := by
    simp [Term.eval, State.fieldNamed?, h1, h2, h4, h5, h6, h7]
  simp only [Cond.before, Cond.holds, Cond.value, he]
  cases v <;> simp_all [Value.isRef]
theorem vx_isRefq {C n d : String} {A : Nat → Prop} {s : State} {args : Array Value} (h : va_Zq C n d A s s.heap) : (Cond.isRef (.static C n d)).before args s = true := by
  rcases h with h | ⟨t, h⟩
  · exact vx_isRef h rfl
  · exact vx_isRef h rfl
/-- words that the tables alone decide, but that aren't among the good ones -/
def th_bad : List Cond := [.declares (Bundle.init0 "java/lang/RuntimeException"), .declares (Bundle.init0 "java/lang/Exception"), .declares (Bundle.init0 Bundle.tN), .castable "java/lang/IllegalStateException" "java/lang/IllegalStateException", .castable "java/lang/IllegalArgumentException" "java/lang/IllegalArgumentException", .castable "java/lang/IndexOutOfBoundsException" "java/lang/IndexOutOfBoundsException", .castable "java/util/NoSuchElementException" "java/util/NoSuchElementException"]
theorem th_bad_ok : ∀ w ∈ th_bad, w.onTables = true ∧ w.keepsFace = true := by decide
theorem th_face {args a' : Array Value} {s U : State} {w : Cond} (hW : s.WarmedH U.vm) (h1 : w.onTables = true) (h2 : w.keepsFace = true) (h : w.before args s = true) : w.before a' U = true :=
  va_tabs (u := s.setVm U.vm) h1 rfl (Cond.before_shiftedFace (State.Shifted.of_warmed hW) _ h2 h)
def th_Nq (U : State) : Prop := va_Nc "java/lang/IndexOutOfBoundsException" "java/lang/IllegalArgumentException" U ∧ va_Nc "java/lang/IndexOutOfBoundsException" "java/lang/IllegalStateException" U ∧ va_Nc "java/util/NoSuchElementException" "java/lang/IllegalStateException" U ∧ va_Nc "java/util/NoSuchElementException" "java/lang/IndexOutOfBoundsException" U
theorem th_Nq.moved {u U : State} (hvm : u.vm.Alike U.vm) (h : th_Nq u) : th_Nq U := ⟨va_Nc.moved hvm h.1, va_Nc.moved hvm h.2.1, va_Nc.moved hvm h.2.2.1, va_Nc.moved hvm h.2.2.2⟩
def th_N (U : State) : Prop := (∀ w ∈ th_bad, w.before #[] U = true) ∧ va_AO "DraftTree$State" U ∧ th_Nq U
theorem th_N.warm {s U : State} (hW : s.WarmedH U.vm) (h : th_N s) : th_N U := ⟨fun w hw => th_face hW (th_bad_ok w hw).1 (th_bad_ok w hw).2 (h.1 w hw), va_AO.moved hW.alike h.2.1, th_Nq.moved hW.alike h.2.2⟩
theorem th_N.calling {U : State} {g : JFrame} {mk : MethodId} {a : Array Value} (h : th_N U) : th_N (U.calling g mk a) := ⟨fun w hw => va_tabs (u := U) (th_bad_ok w hw).1 rfl (h.1 w hw), va_AO.moved (u := U) (U := U.calling g mk a) (Vm.Alike.refl U.vm) h.2.1, th_Nq.moved (u := U) (U := U.calling g mk a) (Vm.Alike.refl U.vm) h.2.2⟩
/-- what a throw needs of the start: the two statics of Throwable hold references, and words of the tables -/
def th_Zs (U : State) : Prop := vx_Zq Bundle.tN "UNASSIGNED_STACK" Bundle.steD (fun _ => False) U U.heap ∧ vx_Zq Bundle.tN "SUPPRESSED_SENTINEL" Bundle.listD (fun _ => False) U U.heap ∧ th_N U
def th_ZA (A : Nat → Prop) (s : State) : Prop := vx_Zq Bundle.tN "UNASSIGNED_STACK" Bundle.steD A s s.heap ∧ vx_Zq Bundle.tN "SUPPRESSED_SENTINEL" Bundle.listD A s s.heap ∧ th_N s
theorem th_Zs.calling {U : State} {g : JFrame} {mk : MethodId} {a : Array Value} (h : th_Zs U) : th_Zs (U.calling g mk a) :=
  ⟨vx_Zq.moved (u := U) (U := U.calling g mk a) (Vm.Alike.refl U.vm) h.1, vx_Zq.moved (u := U) (U := U.calling g mk a) (Vm.Alike.refl U.vm) h.2.1, h.2.2.calling⟩
theorem th_Zs.same {s U : State} (h : th_Zs s) (hU : U.heap = s.heap) (hW : s.WarmedH U.vm) : th_Zs U := by
  refine ⟨?_, ?_, h.2.2.warm hW⟩
  · rw [hU]; exact vx_Zq.moved hW.alike h.1
  · rw [hU]; exact vx_Zq.moved hW.alike h.2.1
theorem th_ZA.of {A : Nat → Prop} {s U : State} {H : Heap} {locs : List Loc} (h : th_ZA A s) (hS : va_S A s.heap H locs) (hU : U.heap = H) (hW : s.WarmedH U.vm) : th_Zs U := by
  refine ⟨?_, ?_, h.2.2.warm hW⟩
  · rw [hU]; exact vx_Zq.moved hW.alike ((h.1.kept hS.2.1).narrow (fun _ z => z.elim))
  · rw [hU]; exact vx_Zq.moved hW.alike ((h.2.1.kept hS.2.1).narrow (fun _ z => z.elim))
/-- the words of a throw: the good ones, four of the heap, and those of th_bad -/
theorem th_atoms {args : Array Value} {s : State} (hZ : th_Zs s) {L : List Cond} (h : ∀ w ∈ L, w.before args s = true ∨ w = .isRef (.static Bundle.tN "UNASSIGNED_STACK" Bundle.steD) ∨ w = .isRef (.static Bundle.tN "SUPPRESSED_SENTINEL" Bundle.listD) ∨ w = .laysStatic Bundle.tN "UNASSIGNED_STACK" Bundle.steD ∨ w = .laysStatic Bundle.tN "SUPPRESSED_SENTINEL" Bundle.listD ∨ w ∈ th_bad) : ∀ w ∈ L, w.before args s = true := by
  intro w hw
  rcases h w hw with h | rfl | rfl | rfl | rfl | h
  · exact h
  · exact vx_isRefq hZ.1.1
  · exact vx_isRefq hZ.2.1.1
  · exact hZ.1.2.word
  · exact hZ.2.1.2.word
  · exact va_tabs (th_bad_ok w h).1 rfl (hZ.2.2.1 w h)
end ThrowKit
section WalkKit
variable {p : Program} {l : Launch} {e : Env} {R : Room} {s : State} {m : MethodId} {args : Array Value} {below : List Frame} {meth : Method} {c : Code} {H : Heap} {locs : List Loc} {cells slots : Nat} {Q : State → Prop}
theorem wk_top {v w : Value} {pc : Nat} {ls : Array Slot} {rest : List Value} (h : v = w) (k : W p l e R s m args below meth c H locs cells slots Q (F0 m pc ls (w :: rest))) : W p l e R s m args below meth c H locs cells slots Q (F0 m pc ls (v :: rest)) := by
  subst h
  exact k
theorem wk_in {x : Int32} {n : Nat} (h : decide (x < 0 ∨ n ≤ x.toNatClampNeg) = false) : vp_in x n := of_decide_eq_false h
theorem wk_eq {x c : Int32} (n : Int) (hc : c.toInt = n) : x = c ↔ x.toInt = n := by subst hc; exact Int32.toInt_inj.symm
theorem wk_qe {x c : Int32} (n : Int) (hc : c.toInt = n) : c = x ↔ x.toInt = n := by subst hc; exact ⟨fun h => by rw [h], fun h => (Int32.toInt_inj.mp h).symm⟩
theorem wk_lt {x c : Int32} (n : Int) (hc : c.toInt = n) : x < c ↔ x.toInt < n := by subst hc; exact Int32.lt_iff_toInt_lt
theorem wk_gt {x c : Int32} (n : Int) (hc : c.toInt = n) : c < x ↔ x.toInt > n := by subst hc; exact Int32.lt_iff_toInt_lt
theorem wk_le {x c : Int32} (n : Int) (hc : c.toInt = n) : x ≤ c ↔ x.toInt ≤ n := by subst hc; exact Int32.le_iff_toInt_le
theorem wk_ge {x c : Int32} (n : Int) (hc : c.toInt = n) : c ≤ x ↔ x.toInt ≥ n := by subst hc; exact Int32.le_iff_toInt_le
theorem wk_and31 (x : Int32) : ∃ z : Int32, x &&& 31 = z ∧ 0 ≤ z.toInt ∧ z.toInt ≤ 31 := by
  obtain ⟨j, hj, h⟩ := pk_andE x (m := 31) 5 (by decide)
  refine ⟨nI j, h, ?_⟩
  rw [nI_toInt (by omega)]
  omega
end WalkKit
-- 02.throwg
section ThrowMore
variable {p : Program} {l : Launch} {e : Env} {R : Room} {s : State} {m : MethodId} {args : Array Value} {below : List Frame} {meth : Method} {c : Code} {H : Heap} {locs : List Loc} {cells slots : Nat}
theorem vx_rebase {T : State} (X : Stand p l e R s m args below meth c T locs cells slots) {R' : Room} (hf : R'.frames ≤ R.frames) (hl : R'.locals ≤ R.locals) (hc : cells + R'.cells ≤ R.cells) (hs : slots + R'.slots ≤ R.slots) :
    Stand p l e R' ((T.setVm s.vm).setFrames (.invoking m args :: below)) m args below meth c T [] 0 0 := by
  have htop : (T.setVm s.vm).topJava?.isSome := X.here.top
  have hF : ((T.setVm s.vm).setFrames (.invoking m args :: below)).frames = .invoking m args :: below := State.frames_setFrames _ (State.cur_lt_of_top htop)
  obtain ⟨g₀, hg0⟩ := Option.isSome_iff_exists.mp htop
  obtain ⟨r, hr⟩ := State.topJava?_eq_some.mp hg0
  have hl9 : e.platform.stackLimits (T.setVm s.vm).me = e.platform.stackLimits s.me := X.limits
  have hb9 : (T.setVm s.vm).me.stackBytes = s.me.stackBytes := X.bytes
  refine ⟨X.admits, X.cas, X.clock, hF, ?_, X.hears, X.method, X.code, X.here, X.tail, X.warmed, ?_, ?_, ?_⟩
  · have h := X.room
    have hU : ((T.setVm s.vm).setFrames (.invoking m args :: below)).localsInUse = s.localsInUse := by
      rw [State.localsInUse_invoking hF (meth := meth) (c := c) X.method X.code, State.localsInUse_invoking X.frames X.method X.code]
    simp only [State.hasRoom, Bool.and_eq_true, decide_eq_true_eq] at h ⊢
    obtain ⟨⟨⟨⟨h1, h2, h3, h4, h5, h6⟩, h7⟩, h8⟩, h9⟩ := h
    rw [X.frames, List.length_cons] at h2 h3
    have q1 := X.heapSize
    have q2 := X.used
    simp only [hF, hU, List.length_cons, State.stackLimits_setFrames, State.stackBytes_setFrames, hl9, hb9]
    refine ⟨⟨⟨⟨by omega, by omega, by omega, by omega, by omega, h6⟩, ?_⟩, ?_⟩, X.book⟩
    · show T.heap.size + R'.cells ≤ e.platform.maxCells
      omega
    · show T.slotsUsed + R'.slots ≤ e.platform.maxSlots
      omega
  · rw [State.stackLimits_setFrames]; rfl
  · rw [State.stackBytes_setFrames]; rfl
  · refine ⟨?_, Nat.le_refl _, Nat.le_refl _, ?_, ?_, fun a c9 h9 => ⟨c9, h9, rfl, rfl, fun _ _ => rfl⟩⟩
    · obtain ⟨t, ht, -⟩ := State.frames_cons hr
      show T.setVm s.vm = { ((T.setVm s.vm).setFrames (.invoking m args :: below)).setFrames (T.setVm s.vm).frames with heap := T.heap, slotsUsed := T.slotsUsed }
      rw [State.setFrames_setFrames, State.setFrames_self ht]
      rfl
    · show T.slotsUsed = T.slotsUsed + ((T.heap.toList.drop T.heap.size).map (·.slots.size)).sum
      rw [List.drop_eq_nil_of_le (Nat.le_of_eq Array.length_toList)]
      rfl
    · show ((T.heap.toList.drop T.heap.size).map (·.slots.size)).sum ≤ 0
      rw [List.drop_eq_nil_of_le (Nat.le_of_eq Array.length_toList)]
      exact Nat.le_refl _
/-- how a method that throws a C leaves the world -/
def th_Qw (C : String) (B : State → Prop) (A : Nat → Prop) : Array Value → State → Addr → State → Prop := fun _ st x t => th_Is C st x t ∧ B t ∧ va_F A st t
theorem th_ZA.to {A A' : Nat → Prop} {s U : State} {H : Heap} {locs : List Loc} (h : th_ZA A s) (hS : va_S A s.heap H locs) (hU : U.heap = H) (hW : s.WarmedH U.vm) (hA : ∀ q, A' q → A q) : th_ZA A' U := by
  refine ⟨?_, ?_, h.2.2.warm hW⟩
  · rw [hU]; exact vx_Zq.moved hW.alike ((h.1.kept hS.2.1).narrow hA)
  · rw [hU]; exact vx_Zq.moved hW.alike ((h.2.1.kept hS.2.1).narrow hA)
theorem th_ZA.calling {A : Nat → Prop} {U : State} {g : JFrame} {mk : MethodId} {a : Array Value} (h : th_ZA A U) : th_ZA A (U.calling g mk a) :=
  ⟨vx_Zq.moved (u := U) (U := U.calling g mk a) (Vm.Alike.refl U.vm) h.1, vx_Zq.moved (u := U) (U := U.calling g mk a) (Vm.Alike.refl U.vm) h.2.1, h.2.2.calling⟩
/-- new X; dup; X(); athrow, wherever the walk stands -/
theorem th_newG {cc : ByteArray} (hexec : p.tables.exec = Jvm.exec) (hb : c.code = cc) (htr : e.platform.stackTraces = false) {own cls : String} {names : List String} {ix ic mc ms : Nat} {A : Nat → Prop} {B : State → Prop} (hown : s.vm.findClass own = some m.cls)
    (hcls : Bundle.fit cls = true) (hnames : ∀ n ∈ names, Bundle.fit n = true)
    (hat : ∀ s' : State, s.WarmedH s'.vm → s'.heap = H → (∀ a ∈ Bundle.ownAtoms0 own ic cls names, a.before args s' = true) ∧ (Cond.classLink own ix cls).before args s' = true ∧ (Cond.initialized cls).before args s' = true)
    (hnh : c.exceptionTable.isEmpty = true) {pc : Nat} {ls : Array Slot} (hml : ls.size = c.maxLocals) {rest : List Value} (hS : va_S A s.heap H locs)
    (hfr : names.length + 3 < R.frames) (hlo : 1 + (rest.map fun v => v.category).sum + (13 * (names.length + 1) + 41) ≤ R.locals) (hc : cells + 1 ≤ R.cells) (hsl : slots + 6 ≤ R.slots) (hmc : cells + 1 ≤ mc) (hms : slots + 6 ≤ ms)
    (hlocks : meth.locks = false) (hB : ∀ t : State, s.vm.Alike t.vm → (∀ q : Nat, q < H.size → t.heap[q]? = H[q]?) → B t)
    (hd0 : decode cc pc = .ok (.new ix, 3)) (hd3 : decode cc (pc + 3) = .ok (.dup, 1)) (hd4 : decode cc (pc + 4) = .ok (.invokespecial ic, 3)) (hd7 : decode cc (pc + 7) = .ok (.athrow, 1)) :
    W p l e R s m args below meth c H locs cells slots (th_Q below (th_Qw cls B A) args s mc ms A) (F0 m pc ls rest) := by
  intro T hT X
  have Y := vx_rebase X (R' := { frames := R.frames, locals := R.locals, cells := 1, slots := 6 }) (Nat.le_refl _) (Nat.le_refl _) hc hsl
  obtain ⟨s', hA⟩ : ∃ z, z = (T.setVm s.vm).setFrames (.invoking m args :: below) := ⟨_, rfl⟩
  rw [← hA] at Y
  have hvm : s'.vm = s.vm := by rw [hA]; rfl
  have hhp : s'.heap = H := by rw [hA]; exact hT
  have hW0 : s.WarmedH s'.vm := by rw [hvm]; exact State.WarmedH.refl s
  obtain ⟨hat1, hat2, hat3⟩ := hat s' hW0 hhp
  obtain ⟨t, st, x, hrun, hend, ⟨hI, hF⟩, hW, L, hsame, hL⟩ := th_new (p := p) (l := l) (e := e) (R := { frames := R.frames, locals := R.locals, cells := 1, slots := 6 }) (s := s') (m := m) (args := args) (below := below) (meth := meth) (c := c) (H := H) (cells := 0) (slots := 0) (free := fun _ => False) (rest := rest) hexec hb htr (by rw [hvm]; exact hown) hcls hnames hat1 hat2 hat3 hnh hml (by rw [hhp]; exact Nat.le_refl _) hfr hlo (Nat.le_refl _) (Nat.le_refl _) hlocks hd0 hd3 hd4 hd7 T hT Y
  cases L with
  | cons q r => exact (hL q List.mem_cons_self).elim
  | nil =>
    have hWs : s.WarmedH t.vm := State.WarmedH.trans hW0 hW
    have hall : s.sameButNew ({ t with vm := s.vm } : State) locs mc ms := by
      subst hA
      obtain ⟨e1, e2⟩ := hsame
      rw [State.setFrames_setFrames] at e1
      have h2 : (T.setVm s.vm).sameButNew ({ t with vm := s.vm } : State) [] (0 + 1) (0 + 6) := ⟨e1, e2⟩
      have h3 := X.same.trans h2
      rw [List.append_nil] at h3
      exact h3.mono hmc hms
    have hk : ∀ q : Nat, q < H.size → t.heap[q]? = H[q]? := fun q hq => by
      have h9 := hF.2 q (by rw [hhp]; exact hq) (fun z => z)
      rw [hhp] at h9
      exact h9
    have hz : H.size ≤ t.heap.size := by
      have h9 := hF.1
      rw [hhp] at h9
      exact h9
    refine ⟨t, st, x, hrun, hend, ⟨hI.moved (by rw [hhp]; exact hS.1) hW0.alike rfl, hB t hWs.alike hk, Nat.le_trans hS.1 hz, fun q hq hn => ?_⟩, hWs, locs, hall, hS.2.2⟩
    rw [hk q (Nat.lt_of_lt_of_le hq hS.1)]
    exact hS.2.1 q hq hn
/-- the call throws, the caller has no handler: it throws too, wherever the walk stands -/
theorem th_passG {C : String} {a : Array Value} {k1 n1 mc ms : Nat} {A A1 : Nat → Prop} {B B1 : State → Prop} {pc : Nat} {ls : Array Slot} {st0 rest : List Value} (hr : th_Run p l e R s m args below meth c H locs cells slots k1 n1 (F0 m pc ls st0) rest (th_Qw C B1 A1 a) A1) (hnh : c.exceptionTable.isEmpty = true) (hlocks : meth.locks = false)
    (hS : va_S A s.heap H locs) (hA : ∀ q, A1 q → A q) (hmc : cells + k1 ≤ mc) (hms : slots + n1 ≤ ms)
    (hB : ∀ t : State, s.vm.Alike t.vm → B1 t → H.size ≤ t.heap.size → (∀ q : Nat, q < H.size → ¬ A1 q → t.heap[q]? = H[q]?) → ∀ u : State, u.heap = t.heap → s.vm.Alike u.vm → B u) :
    W p l e R s m args below meth c H locs cells slots (th_Q below (th_Qw C B A) args s mc ms A) (F0 m pc ls st0) := by
  intro T hT X
  obtain ⟨x, st₀, t, T', L, h0, hal, X', hL, e1, e2, ⟨hI, hb1, hz, hk⟩, st⟩ := hr T hT X
  rw [h0] at hz hk
  obtain ⟨hw, hrun, hend, hW, hsame⟩ := X'.leaveThrown x (g := F0 m pc ls rest) rfl rfl rfl (th_out hnh _) hlocks
  have hat : s.vm.Alike t.vm := by rw [← e2]; exact X'.warmed.alike
  refine ⟨_, st.trans hw, x, hrun, hend, ⟨hI.moved (by rw [h0]; exact hS.1) hal e1, hB t hat hb1 hz hk _ e1 hW.alike, ?_, fun q hq hn => ?_⟩, hW, locs ++ L, hsame.mono hmc hms, fun q hq => ?_⟩
  · show s.heap.size ≤ T'.heap.size
    rw [e1]; exact Nat.le_trans hS.1 hz
  · show T'.heap[q]? = s.heap[q]?
    rw [e1, hk q (Nat.lt_of_lt_of_le hq hS.1) (fun z => hn (hA q z))]
    exact hS.2.1 q hq hn
  · rcases List.mem_append.mp hq with h | h
    · exact hS.2.2 q h
    · exact hA _ (hL q h)
end ThrowMore
-- 02b.frame
-- own rows: worlds by their members and addresses, for pools
theorem va_P.memb {D : va_G} {cl : List vw_C} {ws ws' : va_W} {H : Heap} (h : va_P D cl ws H) (hm : ∀ q ∈ ws', q ∈ ws) : va_P D cl ws' H := fun k q hk => by
  obtain ⟨i, hi⟩ := List.getElem?_of_mem (hm q (List.mem_of_getElem? hk))
  exact h i q hi
theorem va_P.inn {D : va_G} {cl : List vw_C} {ws : va_W} {H : Heap} (h : va_P D cl ws H) {q : Nat × va_E} (hq : q ∈ ws) : va_at D cl q H := by
  obtain ⟨i, hi⟩ := List.getElem?_of_mem hq
  exact h i q hi
theorem va_D.adr {A : Nat → Prop} {ws ws' : va_W} (h : va_D A ws) (ha : ws'.map (fun q => q.1) = ws.map (fun q => q.1)) : va_D A ws' := by
  have key : ∀ (k : Nat) (q : Nat × va_E), ws'[k]? = some q → ∃ q' : Nat × va_E, ws[k]? = some q' ∧ q'.1 = q.1 := by
    intro k q hk
    have h1 : (ws'.map (fun q => q.1))[k]? = some q.1 := by rw [List.getElem?_map, hk]; rfl
    rw [ha, List.getElem?_map] at h1
    cases h2 : ws[k]? with
    | none => rw [h2] at h1; cases h1
    | some q' => rw [h2] at h1; exact ⟨q', rfl, Option.some.inj h1⟩
  refine ⟨fun i j p q hi hj he => ?_, fun k q hk => ?_⟩
  · obtain ⟨p', h1, h2⟩ := key i p hi
    obtain ⟨q', h3, h4⟩ := key j q hj
    exact h.1 i j p' q' h1 h3 (by rw [h2, h4]; exact he)
  · obtain ⟨q', h1, h2⟩ := key k q hk
    rw [← h2]
    exact h.2 k q' h1
/-- some of a world's cells, each once -/
theorem va_D.pick {A : Nat → Prop} {ws ws' : va_W} (h : va_D A ws) (hm : ∀ q ∈ ws', q ∈ ws) (hn : ∀ i j : Nat, i < ws'.length → j < ws'.length → (ws'.map (fun q => q.1))[i]? = (ws'.map (fun q => q.1))[j]? → i = j) : va_D A ws' := by
  refine ⟨fun i j p q hi hj he => ?_, fun k q hk => ?_⟩
  · have li : i < ws'.length := by
      rcases Nat.lt_or_ge i ws'.length with h9 | h9
      · exact h9
      · rw [List.getElem?_eq_none h9] at hi; cases hi
    have lj : j < ws'.length := by
      rcases Nat.lt_or_ge j ws'.length with h9 | h9
      · exact h9
      · rw [List.getElem?_eq_none h9] at hj; cases hj
    refine hn i j li lj ?_
    rw [List.getElem?_map, List.getElem?_map, hi, hj]
    show some p.1 = some q.1
    rw [he]
  · obtain ⟨i, hi⟩ := List.getElem?_of_mem (hm q (List.mem_of_getElem? hk))
    exact h.2 i q hi
/-- a callee has worked in wc and left w1 there: the whole world afterwards -/
theorem va_frame {A0 : Nat → Prop} {D : va_G} {cl : List vw_C} {ws wc w1 ws' : va_W} {H H1 : Heap} (hP : va_P D cl ws H) (hD : va_D A0 ws) (hk : ∀ q : Nat, q < H.size → ¬ va_A wc H.size q → H1[q]? = H[q]?) (hP1 : va_P D cl w1 H1)
    (ha : ws'.map (fun q => q.1) = ws.map (fun q => q.1)) (hm : ∀ q ∈ ws', q ∈ w1 ∨ (q ∈ ws ∧ ∀ r ∈ wc, r.1 ≠ q.1)) : va_P D cl ws' H1 ∧ va_D A0 ws' := by
  refine ⟨fun k q hq => ?_, hD.adr ha⟩
  rcases hm q (List.mem_of_getElem? hq) with h | ⟨h, hn⟩
  · exact hP1.inn h
  · have h1 := hP.inn h
    refine h1.kept (hk _ h1.lt (fun hx => ?_))
    rcases hx with ⟨k9, e9, h9⟩ | h9
    · exact hn _ (List.mem_of_getElem? h9) rfl
    · exact absurd h1.lt (Nat.not_lt.mpr h9)
/-- what a callee may write lies in what the caller may write -/
theorem va_freeM {A0 : Nat → Prop} {ws wc : va_W} {H0 H : Heap} {locs : List Loc} (hD : va_D A0 ws) (hS : va_S A0 H0 H locs) (hA : ∀ q, H0.size ≤ q → A0 q) (hm : ∀ q ∈ wc, q ∈ ws) : ∀ q, va_A wc H.size q → A0 q := by
  intro q hq
  rcases hq with ⟨k, e, hk⟩ | h
  · obtain ⟨i, hi⟩ := List.getElem?_of_mem (hm _ (List.mem_of_getElem? hk))
    exact hD.2 i _ hi
  · exact hA q (Nat.le_trans hS.1 h)
/-- a row of a pool -/
theorem va_pool {α : Type} {f : Nat → α} {n i : Nat} (h : i < n) : ((List.range n).map f)[i]? = some (f i) := by
  rw [List.getElem?_map, List.getElem?_range h]
  rfl
theorem va_poolAt {α : Type} {X Y : List α} {f : Nat → α} {n i k : Nat} (hk : X.length = k) (h : i < n) : (X ++ ((List.range n).map f ++ Y))[k + i]? = some (f i) := by
  subst hk
  rw [List.getElem?_append_right (Nat.le_add_right _ _), Nat.add_sub_cancel_left, List.getElem?_append_left (by simpa using h)]
  exact va_pool h
theorem va_poolSet {α : Type} {X Y : List α} {f f' : Nat → α} {n i k : Nat} {v : α} (hk : X.length = k) (h : i < n) (h1 : f' i = v) (h2 : ∀ j, j ≠ i → f' j = f j) : (X ++ ((List.range n).map f ++ Y)).set (k + i) v = X ++ ((List.range n).map f' ++ Y) := by
  subst hk
  rw [List.set_append_right _ _ (Nat.le_add_right _ _), Nat.add_sub_cancel_left, List.set_append_left _ _ (by simpa using h)]
  congr 2
  refine List.ext_getElem? (fun j => ?_)
  rcases Nat.lt_or_ge j n with hj | hj
  · rw [va_pool hj, List.getElem?_set]
    by_cases he : i = j
    · subst he
      rw [if_pos rfl, if_pos (by simpa using h), h1]
    · rw [if_neg he, va_pool hj, h2 j (fun z => he z.symm)]
  · rw [List.getElem?_eq_none (by simpa using hj), List.getElem?_eq_none (by simpa using hj)]
-- 10.mbase
abbrev MI : Type := Nat → Int32
abbrev MA : Type := Nat → Nat → Int32
def z_I : MI := fun _ => 0
def z_A : MA := fun _ _ => 0
def wk_FUEL : Nat := 1000000
theorem wk_if {α : Type} {c : Prop} {_ : Decidable c} {a : Option α} {z : α} (h : (if c then a else none) = some z) : c ∧ a = some z := by
  by_cases hc : c
  · rw [if_pos hc] at h; exact ⟨hc, h⟩
  · rw [if_neg hc] at h; cases h
theorem wk_ift {α : Type} {c : Prop} {_ : Decidable c} {a b : Option α} {z : α} (hc : c) (h : (if c then a else b) = some z) : a = some z := by rw [if_pos hc] at h; exact h
theorem wk_iff {α : Type} {c : Prop} {_ : Decidable c} {a b : Option α} {z : α} (hc : ¬ c) (h : (if c then a else b) = some z) : b = some z := by rw [if_neg hc] at h; exact h
def wk_inb (i : Int32) (n : Nat) : Bool := !decide (i < 0) && decide (i.toNatClampNeg < n)
theorem wk_inb_ok {i : Int32} {n : Nat} (h : wk_inb i n = true) : vp_in i n := by
  simp only [wk_inb, Bool.and_eq_true, Bool.not_eq_true', decide_eq_false_iff_not, decide_eq_true_eq] at h
  intro z
  rcases z with z | z
  · exact h.1 z
  · omega
def wk_let {α β : Type} (x : α) (f : α → β) : β := f x
theorem wk_letE {α β : Type} {x : α} {f : α → Option β} {z : β} (h : wk_let x f = some z) : ∃ y, y = x ∧ f y = some z := ⟨x, rfl, h⟩
theorem wk_inj {α β γ : Type} {a a' : α} {b b' : β} {c c' : γ} (h : some (a, b, c) = some (a', b', c')) : a = a' ∧ b = b' ∧ c = c' := by cases h; exact ⟨rfl, rfl, rfl⟩
theorem wk_inc {x : Int32} {n : Int} {k : Int32} (h : Int32.ofInt n = k) : x + Int32.ofInt n = x + k := by rw [h]
abbrev ML : Type := Nat → Nat → Int64
theorem wk_inj3 {α β γ δ : Type} {a a' : α} {b b' : β} {c c' : γ} {d d' : δ} (h : some (a, b, c, d) = some (a', b', c', d')) : a = a' ∧ b = b' ∧ c = c' ∧ d = d' := by cases h; exact ⟨rfl, rfl, rfl, rfl⟩
theorem wk_tag {α : Type} {a b : Nat} {x y : α} (hn : a ≠ b) (h : some (a, x) = some (b, y)) : False := by cases h; exact hn rfl
theorem wk_inj6 {α β γ δ ε ζ η : Type} {a a' : α} {b b' : β} {c c' : γ} {d d' : δ} {e e' : ε} {f f' : ζ} {g g' : η} (h : some (a, b, c, d, e, f, g) = some (a', b', c', d', e', f', g')) : a = a' ∧ b = b' ∧ c = c' ∧ d = d' ∧ e = e' ∧ f = f' ∧ g = g' := by cases h; exact ⟨rfl, rfl, rfl, rfl, rfl, rfl, rfl⟩
theorem wk_inj5 {α β γ δ ε ζ : Type} {a a' : α} {b b' : β} {c c' : γ} {d d' : δ} {e e' : ε} {f f' : ζ} (h : some (a, b, c, d, e, f) = some (a', b', c', d', e', f')) : a = a' ∧ b = b' ∧ c = c' ∧ d = d' ∧ e = e' ∧ f = f' := by cases h; exact ⟨rfl, rfl, rfl, rfl, rfl, rfl⟩
theorem wk_inj1 {α0 α1 : Type} {a0 b0 : α0} {a1 b1 : α1} (h : some (a0, a1) = some (b0, b1)) : a0 = b0 ∧ a1 = b1 := by cases h; exact ⟨rfl, rfl⟩
theorem wk_inj4 {α0 α1 α2 α3 α4 : Type} {a0 b0 : α0} {a1 b1 : α1} {a2 b2 : α2} {a3 b3 : α3} {a4 b4 : α4} (h : some (a0, a1, a2, a3, a4) = some (b0, b1, b2, b3, b4)) : a0 = b0 ∧ a1 = b1 ∧ a2 = b2 ∧ a3 = b3 ∧ a4 = b4 := by cases h; exact ⟨rfl, rfl, rfl, rfl, rfl⟩
theorem wk_inj11 {α0 α1 α2 α3 α4 α5 α6 α7 α8 α9 α10 α11 : Type} {a0 b0 : α0} {a1 b1 : α1} {a2 b2 : α2} {a3 b3 : α3} {a4 b4 : α4} {a5 b5 : α5} {a6 b6 : α6} {a7 b7 : α7} {a8 b8 : α8} {a9 b9 : α9} {a10 b10 : α10} {a11 b11 : α11} (h : some (a0, a1, a2, a3, a4, a5, a6, a7, a8, a9, a10, a11) = some (b0, b1, b2, b3, b4, b5, b6, b7, b8, b9, b10, b11)) : a0 = b0 ∧ a1 = b1 ∧ a2 = b2 ∧ a3 = b3 ∧ a4 = b4 ∧ a5 = b5 ∧ a6 = b6 ∧ a7 = b7 ∧ a8 = b8 ∧ a9 = b9 ∧ a10 = b10 ∧ a11 = b11 := by cases h; exact ⟨rfl, rfl, rfl, rfl, rfl, rfl, rfl, rfl, rfl, rfl, rfl, rfl⟩
-- 12.names
abbrev R_D : String := "DraftTree"
def F_D : u_T := fun k => match k with
  | 0 => ("DraftTree", "slip", "[C", true)
  | 1 => ("DraftTree", "slipSize", "I", false)
  | 2 => ("DraftTree", "states", "[LDraftTree$State;", true)
  | 3 => ("DraftTree", "stateCount", "I", false)
  | 4 => ("DraftTree", "present", "I", false)
  | 5 => ("DraftTree", "text", "[C", false)
  | 6 => ("DraftTree", "cursor", "I", false)
  | 7 => ("DraftTree", "mark", "I", false)
  | 8 => ("DraftTree", "reader", "LDraftTree$PatternReader;", true)
  | 9 => ("DraftTree", "pattern", "LDraftTree$Automaton;", false)
  | 10 => ("DraftTree", "hasPattern", "Z", false)
  | 11 => ("DraftTree", "latestFault", "I", false)
  | 12 => ("DraftTree", "matchStarts", "[I", true)
  | _ => ("DraftTree", "matchEnds", "[I", true)
def t_D : Nat → FieldType := fun k => match k with
  | 0 => .array .char
  | 1 => .int
  | 2 => .array (.object "DraftTree$State")
  | 3 => .int
  | 4 => .int
  | 5 => .array .char
  | 6 => .int
  | 7 => .int
  | 8 => .object "DraftTree$PatternReader"
  | 9 => .object "DraftTree$Automaton"
  | 10 => .boolean
  | 11 => .int
  | 12 => .array .int
  | _ => .array .int
theorem n_D : ∀ a, a < 14 → ∀ b, b < 14 → a ≠ b → (F_D a).2.1 ≠ (F_D b).2.1 := by decide +kernel
theorem tk_D : ∀ k, k < 14 → parseFieldDescriptor (F_D k).2.2.1 = some (t_D k) := by decide +kernel
abbrev R_S : String := "DraftTree$State"
def F_S : u_T := fun k => match k with
  | 0 => ("DraftTree$State", "text", "[C", true)
  | 1 => ("DraftTree$State", "origin", "I", true)
  | 2 => ("DraftTree$State", "place", "I", false)
  | _ => ("DraftTree$State", "latestChild", "I", false)
def t_S : Nat → FieldType := fun k => match k with
  | 0 => .array .char
  | 1 => .int
  | 2 => .int
  | _ => .int
theorem n_S : ∀ a, a < 4 → ∀ b, b < 4 → a ≠ b → (F_S a).2.1 ≠ (F_S b).2.1 := by decide +kernel
theorem tk_S : ∀ k, k < 4 → parseFieldDescriptor (F_S k).2.2.1 = some (t_S k) := by decide +kernel
abbrev R_P : String := "DraftTree$PatternReader"
def F_P : u_T := fun k => match k with
  | 0 => ("DraftTree$PatternReader", "choiceStarts", "[I", true)
  | 1 => ("DraftTree$PatternReader", "choiceEnds", "[I", true)
  | 2 => ("DraftTree$PatternReader", "rowHeads", "[I", true)
  | 3 => ("DraftTree$PatternReader", "outerTails", "[I", true)
  | 4 => ("DraftTree$PatternReader", "made", "LDraftTree$Automaton;", false)
  | 5 => ("DraftTree$PatternReader", "source", "[C", false)
  | 6 => ("DraftTree$PatternReader", "size", "I", false)
  | 7 => ("DraftTree$PatternReader", "position", "I", false)
  | 8 => ("DraftTree$PatternReader", "depth", "I", false)
  | 9 => ("DraftTree$PatternReader", "fault", "I", false)
  | 10 => ("DraftTree$PatternReader", "lead", "I", false)
  | 11 => ("DraftTree$PatternReader", "first", "I", false)
  | _ => ("DraftTree$PatternReader", "tail", "I", false)
def t_P : Nat → FieldType := fun k => match k with
  | 0 => .array .int
  | 1 => .array .int
  | 2 => .array .int
  | 3 => .array .int
  | 4 => .object "DraftTree$Automaton"
  | 5 => .array .char
  | 6 => .int
  | 7 => .int
  | 8 => .int
  | 9 => .int
  | 10 => .int
  | 11 => .int
  | _ => .int
theorem n_P : ∀ a, a < 13 → ∀ b, b < 13 → a ≠ b → (F_P a).2.1 ≠ (F_P b).2.1 := by decide +kernel
theorem tk_P : ∀ k, k < 13 → parseFieldDescriptor (F_P k).2.2.1 = some (t_P k) := by decide +kernel
abbrev R_A : String := "DraftTree$Automaton"
def F_A : u_T := fun k => match k with
  | 0 => ("DraftTree$Automaton", "kinds", "[I", true)
  | 1 => ("DraftTree$Automaton", "next", "[I", true)
  | 2 => ("DraftTree$Automaton", "other", "[I", true)
  | 3 => ("DraftTree$Automaton", "lowCodes", "[J", true)
  | 4 => ("DraftTree$Automaton", "highCodes", "[J", true)
  | 5 => ("DraftTree$Automaton", "size", "I", false)
  | 6 => ("DraftTree$Automaton", "start", "I", false)
  | 7 => ("DraftTree$Automaton", "goal", "I", false)
  | 8 => ("DraftTree$Automaton", "matchStart", "I", false)
  | _ => ("DraftTree$Automaton", "matchEnd", "I", false)
def t_A : Nat → FieldType := fun k => match k with
  | 0 => .array .int
  | 1 => .array .int
  | 2 => .array .int
  | 3 => .array .long
  | 4 => .array .long
  | 5 => .int
  | 6 => .int
  | 7 => .int
  | 8 => .int
  | _ => .int
theorem n_A : ∀ a, a < 10 → ∀ b, b < 10 → a ≠ b → (F_A a).2.1 ≠ (F_A b).2.1 := by decide +kernel
theorem tk_A : ∀ k, k < 10 → parseFieldDescriptor (F_A k).2.2.1 = some (t_A k) := by decide +kernel
abbrev R_M : String := "DraftTreeModel"
def F_M : u_T := fun k => match k with
  | 0 => ("DraftTreeModel", "code", "I", false)
  | 1 => ("DraftTreeModel", "typed", "I", false)
  | 2 => ("DraftTreeModel", "slip", "[C", true)
  | 3 => ("DraftTreeModel", "states", "I", false)
  | 4 => ("DraftTreeModel", "present", "I", false)
  | 5 => ("DraftTreeModel", "texts", "[C", true)
  | 6 => ("DraftTreeModel", "lengths", "[I", true)
  | 7 => ("DraftTreeModel", "places", "[I", true)
  | 8 => ("DraftTreeModel", "parents", "[I", true)
  | 9 => ("DraftTreeModel", "came", "[I", true)
  | 10 => ("DraftTreeModel", "clock", "I", false)
  | 11 => ("DraftTreeModel", "cursor", "I", false)
  | 12 => ("DraftTreeModel", "mark", "I", false)
  | 13 => ("DraftTreeModel", "compiled", "Z", false)
  | 14 => ("DraftTreeModel", "wrongAt", "I", false)
  | 15 => ("DraftTreeModel", "size", "I", false)
  | 16 => ("DraftTreeModel", "pattern", "[C", true)
  | 17 => ("DraftTreeModel", "nodes", "I", false)
  | 18 => ("DraftTreeModel", "kind", "[I", true)
  | 19 => ("DraftTreeModel", "from", "[I", true)
  | 20 => ("DraftTreeModel", "to", "[I", true)
  | 21 => ("DraftTreeModel", "one", "[I", true)
  | 22 => ("DraftTreeModel", "two", "[I", true)
  | 23 => ("DraftTreeModel", "first", "I", false)
  | 24 => ("DraftTreeModel", "last", "I", false)
  | 25 => ("DraftTreeModel", "pieces", "I", false)
  | 26 => ("DraftTreeModel", "head", "[I", true)
  | 27 => ("DraftTreeModel", "tail", "[I", true)
  | 28 => ("DraftTreeModel", "open", "I", false)
  | 29 => ("DraftTreeModel", "choice", "[I", true)
  | 30 => ("DraftTreeModel", "row", "[I", true)
  | 31 => ("DraftTreeModel", "part", "[I", true)
  | 32 => ("DraftTreeModel", "here", "[Z", true)
  | 33 => ("DraftTreeModel", "then", "[Z", true)
  | 34 => ("DraftTreeModel", "foundAt", "I", false)
  | 35 => ("DraftTreeModel", "foundEnd", "I", false)
  | 36 => ("DraftTreeModel", "made", "I", false)
  | _ => ("DraftTreeModel", "draft", "[C", true)
def t_M : Nat → FieldType := fun k => match k with
  | 0 => .int
  | 1 => .int
  | 2 => .array .char
  | 3 => .int
  | 4 => .int
  | 5 => .array .char
  | 6 => .array .int
  | 7 => .array .int
  | 8 => .array .int
  | 9 => .array .int
  | 10 => .int
  | 11 => .int
  | 12 => .int
  | 13 => .boolean
  | 14 => .int
  | 15 => .int
  | 16 => .array .char
  | 17 => .int
  | 18 => .array .int
  | 19 => .array .int
  | 20 => .array .int
  | 21 => .array .int
  | 22 => .array .int
  | 23 => .int
  | 24 => .int
  | 25 => .int
  | 26 => .array .int
  | 27 => .array .int
  | 28 => .int
  | 29 => .array .int
  | 30 => .array .int
  | 31 => .array .int
  | 32 => .array .boolean
  | 33 => .array .boolean
  | 34 => .int
  | 35 => .int
  | 36 => .int
  | _ => .array .char
theorem n_M : ∀ a, a < 38 → ∀ b, b < 38 → a ≠ b → (F_M a).2.1 ≠ (F_M b).2.1 := by decide +kernel
theorem tk_M : ∀ k, k < 38 → parseFieldDescriptor (F_M k).2.2.1 = some (t_M k) := by decide +kernel
abbrev R_L : String := "DraftTreeLaw"
abbrev vwCl : List vw_C := [(R_D, F_D, 14), (R_S, F_S, 4), (R_P, F_P, 13), (R_A, F_A, 10), (R_M, F_M, 38)]
abbrev y_A_addNode : MethodName := ⟨"DraftTree$Automaton", "addNode", "(I)I"⟩
abbrev y_A_asSet : MethodName := ⟨"DraftTree$Automaton", "asSet", "(I)J"⟩
abbrev y_A_consume : MethodName := ⟨"DraftTree$Automaton", "consume", "(JC)J"⟩
abbrev y_A_init : MethodName := ⟨"DraftTree$Automaton", "<init>", "()V"⟩
abbrev y_A_longestFit : MethodName := ⟨"DraftTree$Automaton", "longestFit", "([CI)I"⟩
abbrev y_A_seek : MethodName := ⟨"DraftTree$Automaton", "seek", "([CI)Z"⟩
abbrev y_A_spread : MethodName := ⟨"DraftTree$Automaton", "spread", "(J[CI)J"⟩
abbrev y_A_takeCodes : MethodName := ⟨"DraftTree$Automaton", "takeCodes", "(III)V"⟩
abbrev y_A_takeOtherCodes : MethodName := ⟨"DraftTree$Automaton", "takeOtherCodes", "(I)V"⟩
abbrev y_A_takes : MethodName := ⟨"DraftTree$Automaton", "takes", "(IC)Z"⟩
abbrev y_A_waysOut : MethodName := ⟨"DraftTree$Automaton", "waysOut", "(IZZ)J"⟩
abbrev y_D_at : MethodName := ⟨"DraftTree", "at", "(I)C"⟩
abbrev y_D_breaksBefore : MethodName := ⟨"DraftTree", "breaksBefore", "(I)I"⟩
abbrev y_D_collectMatches : MethodName := ⟨"DraftTree", "collectMatches", "()I"⟩
abbrev y_D_compile : MethodName := ⟨"DraftTree", "compile", "()V"⟩
abbrev y_D_erase : MethodName := ⟨"DraftTree", "erase", "(I)I"⟩
abbrev y_D_exchange : MethodName := ⟨"DraftTree", "exchange", "(III)V"⟩
abbrev y_D_fault : MethodName := ⟨"DraftTree", "fault", "()I"⟩
abbrev y_D_figure : MethodName := ⟨"DraftTree", "figure", "(I)I"⟩
abbrev y_D_find : MethodName := ⟨"DraftTree", "find", "(I)I"⟩
abbrev y_D_go : MethodName := ⟨"DraftTree", "go", "(IZ)V"⟩
abbrev y_D_init : MethodName := ⟨"DraftTree", "<init>", "()V"⟩
abbrev y_D_insert : MethodName := ⟨"DraftTree", "insert", "()I"⟩
abbrev y_D_jump : MethodName := ⟨"DraftTree", "jump", "(I)V"⟩
abbrev y_D_length : MethodName := ⟨"DraftTree", "length", "()I"⟩
abbrev y_D_line : MethodName := ⟨"DraftTree", "line", "(II)I"⟩
abbrev y_D_lineBegin : MethodName := ⟨"DraftTree", "lineBegin", "(I)I"⟩
abbrev y_D_lineSize : MethodName := ⟨"DraftTree", "lineSize", "(I)I"⟩
abbrev y_D_makeState : MethodName := ⟨"DraftTree", "makeState", "([CI)V"⟩
abbrev y_D_moveTo : MethodName := ⟨"DraftTree", "moveTo", "(I)V"⟩
abbrev y_D_parent : MethodName := ⟨"DraftTree", "parent", "(I)I"⟩
abbrev y_D_putSlipIntoMatches : MethodName := ⟨"DraftTree", "putSlipIntoMatches", "(II)V"⟩
abbrev y_D_redo : MethodName := ⟨"DraftTree", "redo", "()I"⟩
abbrev y_D_replace : MethodName := ⟨"DraftTree", "replace", "()I"⟩
abbrev y_D_requirePlace : MethodName := ⟨"DraftTree", "requirePlace", "(I)V"⟩
abbrev y_D_requireState : MethodName := ⟨"DraftTree", "requireState", "(I)V"⟩
abbrev y_D_selectionEnd : MethodName := ⟨"DraftTree", "selectionEnd", "()I"⟩
abbrev y_D_selectionStart : MethodName := ⟨"DraftTree", "selectionStart", "()I"⟩
abbrev y_D_sizeWithSlipIn : MethodName := ⟨"DraftTree", "sizeWithSlipIn", "(I)I"⟩
abbrev y_D_type : MethodName := ⟨"DraftTree", "type", "(C)Z"⟩
abbrev y_D_undo : MethodName := ⟨"DraftTree", "undo", "()I"⟩
abbrev y_D_wipe : MethodName := ⟨"DraftTree", "wipe", "()I"⟩
abbrev y_Ji_numberOfTrailingZeros : MethodName := ⟨"java/lang/Integer", "numberOfTrailingZeros", "(I)I"⟩
abbrev y_Jl_numberOfTrailingZeros : MethodName := ⟨"java/lang/Long", "numberOfTrailingZeros", "(J)I"⟩
abbrev y_L_at : MethodName := ⟨"DraftTreeLaw", "at", "(LDraftTree;I[J)I"⟩
abbrev y_L_compile : MethodName := ⟨"DraftTreeLaw", "compile", "(LDraftTree;)I"⟩
abbrev y_L_erase : MethodName := ⟨"DraftTreeLaw", "erase", "(LDraftTree;I[J)I"⟩
abbrev y_L_figure : MethodName := ⟨"DraftTreeLaw", "figure", "(LDraftTree;I[J)I"⟩
abbrev y_L_find : MethodName := ⟨"DraftTreeLaw", "find", "(LDraftTree;I[J)I"⟩
abbrev y_L_go : MethodName := ⟨"DraftTreeLaw", "go", "(LDraftTree;IZ)I"⟩
abbrev y_L_insert : MethodName := ⟨"DraftTreeLaw", "insert", "(LDraftTree;[J)I"⟩
abbrev y_L_jump : MethodName := ⟨"DraftTreeLaw", "jump", "(LDraftTree;I)I"⟩
abbrev y_L_line : MethodName := ⟨"DraftTreeLaw", "line", "(LDraftTree;II[J)I"⟩
abbrev y_L_parent : MethodName := ⟨"DraftTreeLaw", "parent", "(LDraftTree;I[J)I"⟩
abbrev y_L_redo : MethodName := ⟨"DraftTreeLaw", "redo", "(LDraftTree;[J)I"⟩
abbrev y_L_replace : MethodName := ⟨"DraftTreeLaw", "replace", "(LDraftTree;[J)I"⟩
abbrev y_L_undo : MethodName := ⟨"DraftTreeLaw", "undo", "(LDraftTree;[J)I"⟩
abbrev y_M_add : MethodName := ⟨"DraftTreeModel", "add", "(C)V"⟩
abbrev y_M_addSlip : MethodName := ⟨"DraftTreeModel", "addSlip", "()V"⟩
abbrev y_M_addText : MethodName := ⟨"DraftTreeModel", "addText", "(II)V"⟩
abbrev y_M_at : MethodName := ⟨"DraftTreeModel", "at", "(I)C"⟩
abbrev y_M_behind : MethodName := ⟨"DraftTreeModel", "behind", "(II)I"⟩
abbrev y_M_breaks : MethodName := ⟨"DraftTreeModel", "breaks", "(I)I"⟩
abbrev y_M_build : MethodName := ⟨"DraftTreeModel", "build", "(I)I"⟩
abbrev y_M_charAt : MethodName := ⟨"DraftTreeModel", "charAt", "(I)C"⟩
abbrev y_M_come : MethodName := ⟨"DraftTreeModel", "come", "(I)V"⟩
abbrev y_M_compile : MethodName := ⟨"DraftTreeModel", "compile", "()V"⟩
abbrev y_M_edit : MethodName := ⟨"DraftTreeModel", "edit", "(I)V"⟩
abbrev y_M_either : MethodName := ⟨"DraftTreeModel", "either", "(II)I"⟩
abbrev y_M_endRow : MethodName := ⟨"DraftTreeModel", "endRow", "()V"⟩
abbrev y_M_erase : MethodName := ⟨"DraftTreeModel", "erase", "(I)I"⟩
abbrev y_M_fault : MethodName := ⟨"DraftTreeModel", "fault", "()I"⟩
abbrev y_M_figure : MethodName := ⟨"DraftTreeModel", "figure", "(I)I"⟩
abbrev y_M_find : MethodName := ⟨"DraftTreeModel", "find", "(I)I"⟩
abbrev y_M_go : MethodName := ⟨"DraftTreeModel", "go", "(IZ)V"⟩
abbrev y_M_good : MethodName := ⟨"DraftTreeModel", "good", "()I"⟩
abbrev y_M_high : MethodName := ⟨"DraftTreeModel", "high", "()I"⟩
abbrev y_M_inSet : MethodName := ⟨"DraftTreeModel", "inSet", "(CII)Z"⟩
abbrev y_M_init : MethodName := ⟨"DraftTreeModel", "<init>", "()V"⟩
abbrev y_M_insert : MethodName := ⟨"DraftTreeModel", "insert", "()I"⟩
abbrev y_M_isCharacter : MethodName := ⟨"DraftTreeModel", "isCharacter", "(C)Z"⟩
abbrev y_M_isPlain : MethodName := ⟨"DraftTreeModel", "isPlain", "(C)Z"⟩
abbrev y_M_isTimes : MethodName := ⟨"DraftTreeModel", "isTimes", "(C)Z"⟩
abbrev y_M_jump : MethodName := ⟨"DraftTreeModel", "jump", "(I)V"⟩
abbrev y_M_length : MethodName := ⟨"DraftTreeModel", "length", "()I"⟩
abbrev y_M_line : MethodName := ⟨"DraftTreeModel", "line", "(II)I"⟩
abbrev y_M_lineStart : MethodName := ⟨"DraftTreeModel", "lineStart", "(I)I"⟩
abbrev y_M_link : MethodName := ⟨"DraftTreeModel", "link", "(II)V"⟩
abbrev y_M_longest : MethodName := ⟨"DraftTreeModel", "longest", "(I)I"⟩
abbrev y_M_look : MethodName := ⟨"DraftTreeModel", "look", "(I)Z"⟩
abbrev y_M_low : MethodName := ⟨"DraftTreeModel", "low", "()I"⟩
abbrev y_M_newPart : MethodName := ⟨"DraftTreeModel", "newPart", "(I)V"⟩
abbrev y_M_node : MethodName := ⟨"DraftTreeModel", "node", "(III)I"⟩
abbrev y_M_nothing : MethodName := ⟨"DraftTreeModel", "nothing", "()I"⟩
abbrev y_M_openGroup : MethodName := ⟨"DraftTreeModel", "openGroup", "()V"⟩
abbrev y_M_parent : MethodName := ⟨"DraftTreeModel", "parent", "(I)I"⟩
abbrev y_M_passes : MethodName := ⟨"DraftTreeModel", "passes", "(II)Z"⟩
abbrev y_M_piece : MethodName := ⟨"DraftTreeModel", "piece", "(II)I"⟩
abbrev y_M_reach : MethodName := ⟨"DraftTreeModel", "reach", "(I)Z"⟩
abbrev y_M_redo : MethodName := ⟨"DraftTreeModel", "redo", "()I"⟩
abbrev y_M_replace : MethodName := ⟨"DraftTreeModel", "replace", "()I"⟩
abbrev y_M_single : MethodName := ⟨"DraftTreeModel", "single", "(III)I"⟩
abbrev y_M_spread : MethodName := ⟨"DraftTreeModel", "spread", "(I)V"⟩
abbrev y_M_takes : MethodName := ⟨"DraftTreeModel", "takes", "(IC)Z"⟩
abbrev y_M_textLength : MethodName := ⟨"DraftTreeModel", "textLength", "()I"⟩
abbrev y_M_thrown : MethodName := ⟨"DraftTreeModel", "thrown", "()I"⟩
abbrev y_M_times : MethodName := ⟨"DraftTreeModel", "times", "(IZZ)I"⟩
abbrev y_M_type : MethodName := ⟨"DraftTreeModel", "type", "(C)Z"⟩
abbrev y_M_undo : MethodName := ⟨"DraftTreeModel", "undo", "()I"⟩
abbrev y_M_wipe : MethodName := ⟨"DraftTreeModel", "wipe", "()I"⟩
abbrev y_P_addNodeAsPart : MethodName := ⟨"DraftTree$PatternReader", "addNodeAsPart", "(I)I"⟩
abbrev y_P_addPart : MethodName := ⟨"DraftTree$PatternReader", "addPart", "(II)V"⟩
abbrev y_P_beginRow : MethodName := ⟨"DraftTree$PatternReader", "beginRow", "(I)V"⟩
abbrev y_P_closeGroup : MethodName := ⟨"DraftTree$PatternReader", "closeGroup", "()V"⟩
abbrev y_P_finish : MethodName := ⟨"DraftTree$PatternReader", "finish", "()V"⟩
abbrev y_P_handOver : MethodName := ⟨"DraftTree$PatternReader", "handOver", "(LDraftTree$Automaton;)LDraftTree$Automaton;"⟩
abbrev y_P_init : MethodName := ⟨"DraftTree$PatternReader", "<init>", "()V"⟩
abbrev y_P_openChoice : MethodName := ⟨"DraftTree$PatternReader", "openChoice", "(I)V"⟩
abbrev y_P_openGroup : MethodName := ⟨"DraftTree$PatternReader", "openGroup", "()V"⟩
abbrev y_P_openRow : MethodName := ⟨"DraftTree$PatternReader", "openRow", "()V"⟩
abbrev y_P_read : MethodName := ⟨"DraftTree$PatternReader", "read", "([CI)I"⟩
abbrev y_P_readDot : MethodName := ⟨"DraftTree$PatternReader", "readDot", "()V"⟩
abbrev y_P_readEscaped : MethodName := ⟨"DraftTree$PatternReader", "readEscaped", "()V"⟩
abbrev y_P_readLiteral : MethodName := ⟨"DraftTree$PatternReader", "readLiteral", "(C)V"⟩
abbrev y_P_readNext : MethodName := ⟨"DraftTree$PatternReader", "readNext", "()V"⟩
abbrev y_P_readRange : MethodName := ⟨"DraftTree$PatternReader", "readRange", "(I)V"⟩
abbrev y_P_readSet : MethodName := ⟨"DraftTree$PatternReader", "readSet", "()V"⟩
abbrev y_P_readSingle : MethodName := ⟨"DraftTree$PatternReader", "readSingle", "(C)V"⟩
abbrev y_P_repeatPart : MethodName := ⟨"DraftTree$PatternReader", "repeatPart", "(C)V"⟩
abbrev y_S_init : MethodName := ⟨"DraftTree$State", "<init>", "([CII)V"⟩
abbrev mw_W (h : Nat) (q : Nat → Nat) (g : Nat → ClassId) (I : MI) (A : MA) : va_W := [(h, .inr (4, [.int (I 0), .int (I 1), .ref (q 2), .int (I 3), .int (I 4), .ref (q 5), .ref (q 6), .ref (q 7), .ref (q 8), .ref (q 9), .int (I 10), .int (I 11), .int (I 12), .int (I 13), .int (I 14), .int (I 15), .ref (q 16), .int (I 17), .ref (q 18), .ref (q 19), .ref (q 20), .ref (q 21), .ref (q 22), .int (I 23), .int (I 24), .int (I 25), .ref (q 26), .ref (q 27), .int (I 28), .ref (q 29), .ref (q 30), .ref (q 31), .ref (q 32), .ref (q 33), .int (I 34), .int (I 35), .int (I 36), .ref (q 37)])), (q 2, .inl (g 2, 24, .inl (A 2))), (q 5, .inl (g 5, 6400, .inl (A 5))), (q 6, .inl (g 6, 40, .inl (A 6))), (q 7, .inl (g 7, 40, .inl (A 7))), (q 8, .inl (g 8, 40, .inl (A 8))), (q 9, .inl (g 9, 40, .inl (A 9))), (q 16, .inl (g 16, 24, .inl (A 16))), (q 18, .inl (g 18, 160, .inl (A 18))), (q 19, .inl (g 19, 160, .inl (A 19))), (q 20, .inl (g 20, 160, .inl (A 20))), (q 21, .inl (g 21, 160, .inl (A 21))), (q 22, .inl (g 22, 160, .inl (A 22))), (q 26, .inl (g 26, 160, .inl (A 26))), (q 27, .inl (g 27, 160, .inl (A 27))), (q 29, .inl (g 29, 26, .inl (A 29))), (q 30, .inl (g 30, 26, .inl (A 30))), (q 31, .inl (g 31, 26, .inl (A 31))), (q 32, .inl (g 32, 160, .inl (A 32))), (q 33, .inl (g 33, 160, .inl (A 33))), (q 37, .inl (g 37, 4000, .inl (A 37)))]
abbrev mw_T (g : Nat → ClassId) : List (ClassId × FieldType) := [(g 2, .char), (g 5, .char), (g 6, .int), (g 7, .int), (g 8, .int), (g 9, .int), (g 16, .char), (g 18, .int), (g 19, .int), (g 20, .int), (g 21, .int), (g 22, .int), (g 26, .int), (g 27, .int), (g 29, .int), (g 30, .int), (g 31, .int), (g 32, .boolean), (g 33, .boolean), (g 37, .char)]
abbrev aw_W (h : Nat) (q : Nat → Nat) (g : Nat → ClassId) (I : MI) (A : MA) (L : ML) : va_W := [(h, .inr (3, [.ref (q 0), .ref (q 1), .ref (q 2), .ref (q 3), .ref (q 4), .int (I 5), .int (I 6), .int (I 7), .int (I 8), .int (I 9)])), ((q 0), .inl ((g 0), 50, .inl (A 0))), ((q 1), .inl ((g 1), 50, .inl (A 1))), ((q 2), .inl ((g 2), 50, .inl (A 2))), ((q 3), .inl ((g 3), 50, .inr (.inl (L 3)))), ((q 4), .inl ((g 4), 50, .inr (.inl (L 4))))]
abbrev aw_T (h : Nat) (q : Nat → Nat) (g : Nat → ClassId) : List (ClassId × FieldType) := [((g 0), .int), ((g 1), .int), ((g 2), .int), ((g 3), .long), ((g 4), .long)]
abbrev at_W (h : Nat) (q : Nat → Nat) (g : Nat → ClassId) (tq : Nat) (tg : ClassId) (tn : Nat) (tx : Nat → Int32) (I : MI) (A : MA) (L : ML) : va_W := [(h, .inr (3, [.ref (q 0), .ref (q 1), .ref (q 2), .ref (q 3), .ref (q 4), .int (I 5), .int (I 6), .int (I 7), .int (I 8), .int (I 9)])), ((q 0), .inl ((g 0), 50, .inl (A 0))), ((q 1), .inl ((g 1), 50, .inl (A 1))), ((q 2), .inl ((g 2), 50, .inl (A 2))), ((q 3), .inl ((g 3), 50, .inr (.inl (L 3)))), ((q 4), .inl ((g 4), 50, .inr (.inl (L 4)))), (tq, .inl (tg, tn, .inl tx))]
abbrev at_T (h : Nat) (q : Nat → Nat) (g : Nat → ClassId) (tq : Nat) (tg : ClassId) (tn : Nat) (tx : Nat → Int32) : List (ClassId × FieldType) := [((g 0), .int), ((g 1), .int), ((g 2), .int), ((g 3), .long), ((g 4), .long), (tg, .char)]
abbrev rw_W (h : Nat) (q : Nat → Nat) (g : Nat → ClassId) (hm : Nat) (qm : Nat → Nat) (gm : Nat → ClassId) (so : Nat) (sg : ClassId) (sx : Nat → Int32) (I : MI) (A : MA) (M : MI) (MB : MA) (L : ML) : va_W := [(h, .inr (2, [.ref (q 0), .ref (q 1), .ref (q 2), .ref (q 3), .ref hm, .ref so, .int (I 6), .int (I 7), .int (I 8), .int (I 9), .int (I 10), .int (I 11), .int (I 12)])), ((q 0), .inl ((g 0), 9, .inl (A 0))), ((q 1), .inl ((g 1), 9, .inl (A 1))), ((q 2), .inl ((g 2), 9, .inl (A 2))), ((q 3), .inl ((g 3), 9, .inl (A 3))), (hm, .inr (3, [.ref (qm 0), .ref (qm 1), .ref (qm 2), .ref (qm 3), .ref (qm 4), .int (M 5), .int (M 6), .int (M 7), .int (M 8), .int (M 9)])), ((qm 0), .inl ((gm 0), 50, .inl (MB 0))), ((qm 1), .inl ((gm 1), 50, .inl (MB 1))), ((qm 2), .inl ((gm 2), 50, .inl (MB 2))), ((qm 3), .inl ((gm 3), 50, .inr (.inl (L 3)))), ((qm 4), .inl ((gm 4), 50, .inr (.inl (L 4)))), (so, .inl (sg, 24, .inl sx))]
abbrev rw_T (h : Nat) (q : Nat → Nat) (g : Nat → ClassId) (hm : Nat) (qm : Nat → Nat) (gm : Nat → ClassId) (so : Nat) (sg : ClassId) (sx : Nat → Int32) : List (ClassId × FieldType) := [((g 0), .int), ((g 1), .int), ((g 2), .int), ((g 3), .int), ((gm 0), .int), ((gm 1), .int), ((gm 2), .int), ((gm 3), .long), ((gm 4), .long), (sg, .char)]
abbrev rq_W (h : Nat) (q : Nat → Nat) (g : Nat → ClassId) (hm : Nat) (qm : Nat → Nat) (gm : Nat → ClassId) (so : Nat) (sg : ClassId) (sx : Nat → Int32) (sf : Value) (I : MI) (A : MA) (M : MI) (MB : MA) (L : ML) : va_W := [(h, .inr (2, [.ref (q 0), .ref (q 1), .ref (q 2), .ref (q 3), .ref hm, sf, .int (I 6), .int (I 7), .int (I 8), .int (I 9), .int (I 10), .int (I 11), .int (I 12)])), ((q 0), .inl ((g 0), 9, .inl (A 0))), ((q 1), .inl ((g 1), 9, .inl (A 1))), ((q 2), .inl ((g 2), 9, .inl (A 2))), ((q 3), .inl ((g 3), 9, .inl (A 3))), (hm, .inr (3, [.ref (qm 0), .ref (qm 1), .ref (qm 2), .ref (qm 3), .ref (qm 4), .int (M 5), .int (M 6), .int (M 7), .int (M 8), .int (M 9)])), ((qm 0), .inl ((gm 0), 50, .inl (MB 0))), ((qm 1), .inl ((gm 1), 50, .inl (MB 1))), ((qm 2), .inl ((gm 2), 50, .inl (MB 2))), ((qm 3), .inl ((gm 3), 50, .inr (.inl (L 3)))), ((qm 4), .inl ((gm 4), 50, .inr (.inl (L 4)))), (so, .inl (sg, 24, .inl sx))]
abbrev rq_T (h : Nat) (q : Nat → Nat) (g : Nat → ClassId) (hm : Nat) (qm : Nat → Nat) (gm : Nat → ClassId) (so : Nat) (sg : ClassId) (sx : Nat → Int32) (sf : Value) : List (ClassId × FieldType) := [((g 0), .int), ((g 1), .int), ((g 2), .int), ((g 3), .int), ((gm 0), .int), ((gm 1), .int), ((gm 2), .int), ((gm 3), .long), ((gm 4), .long), (sg, .char)]
abbrev dw_W (h : Nat) (q : Nat → Nat) (g : Nat → ClassId) (hp : Nat) (qp : Nat → Nat) (gp : Nat → ClassId) (tq : Nat) (tg : ClassId) (tn : Nat) (tx : Nat → Int32) (I : MI) (A : MA) (M : MI) (MB : MA) (L : ML) : va_W := [(h, .inr (0, [.ref (q 0), .int (I 1), .ref (q 2), .int (I 3), .int (I 4), .ref tq, .int (I 6), .int (I 7), .ref (q 8), .ref hp, .int (I 10), .int (I 11), .ref (q 12), .ref (q 13)])), ((q 0), .inl ((g 0), 24, .inl (A 0))), ((q 12), .inl ((g 12), 160, .inl (A 12))), ((q 13), .inl ((g 13), 160, .inl (A 13))), (hp, .inr (3, [.ref (qp 0), .ref (qp 1), .ref (qp 2), .ref (qp 3), .ref (qp 4), .int (M 5), .int (M 6), .int (M 7), .int (M 8), .int (M 9)])), ((qp 0), .inl ((gp 0), 50, .inl (MB 0))), ((qp 1), .inl ((gp 1), 50, .inl (MB 1))), ((qp 2), .inl ((gp 2), 50, .inl (MB 2))), ((qp 3), .inl ((gp 3), 50, .inr (.inl (L 3)))), ((qp 4), .inl ((gp 4), 50, .inr (.inl (L 4)))), (tq, .inl (tg, tn, .inl tx))]
abbrev dw_T (h : Nat) (q : Nat → Nat) (g : Nat → ClassId) (hp : Nat) (qp : Nat → Nat) (gp : Nat → ClassId) (tq : Nat) (tg : ClassId) (tn : Nat) (tx : Nat → Int32) : List (ClassId × FieldType) := [((g 0), .char), ((g 12), .int), ((g 13), .int), ((gp 0), .int), ((gp 1), .int), ((gp 2), .int), ((gp 3), .long), ((gp 4), .long), (tg, .char)]
abbrev hw_W (h : Nat) (q : Nat → Nat) (hm : Nat) (sf : Value) (I : MI) : va_W := [(h, .inr (2, [.ref (q 0), .ref (q 1), .ref (q 2), .ref (q 3), .ref hm, sf, .int (I 6), .int (I 7), .int (I 8), .int (I 9), .int (I 10), .int (I 11), .int (I 12)]))]
abbrev hw_T (h : Nat) (q : Nat → Nat) (hm : Nat) (sf : Value) : List (ClassId × FieldType) := []
abbrev dc_W (h : Nat) (q : Nat → Nat) (g : Nat → ClassId) (hp : Nat) (qp : Nat → Nat) (gp : Nat → ClassId) (tq : Nat) (tg : ClassId) (tn : Nat) (tx : Nat → Int32) (hj : Nat) (qj : Nat → Nat) (gj : Nat → ClassId) (hm : Nat) (qm : Nat → Nat) (gm : Nat → ClassId) (pt : Nat) (md : Nat) (sf : Value) (I : MI) (A : MA) (M : MI) (MB : MA) (L : ML) (RI : MI) (RA : MA) (N : MI) (NB : MA) (NL : ML) : va_W := [(h, .inr (0, [.ref (q 0), .int (I 1), .ref (q 2), .int (I 3), .int (I 4), .ref tq, .int (I 6), .int (I 7), .ref hj, .ref pt, .int (I 10), .int (I 11), .ref (q 12), .ref (q 13)])), ((q 0), .inl ((g 0), 24, .inl (A 0))), ((q 12), .inl ((g 12), 160, .inl (A 12))), ((q 13), .inl ((g 13), 160, .inl (A 13))), (hp, .inr (3, [.ref (qp 0), .ref (qp 1), .ref (qp 2), .ref (qp 3), .ref (qp 4), .int (M 5), .int (M 6), .int (M 7), .int (M 8), .int (M 9)])), ((qp 0), .inl ((gp 0), 50, .inl (MB 0))), ((qp 1), .inl ((gp 1), 50, .inl (MB 1))), ((qp 2), .inl ((gp 2), 50, .inl (MB 2))), ((qp 3), .inl ((gp 3), 50, .inr (.inl (L 3)))), ((qp 4), .inl ((gp 4), 50, .inr (.inl (L 4)))), (tq, .inl (tg, tn, .inl tx)), (hj, .inr (2, [.ref (qj 0), .ref (qj 1), .ref (qj 2), .ref (qj 3), .ref md, sf, .int (RI 6), .int (RI 7), .int (RI 8), .int (RI 9), .int (RI 10), .int (RI 11), .int (RI 12)])), ((qj 0), .inl ((gj 0), 9, .inl (RA 0))), ((qj 1), .inl ((gj 1), 9, .inl (RA 1))), ((qj 2), .inl ((gj 2), 9, .inl (RA 2))), ((qj 3), .inl ((gj 3), 9, .inl (RA 3))), (hm, .inr (3, [.ref (qm 0), .ref (qm 1), .ref (qm 2), .ref (qm 3), .ref (qm 4), .int (N 5), .int (N 6), .int (N 7), .int (N 8), .int (N 9)])), ((qm 0), .inl ((gm 0), 50, .inl (NB 0))), ((qm 1), .inl ((gm 1), 50, .inl (NB 1))), ((qm 2), .inl ((gm 2), 50, .inl (NB 2))), ((qm 3), .inl ((gm 3), 50, .inr (.inl (NL 3)))), ((qm 4), .inl ((gm 4), 50, .inr (.inl (NL 4))))]
abbrev dc_T (h : Nat) (q : Nat → Nat) (g : Nat → ClassId) (hp : Nat) (qp : Nat → Nat) (gp : Nat → ClassId) (tq : Nat) (tg : ClassId) (tn : Nat) (tx : Nat → Int32) (hj : Nat) (qj : Nat → Nat) (gj : Nat → ClassId) (hm : Nat) (qm : Nat → Nat) (gm : Nat → ClassId) (pt : Nat) (md : Nat) (sf : Value) : List (ClassId × FieldType) := [((g 0), .char), ((g 12), .int), ((g 13), .int), ((gp 0), .int), ((gp 1), .int), ((gp 2), .int), ((gp 3), .long), ((gp 4), .long), (tg, .char), ((gj 0), .int), ((gj 1), .int), ((gj 2), .int), ((gj 3), .int), ((gm 0), .int), ((gm 1), .int), ((gm 2), .int), ((gm 3), .long), ((gm 4), .long)]
abbrev sw_W (h : Nat) (tv : Value) (I : MI) : va_W := [(h, .inr (1, [tv, .int (I 1), .int (I 2), .int (I 3)]))]
abbrev sw_T (h : Nat) (tv : Value) : List (ClassId × FieldType) := []
def tw_f (n : Nat) (sa : Nat → Nat) : Nat → Option Nat := fun i => if i < n then some (sa i) else none
theorem tw_rf {n : Nat} {sa : Nat → Nat} {i : Nat} (h : i < n) : va_rf (tw_f n sa i) = .ref (sa i) := by unfold tw_f; rw [if_pos h]; rfl
abbrev tw_S (sa ta : Nat → Nat) (SO SP SL : Nat → Int32) : Nat → Nat × va_E := fun i => (sa i, .inr (1, [.ref (ta i), .int (SO i), .int (SP i), .int (SL i)]))
abbrev tw_E (ta : Nat → Nat) (tg : ClassId) (tn : Nat → Nat) (tx : Nat → Nat → Int32) : Nat → Nat × va_E := fun i => (ta i, .inl (tg, tn i, .inl (tx i)))
abbrev tw_X (h : Nat) (q : Nat → Nat) (g : Nat → ClassId) (hj : Nat) (pt : Nat) (sa ta : Nat → Nat) (n : Nat) (I : MI) (cx : Nat) : va_W := [(h, .inr (0, [.ref (q 0), .int (I 1), .ref (q 2), .int (I 3), .int (I 4), .ref (ta cx), .int (I 6), .int (I 7), .ref hj, .ref pt, .int (I 10), .int (I 11), .ref (q 12), .ref (q 13)])), (q 2, .inl (g 2, 40, .inr (.inr (.inr (.inr (tw_f n sa))))))]
abbrev tw_W (h : Nat) (q : Nat → Nat) (g : Nat → ClassId) (hj : Nat) (pt : Nat) (tg : ClassId) (sa : Nat → Nat) (ta : Nat → Nat) (n : Nat) (SO : Nat → Int32) (tn : Nat → Nat) (tx : Nat → Nat → Int32) (I : MI) (cx : Nat) (SP SL : MI) : va_W := tw_X h q g hj pt sa ta n I cx ++ ((List.range n).map (tw_S sa ta SO SP SL) ++ (List.range n).map (tw_E ta tg tn tx))
abbrev tw_T (h : Nat) (q : Nat → Nat) (g : Nat → ClassId) (hj : Nat) (pt : Nat) (tg : ClassId) (sa : Nat → Nat) (ta : Nat → Nat) (n : Nat) (SO : Nat → Int32) (tn : Nat → Nat) (tx : Nat → Nat → Int32) : List (ClassId × FieldType) := [(g 2, .object "DraftTree$State"), (tg, .char)]
theorem wk_inb_lt {i : Int32} {n : Nat} (h : wk_inb i n = true) : i.toNatClampNeg < n := Nat.not_le.mp fun z => (wk_inb_ok h) (Or.inr z)
theorem tw_setSP {h : Nat} {q : Nat → Nat} {g : Nat → ClassId} {hj pt : Nat} {tg : ClassId} {sa ta : Nat → Nat} {n : Nat} {SO : Nat → Int32} {tn : Nat → Nat} {tx : Nat → Nat → Int32} {I : MI} {cx : Nat} {SP SL : MI} {i : Nat} {v : Int32} (hi : i < n) : (tw_W h q g hj pt tg sa ta n SO tn tx I cx SP SL).set (2 + i) (sa i, .inr (1, [.ref (ta i), .int (SO i), .int v, .int (SL i)])) = tw_W h q g hj pt tg sa ta n SO tn tx I cx (upd SP i v) SL :=
  va_poolSet rfl hi (by simp [tw_S, upd]) (fun j hj => by simp [tw_S, upd, hj])
theorem tw_setSL {h : Nat} {q : Nat → Nat} {g : Nat → ClassId} {hj pt : Nat} {tg : ClassId} {sa ta : Nat → Nat} {n : Nat} {SO : Nat → Int32} {tn : Nat → Nat} {tx : Nat → Nat → Int32} {I : MI} {cx : Nat} {SP SL : MI} {i : Nat} {v : Int32} (hi : i < n) : (tw_W h q g hj pt tg sa ta n SO tn tx I cx SP SL).set (2 + i) (sa i, .inr (1, [.ref (ta i), .int (SO i), .int (SP i), .int v])) = tw_W h q g hj pt tg sa ta n SO tn tx I cx SP (upd SL i v) :=
  va_poolSet rfl hi (by simp [tw_S, upd]) (fun j hj => by simp [tw_S, upd, hj])
