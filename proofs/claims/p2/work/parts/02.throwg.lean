section ThrowMore
variable {p : Program} {l : Launch} {e : Env} {R : Room} {s : State} {m : MethodId} {args : Array Value} {below : List Frame} {meth : Method} {c : Code} {H : Heap} {locs : List Loc} {cells slots : Nat}
theorem vx_rebase {T : State} (X : Stand p l e R s m args below meth c T locs cells slots) {R' : Room} (hf : R'.frames ≤ R.frames) (hl : R'.locals ≤ R.locals) (hc : cells + R'.cells ≤ R.cells) (hs : slots + R'.slots ≤ R.slots) :
    Stand p l e R' ((T.setVm s.vm).setFrames (.invoking m args :: below)) m args below meth c T [] 0 0 := by
  have htop : (T.setVm s.vm).topJava?.isSome := X.here.top
  have hF : ((T.setVm s.vm).setFrames (.invoking m args :: below)).frames = .invoking m args :: below := State.frames_setFrames _ (State.cur_lt_of_top htop)
  obtain ⟨g₀, hg0⟩ := Option.isSome_iff_exists.mp htop
  obtain ⟨r, hr⟩ := State.topJava?_eq_some.mp hg0
  have hl9 : e.platform.stackLimits (T.setVm s.vm).me = e.platform.stackLimits s.me := X.limits
  have hb9 : (T.setVm s.vm).me.stackBytes = s.me.stackBytes := X.bytes
  refine ⟨X.admits, X.cas, X.clock, hF, ?_, X.hears, X.method, X.code, X.here, X.tail, X.warmed, ?_, ?_, ?_⟩
  · have h := X.room
    have hU : ((T.setVm s.vm).setFrames (.invoking m args :: below)).localsInUse = s.localsInUse := by
      rw [State.localsInUse_invoking hF (meth := meth) (c := c) X.method X.code, State.localsInUse_invoking X.frames X.method X.code]
    simp only [State.hasRoom, Bool.and_eq_true, decide_eq_true_eq] at h ⊢
    obtain ⟨⟨⟨⟨h1, h2, h3, h4, h5, h6⟩, h7⟩, h8⟩, h9⟩ := h
    rw [X.frames, List.length_cons] at h2 h3
    have q1 := X.heapSize
    have q2 := X.used
    simp only [hF, hU, List.length_cons, State.stackLimits_setFrames, State.stackBytes_setFrames, hl9, hb9]
    refine ⟨⟨⟨⟨by omega, by omega, by omega, by omega, by omega, h6⟩, ?_⟩, ?_⟩, X.book⟩
    · show T.heap.size + R'.cells ≤ e.platform.maxCells
      omega
    · show T.slotsUsed + R'.slots ≤ e.platform.maxSlots
      omega
  · rw [State.stackLimits_setFrames]; rfl
  · rw [State.stackBytes_setFrames]; rfl
  · refine ⟨?_, Nat.le_refl _, Nat.le_refl _, ?_, ?_, fun a c9 h9 => ⟨c9, h9, rfl, rfl, fun _ _ => rfl⟩⟩
    · obtain ⟨t, ht, -⟩ := State.frames_cons hr
      show T.setVm s.vm = { ((T.setVm s.vm).setFrames (.invoking m args :: below)).setFrames (T.setVm s.vm).frames with heap := T.heap, slotsUsed := T.slotsUsed }
      rw [State.setFrames_setFrames, State.setFrames_self ht]
      rfl
    · show T.slotsUsed = T.slotsUsed + ((T.heap.toList.drop T.heap.size).map (·.slots.size)).sum
      rw [List.drop_eq_nil_of_le (Nat.le_of_eq Array.length_toList)]
      rfl
    · show ((T.heap.toList.drop T.heap.size).map (·.slots.size)).sum ≤ 0
      rw [List.drop_eq_nil_of_le (Nat.le_of_eq Array.length_toList)]
      exact Nat.le_refl _
/-- how a method that throws a C leaves the world -/
def th_Qw (C : String) (B : State → Prop) (A : Nat → Prop) : Array Value → State → Addr → State → Prop := fun _ st x t => th_Is C st x t ∧ B t ∧ va_F A st t
theorem th_ZA.to {A A' : Nat → Prop} {s U : State} {H : Heap} {locs : List Loc} (h : th_ZA A s) (hS : va_S A s.heap H locs) (hU : U.heap = H) (hW : s.WarmedH U.vm) (hA : ∀ q, A' q → A q) : th_ZA A' U := by
  refine ⟨?_, ?_, h.2.2.warm hW⟩
  · rw [hU]; exact vx_Zq.moved hW.alike ((h.1.kept hS.2.1).narrow hA)
  · rw [hU]; exact vx_Zq.moved hW.alike ((h.2.1.kept hS.2.1).narrow hA)
theorem th_ZA.calling {A : Nat → Prop} {U : State} {g : JFrame} {mk : MethodId} {a : Array Value} (h : th_ZA A U) : th_ZA A (U.calling g mk a) :=
  ⟨vx_Zq.moved (u := U) (U := U.calling g mk a) (Vm.Alike.refl U.vm) h.1, vx_Zq.moved (u := U) (U := U.calling g mk a) (Vm.Alike.refl U.vm) h.2.1, h.2.2.calling⟩
/-- new X; dup; X(); athrow, wherever the walk stands -/
theorem th_newG {cc : ByteArray} (hexec : p.tables.exec = Jvm.exec) (hb : c.code = cc) (htr : e.platform.stackTraces = false) {own cls : String} {names : List String} {ix ic mc ms : Nat} {A : Nat → Prop} {B : State → Prop} (hown : s.vm.findClass own = some m.cls)
    (hcls : Bundle.fit cls = true) (hnames : ∀ n ∈ names, Bundle.fit n = true)
    (hat : ∀ s' : State, s.WarmedH s'.vm → s'.heap = H → (∀ a ∈ Bundle.ownAtoms0 own ic cls names, a.before args s' = true) ∧ (Cond.classLink own ix cls).before args s' = true ∧ (Cond.initialized cls).before args s' = true)
    (hnh : c.exceptionTable.isEmpty = true) {pc : Nat} {ls : Array Slot} (hml : ls.size = c.maxLocals) {rest : List Value} (hS : va_S A s.heap H locs)
    (hfr : names.length + 3 < R.frames) (hlo : 1 + (rest.map fun v => v.category).sum + (13 * (names.length + 1) + 41) ≤ R.locals) (hc : cells + 1 ≤ R.cells) (hsl : slots + 6 ≤ R.slots) (hmc : cells + 1 ≤ mc) (hms : slots + 6 ≤ ms)
    (hlocks : meth.locks = false) (hB : ∀ t : State, s.vm.Alike t.vm → (∀ q : Nat, q < H.size → t.heap[q]? = H[q]?) → B t)
    (hd0 : decode cc pc = .ok (.new ix, 3)) (hd3 : decode cc (pc + 3) = .ok (.dup, 1)) (hd4 : decode cc (pc + 4) = .ok (.invokespecial ic, 3)) (hd7 : decode cc (pc + 7) = .ok (.athrow, 1)) :
    W p l e R s m args below meth c H locs cells slots (th_Q below (th_Qw cls B A) args s mc ms A) (F0 m pc ls rest) := by
  intro T hT X
  have Y := vx_rebase X (R' := { frames := R.frames, locals := R.locals, cells := 1, slots := 6 }) (Nat.le_refl _) (Nat.le_refl _) hc hsl
  obtain ⟨s', hA⟩ : ∃ z, z = (T.setVm s.vm).setFrames (.invoking m args :: below) := ⟨_, rfl⟩
  rw [← hA] at Y
  have hvm : s'.vm = s.vm := by rw [hA]; rfl
  have hhp : s'.heap = H := by rw [hA]; exact hT
  have hW0 : s.WarmedH s'.vm := by rw [hvm]; exact State.WarmedH.refl s
  obtain ⟨hat1, hat2, hat3⟩ := hat s' hW0 hhp
  obtain ⟨t, st, x, hrun, hend, ⟨hI, hF⟩, hW, L, hsame, hL⟩ := th_new (p := p) (l := l) (e := e) (R := { frames := R.frames, locals := R.locals, cells := 1, slots := 6 }) (s := s') (m := m) (args := args) (below := below) (meth := meth) (c := c) (H := H) (cells := 0) (slots := 0) (free := fun _ => False) (rest := rest) hexec hb htr (by rw [hvm]; exact hown) hcls hnames hat1 hat2 hat3 hnh hml (by rw [hhp]; exact Nat.le_refl _) hfr hlo (Nat.le_refl _) (Nat.le_refl _) hlocks hd0 hd3 hd4 hd7 T hT Y
  cases L with
  | cons q r => exact (hL q List.mem_cons_self).elim
  | nil =>
    have hWs : s.WarmedH t.vm := State.WarmedH.trans hW0 hW
    have hall : s.sameButNew ({ t with vm := s.vm } : State) locs mc ms := by
      subst hA
      obtain ⟨e1, e2⟩ := hsame
      rw [State.setFrames_setFrames] at e1
      have h2 : (T.setVm s.vm).sameButNew ({ t with vm := s.vm } : State) [] (0 + 1) (0 + 6) := ⟨e1, e2⟩
      have h3 := X.same.trans h2
      rw [List.append_nil] at h3
      exact h3.mono hmc hms
    have hk : ∀ q : Nat, q < H.size → t.heap[q]? = H[q]? := fun q hq => by
      have h9 := hF.2 q (by rw [hhp]; exact hq) (fun z => z)
      rw [hhp] at h9
      exact h9
    have hz : H.size ≤ t.heap.size := by
      have h9 := hF.1
      rw [hhp] at h9
      exact h9
    refine ⟨t, st, x, hrun, hend, ⟨hI.moved (by rw [hhp]; exact hS.1) hW0.alike rfl, hB t hWs.alike hk, Nat.le_trans hS.1 hz, fun q hq hn => ?_⟩, hWs, locs, hall, hS.2.2⟩
    rw [hk q (Nat.lt_of_lt_of_le hq hS.1)]
    exact hS.2.1 q hq hn
/-- the call throws, the caller has no handler: it throws too, wherever the walk stands -/
theorem th_passG {C : String} {a : Array Value} {k1 n1 mc ms : Nat} {A A1 : Nat → Prop} {B B1 : State → Prop} {pc : Nat} {ls : Array Slot} {st0 rest : List Value} (hr : th_Run p l e R s m args below meth c H locs cells slots k1 n1 (F0 m pc ls st0) rest (th_Qw C B1 A1 a) A1) (hnh : c.exceptionTable.isEmpty = true) (hlocks : meth.locks = false)
    (hS : va_S A s.heap H locs) (hA : ∀ q, A1 q → A q) (hmc : cells + k1 ≤ mc) (hms : slots + n1 ≤ ms)
    (hB : ∀ t : State, s.vm.Alike t.vm → B1 t → H.size ≤ t.heap.size → (∀ q : Nat, q < H.size → ¬ A1 q → t.heap[q]? = H[q]?) → ∀ u : State, u.heap = t.heap → s.vm.Alike u.vm → B u) :
    W p l e R s m args below meth c H locs cells slots (th_Q below (th_Qw C B A) args s mc ms A) (F0 m pc ls st0) := by
  intro T hT X
  obtain ⟨x, st₀, t, T', L, h0, hal, X', hL, e1, e2, ⟨hI, hb1, hz, hk⟩, st⟩ := hr T hT X
  rw [h0] at hz hk
  obtain ⟨hw, hrun, hend, hW, hsame⟩ := X'.leaveThrown x (g := F0 m pc ls rest) rfl rfl rfl (th_out hnh _) hlocks
  have hat : s.vm.Alike t.vm := by rw [← e2]; exact X'.warmed.alike
  refine ⟨_, st.trans hw, x, hrun, hend, ⟨hI.moved (by rw [h0]; exact hS.1) hal e1, hB t hat hb1 hz hk _ e1 hW.alike, ?_, fun q hq hn => ?_⟩, hW, locs ++ L, hsame.mono hmc hms, fun q hq => ?_⟩
  · show s.heap.size ≤ T'.heap.size
    rw [e1]; exact Nat.le_trans hS.1 hz
  · show T'.heap[q]? = s.heap[q]?
    rw [e1, hk q (Nat.lt_of_lt_of_le hq hS.1) (fun z => hn (hA q z))]
    exact hS.2.1 q hq hn
  · rcases List.mem_append.mp hq with h | h
    · exact hS.2.2 q h
    · exact hA _ (hL q h)
end ThrowMore
