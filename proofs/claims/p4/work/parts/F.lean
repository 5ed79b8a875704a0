-- 89.wit
-- own rows: a start with this script, out of any start that the statement allows
def rf_C (cell : Cell) : Cell := { cell with slots := (rf_script.map Value.int).toArray }
def rf_H (H : Heap) (b : Nat) (cell : Cell) : Heap := H.setIfInBounds b (rf_C cell)
/-- the state with this script in the place of its own -/
def rf_S (s : State) (b : Nat) (cell : Cell) : State := { s with heap := rf_H s.heap b cell, slotsUsed := (rf_H s.heap b cell).foldl (fun n c => n + c.slots.size) 0 }
/-- an environment with more room for slots -/
def rf_E (e : Env) (n : Nat) : Env := { e with platform := { e.platform with maxSlots := e.platform.maxSlots + n } }
theorem rf_H_ne {H : Heap} {a b : Nat} {cell : Cell} (h : a ≠ b) : (rf_H H b cell)[a]? = H[a]? := by
  unfold rf_H
  rw [Array.getElem?_setIfInBounds, if_neg (fun z => h z.symm)]
theorem rf_H_self {H : Heap} {b : Nat} {cell : Cell} (h : b < H.size) : (rf_H H b cell)[b]? = some (rf_C cell) := by
  unfold rf_H
  exact Array.getElem?_setIfInBounds_self_of_lt h
theorem rf_of_flat {args : Array Value} {s : State} (T : Jvm.Cond) : (∀ c ∈ flatC T, c.before args s = true) → T.before args s = true := by
  induction T with
  | and a b iha ihb =>
    intro h
    rw [Cond.before_and, Bool.and_eq_true]
    exact ⟨iha (fun c hc => h c (by simp only [flatC, List.mem_append]; exact Or.inl hc)), ihb (fun c hc => h c (by simp only [flatC, List.mem_append]; exact Or.inr hc))⟩
  | _ => intro h; exact h _ (by simp [flatC])
theorem rf_static {args : Array Value} {s : State} {b : Nat} {cell : Cell} (h0 : s.heap[b]? = some cell) (hst : cell.vm.isStatics = false) {C f d : String} {v : Value} (h : (Term.static C f d).eval args s none [] s = some v) : (Term.static C f d).eval args (rf_S s b cell) none [] (rf_S s b cell) = some v := by
  have h' : ((s.fieldNamed? C f d true).bind (fun q => (q.2.1.statics).bind (fun a => (s.heap[a]?).bind (fun c => if c.vm.isStatics = true then c.slots[q.2.2]? else none)))) = some v := h
  obtain ⟨q, hq, h1⟩ := Option.bind_eq_some_iff.mp h'
  obtain ⟨a, ha, h2⟩ := Option.bind_eq_some_iff.mp h1
  obtain ⟨c, hc, h3⟩ := Option.bind_eq_some_iff.mp h2
  have hab : a ≠ b := fun z => by
    rw [z, h0] at hc
    cases hc
    rw [hst] at h3
    simp at h3
  show ((s.fieldNamed? C f d true).bind (fun q => (q.2.1.statics).bind (fun a => ((rf_H s.heap b cell)[a]?).bind (fun c => if c.vm.isStatics = true then c.slots[q.2.2]? else none)))) = some v
  refine Option.bind_eq_some_iff.mpr ⟨q, hq, Option.bind_eq_some_iff.mpr ⟨a, ha, Option.bind_eq_some_iff.mpr ⟨c, ?_, h3⟩⟩⟩
  rw [rf_H_ne hab]
  exact hc
theorem rf_ints {s : State} {b : Nat} {cell : Cell} (hat : s.arrayAt? b = some cell) (hof : s.isArrayOf cell .int) : (rf_S s b cell).IntsAt b rf_script := by
  obtain ⟨hcb, hu, hst, k, comp, ty, hk, hkind⟩ := State.arrayAt?_spec hat
  have hlt : b < s.heap.size := (Array.getElem?_eq_some_iff.mp hcb).1
  have h1 : (rf_S s b cell).heap[b]? = some (rf_C cell) := rf_H_self hlt
  have hk' : (rf_S s b cell).vm.classes[(rf_C cell).cls]? = some k := hk
  have hno : ¬ ((rf_C cell).vm = .unknown ∨ (rf_C cell).vm.isStatics = true) := fun z => z.elim hu (fun y => by rw [show (rf_C cell).vm.isStatics = false from hst] at y; cases y)
  refine ⟨rf_C cell, ?_, ?_, hof, by rw [rf_len]; decide⟩
  · simp only [State.arrayAt?, h1, hk', Option.bind_eq_bind, Option.bind_some]
    rw [if_neg hno, hkind]
  · show ((rf_script.map Value.int).toArray).toList = rf_script.map Value.int
    first | rfl | simp
theorem rf_cell {s : State} {cell : Cell} (hof : s.isArrayOf cell .int) : cellFits s (rf_C cell) = true := by
  obtain ⟨hns, k, hk, comp, hkind⟩ := hof
  have hsl : ∀ i, s.slotType? cell.cls cell.vm i = some .int := fun i => by
    unfold State.slotType?
    rw [hk]
    cases hv : cell.vm <;> first | exact absurd hv (hns _) | simp [hkind]
  unfold cellFits
  rw [List.all_eq_true]
  intro i _
  cases hs : (rf_C cell).slots[i]? with
  | none => rfl
  | some v =>
    have hs' : ((rf_script.map Value.int).toArray)[i]? = some v := hs
    rw [List.getElem?_toArray, List.getElem?_map] at hs'
    obtain ⟨w, -, hw⟩ := Option.map_eq_some_iff.mp hs'
    subst hw
    show (match s.slotType? cell.cls cell.vm i with | some t => fits t (.int w) | none => false) = true
    rw [hsl i]
    rfl
theorem rf_fits {s : State} {b : Nat} {cell : Cell} (hof : s.isArrayOf cell .int) (h : heapFits s = true) : heapFits (rf_S s b cell) = true := by
  have hall : ∀ c ∈ s.heap, cellFits s c = true := Array.all_eq_true_iff_forall_mem.mp h
  refine Array.all_eq_true_iff_forall_mem.mpr (fun c hc => ?_)
  show cellFits s c = true
  obtain ⟨a, ha⟩ := Array.mem_iff_getElem?.mp hc
  have ha' : (rf_H s.heap b cell)[a]? = some c := ha
  by_cases q : a = b
  · subst q
    by_cases hlt : a < s.heap.size
    · rw [rf_H_self hlt] at ha'
      cases ha'
      exact rf_cell hof
    · unfold rf_H at ha'
      rw [Array.getElem?_setIfInBounds, if_pos rfl, if_neg hlt] at ha'
      cases ha'
  · rw [rf_H_ne q] at ha'
    exact hall c (Array.mem_iff_getElem?.mpr ⟨a, ha'⟩)
def rf_leaf : Jvm.Cond → Bool
  | .count _ => true
  | .isRef (.arg _) => true
  | .isRef (.static _ _ _) => true
  | .arrayOf (.arg 0) .int => true
  | .le (.length (.arg 0)) (.int n) => decide ((237 : Int32) ≤ n)
  | .not (.castable _ _) => true
  | _ => false
theorem rf_arg {args : Array Value} {b : Addr} (hargs : args = #[Value.ref b]) (first s : State) (o : Option Outcome) (idx : List Nat) : (Term.arg 0).eval args first o idx s = some (.ref b) := by
  rw [hargs]
  rfl
theorem rf_leaf_ok {s : State} {b : Nat} {cell : Cell} (hat : s.arrayAt? b = some cell) (hof : s.isArrayOf cell .int) {args : Array Value} (hargs : args = #[Value.ref b]) (c : Jvm.Cond) (hl : rf_leaf c = true) (h : c.before args s = true) : c.before args (rf_S s b cell) = true := by
  obtain ⟨hcb, -, hst, -⟩ := State.arrayAt?_spec hat
  have hI := rf_ints hat hof
  unfold rf_leaf at hl
  split at hl
  · exact h
  · exact h
  · rename_i C f d
    cases hv : (Term.static C f d).eval args s none [] s with
    | none => simp [Cond.before, Cond.holds, Cond.value, hv] at h
    | some v =>
      have hv' := rf_static hcb hst hv
      simp only [Cond.before, Cond.holds, Cond.value, hv] at h
      simp only [Cond.before, Cond.holds, Cond.value, hv']
      exact h
  · show ((Cond.arrayOf (.arg 0) .int).value args (rf_S s b cell) none (rf_S s b cell) [] == some true) = true
    rw [hI.arrayOf_value (rf_arg hargs _ _ _ _)]
    rfl
  · rename_i n
    show ((Cond.le (.length (.arg 0)) (.int n)).value args (rf_S s b cell) none (rf_S s b cell) [] == some true) = true
    rw [Cond.le_ints (hI.length_eval (rf_arg hargs _ _ _ _)) (show (Term.int n).eval args (rf_S s b cell) none [] (rf_S s b cell) = some (.int n) from rfl), rf_len, show (237 : Nat).toInt32 = (237 : Int32) from rfl, hl]
    rfl
  · exact h
  · cases hl
theorem rf_narrow : (flatC (Jvm.Cond.and given_1 narrow_1)).all rf_leaf = true := by decide +kernel
def rf_word : Jvm.Cond → Bool
  | .arrayClass _ => true
  | .arrayOver _ => true
  | .laysStatic _ _ _ => true
  | c => c.onTables
theorem rf_onT : (Jvm.Cond.code x code maxLocals ret :: tables_1).all rf_word = true := by decide +kernel
theorem rf_word_ok {s : State} {b : Nat} {cell : Cell} (hat : s.arrayAt? b = some cell) {args : Array Value} (c : Jvm.Cond) (hl : rf_word c = true) (h : c.before args s = true) : c.before args (rf_S s b cell) = true := by
  obtain ⟨hcb, -, hst, -⟩ := State.arrayAt?_spec hat
  unfold rf_word at hl
  split at hl
  · exact h
  · exact h
  · rename_i ow nm ds
    have hvm : (rf_S s b cell).vm = s.vm := rfl
    have hff : ∀ q1 q2 q3, (rf_S s b cell).fieldFound? q1 q2 q3 = s.fieldFound? q1 q2 q3 := fun _ _ _ => rfl
    have hhp : (rf_S s b cell).heap = rf_H s.heap b cell := rfl
    simp only [Cond.before, Cond.holds, Cond.value, hvm, hff, hhp] at h ⊢
    cases h1 : s.vm.findClass ow with
    | none => simp [h1] at h
    | some c1 =>
      cases h2 : s.fieldFound? ow nm ds with
      | none => simp [h1, h2] at h
      | some q =>
        obtain ⟨c2, k2, i2, f2⟩ := q
        cases h3 : k2.statics with
        | none => simp [h1, h2, h3] at h
        | some a =>
          by_cases hab : a = b
          · subst hab
            simp [h1, h2, h3, hcb, hst] at h
          · simp only [h1, h2, h3, Option.bind_some] at h ⊢
            rw [rf_H_ne hab]
            exact h
  · exact va_tabs (u := s) (U := rf_S s b cell) (A := args) hl rfl h
theorem rf_rest {s : State} {b : Nat} {cell : Cell} (hat : s.arrayAt? b = some cell) (hof : s.isArrayOf cell .int) {args : Array Value} (hargs : args = #[Value.ref b]) : rest_1_c.before args (rf_S s b cell) = true := by
  have hI := rf_ints hat hof
  unfold rest_1_c
  rw [Cond.before_and, Bool.and_eq_true]
  refine ⟨?_, ?_⟩
  · show ((Cond.isInt (.length (.arg 0))).value args (rf_S s b cell) none (rf_S s b cell) [] == some true) = true
    rw [Cond.isInt_int (hI.length_eval (rf_arg hargs _ _ _ _))]
    rfl
  · show ((Cond.all (.arg 0) (.isInt (.elem (.arg 0) (.index 0)))).value args (rf_S s b cell) none (rf_S s b cell) [] == some true) = true
    rw [hI.all_value (rf_arg hargs _ _ _ _) (fun k hk => Cond.isInt_int (hI.elem_nat (k := k) (rf_arg hargs _ _ _ _) rfl hk))]
    rfl
theorem rf_room {s : State} {pl : Platform} {r : Room} {b : Nat} {cell : Cell} (h : s.hasRoom pl r = true) (n : Nat) (hn : (rf_S s b cell).slotsUsed + r.slots ≤ n) : (rf_S s b cell).hasRoom { pl with maxSlots := pl.maxSlots + n } r = true := by
  unfold State.hasRoom at h ⊢
  simp only [Bool.and_eq_true, decide_eq_true_eq] at h ⊢
  obtain ⟨⟨⟨⟨a1, a2⟩, a3⟩, -⟩, -⟩ := h
  refine ⟨⟨⟨⟨a1, a2⟩, ?_⟩, Nat.le_trans hn (Nat.le_add_left _ _)⟩, ?_⟩
  · show (s.heap.setIfInBounds b (rf_C cell)).size + r.cells ≤ pl.maxCells
    rw [Array.size_setIfInBounds]
    exact a3
  · show ((rf_H s.heap b cell).foldl (fun n c => n + c.slots.size) 0 == (rf_H s.heap b cell).foldl (fun n c => n + c.slots.size) 0) = true
    exact beq_self_eq_true _
theorem rf_admits {l : Launch} {e : Env} (n : Nat) (h : l.admits e) : l.admits (rf_E e n) := by
  obtain ⟨h1, h2, h3, h4, h5, h6, h7, h8, h9, h10, h11, h12, h13, h14, h15, h16, h17⟩ := h
  exact ⟨h1, h2, h3, h4, congrArg (fun Q : Platform => { Q with maxSlots := e.platform.maxSlots + n }) h5, h6, h7, Nat.le_trans h8 (Nat.le_add_right _ _), h9, h10, h11, h12, h13, h14, h15, h16, h17⟩
theorem rf_app {r : Room} {e : Env} {s : State} {m : MethodId} {args : Array Value} {below : List Frame} {b : Nat} {cell : Cell} (hf : s.frames = Frame.invoking m args :: below) (hat : s.arrayAt? b = some cell) (happ : (headSpec (Jvm.Cond.code x code maxLocals ret :: tables_1) r).applies x e.platform s = true) (n : Nat) (hn : (rf_S s b cell).slotsUsed + r.slots ≤ n) : (headSpec (Jvm.Cond.code x code maxLocals ret :: tables_1) r).applies x (rf_E e n).platform (rf_S s b cell) = true := by
  obtain ⟨h1, h2, h3, h4, h5, h6, h7, h8⟩ := (Spec.applies_iff hf).mp happ
  have hf' : (rf_S s b cell).frames = Frame.invoking m args :: below := hf
  have h7' : s.hasRoom e.platform r = true := h7
  have h9 : (rf_S s b cell).hasRoom (rf_E e n).platform r = true := rf_room h7' n hn
  exact (Spec.applies_iff hf').mpr ⟨h1, h2, h3, h4, h5, h6, h9, atoms_intro (fun c hc => rf_word_ok hat c (List.all_eq_true.mp rf_onT c hc) (atoms_spec (ws := Jvm.Cond.code x code maxLocals ret :: tables_1) h8 c hc))⟩
theorem rf_flags : launch0.flags = flags0 := rfl
/-- from one start to one with this script -/
theorem rf_start {l : Launch} (hfl : l.flags = flags0) {p : Program} {e : Env} {s : State} {m : MethodId} {args : Array Value} {below : List Frame} (h : AtStart classFile x code maxLocals ret World_1 tables_1 room_1 Calls_1 rest_1 Pre_1 l p e s m args below) : ¬ Claimed_1_2 := by
  obtain ⟨hLi, hW, ha, -, hc, hk, hf, hfit, hheap, happ, -, hre, hpr⟩ := h
  have hpr0 : (Jvm.Cond.and given_1 narrow_1).before args s = true := hpr
  have hre0 : rest_1_c.before args s = true := hre
  clear hpr hre
  have hs := flat_of_before _ hpr0
  have hq := flat_of_before _ hre0
  have hcn : (Cond.count 1).before args s = true := hs _ (by decide +kernel)
  have harr : (Cond.arrayOf (.arg 0) .int).before args s = true := hs _ (by decide +kernel)
  have hlen : (Cond.isInt (.length (.arg 0))).before args s = true := hq _ (by decide +kernel)
  have hall : (Cond.all (.arg 0) (.isInt (.elem (.arg 0) (.index 0)))).before args s = true := hq _ (by decide +kernel)
  obtain ⟨b, xs, hb, hx⟩ := State.ints_of_pre rfl harr hlen hall
  have hargs : args = #[Value.ref b] := Cond.one_arg hcn (show args[0]? = some (.ref b) from hb)
  obtain ⟨cell, hat, -, hof, -⟩ := hx
  have hf' : (rf_S s b cell).frames = Frame.invoking m args :: below := hf
  have hfit' : argsFit (rf_S s b cell).vm m args = true := hfit
  have hpr' : (Jvm.Cond.and given_1 narrow_1).before args (rf_S s b cell) = true := rf_of_flat _ (fun c hc => rf_leaf_ok hat hof hargs c (List.all_eq_true.mp rf_narrow c hc) (hs c hc))
  have hre' := rf_rest hat hof hargs
  obtain ⟨n, hn⟩ : ∃ n, (rf_S s b cell).slotsUsed + room_1.slots ≤ n := ⟨_, Nat.le_refl _⟩
  have happ' := rf_app hf hat happ n hn
  have ha' := rf_admits n ha
  have hh' := rf_fits (b := b) hof hheap
  have hI := rf_ints hat hof
  have hc' : FairCas (rf_E e n).choices := hc
  have hk' : FairClock (rf_E e n).choices := hk
  have hca' : Calls_1 p.tables (rf_E e n) args (rf_S s b cell) := trivial
  have hre2 : rest_1 p.tables (rf_E e n) args (rf_S s b cell) := hre'
  have hpr2 : Pre_1 p.tables (rf_E e n) args (rf_S s b cell) := hpr'
  generalize rf_S s b cell = s' at hf' hfit' hh' happ' hca' hre2 hpr2 hI
  exact rf_refuted hfl hLi hW ha' hc' hk' hf' hfit' hh' happ' hca' hre2 hpr2 hargs hI
/-- THE REFUTATION: where the statement can be met at all, it is false that the law always answers 1 -/
theorem rf_witness (hw : WitnessClaimed_1) : ¬ Claimed_1_2 := by
  obtain ⟨p, e, s, m, args, below, h⟩ := hw
  exact rf_start rf_flags h
