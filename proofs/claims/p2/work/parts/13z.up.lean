theorem wk_up {args : Array Value} {s U : State} {c0 c1 : Cond} (hW : s.WarmedH U.vm) (hts : ∀ w ∈ (c0 :: wk_tbl), w.before args s = true) (hc : c1 ∈ wk_tbl) : ∀ w ∈ (c1 :: wk_tbl), w.before args U = true := fun w hw => by
  have h1 : w ∈ wk_tbl := (List.mem_cons.mp hw).elim (fun e => by rw [e]; exact hc) (fun z => z)
  exact word_at hW (good_of_word (wk_good w h1)) (hts w (List.mem_cons_of_mem _ h1))
theorem th_ZA.zs {A : Nat → Prop} {s U : State} {H : Heap} {locs : List Loc} (h : th_ZA A s) (hS : va_S A s.heap H locs) (hU : U.heap = H) (hW : s.WarmedH U.vm) : th_Zs U := h.of hS hU hW
/-- the throw's words at the heap that the walk has reached -/
theorem wk_thr {own cls : String} {names : List String} {ix ic : Nat} {args : Array Value} {s : State} {c0 : Cond} {A : Nat → Prop} {H : Heap} {locs : List Loc} (hts : ∀ w ∈ (c0 :: wk_tbl), w.before args s = true) (hZ : th_ZA A s) (hS : va_S A s.heap H locs)
    (h1 : Cond.classLink own ix cls ∈ wk_tbl) (h2 : Cond.initialized cls ∈ wk_tbl) (hoa : ∀ s' : State, (∀ w ∈ (Cond.initialized cls :: wk_tbl), w.before args s' = true) → th_Zs s' → ∀ a ∈ Bundle.ownAtoms0 own ic cls names, a.before args s' = true) :
    ∀ s' : State, s.WarmedH s'.vm → s'.heap = H → (∀ a ∈ Bundle.ownAtoms0 own ic cls names, a.before args s' = true) ∧ (Cond.classLink own ix cls).before args s' = true ∧ (Cond.initialized cls).before args s' = true := fun s' hW hH => by
  have h := wk_up (U := s') hW hts h2
  exact ⟨hoa s' h (th_ZA.zs hZ hS hH hW), h _ (List.mem_cons_of_mem _ h1), h _ (List.mem_cons_of_mem _ h2)⟩
