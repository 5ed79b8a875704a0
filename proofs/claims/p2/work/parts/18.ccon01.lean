set_option maxHeartbeats 8000000 in
set_option maxRecDepth 100000 in
theorem cm_A_spread (l : Launch) (dC : Nat → ClassId) (dI : Nat → Nat → Nat) (h : Nat) (q : Nat → Nat) (g : Nat → ClassId) (tq : Nat) (tg : ClassId) (tn : Nat) (tx : Nat → Int32) (sz : Nat) (I : MI) (A : MA) (L : ML) (k1 : Int64) (k4 : Int32) (r : Int64) (I' : MI) (A' : MA) (L' : ML) (hf : f_A_spread tn tx I A L  k1 k4 = some (r, I', A', L')) : Met l y_A_spread w_A_spread ({ frames := 2, cells := 0, slots := 0, locals := 43 }) (va_Pc [.ref h, .long k1, .ref tq, .int k4] (fun U => U.heap.size = sz ∧ va_P (dC, dI) vwCl (at_W h q g tq tg tn tx I A L) U.heap ∧ va_K (dC, dI) vwCl (at_T h q g tq tg tn tx) U ∧ va_D (fun _ => True) (at_W h q g tq tg tn tx I A L))) (va_Ql (fun (r9 : Int64) (_ : Unit) => r9 = r) (fun (_ : Unit) t => va_P (dC, dI) vwCl (at_W h q g tq tg tn tx I' A' L') t.heap ∧ va_K (dC, dI) vwCl (at_T h q g tq tg tn tx) t ∧ va_D (va_A (at_W h q g tq tg tn tx I A L) sz) (at_W h q g tq tg tn tx I' A' L')) (va_A (at_W h q g tq tg tn tx I A L) sz)) 0 0 (va_A (at_W h q g tq tg tn tx I A L) sz) := by
  refine Met.ofW (cc := prog_2_method_9_code) (maxL := 15) (ret := (some .long)) (by decide) rfl ?_
  intro p e s m args below meth c s₁ B hml hv
  obtain ⟨rfl, hsz, hP, hK, hD0⟩ := hv
  have hx := B.exec
  have hb := B.bytes
  have hr := B.returns
  have hts := atoms_spec (ws := w_A_spread) B.pre
  have hown : s.vm.findClass "DraftTree$Automaton" = some m.cls := findClass_of_methodNamed B.named
  have hlocks := B.notSynchronized
  subst hsz
  have hD := hD0.self (sz := s.heap.size)
  generalize hAe : va_A (at_W h q g tq tg tn tx I A L) s.heap.size = B9 at hD ⊢
  have hA : ∀ q : Nat, s.heap.size ≤ q → B9 q := fun q h => by rw [← hAe]; exact Or.inr h
  clear hAe
  have hS : va_S B9 s.heap s.heap [] := va_S.rf
  have hl := lv_entry ([.ref h, .long k1, .ref tq, .int k4]) (n := 15) (Nat.le_of_ble_eq_true rfl)
  rw [lg_entry_eq]
  generalize (lg_sl ([.ref h, .long k1, .ref tq, .int k4]) ++ List.replicate (15 - (lg_sl ([.ref h, .long k1, .ref tq, .int k4])).length) Slot.unset).toArray = ls at hl ⊢
  have hl : lv_has ls 15 [(0, .ref h), (1, .long k1), (3, .ref tq), (4, .int k4)] := hl
  have blk44 : ∀ (rc : Nat → MI → MA → ML → (Nat → Int32) → (Nat → Int64) → Option (Int64 × MI × MA × ML)) (hrc55 : ∀ (I : MI) (A : MA) (L : ML) (X : Nat → Int32) (Y : Nat → Int64) (ls : Array Slot) (H : Heap) (locs : List Loc), rc 55 I A L X Y = some (r, I', A', L') → lv_has ls 15 [(0, .ref h), (1, .long (Y 1)), (3, .ref tq), (4, .int (X 4)), (5, .int (X 5)), (6, .int (X 6)), (7, .long (Y 7)), (9, .long (Y 9)), (11, .int (X 11))] → va_P (dC, dI) vwCl (at_W h q g tq tg tn tx I A L) H → va_D B9 (at_W h q g tq tg tn tx I A L) → va_S B9 s.heap H locs → W p l e (headSpec w_A_spread ({ frames := 2, cells := 0, slots := 0, locals := 43 })).room s m ([.ref h, .long k1, .ref tq, .int k4] : List Value).toArray below meth c H locs 0 0 (MQ below (va_Ql (fun (r9 : Int64) (_ : Unit) => r9 = r) (fun (_ : Unit) t => va_P (dC, dI) vwCl (at_W h q g tq tg tn tx I' A' L') t.heap ∧ va_K (dC, dI) vwCl (at_T h q g tq tg tn tx) t ∧ va_D B9 (at_W h q g tq tg tn tx I' A' L')) B9) ([.ref h, .long k1, .ref tq, .int k4] : List Value).toArray s 0 0 B9) (F0 m 55 ls [])), ∀ (I : MI) (A : MA) (L : ML) (X : Nat → Int32) (Y : Nat → Int64) (s0 : Int32) (ls : Array Slot) (H : Heap) (locs : List Loc), f_A_spread_44 tn tx rc I A L X Y s0 = some (r, I', A', L') → lv_has ls 15 [(0, .ref h), (1, .long (Y 1)), (3, .ref tq), (4, .int (X 4)), (5, .int (X 5))] → va_P (dC, dI) vwCl (at_W h q g tq tg tn tx I A L) H → va_D B9 (at_W h q g tq tg tn tx I A L) → va_S B9 s.heap H locs → W p l e (headSpec w_A_spread ({ frames := 2, cells := 0, slots := 0, locals := 43 })).room s m ([.ref h, .long k1, .ref tq, .int k4] : List Value).toArray below meth c H locs 0 0 (MQ below (va_Ql (fun (r9 : Int64) (_ : Unit) => r9 = r) (fun (_ : Unit) t => va_P (dC, dI) vwCl (at_W h q g tq tg tn tx I' A' L') t.heap ∧ va_K (dC, dI) vwCl (at_T h q g tq tg tn tx) t ∧ va_D B9 (at_W h q g tq tg tn tx I' A' L')) B9) ([.ref h, .long k1, .ref tq, .int k4] : List Value).toArray s 0 0 B9) (F0 m 44 ls [.int s0]) := by
    intro rc hrc55 I A L X Y s0 ls H locs hf hl hP hD hS
    unfold f_A_spread_44 at hf
    refine lv_istore (lv' := [(6, .int s0), (0, .ref h), (1, .long (Y 1)), (3, .ref tq), (4, .int (X 4)), (5, .int (X 5))]) hx hb d_A_spread_44 hl (by decide) rfl (fun ls hl => ?_)
    have hl : lv_has ls 15 [(6, .int s0), (0, .ref h), (1, .long (Y 1)), (3, .ref tq), (4, .int (X 4)), (5, .int (X 5))] := hl
    refine lv_lload_n hx hb d_A_spread_46 rfl (lv_at hl 2 rfl) ?_
    refine lv_lstore (lv' := [(7, .long (Y 1)), (6, .int s0), (0, .ref h), (1, .long (Y 1)), (3, .ref tq), (4, .int (X 4)), (5, .int (X 5))]) hx hb d_A_spread_47 hl (by decide) rfl (fun ls hl => ?_)
    have hl : lv_has ls 15 [(7, .long (Y 1)), (6, .int s0), (0, .ref h), (1, .long (Y 1)), (3, .ref tq), (4, .int (X 4)), (5, .int (X 5))] := hl
    refine lv_lload_n hx hb d_A_spread_49 rfl (lv_at hl 3 rfl) ?_
    refine lv_lstore (lv' := [(9, .long (Y 1)), (7, .long (Y 1)), (6, .int s0), (0, .ref h), (1, .long (Y 1)), (3, .ref tq), (4, .int (X 4)), (5, .int (X 5))]) hx hb d_A_spread_50 hl (by decide) rfl (fun ls hl => ?_)
    have hl : lv_has ls 15 [(9, .long (Y 1)), (7, .long (Y 1)), (6, .int s0), (0, .ref h), (1, .long (Y 1)), (3, .ref tq), (4, .int (X 4)), (5, .int (X 5))] := hl
    refine lv_iconst (v := 0) hx hb d_A_spread_52 (by decide) ?_
    refine lv_istore (lv' := [(11, .int 0), (9, .long (Y 1)), (7, .long (Y 1)), (6, .int s0), (0, .ref h), (1, .long (Y 1)), (3, .ref tq), (4, .int (X 4)), (5, .int (X 5))]) hx hb d_A_spread_53 hl (by decide) rfl (fun ls hl => ?_)
    have hl : lv_has ls 15 [(11, .int 0), (9, .long (Y 1)), (7, .long (Y 1)), (6, .int s0), (0, .ref h), (1, .long (Y 1)), (3, .ref tq), (4, .int (X 4)), (5, .int (X 5))] := hl
    exact hrc55 I A L (upd (upd X 6 s0) 11 0) (vp_updL (vp_updL Y 7 (Y 1)) 9 (Y 1)) _ _ _ hf (lv_sub hl [4, 5, 6, 7, 8, 3, 2, 1, 0] rfl) hP hD hS
  have blk39 : ∀ (rc : Nat → MI → MA → ML → (Nat → Int32) → (Nat → Int64) → Option (Int64 × MI × MA × ML)) (hrc55 : ∀ (I : MI) (A : MA) (L : ML) (X : Nat → Int32) (Y : Nat → Int64) (ls : Array Slot) (H : Heap) (locs : List Loc), rc 55 I A L X Y = some (r, I', A', L') → lv_has ls 15 [(0, .ref h), (1, .long (Y 1)), (3, .ref tq), (4, .int (X 4)), (5, .int (X 5)), (6, .int (X 6)), (7, .long (Y 7)), (9, .long (Y 9)), (11, .int (X 11))] → va_P (dC, dI) vwCl (at_W h q g tq tg tn tx I A L) H → va_D B9 (at_W h q g tq tg tn tx I A L) → va_S B9 s.heap H locs → W p l e (headSpec w_A_spread ({ frames := 2, cells := 0, slots := 0, locals := 43 })).room s m ([.ref h, .long k1, .ref tq, .int k4] : List Value).toArray below meth c H locs 0 0 (MQ below (va_Ql (fun (r9 : Int64) (_ : Unit) => r9 = r) (fun (_ : Unit) t => va_P (dC, dI) vwCl (at_W h q g tq tg tn tx I' A' L') t.heap ∧ va_K (dC, dI) vwCl (at_T h q g tq tg tn tx) t ∧ va_D B9 (at_W h q g tq tg tn tx I' A' L')) B9) ([.ref h, .long k1, .ref tq, .int k4] : List Value).toArray s 0 0 B9) (F0 m 55 ls [])), ∀ (I : MI) (A : MA) (L : ML) (X : Nat → Int32) (Y : Nat → Int64) (ls : Array Slot) (H : Heap) (locs : List Loc), f_A_spread_39 tn tx rc I A L X Y = some (r, I', A', L') → lv_has ls 15 [(0, .ref h), (1, .long (Y 1)), (3, .ref tq), (4, .int (X 4)), (5, .int (X 5))] → va_P (dC, dI) vwCl (at_W h q g tq tg tn tx I A L) H → va_D B9 (at_W h q g tq tg tn tx I A L) → va_S B9 s.heap H locs → W p l e (headSpec w_A_spread ({ frames := 2, cells := 0, slots := 0, locals := 43 })).room s m ([.ref h, .long k1, .ref tq, .int k4] : List Value).toArray below meth c H locs 0 0 (MQ below (va_Ql (fun (r9 : Int64) (_ : Unit) => r9 = r) (fun (_ : Unit) t => va_P (dC, dI) vwCl (at_W h q g tq tg tn tx I' A' L') t.heap ∧ va_K (dC, dI) vwCl (at_T h q g tq tg tn tx) t ∧ va_D B9 (at_W h q g tq tg tn tx I' A' L')) B9) ([.ref h, .long k1, .ref tq, .int k4] : List Value).toArray s 0 0 B9) (F0 m 39 ls []) := by
    intro rc hrc55 I A L X Y ls H locs hf hl hP hD hS
    unfold f_A_spread_39 at hf
    refine lv_iconst (v := 1) hx hb d_A_spread_39 (by decide) ?_
    refine lv_goto (tgt := 44) hx hb d_A_spread_40 (by decide) ?_
    exact blk44 rc hrc55 I A L X Y 1 _ _ _ hf (lv_sub hl [0, 1, 2, 3, 4] rfl) hP hD hS
  have blk21 : ∀ (rc : Nat → MI → MA → ML → (Nat → Int32) → (Nat → Int64) → Option (Int64 × MI × MA × ML)) (hrc55 : ∀ (I : MI) (A : MA) (L : ML) (X : Nat → Int32) (Y : Nat → Int64) (ls : Array Slot) (H : Heap) (locs : List Loc), rc 55 I A L X Y = some (r, I', A', L') → lv_has ls 15 [(0, .ref h), (1, .long (Y 1)), (3, .ref tq), (4, .int (X 4)), (5, .int (X 5)), (6, .int (X 6)), (7, .long (Y 7)), (9, .long (Y 9)), (11, .int (X 11))] → va_P (dC, dI) vwCl (at_W h q g tq tg tn tx I A L) H → va_D B9 (at_W h q g tq tg tn tx I A L) → va_S B9 s.heap H locs → W p l e (headSpec w_A_spread ({ frames := 2, cells := 0, slots := 0, locals := 43 })).room s m ([.ref h, .long k1, .ref tq, .int k4] : List Value).toArray below meth c H locs 0 0 (MQ below (va_Ql (fun (r9 : Int64) (_ : Unit) => r9 = r) (fun (_ : Unit) t => va_P (dC, dI) vwCl (at_W h q g tq tg tn tx I' A' L') t.heap ∧ va_K (dC, dI) vwCl (at_T h q g tq tg tn tx) t ∧ va_D B9 (at_W h q g tq tg tn tx I' A' L')) B9) ([.ref h, .long k1, .ref tq, .int k4] : List Value).toArray s 0 0 B9) (F0 m 55 ls [])), ∀ (I : MI) (A : MA) (L : ML) (X : Nat → Int32) (Y : Nat → Int64) (s0 : Int32) (ls : Array Slot) (H : Heap) (locs : List Loc), f_A_spread_21 tn tx rc I A L X Y s0 = some (r, I', A', L') → lv_has ls 15 [(0, .ref h), (1, .long (Y 1)), (3, .ref tq), (4, .int (X 4))] → va_P (dC, dI) vwCl (at_W h q g tq tg tn tx I A L) H → va_D B9 (at_W h q g tq tg tn tx I A L) → va_S B9 s.heap H locs → W p l e (headSpec w_A_spread ({ frames := 2, cells := 0, slots := 0, locals := 43 })).room s m ([.ref h, .long k1, .ref tq, .int k4] : List Value).toArray below meth c H locs 0 0 (MQ below (va_Ql (fun (r9 : Int64) (_ : Unit) => r9 = r) (fun (_ : Unit) t => va_P (dC, dI) vwCl (at_W h q g tq tg tn tx I' A' L') t.heap ∧ va_K (dC, dI) vwCl (at_T h q g tq tg tn tx) t ∧ va_D B9 (at_W h q g tq tg tn tx I' A' L')) B9) ([.ref h, .long k1, .ref tq, .int k4] : List Value).toArray s 0 0 B9) (F0 m 21 ls [.int s0]) := by
    intro rc hrc55 I A L X Y s0 ls H locs hf hl hP hD hS
    unfold f_A_spread_21 at hf
    refine lv_istore (lv' := [(5, .int s0), (0, .ref h), (1, .long (Y 1)), (3, .ref tq), (4, .int (X 4))]) hx hb d_A_spread_21 hl (by decide) rfl (fun ls hl => ?_)
    have hl : lv_has ls 15 [(5, .int s0), (0, .ref h), (1, .long (Y 1)), (3, .ref tq), (4, .int (X 4))] := hl
    refine lv_iload hx hb d_A_spread_23 (lv_at hl 4 rfl) ?_
    refine lv_aload_n hx hb d_A_spread_25 rfl (lv_at hl 3 rfl) ?_
    refine va_alen (v := (Int32.ofNat tn)) hx hb hK hP 6 5 rfl rfl rfl d_A_spread_26 ?_
    refine lv_icmp_eq (tgt := 39) hx hb d_A_spread_27 (by decide) (fun hc1 => ?_) (fun hc1 => ?_)
    ·
      have hf := wk_ift hc1 hf
      exact blk39 rc hrc55 I A L (upd X 5 s0) Y _ _ _ hf (lv_sub hl [1, 2, 3, 4, 0] rfl) hP hD hS
    ·
      have hf := wk_iff hc1 hf
      refine lv_aload_n hx hb d_A_spread_30 rfl (lv_at hl 3 rfl) ?_
      refine lv_iload hx hb d_A_spread_31 (lv_at hl 4 rfl) ?_
      obtain ⟨hc2, hf⟩ := wk_if hf
      refine va_cald hx hb hK hP 6 5 rfl rfl (wk_inb_ok hc2) d_A_spread_33 ?_
      refine lv_bipush (v := 10) hx hb d_A_spread_34 (by decide) ?_
      refine lv_icmp_ne (tgt := 43) hx hb d_A_spread_36 (by decide) (fun hc3 => ?_) (fun hc3 => ?_)
      ·
        have hf := wk_iff hc3 hf
        refine lv_iconst (v := 0) hx hb d_A_spread_43 (by decide) ?_
        exact blk44 rc hrc55 I A L (upd X 5 s0) Y 0 _ _ _ hf (lv_sub hl [1, 2, 3, 4, 0] rfl) hP hD hS
      ·
        have hf := wk_ift hc3 hf
        exact blk39 rc hrc55 I A L (upd X 5 s0) Y _ _ _ hf (lv_sub hl [1, 2, 3, 4, 0] rfl) hP hD hS
  have blk16 : ∀ (rc : Nat → MI → MA → ML → (Nat → Int32) → (Nat → Int64) → Option (Int64 × MI × MA × ML)) (hrc55 : ∀ (I : MI) (A : MA) (L : ML) (X : Nat → Int32) (Y : Nat → Int64) (ls : Array Slot) (H : Heap) (locs : List Loc), rc 55 I A L X Y = some (r, I', A', L') → lv_has ls 15 [(0, .ref h), (1, .long (Y 1)), (3, .ref tq), (4, .int (X 4)), (5, .int (X 5)), (6, .int (X 6)), (7, .long (Y 7)), (9, .long (Y 9)), (11, .int (X 11))] → va_P (dC, dI) vwCl (at_W h q g tq tg tn tx I A L) H → va_D B9 (at_W h q g tq tg tn tx I A L) → va_S B9 s.heap H locs → W p l e (headSpec w_A_spread ({ frames := 2, cells := 0, slots := 0, locals := 43 })).room s m ([.ref h, .long k1, .ref tq, .int k4] : List Value).toArray below meth c H locs 0 0 (MQ below (va_Ql (fun (r9 : Int64) (_ : Unit) => r9 = r) (fun (_ : Unit) t => va_P (dC, dI) vwCl (at_W h q g tq tg tn tx I' A' L') t.heap ∧ va_K (dC, dI) vwCl (at_T h q g tq tg tn tx) t ∧ va_D B9 (at_W h q g tq tg tn tx I' A' L')) B9) ([.ref h, .long k1, .ref tq, .int k4] : List Value).toArray s 0 0 B9) (F0 m 55 ls [])), ∀ (I : MI) (A : MA) (L : ML) (X : Nat → Int32) (Y : Nat → Int64) (ls : Array Slot) (H : Heap) (locs : List Loc), f_A_spread_16 tn tx rc I A L X Y = some (r, I', A', L') → lv_has ls 15 [(0, .ref h), (1, .long (Y 1)), (3, .ref tq), (4, .int (X 4))] → va_P (dC, dI) vwCl (at_W h q g tq tg tn tx I A L) H → va_D B9 (at_W h q g tq tg tn tx I A L) → va_S B9 s.heap H locs → W p l e (headSpec w_A_spread ({ frames := 2, cells := 0, slots := 0, locals := 43 })).room s m ([.ref h, .long k1, .ref tq, .int k4] : List Value).toArray below meth c H locs 0 0 (MQ below (va_Ql (fun (r9 : Int64) (_ : Unit) => r9 = r) (fun (_ : Unit) t => va_P (dC, dI) vwCl (at_W h q g tq tg tn tx I' A' L') t.heap ∧ va_K (dC, dI) vwCl (at_T h q g tq tg tn tx) t ∧ va_D B9 (at_W h q g tq tg tn tx I' A' L')) B9) ([.ref h, .long k1, .ref tq, .int k4] : List Value).toArray s 0 0 B9) (F0 m 16 ls []) := by
    intro rc hrc55 I A L X Y ls H locs hf hl hP hD hS
    unfold f_A_spread_16 at hf
    refine lv_iconst (v := 1) hx hb d_A_spread_16 (by decide) ?_
    refine lv_goto (tgt := 21) hx hb d_A_spread_17 (by decide) ?_
    exact blk21 rc hrc55 I A L X Y 1 _ _ _ hf (lv_sub hl [0, 1, 2, 3] rfl) hP hD hS
  have blk126 : ∀ (rc : Nat → MI → MA → ML → (Nat → Int32) → (Nat → Int64) → Option (Int64 × MI × MA × ML)) (hrc55 : ∀ (I : MI) (A : MA) (L : ML) (X : Nat → Int32) (Y : Nat → Int64) (ls : Array Slot) (H : Heap) (locs : List Loc), rc 55 I A L X Y = some (r, I', A', L') → lv_has ls 15 [(0, .ref h), (1, .long (Y 1)), (3, .ref tq), (4, .int (X 4)), (5, .int (X 5)), (6, .int (X 6)), (7, .long (Y 7)), (9, .long (Y 9)), (11, .int (X 11))] → va_P (dC, dI) vwCl (at_W h q g tq tg tn tx I A L) H → va_D B9 (at_W h q g tq tg tn tx I A L) → va_S B9 s.heap H locs → W p l e (headSpec w_A_spread ({ frames := 2, cells := 0, slots := 0, locals := 43 })).room s m ([.ref h, .long k1, .ref tq, .int k4] : List Value).toArray below meth c H locs 0 0 (MQ below (va_Ql (fun (r9 : Int64) (_ : Unit) => r9 = r) (fun (_ : Unit) t => va_P (dC, dI) vwCl (at_W h q g tq tg tn tx I' A' L') t.heap ∧ va_K (dC, dI) vwCl (at_T h q g tq tg tn tx) t ∧ va_D B9 (at_W h q g tq tg tn tx I' A' L')) B9) ([.ref h, .long k1, .ref tq, .int k4] : List Value).toArray s 0 0 B9) (F0 m 55 ls [])), ∀ (I : MI) (A : MA) (L : ML) (X : Nat → Int32) (Y : Nat → Int64) (ls : Array Slot) (H : Heap) (locs : List Loc), f_A_spread_126 tn tx rc I A L X Y = some (r, I', A', L') → lv_has ls 15 [(0, .ref h), (1, .long (Y 1)), (3, .ref tq), (4, .int (X 4)), (5, .int (X 5)), (6, .int (X 6)), (7, .long (Y 7)), (9, .long (Y 9)), (11, .int (X 11))] → va_P (dC, dI) vwCl (at_W h q g tq tg tn tx I A L) H → va_D B9 (at_W h q g tq tg tn tx I A L) → va_S B9 s.heap H locs → W p l e (headSpec w_A_spread ({ frames := 2, cells := 0, slots := 0, locals := 43 })).room s m ([.ref h, .long k1, .ref tq, .int k4] : List Value).toArray below meth c H locs 0 0 (MQ below (va_Ql (fun (r9 : Int64) (_ : Unit) => r9 = r) (fun (_ : Unit) t => va_P (dC, dI) vwCl (at_W h q g tq tg tn tx I' A' L') t.heap ∧ va_K (dC, dI) vwCl (at_T h q g tq tg tn tx) t ∧ va_D B9 (at_W h q g tq tg tn tx I' A' L')) B9) ([.ref h, .long k1, .ref tq, .int k4] : List Value).toArray s 0 0 B9) (F0 m 126 ls []) := by
    intro rc hrc55 I A L X Y ls H locs hf hl hP hD hS
    unfold f_A_spread_126 at hf
    refine lv_lload hx hb d_A_spread_126 (lv_at hl 6 rfl) ?_
    obtain ⟨e0, e1, e2, e3⟩ := wk_inj3 hf
    subst e0
    subst e1
    subst e2
    subst e3
    exact W.lret (v := (Y 7)) hx hb hr (fun t ht hW => ⟨⟨(Y 7), (), rfl, rfl, by rw [ht]; exact hP, va_K.moved hW.alike hK, hD⟩, hS.F ht⟩) hS.2.2 d_A_spread_128
  have stp55 : ∀ (rc : Nat → MI → MA → ML → (Nat → Int32) → (Nat → Int64) → Option (Int64 × MI × MA × ML)) (hrc55 : ∀ (I : MI) (A : MA) (L : ML) (X : Nat → Int32) (Y : Nat → Int64) (ls : Array Slot) (H : Heap) (locs : List Loc), rc 55 I A L X Y = some (r, I', A', L') → lv_has ls 15 [(0, .ref h), (1, .long (Y 1)), (3, .ref tq), (4, .int (X 4)), (5, .int (X 5)), (6, .int (X 6)), (7, .long (Y 7)), (9, .long (Y 9)), (11, .int (X 11))] → va_P (dC, dI) vwCl (at_W h q g tq tg tn tx I A L) H → va_D B9 (at_W h q g tq tg tn tx I A L) → va_S B9 s.heap H locs → W p l e (headSpec w_A_spread ({ frames := 2, cells := 0, slots := 0, locals := 43 })).room s m ([.ref h, .long k1, .ref tq, .int k4] : List Value).toArray below meth c H locs 0 0 (MQ below (va_Ql (fun (r9 : Int64) (_ : Unit) => r9 = r) (fun (_ : Unit) t => va_P (dC, dI) vwCl (at_W h q g tq tg tn tx I' A' L') t.heap ∧ va_K (dC, dI) vwCl (at_T h q g tq tg tn tx) t ∧ va_D B9 (at_W h q g tq tg tn tx I' A' L')) B9) ([.ref h, .long k1, .ref tq, .int k4] : List Value).toArray s 0 0 B9) (F0 m 55 ls [])), ∀ (I : MI) (A : MA) (L : ML) (X : Nat → Int32) (Y : Nat → Int64) (ls : Array Slot) (H : Heap) (locs : List Loc), f_A_spread_55 tn tx rc I A L X Y = some (r, I', A', L') → lv_has ls 15 [(0, .ref h), (1, .long (Y 1)), (3, .ref tq), (4, .int (X 4)), (5, .int (X 5)), (6, .int (X 6)), (7, .long (Y 7)), (9, .long (Y 9)), (11, .int (X 11))] → va_P (dC, dI) vwCl (at_W h q g tq tg tn tx I A L) H → va_D B9 (at_W h q g tq tg tn tx I A L) → va_S B9 s.heap H locs → W p l e (headSpec w_A_spread ({ frames := 2, cells := 0, slots := 0, locals := 43 })).room s m ([.ref h, .long k1, .ref tq, .int k4] : List Value).toArray below meth c H locs 0 0 (MQ below (va_Ql (fun (r9 : Int64) (_ : Unit) => r9 = r) (fun (_ : Unit) t => va_P (dC, dI) vwCl (at_W h q g tq tg tn tx I' A' L') t.heap ∧ va_K (dC, dI) vwCl (at_T h q g tq tg tn tx) t ∧ va_D B9 (at_W h q g tq tg tn tx I' A' L')) B9) ([.ref h, .long k1, .ref tq, .int k4] : List Value).toArray s 0 0 B9) (F0 m 55 ls []) := by
    intro rc hrc55 I A L X Y ls H locs hf hl hP hD hS
    unfold f_A_spread_55 at hf
    refine lv_iload hx hb d_A_spread_55 (lv_at hl 8 rfl) ?_
    refine lv_aload_n hx hb d_A_spread_57 rfl (lv_at hl 0 rfl) ?_
    refine va_get (D := (dC, dI)) (ci := 3) (v := .int (I 5)) (C := R_A) (T := F_A) (N := 10) hx hb hts (fun w h => List.mem_cons_of_mem _ (in_A w h)) hown hK hP 0 rfl rfl 5 (by decide) (hts _ (List.mem_cons_of_mem _ lk_258)) (fun _ h9 => h9) rfl d_A_spread_58 ?_
    refine lv_icmp_ge (tgt := 126) hx hb d_A_spread_61 (by decide) (fun hc1 => ?_) (fun hc1 => ?_)
    ·
      have hf := wk_ift hc1 hf
      exact blk126 rc hrc55 I A L X Y _ _ _ hf (lv_sub hl [0, 1, 2, 3, 4, 5, 6, 7, 8] rfl) hP hD hS
    ·
      have hf := wk_iff hc1 hf
      refine lv_lload hx hb d_A_spread_64 (lv_at hl 7 rfl) ?_
      refine lv_lconst (v := 0) hx hb d_A_spread_66 (by decide) ?_
      refine W.lcmp hx hb d_A_spread_67 ?_
      refine lv_if_eq (tgt := 126) hx hb d_A_spread_68 (by decide) (fun hc2 => ?_) (fun hc2 => ?_)
      ·
        have hf := wk_ift hc2 hf
        exact blk126 rc hrc55 I A L X Y _ _ _ hf (lv_sub hl [0, 1, 2, 3, 4, 5, 6, 7, 8] rfl) hP hD hS
      ·
        have hf := wk_iff hc2 hf
        refine lv_lload hx hb d_A_spread_71 (lv_at hl 7 rfl) ?_
        have hPc := hP.sub (ws' := []) [] rfl
        have hDc := hD.sub (ws' := []) [] (by decide) rfl
        have hKc := hK.sub (tys' := []) [] rfl
        have hFc := va_free (wc := []) hD hS hA [] rfl
        cases hg1 : f_Jl_numberOfTrailingZeros (Y 9) with
        | none => rw [hg1] at hf; cases hf
        | some z1 =>
          rw [hg1] at hf
          dsimp only [Option.bind_some] at hf
          refine va_calli (va_runS (As := [.long (Y 9)]) (rest := []) ⟨hx, hb, hml, hown, hts⟩ (cm_Jl_numberOfTrailingZeros l dC dI  _  (Y 9) z1  hg1) (va_cwS 1 hts (gd_t lk_265 lk_266 lk_267 lk_264) rfl rfl rfl (by decide +kernel) ⟨Nat.le_of_ble_eq_true rfl, Nat.le_of_ble_eq_true rfl⟩) ⟨fun a U g mk q => by obtain ⟨q0, q1, qP, qK, qD⟩ := q; exact ⟨q0, q1, qP, va_K.moved (u := U) (U := U.calling g mk a) (Vm.Alike.refl U.vm) qK, qD⟩, fun U hU hW => ⟨rfl, by rw [hU], by rw [hU]; exact hPc, va_K.moved hW.alike hKc, hDc.weaken (fun _ _ _ _ => trivial)⟩⟩ rfl rfl hl.1 rfl (lv_room (Nat.le_of_ble_eq_true rfl)) d_A_spread_73 ⟨Nat.le_of_ble_eq_true rfl, Nat.le_of_ble_eq_true rfl⟩) hS (fun q _ h => hFc q h) hFc (fun r9 u t H1 locs ht hvm hw hB hz1 hk1 hS => ?_)
          obtain ⟨hP1, hK1, hD1⟩ := hB
          rw [ht] at hP1
          rw [hw]
          obtain ⟨hP, hD⟩ := va_join (wr := (([0, 1, 2, 3, 4, 5, 6] : List Nat).map (fun i => ((at_W h q g tq tg tn tx I A L)).getD i (0, .inr (0, []))))) (w1 := []) hP hD [] [0, 1, 2, 3, 4, 5, 6] rfl rfl (by decide) (by decide) hk1 hFc hP1 hD1
          generalize H1 = H at hP hS ⊢
          have hP := hP.sub (ws' := (at_W h q g tq tg tn tx I A L)) [0, 1, 2, 3, 4, 5, 6] rfl
          have hD := hD.sub (ws' := (at_W h q g tq tg tn tx I A L)) [0, 1, 2, 3, 4, 5, 6] (by decide) rfl
          refine lv_istore (lv' := [(12, .int z1), (0, .ref h), (1, .long (Y 1)), (3, .ref tq), (4, .int (X 4)), (5, .int (X 5)), (6, .int (X 6)), (7, .long (Y 7)), (9, .long (Y 9)), (11, .int (X 11))]) hx hb d_A_spread_76 hl (by decide) rfl (fun ls hl => ?_)
          have hl : lv_has ls 15 [(12, .int z1), (0, .ref h), (1, .long (Y 1)), (3, .ref tq), (4, .int (X 4)), (5, .int (X 5)), (6, .int (X 6)), (7, .long (Y 7)), (9, .long (Y 9)), (11, .int (X 11))] := hl
          refine lv_lload hx hb d_A_spread_78 (lv_at hl 8 rfl) ?_
          refine lv_lload hx hb d_A_spread_80 (lv_at hl 8 rfl) ?_
          refine lv_lconst (v := 1) hx hb d_A_spread_82 (by decide) ?_
          refine lv_lsub hx hb d_A_spread_83 ?_
          refine lv_land hx hb d_A_spread_84 ?_
          refine lv_lstore (lv' := [(9, .long ((Y 9) &&& ((Y 9) - 1))), (12, .int z1), (0, .ref h), (1, .long (Y 1)), (3, .ref tq), (4, .int (X 4)), (5, .int (X 5)), (6, .int (X 6)), (7, .long (Y 7)), (11, .int (X 11))]) hx hb d_A_spread_85 hl (by decide) rfl (fun ls hl => ?_)
          have hl : lv_has ls 15 [(9, .long ((Y 9) &&& ((Y 9) - 1))), (12, .int z1), (0, .ref h), (1, .long (Y 1)), (3, .ref tq), (4, .int (X 4)), (5, .int (X 5)), (6, .int (X 6)), (7, .long (Y 7)), (11, .int (X 11))] := hl
          refine lv_aload_n hx hb d_A_spread_87 rfl (lv_at hl 2 rfl) ?_
          refine lv_iload hx hb d_A_spread_88 (lv_at hl 1 rfl) ?_
          refine lv_iload hx hb d_A_spread_90 (lv_at hl 6 rfl) ?_
          refine lv_iload hx hb d_A_spread_92 (lv_at hl 7 rfl) ?_
          have hPc := hP.sub (ws' := (aw_W h q g I A L)) [0, 1, 2, 3, 4, 5] rfl
          have hDc := hD.sub (ws' := (aw_W h q g I A L)) [0, 1, 2, 3, 4, 5] (by decide) rfl
          have hKc := hK.sub (tys' := (aw_T h q g)) [0, 1, 2, 3, 4] rfl
          have hFc := va_free (wc := (aw_W h q g I A L)) hD hS hA [0, 1, 2, 3, 4, 5] rfl
          cases hg2 : f_A_waysOut I A L z1 (X 5) (X 6) with
          | none => rw [hg2] at hf; cases hf
          | some z2 =>
            obtain ⟨r2, I2, A2, L2⟩ := z2
            rw [hg2] at hf
            dsimp only [Option.bind_some] at hf
            refine va_calll (va_runV (As := [.int z1, .int (X 5), .int (X 6)]) (rest := []) ⟨hx, hb, hml, hown, hts⟩ (cm_A_waysOut l dC dI h q g _  I A L z1 (X 5) (X 6) r2 I2 A2 L2 hg2) (cwV 3 hts (gd_v lk_276 lk_277 lk_278 lk_273 lk_275) rfl rfl rfl (by decide +kernel) ⟨Nat.le_of_ble_eq_true rfl, Nat.le_of_ble_eq_true rfl⟩) ⟨fun a U g mk q => by obtain ⟨q0, q1, qP, qK, qD⟩ := q; exact ⟨q0, q1, qP, va_K.moved (u := U) (U := U.calling g mk a) (Vm.Alike.refl U.vm) qK, qD⟩, va_recv (ci := 3) (q0 := 0) hK hP rfl rfl, fun U hU hW => ⟨rfl, by rw [hU], by rw [hU]; exact hPc, va_K.moved hW.alike hKc, hDc.weaken (fun _ _ _ _ => trivial)⟩⟩ rfl rfl hl.1 rfl (lv_room (Nat.le_of_ble_eq_true rfl)) d_A_spread_94 ⟨Nat.le_of_ble_eq_true rfl, Nat.le_of_ble_eq_true rfl⟩) hS (fun q _ h => hFc q h) hFc (fun r9 u t H1 locs ht hvm hw hB hz1 hk1 hS => ?_)
            obtain ⟨hP1, hK1, hD1⟩ := hB
            rw [ht] at hP1
            rw [hw]
            obtain ⟨hP, hD⟩ := va_join (wr := (([6] : List Nat).map (fun i => ((at_W h q g tq tg tn tx I A L)).getD i (0, .inr (0, []))))) (w1 := (aw_W h q g I2 A2 L2)) hP hD [0, 1, 2, 3, 4, 5] [6] rfl rfl (by decide) (by decide) hk1 hFc hP1 hD1
            generalize H1 = H at hP hS ⊢
            have hP := hP.sub (ws' := (at_W h q g tq tg tn tx I2 A2 L2)) [1, 2, 3, 4, 5, 6, 0] rfl
            have hD := hD.sub (ws' := (at_W h q g tq tg tn tx I2 A2 L2)) [1, 2, 3, 4, 5, 6, 0] (by decide) rfl
            refine lv_lload hx hb d_A_spread_97 (lv_at hl 8 rfl) ?_
            refine lv_ldc2 (v := (-1)) hx hb hown (hts _ (List.mem_cons_of_mem _ lk_279)) d_A_spread_99 ?_
            refine lv_lxor hx hb d_A_spread_102 ?_
            refine lv_land hx hb d_A_spread_103 ?_
            refine lv_lstore (lv' := [(13, .long (r2 &&& ((Y 7) ^^^ (-1)))), (9, .long ((Y 9) &&& ((Y 9) - 1))), (12, .int z1), (0, .ref h), (1, .long (Y 1)), (3, .ref tq), (4, .int (X 4)), (5, .int (X 5)), (6, .int (X 6)), (7, .long (Y 7)), (11, .int (X 11))]) hx hb d_A_spread_104 hl (by decide) rfl (fun ls hl => ?_)
            have hl : lv_has ls 15 [(13, .long (r2 &&& ((Y 7) ^^^ (-1)))), (9, .long ((Y 9) &&& ((Y 9) - 1))), (12, .int z1), (0, .ref h), (1, .long (Y 1)), (3, .ref tq), (4, .int (X 4)), (5, .int (X 5)), (6, .int (X 6)), (7, .long (Y 7)), (11, .int (X 11))] := hl
            refine lv_lload hx hb d_A_spread_106 (lv_at hl 9 rfl) ?_
            refine lv_lload hx hb d_A_spread_108 (lv_at hl 0 rfl) ?_
            refine lv_lor hx hb d_A_spread_110 ?_
            refine lv_lstore (lv' := [(7, .long ((Y 7) ||| (r2 &&& ((Y 7) ^^^ (-1))))), (13, .long (r2 &&& ((Y 7) ^^^ (-1)))), (9, .long ((Y 9) &&& ((Y 9) - 1))), (12, .int z1), (0, .ref h), (1, .long (Y 1)), (3, .ref tq), (4, .int (X 4)), (5, .int (X 5)), (6, .int (X 6)), (11, .int (X 11))]) hx hb d_A_spread_111 hl (by decide) rfl (fun ls hl => ?_)
            have hl : lv_has ls 15 [(7, .long ((Y 7) ||| (r2 &&& ((Y 7) ^^^ (-1))))), (13, .long (r2 &&& ((Y 7) ^^^ (-1)))), (9, .long ((Y 9) &&& ((Y 9) - 1))), (12, .int z1), (0, .ref h), (1, .long (Y 1)), (3, .ref tq), (4, .int (X 4)), (5, .int (X 5)), (6, .int (X 6)), (11, .int (X 11))] := hl
            refine lv_lload hx hb d_A_spread_113 (lv_at hl 2 rfl) ?_
            refine lv_lload hx hb d_A_spread_115 (lv_at hl 1 rfl) ?_
            refine lv_lor hx hb d_A_spread_117 ?_
            refine lv_lstore (lv' := [(9, .long (((Y 9) &&& ((Y 9) - 1)) ||| (r2 &&& ((Y 7) ^^^ (-1))))), (7, .long ((Y 7) ||| (r2 &&& ((Y 7) ^^^ (-1))))), (13, .long (r2 &&& ((Y 7) ^^^ (-1)))), (12, .int z1), (0, .ref h), (1, .long (Y 1)), (3, .ref tq), (4, .int (X 4)), (5, .int (X 5)), (6, .int (X 6)), (11, .int (X 11))]) hx hb d_A_spread_118 hl (by decide) rfl (fun ls hl => ?_)
            have hl : lv_has ls 15 [(9, .long (((Y 9) &&& ((Y 9) - 1)) ||| (r2 &&& ((Y 7) ^^^ (-1))))), (7, .long ((Y 7) ||| (r2 &&& ((Y 7) ^^^ (-1))))), (13, .long (r2 &&& ((Y 7) ^^^ (-1)))), (12, .int z1), (0, .ref h), (1, .long (Y 1)), (3, .ref tq), (4, .int (X 4)), (5, .int (X 5)), (6, .int (X 6)), (11, .int (X 11))] := hl
            refine lv_iinc (k := 10) (v := ((X 11) + 1)) (lv' := [(11, .int ((X 11) + 1)), (9, .long (((Y 9) &&& ((Y 9) - 1)) ||| (r2 &&& ((Y 7) ^^^ (-1))))), (7, .long ((Y 7) ||| (r2 &&& ((Y 7) ^^^ (-1))))), (13, .long (r2 &&& ((Y 7) ^^^ (-1)))), (12, .int z1), (0, .ref h), (1, .long (Y 1)), (3, .ref tq), (4, .int (X 4)), (5, .int (X 5)), (6, .int (X 6))]) hx hb d_A_spread_120 hl rfl (wk_inc (by decide)) (by decide) rfl (fun ls hl => ?_)
            have hl : lv_has ls 15 [(11, .int ((X 11) + 1)), (9, .long (((Y 9) &&& ((Y 9) - 1)) ||| (r2 &&& ((Y 7) ^^^ (-1))))), (7, .long ((Y 7) ||| (r2 &&& ((Y 7) ^^^ (-1))))), (13, .long (r2 &&& ((Y 7) ^^^ (-1)))), (12, .int z1), (0, .ref h), (1, .long (Y 1)), (3, .ref tq), (4, .int (X 4)), (5, .int (X 5)), (6, .int (X 6))] := hl
            refine lv_goto (tgt := 55) hx hb d_A_spread_123 (by decide) ?_
            exact hrc55 I2 A2 L2 (upd X 11 ((X 11) + 1)) (vp_updL (vp_updL Y 7 ((Y 7) ||| (r2 &&& ((Y 7) ^^^ (-1))))) 9 (((Y 9) &&& ((Y 9) - 1)) ||| (r2 &&& ((Y 7) ^^^ (-1))))) _ _ _ hf (lv_sub hl [5, 6, 7, 8, 9, 10, 2, 1, 0] rfl) hP hD hS
  have key : ∀ n : Nat, (∀ (I : MI) (A : MA) (L : ML) (X : Nat → Int32) (Y : Nat → Int64) (ls : Array Slot) (H : Heap) (locs : List Loc), f_A_spread_go tn tx n 55 I A L X Y = some (r, I', A', L') → lv_has ls 15 [(0, .ref h), (1, .long (Y 1)), (3, .ref tq), (4, .int (X 4)), (5, .int (X 5)), (6, .int (X 6)), (7, .long (Y 7)), (9, .long (Y 9)), (11, .int (X 11))] → va_P (dC, dI) vwCl (at_W h q g tq tg tn tx I A L) H → va_D B9 (at_W h q g tq tg tn tx I A L) → va_S B9 s.heap H locs → W p l e (headSpec w_A_spread ({ frames := 2, cells := 0, slots := 0, locals := 43 })).room s m ([.ref h, .long k1, .ref tq, .int k4] : List Value).toArray below meth c H locs 0 0 (MQ below (va_Ql (fun (r9 : Int64) (_ : Unit) => r9 = r) (fun (_ : Unit) t => va_P (dC, dI) vwCl (at_W h q g tq tg tn tx I' A' L') t.heap ∧ va_K (dC, dI) vwCl (at_T h q g tq tg tn tx) t ∧ va_D B9 (at_W h q g tq tg tn tx I' A' L')) B9) ([.ref h, .long k1, .ref tq, .int k4] : List Value).toArray s 0 0 B9) (F0 m 55 ls [])) := by
    intro n
    induction n with
    | zero => exact fun I A L X Y ls H locs hf => (by cases hf)
    | succ n ih =>
      have ih55 := ih
      exact stp55 (f_A_spread_go tn tx n) ih55
  unfold f_A_spread f_A_spread_e at hf
  have hrc55 := key wk_FUEL
  refine lv_iload hx hb d_A_spread_0 (lv_at hl 3 rfl) ?_
  refine lv_if_eq (tgt := 16) hx hb d_A_spread_2 (by decide) (fun hc1 => ?_) (fun hc1 => ?_)
  ·
    have hf := wk_ift hc1 hf
    exact blk16 _ hrc55 I A L (upd (fun _ => 0) 4 k4) (vp_updL (fun _ => 0) 1 k1) _ _ _ hf (lv_sub hl [0, 1, 2, 3] rfl) hP hD hS
  ·
    have hf := wk_iff hc1 hf
    refine lv_aload_n hx hb d_A_spread_5 rfl (lv_at hl 2 rfl) ?_
    refine lv_iload hx hb d_A_spread_6 (lv_at hl 3 rfl) ?_
    refine lv_iconst (v := 1) hx hb d_A_spread_8 (by decide) ?_
    refine lv_isub hx hb d_A_spread_9 ?_
    obtain ⟨hc2, hf⟩ := wk_if hf
    refine va_cald hx hb hK hP 6 5 rfl rfl (wk_inb_ok hc2) d_A_spread_10 ?_
    refine lv_bipush (v := 10) hx hb d_A_spread_11 (by decide) ?_
    refine lv_icmp_ne (tgt := 20) hx hb d_A_spread_13 (by decide) (fun hc3 => ?_) (fun hc3 => ?_)
    ·
      have hf := wk_iff hc3 hf
      refine lv_iconst (v := 0) hx hb d_A_spread_20 (by decide) ?_
      exact blk21 _ hrc55 I A L (upd (fun _ => 0) 4 k4) (vp_updL (fun _ => 0) 1 k1) 0 _ _ _ hf (lv_sub hl [0, 1, 2, 3] rfl) hP hD hS
    ·
      have hf := wk_ift hc3 hf
      exact blk16 _ hrc55 I A L (upd (fun _ => 0) 4 k4) (vp_updL (fun _ => 0) 1 k1) _ _ _ hf (lv_sub hl [0, 1, 2, 3] rfl) hP hD hS

set_option maxHeartbeats 8000000 in
set_option maxRecDepth 100000 in
theorem cm_A_takes (l : Launch) (dC : Nat → ClassId) (dI : Nat → Nat → Nat) (h : Nat) (q : Nat → Nat) (g : Nat → ClassId) (sz : Nat) (I : MI) (A : MA) (L : ML) (k1 : Int32) (k2 : Int32) (r : Int32) (I' : MI) (A' : MA) (L' : ML) (hf : f_A_takes I A L  k1 k2 = some (r, I', A', L')) : Met l y_A_takes w_A_takes ({ frames := 0, cells := 0, slots := 0, locals := 0 }) (va_Pc [.ref h, .int k1, .int k2] (fun U => U.heap.size = sz ∧ va_P (dC, dI) vwCl (aw_W h q g I A L) U.heap ∧ va_K (dC, dI) vwCl (aw_T h q g) U ∧ va_D (fun _ => True) (aw_W h q g I A L))) (va_Qi (fun (r9 : Int32) (_ : Unit) => r9 = r) (fun (_ : Unit) t => va_P (dC, dI) vwCl (aw_W h q g I' A' L') t.heap ∧ va_K (dC, dI) vwCl (aw_T h q g) t ∧ va_D (va_A (aw_W h q g I A L) sz) (aw_W h q g I' A' L')) (va_A (aw_W h q g I A L) sz)) 0 0 (va_A (aw_W h q g I A L) sz) := by
  refine Met.ofW (cc := prog_2_method_8_code) (maxL := 5) (ret := (some .boolean)) (by decide) rfl ?_
  intro p e s m args below meth c s₁ B hml hv
  obtain ⟨rfl, hsz, hP, hK, hD0⟩ := hv
  have hx := B.exec
  have hb := B.bytes
  have hr := B.returns
  have hts := atoms_spec (ws := w_A_takes) B.pre
  have hown : s.vm.findClass "DraftTree$Automaton" = some m.cls := findClass_of_methodNamed B.named
  have hlocks := B.notSynchronized
  subst hsz
  have hD := hD0.self (sz := s.heap.size)
  generalize hAe : va_A (aw_W h q g I A L) s.heap.size = B9 at hD ⊢
  have hA : ∀ q : Nat, s.heap.size ≤ q → B9 q := fun q h => by rw [← hAe]; exact Or.inr h
  clear hAe
  have hS : va_S B9 s.heap s.heap [] := va_S.rf
  have hl := lv_entry ([.ref h, .int k1, .int k2]) (n := 5) (Nat.le_of_ble_eq_true rfl)
  rw [lg_entry_eq]
  generalize (lg_sl ([.ref h, .int k1, .int k2]) ++ List.replicate (5 - (lg_sl ([.ref h, .int k1, .int k2])).length) Slot.unset).toArray = ls at hl ⊢
  have hl : lv_has ls 5 [(0, .ref h), (1, .int k1), (2, .int k2)] := hl
  have blk40 : ∀ (I : MI) (A : MA) (L : ML) (X : Nat → Int32) (Y : Nat → Int64) (s0 : Int32) (ls : Array Slot) (H : Heap) (locs : List Loc), f_A_takes_40 I A L X Y s0 = some (r, I', A', L') → lv_has ls 5 [(0, .ref h), (1, .int (X 1)), (2, .int (X 2)), (3, .long (Y 3))] → va_P (dC, dI) vwCl (aw_W h q g I A L) H → va_D B9 (aw_W h q g I A L) → va_S B9 s.heap H locs → W p l e (headSpec w_A_takes ({ frames := 0, cells := 0, slots := 0, locals := 0 })).room s m ([.ref h, .int k1, .int k2] : List Value).toArray below meth c H locs 0 0 (MQ below (va_Qi (fun (r9 : Int32) (_ : Unit) => r9 = r) (fun (_ : Unit) t => va_P (dC, dI) vwCl (aw_W h q g I' A' L') t.heap ∧ va_K (dC, dI) vwCl (aw_T h q g) t ∧ va_D B9 (aw_W h q g I' A' L')) B9) ([.ref h, .int k1, .int k2] : List Value).toArray s 0 0 B9) (F0 m 40 ls [.int s0]) := by
    intro I A L X Y s0 ls H locs hf hl hP hD hS
    unfold f_A_takes_40 at hf
    obtain ⟨hn9, hf⟩ := wk_if hf
    obtain ⟨e0, e1, e2, e3⟩ := wk_inj3 hf
    subst e0
    subst e1
    subst e2
    subst e3
    exact W.zret (v := s0) hx hb hr (congrArg Value.int hn9) (fun t ht hW => ⟨⟨s0, (), rfl, rfl, by rw [ht]; exact hP, va_K.moved hW.alike hK, hD⟩, hS.F ht⟩) hS.2.2 d_A_takes_40
  have blk21 : ∀ (I : MI) (A : MA) (L : ML) (X : Nat → Int32) (Y : Nat → Int64) (s0 : Int64) (ls : Array Slot) (H : Heap) (locs : List Loc), f_A_takes_21 I A L X Y s0 = some (r, I', A', L') → lv_has ls 5 [(0, .ref h), (1, .int (X 1)), (2, .int (X 2))] → va_P (dC, dI) vwCl (aw_W h q g I A L) H → va_D B9 (aw_W h q g I A L) → va_S B9 s.heap H locs → W p l e (headSpec w_A_takes ({ frames := 0, cells := 0, slots := 0, locals := 0 })).room s m ([.ref h, .int k1, .int k2] : List Value).toArray below meth c H locs 0 0 (MQ below (va_Qi (fun (r9 : Int32) (_ : Unit) => r9 = r) (fun (_ : Unit) t => va_P (dC, dI) vwCl (aw_W h q g I' A' L') t.heap ∧ va_K (dC, dI) vwCl (aw_T h q g) t ∧ va_D B9 (aw_W h q g I' A' L')) B9) ([.ref h, .int k1, .int k2] : List Value).toArray s 0 0 B9) (F0 m 21 ls [.long s0]) := by
    intro I A L X Y s0 ls H locs hf hl hP hD hS
    unfold f_A_takes_21 at hf
    refine lv_lstore_n (lv' := [(3, .long s0), (0, .ref h), (1, .int (X 1)), (2, .int (X 2))]) hx hb d_A_takes_21 rfl hl (by decide) rfl (fun ls hl => ?_)
    have hl : lv_has ls 5 [(3, .long s0), (0, .ref h), (1, .int (X 1)), (2, .int (X 2))] := hl
    refine lv_lload_n hx hb d_A_takes_22 rfl (lv_at hl 0 rfl) ?_
    refine lv_iload_n hx hb d_A_takes_23 rfl (lv_at hl 3 rfl) ?_
    refine lv_bipush (v := 63) hx hb d_A_takes_24 (by decide) ?_
    refine lv_iand hx hb d_A_takes_26 ?_
    refine lv_lushr hx hb d_A_takes_27 rfl ?_
    refine lv_lconst (v := 1) hx hb d_A_takes_28 (by decide) ?_
    refine lv_land hx hb d_A_takes_29 ?_
    refine lv_lconst (v := 0) hx hb d_A_takes_30 (by decide) ?_
    refine W.lcmp hx hb d_A_takes_31 ?_
    refine lv_if_eq (tgt := 39) hx hb d_A_takes_32 (by decide) (fun hc1 => ?_) (fun hc1 => ?_)
    ·
      have hf := wk_ift hc1 hf
      refine lv_iconst (v := 0) hx hb d_A_takes_39 (by decide) ?_
      exact blk40 I A L X (vp_updL Y 3 s0) 0 _ _ _ hf (lv_sub hl [1, 2, 3, 0] rfl) hP hD hS
    ·
      have hf := wk_iff hc1 hf
      refine lv_iconst (v := 1) hx hb d_A_takes_35 (by decide) ?_
      refine lv_goto (tgt := 40) hx hb d_A_takes_36 (by decide) ?_
      exact blk40 I A L X (vp_updL Y 3 s0) 1 _ _ _ hf (lv_sub hl [1, 2, 3, 0] rfl) hP hD hS
  unfold f_A_takes at hf
  refine lv_iload_n hx hb d_A_takes_0 rfl (lv_at hl 2 rfl) ?_
  refine lv_bipush (v := 64) hx hb d_A_takes_1 (by decide) ?_
  refine lv_icmp_ge (tgt := 15) hx hb d_A_takes_3 (by decide) (fun hc1 => ?_) (fun hc1 => ?_)
  ·
    have hf := wk_ift hc1 hf
    refine lv_aload_n hx hb d_A_takes_15 rfl (lv_at hl 0 rfl) ?_
    refine va_get (D := (dC, dI)) (ci := 3) (v := .ref (q 4)) (C := R_A) (T := F_A) (N := 10) hx hb hts (fun w h => List.mem_cons_of_mem _ (in_A w h)) hown hK hP 0 rfl rfl 4 (by decide) (hts _ (List.mem_cons_of_mem _ lk_284)) (fun _ h9 => h9) rfl d_A_takes_16 ?_
    refine lv_iload_n hx hb d_A_takes_19 rfl (lv_at hl 1 rfl) ?_
    obtain ⟨hc2, hf⟩ := wk_if hf
    refine va_lald hx hb hK hP 5 4 rfl rfl (wk_inb_ok hc2) d_A_takes_20 ?_
    exact blk21 I A L (upd (upd (fun _ => 0) 1 k1) 2 k2) (fun _ => 0) (L 4 (k1).toNatClampNeg) _ _ _ hf (lv_sub hl [0, 1, 2] rfl) hP hD hS
  ·
    have hf := wk_iff hc1 hf
    refine lv_aload_n hx hb d_A_takes_6 rfl (lv_at hl 0 rfl) ?_
    refine va_get (D := (dC, dI)) (ci := 3) (v := .ref (q 3)) (C := R_A) (T := F_A) (N := 10) hx hb hts (fun w h => List.mem_cons_of_mem _ (in_A w h)) hown hK hP 0 rfl rfl 3 (by decide) (hts _ (List.mem_cons_of_mem _ lk_285)) (fun _ h9 => h9) rfl d_A_takes_7 ?_
    refine lv_iload_n hx hb d_A_takes_10 rfl (lv_at hl 1 rfl) ?_
    obtain ⟨hc2, hf⟩ := wk_if hf
    refine va_lald hx hb hK hP 4 3 rfl rfl (wk_inb_ok hc2) d_A_takes_11 ?_
    refine lv_goto (tgt := 21) hx hb d_A_takes_12 (by decide) ?_
    exact blk21 I A L (upd (upd (fun _ => 0) 1 k1) 2 k2) (fun _ => 0) (L 3 (k1).toNatClampNeg) _ _ _ hf (lv_sub hl [0, 1, 2] rfl) hP hD hS

set_option maxHeartbeats 8000000 in
set_option maxRecDepth 100000 in
theorem cm_A_consume (l : Launch) (dC : Nat → ClassId) (dI : Nat → Nat → Nat) (h : Nat) (q : Nat → Nat) (g : Nat → ClassId) (sz : Nat) (I : MI) (A : MA) (L : ML) (k1 : Int64) (k3 : Int32) (r : Int64) (I' : MI) (A' : MA) (L' : ML) (hf : f_A_consume I A L  k1 k3 = some (r, I', A', L')) : Met l y_A_consume w_A_consume ({ frames := 2, cells := 0, slots := 0, locals := 43 }) (va_Pc [.ref h, .long k1, .int k3] (fun U => U.heap.size = sz ∧ va_P (dC, dI) vwCl (aw_W h q g I A L) U.heap ∧ va_K (dC, dI) vwCl (aw_T h q g) U ∧ va_D (fun _ => True) (aw_W h q g I A L))) (va_Ql (fun (r9 : Int64) (_ : Unit) => r9 = r) (fun (_ : Unit) t => va_P (dC, dI) vwCl (aw_W h q g I' A' L') t.heap ∧ va_K (dC, dI) vwCl (aw_T h q g) t ∧ va_D (va_A (aw_W h q g I A L) sz) (aw_W h q g I' A' L')) (va_A (aw_W h q g I A L) sz)) 0 0 (va_A (aw_W h q g I A L) sz) := by
  refine Met.ofW (cc := prog_2_method_7_code) (maxL := 10) (ret := (some .long)) (by decide) rfl ?_
  intro p e s m args below meth c s₁ B hml hv
  obtain ⟨rfl, hsz, hP, hK, hD0⟩ := hv
  have hx := B.exec
  have hb := B.bytes
  have hr := B.returns
  have hts := atoms_spec (ws := w_A_consume) B.pre
  have hown : s.vm.findClass "DraftTree$Automaton" = some m.cls := findClass_of_methodNamed B.named
  have hlocks := B.notSynchronized
  subst hsz
  have hD := hD0.self (sz := s.heap.size)
  generalize hAe : va_A (aw_W h q g I A L) s.heap.size = B9 at hD ⊢
  have hA : ∀ q : Nat, s.heap.size ≤ q → B9 q := fun q h => by rw [← hAe]; exact Or.inr h
  clear hAe
  have hS : va_S B9 s.heap s.heap [] := va_S.rf
  have hl := lv_entry ([.ref h, .long k1, .int k3]) (n := 10) (Nat.le_of_ble_eq_true rfl)
  rw [lg_entry_eq]
  generalize (lg_sl ([.ref h, .long k1, .int k3]) ++ List.replicate (10 - (lg_sl ([.ref h, .long k1, .int k3])).length) Slot.unset).toArray = ls at hl ⊢
  have hl : lv_has ls 10 [(0, .ref h), (1, .long k1), (3, .int k3)] := hl
  have blk83 : ∀ (rc : Nat → MI → MA → ML → (Nat → Int32) → (Nat → Int64) → Option (Int64 × MI × MA × ML)) (hrc9 : ∀ (I : MI) (A : MA) (L : ML) (X : Nat → Int32) (Y : Nat → Int64) (ls : Array Slot) (H : Heap) (locs : List Loc), rc 9 I A L X Y = some (r, I', A', L') → lv_has ls 10 [(0, .ref h), (1, .long (Y 1)), (3, .int (X 3)), (4, .long (Y 4)), (6, .long (Y 6)), (8, .int (X 8))] → va_P (dC, dI) vwCl (aw_W h q g I A L) H → va_D B9 (aw_W h q g I A L) → va_S B9 s.heap H locs → W p l e (headSpec w_A_consume ({ frames := 2, cells := 0, slots := 0, locals := 43 })).room s m ([.ref h, .long k1, .int k3] : List Value).toArray below meth c H locs 0 0 (MQ below (va_Ql (fun (r9 : Int64) (_ : Unit) => r9 = r) (fun (_ : Unit) t => va_P (dC, dI) vwCl (aw_W h q g I' A' L') t.heap ∧ va_K (dC, dI) vwCl (aw_T h q g) t ∧ va_D B9 (aw_W h q g I' A' L')) B9) ([.ref h, .long k1, .int k3] : List Value).toArray s 0 0 B9) (F0 m 9 ls [])), ∀ (I : MI) (A : MA) (L : ML) (X : Nat → Int32) (Y : Nat → Int64) (ls : Array Slot) (H : Heap) (locs : List Loc), f_A_consume_83 rc I A L X Y = some (r, I', A', L') → lv_has ls 10 [(0, .ref h), (1, .long (Y 1)), (3, .int (X 3)), (4, .long (Y 4)), (6, .long (Y 6)), (8, .int (X 8))] → va_P (dC, dI) vwCl (aw_W h q g I A L) H → va_D B9 (aw_W h q g I A L) → va_S B9 s.heap H locs → W p l e (headSpec w_A_consume ({ frames := 2, cells := 0, slots := 0, locals := 43 })).room s m ([.ref h, .long k1, .int k3] : List Value).toArray below meth c H locs 0 0 (MQ below (va_Ql (fun (r9 : Int64) (_ : Unit) => r9 = r) (fun (_ : Unit) t => va_P (dC, dI) vwCl (aw_W h q g I' A' L') t.heap ∧ va_K (dC, dI) vwCl (aw_T h q g) t ∧ va_D B9 (aw_W h q g I' A' L')) B9) ([.ref h, .long k1, .int k3] : List Value).toArray s 0 0 B9) (F0 m 83 ls []) := by
    intro rc hrc9 I A L X Y ls H locs hf hl hP hD hS
    unfold f_A_consume_83 at hf
    refine lv_lload hx hb d_A_consume_83 (lv_at hl 3 rfl) ?_
    obtain ⟨e0, e1, e2, e3⟩ := wk_inj3 hf
    subst e0
    subst e1
    subst e2
    subst e3
    exact W.lret (v := (Y 4)) hx hb hr (fun t ht hW => ⟨⟨(Y 4), (), rfl, rfl, by rw [ht]; exact hP, va_K.moved hW.alike hK, hD⟩, hS.F ht⟩) hS.2.2 d_A_consume_85
  have blk77 : ∀ (rc : Nat → MI → MA → ML → (Nat → Int32) → (Nat → Int64) → Option (Int64 × MI × MA × ML)) (hrc9 : ∀ (I : MI) (A : MA) (L : ML) (X : Nat → Int32) (Y : Nat → Int64) (ls : Array Slot) (H : Heap) (locs : List Loc), rc 9 I A L X Y = some (r, I', A', L') → lv_has ls 10 [(0, .ref h), (1, .long (Y 1)), (3, .int (X 3)), (4, .long (Y 4)), (6, .long (Y 6)), (8, .int (X 8))] → va_P (dC, dI) vwCl (aw_W h q g I A L) H → va_D B9 (aw_W h q g I A L) → va_S B9 s.heap H locs → W p l e (headSpec w_A_consume ({ frames := 2, cells := 0, slots := 0, locals := 43 })).room s m ([.ref h, .long k1, .int k3] : List Value).toArray below meth c H locs 0 0 (MQ below (va_Ql (fun (r9 : Int64) (_ : Unit) => r9 = r) (fun (_ : Unit) t => va_P (dC, dI) vwCl (aw_W h q g I' A' L') t.heap ∧ va_K (dC, dI) vwCl (aw_T h q g) t ∧ va_D B9 (aw_W h q g I' A' L')) B9) ([.ref h, .long k1, .int k3] : List Value).toArray s 0 0 B9) (F0 m 9 ls [])), ∀ (I : MI) (A : MA) (L : ML) (X : Nat → Int32) (Y : Nat → Int64) (ls : Array Slot) (H : Heap) (locs : List Loc), f_A_consume_77 rc I A L X Y = some (r, I', A', L') → lv_has ls 10 [(0, .ref h), (1, .long (Y 1)), (3, .int (X 3)), (4, .long (Y 4)), (6, .long (Y 6)), (8, .int (X 8)), (9, .int (X 9))] → va_P (dC, dI) vwCl (aw_W h q g I A L) H → va_D B9 (aw_W h q g I A L) → va_S B9 s.heap H locs → W p l e (headSpec w_A_consume ({ frames := 2, cells := 0, slots := 0, locals := 43 })).room s m ([.ref h, .long k1, .int k3] : List Value).toArray below meth c H locs 0 0 (MQ below (va_Ql (fun (r9 : Int64) (_ : Unit) => r9 = r) (fun (_ : Unit) t => va_P (dC, dI) vwCl (aw_W h q g I' A' L') t.heap ∧ va_K (dC, dI) vwCl (aw_T h q g) t ∧ va_D B9 (aw_W h q g I' A' L')) B9) ([.ref h, .long k1, .int k3] : List Value).toArray s 0 0 B9) (F0 m 77 ls []) := by
    intro rc hrc9 I A L X Y ls H locs hf hl hP hD hS
    unfold f_A_consume_77 at hf
    refine lv_iinc (k := 5) (v := ((X 8) + 1)) (lv' := [(8, .int ((X 8) + 1)), (0, .ref h), (1, .long (Y 1)), (3, .int (X 3)), (4, .long (Y 4)), (6, .long (Y 6)), (9, .int (X 9))]) hx hb d_A_consume_77 hl rfl (wk_inc (by decide)) (by decide) rfl (fun ls hl => ?_)
    have hl : lv_has ls 10 [(8, .int ((X 8) + 1)), (0, .ref h), (1, .long (Y 1)), (3, .int (X 3)), (4, .long (Y 4)), (6, .long (Y 6)), (9, .int (X 9))] := hl
    refine lv_goto (tgt := 9) hx hb d_A_consume_80 (by decide) ?_
    exact hrc9 I A L (upd X 8 ((X 8) + 1)) Y _ _ _ hf (lv_sub hl [1, 2, 3, 4, 5, 0] rfl) hP hD hS
  have stp9 : ∀ (rc : Nat → MI → MA → ML → (Nat → Int32) → (Nat → Int64) → Option (Int64 × MI × MA × ML)) (hrc9 : ∀ (I : MI) (A : MA) (L : ML) (X : Nat → Int32) (Y : Nat → Int64) (ls : Array Slot) (H : Heap) (locs : List Loc), rc 9 I A L X Y = some (r, I', A', L') → lv_has ls 10 [(0, .ref h), (1, .long (Y 1)), (3, .int (X 3)), (4, .long (Y 4)), (6, .long (Y 6)), (8, .int (X 8))] → va_P (dC, dI) vwCl (aw_W h q g I A L) H → va_D B9 (aw_W h q g I A L) → va_S B9 s.heap H locs → W p l e (headSpec w_A_consume ({ frames := 2, cells := 0, slots := 0, locals := 43 })).room s m ([.ref h, .long k1, .int k3] : List Value).toArray below meth c H locs 0 0 (MQ below (va_Ql (fun (r9 : Int64) (_ : Unit) => r9 = r) (fun (_ : Unit) t => va_P (dC, dI) vwCl (aw_W h q g I' A' L') t.heap ∧ va_K (dC, dI) vwCl (aw_T h q g) t ∧ va_D B9 (aw_W h q g I' A' L')) B9) ([.ref h, .long k1, .int k3] : List Value).toArray s 0 0 B9) (F0 m 9 ls [])), ∀ (I : MI) (A : MA) (L : ML) (X : Nat → Int32) (Y : Nat → Int64) (ls : Array Slot) (H : Heap) (locs : List Loc), f_A_consume_9 rc I A L X Y = some (r, I', A', L') → lv_has ls 10 [(0, .ref h), (1, .long (Y 1)), (3, .int (X 3)), (4, .long (Y 4)), (6, .long (Y 6)), (8, .int (X 8))] → va_P (dC, dI) vwCl (aw_W h q g I A L) H → va_D B9 (aw_W h q g I A L) → va_S B9 s.heap H locs → W p l e (headSpec w_A_consume ({ frames := 2, cells := 0, slots := 0, locals := 43 })).room s m ([.ref h, .long k1, .int k3] : List Value).toArray below meth c H locs 0 0 (MQ below (va_Ql (fun (r9 : Int64) (_ : Unit) => r9 = r) (fun (_ : Unit) t => va_P (dC, dI) vwCl (aw_W h q g I' A' L') t.heap ∧ va_K (dC, dI) vwCl (aw_T h q g) t ∧ va_D B9 (aw_W h q g I' A' L')) B9) ([.ref h, .long k1, .int k3] : List Value).toArray s 0 0 B9) (F0 m 9 ls []) := by
    intro rc hrc9 I A L X Y ls H locs hf hl hP hD hS
    unfold f_A_consume_9 at hf
    refine lv_iload hx hb d_A_consume_9 (lv_at hl 5 rfl) ?_
    refine lv_aload_n hx hb d_A_consume_11 rfl (lv_at hl 0 rfl) ?_
    refine va_get (D := (dC, dI)) (ci := 3) (v := .int (I 5)) (C := R_A) (T := F_A) (N := 10) hx hb hts (fun w h => List.mem_cons_of_mem _ (in_A w h)) hown hK hP 0 rfl rfl 5 (by decide) (hts _ (List.mem_cons_of_mem _ lk_258)) (fun _ h9 => h9) rfl d_A_consume_12 ?_
    refine lv_icmp_ge (tgt := 83) hx hb d_A_consume_15 (by decide) (fun hc1 => ?_) (fun hc1 => ?_)
    ·
      have hf := wk_ift hc1 hf
      exact blk83 rc hrc9 I A L X Y _ _ _ hf (lv_sub hl [0, 1, 2, 3, 4, 5] rfl) hP hD hS
    ·
      have hf := wk_iff hc1 hf
      refine lv_lload hx hb d_A_consume_18 (lv_at hl 4 rfl) ?_
      refine lv_lconst (v := 0) hx hb d_A_consume_20 (by decide) ?_
      refine W.lcmp hx hb d_A_consume_21 ?_
      refine lv_if_eq (tgt := 83) hx hb d_A_consume_22 (by decide) (fun hc2 => ?_) (fun hc2 => ?_)
      ·
        have hf := wk_ift hc2 hf
        exact blk83 rc hrc9 I A L X Y _ _ _ hf (lv_sub hl [0, 1, 2, 3, 4, 5] rfl) hP hD hS
      ·
        have hf := wk_iff hc2 hf
        refine lv_lload hx hb d_A_consume_25 (lv_at hl 4 rfl) ?_
        have hPc := hP.sub (ws' := []) [] rfl
        have hDc := hD.sub (ws' := []) [] (by decide) rfl
        have hKc := hK.sub (tys' := []) [] rfl
        have hFc := va_free (wc := []) hD hS hA [] rfl
        cases hg1 : f_Jl_numberOfTrailingZeros (Y 6) with
        | none => rw [hg1] at hf; cases hf
        | some z1 =>
          rw [hg1] at hf
          dsimp only [Option.bind_some] at hf
          refine va_calli (va_runS (As := [.long (Y 6)]) (rest := []) ⟨hx, hb, hml, hown, hts⟩ (cm_Jl_numberOfTrailingZeros l dC dI  _  (Y 6) z1  hg1) (va_cwS 1 hts (gd_t lk_265 lk_266 lk_267 lk_264) rfl rfl rfl (by decide +kernel) ⟨Nat.le_of_ble_eq_true rfl, Nat.le_of_ble_eq_true rfl⟩) ⟨fun a U g mk q => by obtain ⟨q0, q1, qP, qK, qD⟩ := q; exact ⟨q0, q1, qP, va_K.moved (u := U) (U := U.calling g mk a) (Vm.Alike.refl U.vm) qK, qD⟩, fun U hU hW => ⟨rfl, by rw [hU], by rw [hU]; exact hPc, va_K.moved hW.alike hKc, hDc.weaken (fun _ _ _ _ => trivial)⟩⟩ rfl rfl hl.1 rfl (lv_room (Nat.le_of_ble_eq_true rfl)) d_A_consume_27 ⟨Nat.le_of_ble_eq_true rfl, Nat.le_of_ble_eq_true rfl⟩) hS (fun q _ h => hFc q h) hFc (fun r9 u t H1 locs ht hvm hw hB hz1 hk1 hS => ?_)
          obtain ⟨hP1, hK1, hD1⟩ := hB
          rw [ht] at hP1
          rw [hw]
          obtain ⟨hP, hD⟩ := va_join (wr := (([0, 1, 2, 3, 4, 5] : List Nat).map (fun i => ((aw_W h q g I A L)).getD i (0, .inr (0, []))))) (w1 := []) hP hD [] [0, 1, 2, 3, 4, 5] rfl rfl (by decide) (by decide) hk1 hFc hP1 hD1
          generalize H1 = H at hP hS ⊢
          have hP := hP.sub (ws' := (aw_W h q g I A L)) [0, 1, 2, 3, 4, 5] rfl
          have hD := hD.sub (ws' := (aw_W h q g I A L)) [0, 1, 2, 3, 4, 5] (by decide) rfl
          refine lv_istore (lv' := [(9, .int z1), (0, .ref h), (1, .long (Y 1)), (3, .int (X 3)), (4, .long (Y 4)), (6, .long (Y 6)), (8, .int (X 8))]) hx hb d_A_consume_30 hl (by decide) rfl (fun ls hl => ?_)
          have hl : lv_has ls 10 [(9, .int z1), (0, .ref h), (1, .long (Y 1)), (3, .int (X 3)), (4, .long (Y 4)), (6, .long (Y 6)), (8, .int (X 8))] := hl
          refine lv_lload hx hb d_A_consume_32 (lv_at hl 5 rfl) ?_
          refine lv_lload hx hb d_A_consume_34 (lv_at hl 5 rfl) ?_
          refine lv_lconst (v := 1) hx hb d_A_consume_36 (by decide) ?_
          refine lv_lsub hx hb d_A_consume_37 ?_
          refine lv_land hx hb d_A_consume_38 ?_
          refine lv_lstore (lv' := [(6, .long ((Y 6) &&& ((Y 6) - 1))), (9, .int z1), (0, .ref h), (1, .long (Y 1)), (3, .int (X 3)), (4, .long (Y 4)), (8, .int (X 8))]) hx hb d_A_consume_39 hl (by decide) rfl (fun ls hl => ?_)
          have hl : lv_has ls 10 [(6, .long ((Y 6) &&& ((Y 6) - 1))), (9, .int z1), (0, .ref h), (1, .long (Y 1)), (3, .int (X 3)), (4, .long (Y 4)), (8, .int (X 8))] := hl
          refine lv_aload_n hx hb d_A_consume_41 rfl (lv_at hl 2 rfl) ?_
          refine va_get (D := (dC, dI)) (ci := 3) (v := .ref (q 0)) (C := R_A) (T := F_A) (N := 10) hx hb hts (fun w h => List.mem_cons_of_mem _ (in_A w h)) hown hK hP 0 rfl rfl 0 (by decide) (hts _ (List.mem_cons_of_mem _ lk_268)) (fun _ h9 => h9) rfl d_A_consume_42 ?_
          refine lv_iload hx hb d_A_consume_45 (lv_at hl 1 rfl) ?_
          obtain ⟨hc3, hf⟩ := wk_if hf
          refine va_iald hx hb hK hP 1 0 rfl rfl (wk_inb_ok hc3) d_A_consume_47 ?_
          refine lv_iconst (v := 1) hx hb d_A_consume_48 (by decide) ?_
          refine lv_icmp_ne (tgt := 77) hx hb d_A_consume_49 (by decide) (fun hc4 => ?_) (fun hc4 => ?_)
          ·
            have hf := wk_iff hc4 hf
            exact blk77 rc hrc9 I A L (upd X 9 z1) (vp_updL Y 6 ((Y 6) &&& ((Y 6) - 1))) _ _ _ hf (lv_sub hl [2, 3, 4, 5, 0, 6, 1] rfl) hP hD hS
          ·
            have hf := wk_ift hc4 hf
            refine lv_aload_n hx hb d_A_consume_52 rfl (lv_at hl 2 rfl) ?_
            refine lv_iload hx hb d_A_consume_53 (lv_at hl 1 rfl) ?_
            refine lv_iload_n hx hb d_A_consume_55 rfl (lv_at hl 4 rfl) ?_
            have hPc := hP.sub (ws' := (aw_W h q g I A L)) [0, 1, 2, 3, 4, 5] rfl
            have hDc := hD.sub (ws' := (aw_W h q g I A L)) [0, 1, 2, 3, 4, 5] (by decide) rfl
            have hKc := hK.sub (tys' := (aw_T h q g)) [0, 1, 2, 3, 4] rfl
            have hFc := va_free (wc := (aw_W h q g I A L)) hD hS hA [0, 1, 2, 3, 4, 5] rfl
            cases hg2 : f_A_takes I A L z1 (X 3) with
            | none => rw [hg2] at hf; cases hf
            | some z2 =>
              obtain ⟨r2, I2, A2, L2⟩ := z2
              rw [hg2] at hf
              dsimp only [Option.bind_some] at hf
              refine va_calli (va_runV (As := [.int z1, .int (X 3)]) (rest := []) ⟨hx, hb, hml, hown, hts⟩ (cm_A_takes l dC dI h q g _  I A L z1 (X 3) r2 I2 A2 L2 hg2) (cwV 2 hts (gd_v lk_287 lk_288 lk_289 lk_273 lk_286) rfl rfl rfl (by decide +kernel) ⟨Nat.le_of_ble_eq_true rfl, Nat.le_of_ble_eq_true rfl⟩) ⟨fun a U g mk q => by obtain ⟨q0, q1, qP, qK, qD⟩ := q; exact ⟨q0, q1, qP, va_K.moved (u := U) (U := U.calling g mk a) (Vm.Alike.refl U.vm) qK, qD⟩, va_recv (ci := 3) (q0 := 0) hK hP rfl rfl, fun U hU hW => ⟨rfl, by rw [hU], by rw [hU]; exact hPc, va_K.moved hW.alike hKc, hDc.weaken (fun _ _ _ _ => trivial)⟩⟩ rfl rfl hl.1 rfl (lv_room (Nat.le_of_ble_eq_true rfl)) d_A_consume_56 ⟨Nat.le_of_ble_eq_true rfl, Nat.le_of_ble_eq_true rfl⟩) hS (fun q _ h => hFc q h) hFc (fun r9 u t H1 locs ht hvm hw hB hz1 hk1 hS => ?_)
              obtain ⟨hP1, hK1, hD1⟩ := hB
              rw [ht] at hP1
              rw [hw]
              obtain ⟨hP, hD⟩ := va_join (wr := (([] : List Nat).map (fun i => ((aw_W h q g I A L)).getD i (0, .inr (0, []))))) (w1 := (aw_W h q g I2 A2 L2)) hP hD [0, 1, 2, 3, 4, 5] [] rfl rfl (by decide) (by decide) hk1 hFc hP1 hD1
              generalize H1 = H at hP hS ⊢
              have hP := hP.sub (ws' := (aw_W h q g I2 A2 L2)) [0, 1, 2, 3, 4, 5] rfl
              have hD := hD.sub (ws' := (aw_W h q g I2 A2 L2)) [0, 1, 2, 3, 4, 5] (by decide) rfl
              refine lv_if_eq (tgt := 77) hx hb d_A_consume_59 (by decide) (fun hc5 => ?_) (fun hc5 => ?_)
              ·
                have hf := wk_ift hc5 hf
                exact blk77 rc hrc9 I2 A2 L2 (upd X 9 z1) (vp_updL Y 6 ((Y 6) &&& ((Y 6) - 1))) _ _ _ hf (lv_sub hl [2, 3, 4, 5, 0, 6, 1] rfl) hP hD hS
              ·
                have hf := wk_iff hc5 hf
                refine lv_lload hx hb d_A_consume_62 (lv_at hl 5 rfl) ?_
                refine lv_aload_n hx hb d_A_consume_64 rfl (lv_at hl 2 rfl) ?_
                refine va_get (D := (dC, dI)) (ci := 3) (v := .ref (q 1)) (C := R_A) (T := F_A) (N := 10) hx hb hts (fun w h => List.mem_cons_of_mem _ (in_A w h)) hown hK hP 0 rfl rfl 1 (by decide) (hts _ (List.mem_cons_of_mem _ lk_269)) (fun _ h9 => h9) rfl d_A_consume_65 ?_
                refine lv_iload hx hb d_A_consume_68 (lv_at hl 1 rfl) ?_
                obtain ⟨hc6, hf⟩ := wk_if hf
                refine va_iald hx hb hK hP 2 1 rfl rfl (wk_inb_ok hc6) d_A_consume_70 ?_
                have hPc := hP.sub (ws' := []) [] rfl
                have hDc := hD.sub (ws' := []) [] (by decide) rfl
                have hKc := hK.sub (tys' := []) [] rfl
                have hFc := va_free (wc := []) hD hS hA [] rfl
                cases hg3 : f_A_asSet (A2 1 (z1).toNatClampNeg) with
                | none => rw [hg3] at hf; cases hf
                | some z3 =>
                  rw [hg3] at hf
                  dsimp only [Option.bind_some] at hf
                  refine va_calll (va_runS (As := [.int (A2 1 (z1).toNatClampNeg)]) (rest := [.long (Y 4)]) ⟨hx, hb, hml, hown, hts⟩ (cm_A_asSet l dC dI  _  (A2 1 (z1).toNatClampNeg) z3  hg3) (va_cwS 1 hts (gd_t lk_271 lk_272 lk_273 lk_270) rfl rfl rfl (by decide +kernel) ⟨Nat.le_of_ble_eq_true rfl, Nat.le_of_ble_eq_true rfl⟩) ⟨fun a U g mk q => by obtain ⟨q0, q1, qP, qK, qD⟩ := q; exact ⟨q0, q1, qP, va_K.moved (u := U) (U := U.calling g mk a) (Vm.Alike.refl U.vm) qK, qD⟩, fun U hU hW => ⟨rfl, by rw [hU], by rw [hU]; exact hPc, va_K.moved hW.alike hKc, hDc.weaken (fun _ _ _ _ => trivial)⟩⟩ rfl rfl hl.1 rfl (lv_room (Nat.le_of_ble_eq_true rfl)) d_A_consume_71 ⟨Nat.le_of_ble_eq_true rfl, Nat.le_of_ble_eq_true rfl⟩) hS (fun q _ h => hFc q h) hFc (fun r9 u t H1 locs ht hvm hw hB hz1 hk1 hS => ?_)
                  obtain ⟨hP1, hK1, hD1⟩ := hB
                  rw [ht] at hP1
                  rw [hw]
                  obtain ⟨hP, hD⟩ := va_join (wr := (([0, 1, 2, 3, 4, 5] : List Nat).map (fun i => ((aw_W h q g I2 A2 L2)).getD i (0, .inr (0, []))))) (w1 := []) hP hD [] [0, 1, 2, 3, 4, 5] rfl rfl (by decide) (by decide) hk1 hFc hP1 hD1
                  generalize H1 = H at hP hS ⊢
                  have hP := hP.sub (ws' := (aw_W h q g I2 A2 L2)) [0, 1, 2, 3, 4, 5] rfl
                  have hD := hD.sub (ws' := (aw_W h q g I2 A2 L2)) [0, 1, 2, 3, 4, 5] (by decide) rfl
                  refine lv_lor hx hb d_A_consume_74 ?_
                  refine lv_lstore (lv' := [(4, .long ((Y 4) ||| z3)), (6, .long ((Y 6) &&& ((Y 6) - 1))), (9, .int z1), (0, .ref h), (1, .long (Y 1)), (3, .int (X 3)), (8, .int (X 8))]) hx hb d_A_consume_75 hl (by decide) rfl (fun ls hl => ?_)
                  have hl : lv_has ls 10 [(4, .long ((Y 4) ||| z3)), (6, .long ((Y 6) &&& ((Y 6) - 1))), (9, .int z1), (0, .ref h), (1, .long (Y 1)), (3, .int (X 3)), (8, .int (X 8))] := hl
                  exact blk77 rc hrc9 I2 A2 L2 (upd X 9 z1) (vp_updL (vp_updL Y 4 ((Y 4) ||| z3)) 6 ((Y 6) &&& ((Y 6) - 1))) _ _ _ hf (lv_sub hl [3, 4, 5, 0, 1, 6, 2] rfl) hP hD hS
  have key : ∀ n : Nat, (∀ (I : MI) (A : MA) (L : ML) (X : Nat → Int32) (Y : Nat → Int64) (ls : Array Slot) (H : Heap) (locs : List Loc), f_A_consume_go n 9 I A L X Y = some (r, I', A', L') → lv_has ls 10 [(0, .ref h), (1, .long (Y 1)), (3, .int (X 3)), (4, .long (Y 4)), (6, .long (Y 6)), (8, .int (X 8))] → va_P (dC, dI) vwCl (aw_W h q g I A L) H → va_D B9 (aw_W h q g I A L) → va_S B9 s.heap H locs → W p l e (headSpec w_A_consume ({ frames := 2, cells := 0, slots := 0, locals := 43 })).room s m ([.ref h, .long k1, .int k3] : List Value).toArray below meth c H locs 0 0 (MQ below (va_Ql (fun (r9 : Int64) (_ : Unit) => r9 = r) (fun (_ : Unit) t => va_P (dC, dI) vwCl (aw_W h q g I' A' L') t.heap ∧ va_K (dC, dI) vwCl (aw_T h q g) t ∧ va_D B9 (aw_W h q g I' A' L')) B9) ([.ref h, .long k1, .int k3] : List Value).toArray s 0 0 B9) (F0 m 9 ls [])) := by
    intro n
    induction n with
    | zero => exact fun I A L X Y ls H locs hf => (by cases hf)
    | succ n ih =>
      have ih9 := ih
      exact stp9 (f_A_consume_go n) ih9
  unfold f_A_consume f_A_consume_e at hf
  have hrc9 := key wk_FUEL
  refine lv_lconst (v := 0) hx hb d_A_consume_0 (by decide) ?_
  refine lv_lstore (lv' := [(4, .long 0), (0, .ref h), (1, .long k1), (3, .int k3)]) hx hb d_A_consume_1 hl (by decide) rfl (fun ls hl => ?_)
  have hl : lv_has ls 10 [(4, .long 0), (0, .ref h), (1, .long k1), (3, .int k3)] := hl
  refine lv_lload_n hx hb d_A_consume_3 rfl (lv_at hl 2 rfl) ?_
  refine lv_lstore (lv' := [(6, .long k1), (4, .long 0), (0, .ref h), (1, .long k1), (3, .int k3)]) hx hb d_A_consume_4 hl (by decide) rfl (fun ls hl => ?_)
  have hl : lv_has ls 10 [(6, .long k1), (4, .long 0), (0, .ref h), (1, .long k1), (3, .int k3)] := hl
  refine lv_iconst (v := 0) hx hb d_A_consume_6 (by decide) ?_
  refine lv_istore (lv' := [(8, .int 0), (6, .long k1), (4, .long 0), (0, .ref h), (1, .long k1), (3, .int k3)]) hx hb d_A_consume_7 hl (by decide) rfl (fun ls hl => ?_)
  have hl : lv_has ls 10 [(8, .int 0), (6, .long k1), (4, .long 0), (0, .ref h), (1, .long k1), (3, .int k3)] := hl
  exact hrc9 I A L (upd (upd (fun _ => 0) 3 k3) 8 0) (vp_updL (vp_updL (vp_updL (fun _ => 0) 1 k1) 4 0) 6 k1) _ _ _ hf (lv_sub hl [3, 4, 5, 2, 1, 0] rfl) hP hD hS

set_option maxHeartbeats 8000000 in
set_option maxRecDepth 100000 in
theorem cm_A_longestFit (l : Launch) (dC : Nat → ClassId) (dI : Nat → Nat → Nat) (h : Nat) (q : Nat → Nat) (g : Nat → ClassId) (tq : Nat) (tg : ClassId) (tn : Nat) (tx : Nat → Int32) (sz : Nat) (I : MI) (A : MA) (L : ML) (k2 : Int32) (r : Int32) (I' : MI) (A' : MA) (L' : ML) (hf : f_A_longestFit tn tx I A L  k2 = some (r, I', A', L')) : Met l y_A_longestFit w_A_longestFit ({ frames := 3, cells := 0, slots := 0, locals := 77 }) (va_Pc [.ref h, .ref tq, .int k2] (fun U => U.heap.size = sz ∧ va_P (dC, dI) vwCl (at_W h q g tq tg tn tx I A L) U.heap ∧ va_K (dC, dI) vwCl (at_T h q g tq tg tn tx) U ∧ va_D (fun _ => True) (at_W h q g tq tg tn tx I A L))) (va_Qi (fun (r9 : Int32) (_ : Unit) => r9 = r) (fun (_ : Unit) t => va_P (dC, dI) vwCl (at_W h q g tq tg tn tx I' A' L') t.heap ∧ va_K (dC, dI) vwCl (at_T h q g tq tg tn tx) t ∧ va_D (va_A (at_W h q g tq tg tn tx I A L) sz) (at_W h q g tq tg tn tx I' A' L')) (va_A (at_W h q g tq tg tn tx I A L) sz)) 0 0 (va_A (at_W h q g tq tg tn tx I A L) sz) := by
  refine Met.ofW (cc := prog_2_method_6_code) (maxL := 7) (ret := (some .int)) (by decide) rfl ?_
  intro p e s m args below meth c s₁ B hml hv
  obtain ⟨rfl, hsz, hP, hK, hD0⟩ := hv
  have hx := B.exec
  have hb := B.bytes
  have hr := B.returns
  have hts := atoms_spec (ws := w_A_longestFit) B.pre
  have hown : s.vm.findClass "DraftTree$Automaton" = some m.cls := findClass_of_methodNamed B.named
  have hlocks := B.notSynchronized
  subst hsz
  have hD := hD0.self (sz := s.heap.size)
  generalize hAe : va_A (at_W h q g tq tg tn tx I A L) s.heap.size = B9 at hD ⊢
  have hA : ∀ q : Nat, s.heap.size ≤ q → B9 q := fun q h => by rw [← hAe]; exact Or.inr h
  clear hAe
  have hS : va_S B9 s.heap s.heap [] := va_S.rf
  have hl := lv_entry ([.ref h, .ref tq, .int k2]) (n := 7) (Nat.le_of_ble_eq_true rfl)
  rw [lg_entry_eq]
  generalize (lg_sl ([.ref h, .ref tq, .int k2]) ++ List.replicate (7 - (lg_sl ([.ref h, .ref tq, .int k2])).length) Slot.unset).toArray = ls at hl ⊢
  have hl : lv_has ls 7 [(0, .ref h), (1, .ref tq), (2, .int k2)] := hl
  have blk79 : ∀ (rc : Nat → MI → MA → ML → (Nat → Int32) → (Nat → Int64) → Option (Int32 × MI × MA × ML)) (hrc19 : ∀ (I : MI) (A : MA) (L : ML) (X : Nat → Int32) (Y : Nat → Int64) (ls : Array Slot) (H : Heap) (locs : List Loc), rc 19 I A L X Y = some (r, I', A', L') → lv_has ls 7 [(0, .ref h), (1, .ref tq), (2, .int (X 2)), (3, .int (X 3)), (4, .long (Y 4)), (6, .int (X 6))] → va_P (dC, dI) vwCl (at_W h q g tq tg tn tx I A L) H → va_D B9 (at_W h q g tq tg tn tx I A L) → va_S B9 s.heap H locs → W p l e (headSpec w_A_longestFit ({ frames := 3, cells := 0, slots := 0, locals := 77 })).room s m ([.ref h, .ref tq, .int k2] : List Value).toArray below meth c H locs 0 0 (MQ below (va_Qi (fun (r9 : Int32) (_ : Unit) => r9 = r) (fun (_ : Unit) t => va_P (dC, dI) vwCl (at_W h q g tq tg tn tx I' A' L') t.heap ∧ va_K (dC, dI) vwCl (at_T h q g tq tg tn tx) t ∧ va_D B9 (at_W h q g tq tg tn tx I' A' L')) B9) ([.ref h, .ref tq, .int k2] : List Value).toArray s 0 0 B9) (F0 m 19 ls [])), ∀ (I : MI) (A : MA) (L : ML) (X : Nat → Int32) (Y : Nat → Int64) (ls : Array Slot) (H : Heap) (locs : List Loc), f_A_longestFit_79 tn tx rc I A L X Y = some (r, I', A', L') → lv_has ls 7 [(0, .ref h), (1, .ref tq), (2, .int (X 2)), (3, .int (X 3)), (4, .long (Y 4)), (6, .int (X 6))] → va_P (dC, dI) vwCl (at_W h q g tq tg tn tx I A L) H → va_D B9 (at_W h q g tq tg tn tx I A L) → va_S B9 s.heap H locs → W p l e (headSpec w_A_longestFit ({ frames := 3, cells := 0, slots := 0, locals := 77 })).room s m ([.ref h, .ref tq, .int k2] : List Value).toArray below meth c H locs 0 0 (MQ below (va_Qi (fun (r9 : Int32) (_ : Unit) => r9 = r) (fun (_ : Unit) t => va_P (dC, dI) vwCl (at_W h q g tq tg tn tx I' A' L') t.heap ∧ va_K (dC, dI) vwCl (at_T h q g tq tg tn tx) t ∧ va_D B9 (at_W h q g tq tg tn tx I' A' L')) B9) ([.ref h, .ref tq, .int k2] : List Value).toArray s 0 0 B9) (F0 m 79 ls []) := by
    intro rc hrc19 I A L X Y ls H locs hf hl hP hD hS
    unfold f_A_longestFit_79 at hf
    refine lv_iload_n hx hb d_A_longestFit_79 rfl (lv_at hl 3 rfl) ?_
    obtain ⟨e0, e1, e2, e3⟩ := wk_inj3 hf
    subst e0
    subst e1
    subst e2
    subst e3
    exact W.iret (v := (X 3)) hx hb hr (fun t ht hW => ⟨⟨(X 3), (), rfl, rfl, by rw [ht]; exact hP, va_K.moved hW.alike hK, hD⟩, hS.F ht⟩) hS.2.2 d_A_longestFit_80
  have blk73 : ∀ (rc : Nat → MI → MA → ML → (Nat → Int32) → (Nat → Int64) → Option (Int32 × MI × MA × ML)) (hrc19 : ∀ (I : MI) (A : MA) (L : ML) (X : Nat → Int32) (Y : Nat → Int64) (ls : Array Slot) (H : Heap) (locs : List Loc), rc 19 I A L X Y = some (r, I', A', L') → lv_has ls 7 [(0, .ref h), (1, .ref tq), (2, .int (X 2)), (3, .int (X 3)), (4, .long (Y 4)), (6, .int (X 6))] → va_P (dC, dI) vwCl (at_W h q g tq tg tn tx I A L) H → va_D B9 (at_W h q g tq tg tn tx I A L) → va_S B9 s.heap H locs → W p l e (headSpec w_A_longestFit ({ frames := 3, cells := 0, slots := 0, locals := 77 })).room s m ([.ref h, .ref tq, .int k2] : List Value).toArray below meth c H locs 0 0 (MQ below (va_Qi (fun (r9 : Int32) (_ : Unit) => r9 = r) (fun (_ : Unit) t => va_P (dC, dI) vwCl (at_W h q g tq tg tn tx I' A' L') t.heap ∧ va_K (dC, dI) vwCl (at_T h q g tq tg tn tx) t ∧ va_D B9 (at_W h q g tq tg tn tx I' A' L')) B9) ([.ref h, .ref tq, .int k2] : List Value).toArray s 0 0 B9) (F0 m 19 ls [])), ∀ (I : MI) (A : MA) (L : ML) (X : Nat → Int32) (Y : Nat → Int64) (ls : Array Slot) (H : Heap) (locs : List Loc), f_A_longestFit_73 tn tx rc I A L X Y = some (r, I', A', L') → lv_has ls 7 [(0, .ref h), (1, .ref tq), (2, .int (X 2)), (3, .int (X 3)), (4, .long (Y 4)), (6, .int (X 6))] → va_P (dC, dI) vwCl (at_W h q g tq tg tn tx I A L) H → va_D B9 (at_W h q g tq tg tn tx I A L) → va_S B9 s.heap H locs → W p l e (headSpec w_A_longestFit ({ frames := 3, cells := 0, slots := 0, locals := 77 })).room s m ([.ref h, .ref tq, .int k2] : List Value).toArray below meth c H locs 0 0 (MQ below (va_Qi (fun (r9 : Int32) (_ : Unit) => r9 = r) (fun (_ : Unit) t => va_P (dC, dI) vwCl (at_W h q g tq tg tn tx I' A' L') t.heap ∧ va_K (dC, dI) vwCl (at_T h q g tq tg tn tx) t ∧ va_D B9 (at_W h q g tq tg tn tx I' A' L')) B9) ([.ref h, .ref tq, .int k2] : List Value).toArray s 0 0 B9) (F0 m 73 ls []) := by
    intro rc hrc19 I A L X Y ls H locs hf hl hP hD hS
    unfold f_A_longestFit_73 at hf
    refine lv_iinc (k := 5) (v := ((X 6) + 1)) (lv' := [(6, .int ((X 6) + 1)), (0, .ref h), (1, .ref tq), (2, .int (X 2)), (3, .int (X 3)), (4, .long (Y 4))]) hx hb d_A_longestFit_73 hl rfl (wk_inc (by decide)) (by decide) rfl (fun ls hl => ?_)
    have hl : lv_has ls 7 [(6, .int ((X 6) + 1)), (0, .ref h), (1, .ref tq), (2, .int (X 2)), (3, .int (X 3)), (4, .long (Y 4))] := hl
    refine lv_goto (tgt := 19) hx hb d_A_longestFit_76 (by decide) ?_
    exact hrc19 I A L (upd X 6 ((X 6) + 1)) Y _ _ _ hf (lv_sub hl [1, 2, 3, 4, 5, 0] rfl) hP hD hS
  have stp19 : ∀ (rc : Nat → MI → MA → ML → (Nat → Int32) → (Nat → Int64) → Option (Int32 × MI × MA × ML)) (hrc19 : ∀ (I : MI) (A : MA) (L : ML) (X : Nat → Int32) (Y : Nat → Int64) (ls : Array Slot) (H : Heap) (locs : List Loc), rc 19 I A L X Y = some (r, I', A', L') → lv_has ls 7 [(0, .ref h), (1, .ref tq), (2, .int (X 2)), (3, .int (X 3)), (4, .long (Y 4)), (6, .int (X 6))] → va_P (dC, dI) vwCl (at_W h q g tq tg tn tx I A L) H → va_D B9 (at_W h q g tq tg tn tx I A L) → va_S B9 s.heap H locs → W p l e (headSpec w_A_longestFit ({ frames := 3, cells := 0, slots := 0, locals := 77 })).room s m ([.ref h, .ref tq, .int k2] : List Value).toArray below meth c H locs 0 0 (MQ below (va_Qi (fun (r9 : Int32) (_ : Unit) => r9 = r) (fun (_ : Unit) t => va_P (dC, dI) vwCl (at_W h q g tq tg tn tx I' A' L') t.heap ∧ va_K (dC, dI) vwCl (at_T h q g tq tg tn tx) t ∧ va_D B9 (at_W h q g tq tg tn tx I' A' L')) B9) ([.ref h, .ref tq, .int k2] : List Value).toArray s 0 0 B9) (F0 m 19 ls [])), ∀ (I : MI) (A : MA) (L : ML) (X : Nat → Int32) (Y : Nat → Int64) (ls : Array Slot) (H : Heap) (locs : List Loc), f_A_longestFit_19 tn tx rc I A L X Y = some (r, I', A', L') → lv_has ls 7 [(0, .ref h), (1, .ref tq), (2, .int (X 2)), (3, .int (X 3)), (4, .long (Y 4)), (6, .int (X 6))] → va_P (dC, dI) vwCl (at_W h q g tq tg tn tx I A L) H → va_D B9 (at_W h q g tq tg tn tx I A L) → va_S B9 s.heap H locs → W p l e (headSpec w_A_longestFit ({ frames := 3, cells := 0, slots := 0, locals := 77 })).room s m ([.ref h, .ref tq, .int k2] : List Value).toArray below meth c H locs 0 0 (MQ below (va_Qi (fun (r9 : Int32) (_ : Unit) => r9 = r) (fun (_ : Unit) t => va_P (dC, dI) vwCl (at_W h q g tq tg tn tx I' A' L') t.heap ∧ va_K (dC, dI) vwCl (at_T h q g tq tg tn tx) t ∧ va_D B9 (at_W h q g tq tg tn tx I' A' L')) B9) ([.ref h, .ref tq, .int k2] : List Value).toArray s 0 0 B9) (F0 m 19 ls []) := by
    intro rc hrc19 I A L X Y ls H locs hf hl hP hD hS
    unfold f_A_longestFit_19 at hf
    refine lv_iload hx hb d_A_longestFit_19 (lv_at hl 5 rfl) ?_
    refine lv_aload_n hx hb d_A_longestFit_21 rfl (lv_at hl 1 rfl) ?_
    refine va_alen (v := (Int32.ofNat tn)) hx hb hK hP 6 5 rfl rfl rfl d_A_longestFit_22 ?_
    refine lv_icmp_ge (tgt := 79) hx hb d_A_longestFit_23 (by decide) (fun hc1 => ?_) (fun hc1 => ?_)
    ·
      have hf := wk_ift hc1 hf
      exact blk79 rc hrc19 I A L X Y _ _ _ hf (lv_sub hl [0, 1, 2, 3, 4, 5] rfl) hP hD hS
    ·
      have hf := wk_iff hc1 hf
      refine lv_lload hx hb d_A_longestFit_26 (lv_at hl 4 rfl) ?_
      refine lv_lconst (v := 0) hx hb d_A_longestFit_28 (by decide) ?_
      refine W.lcmp hx hb d_A_longestFit_29 ?_
      refine lv_if_eq (tgt := 79) hx hb d_A_longestFit_30 (by decide) (fun hc2 => ?_) (fun hc2 => ?_)
      ·
        have hf := wk_ift hc2 hf
        exact blk79 rc hrc19 I A L X Y _ _ _ hf (lv_sub hl [0, 1, 2, 3, 4, 5] rfl) hP hD hS
      ·
        have hf := wk_iff hc2 hf
        refine lv_aload_n hx hb d_A_longestFit_33 rfl (lv_at hl 0 rfl) ?_
        refine lv_aload_n hx hb d_A_longestFit_34 rfl (lv_at hl 0 rfl) ?_
        refine lv_lload hx hb d_A_longestFit_35 (lv_at hl 4 rfl) ?_
        refine lv_aload_n hx hb d_A_longestFit_37 rfl (lv_at hl 1 rfl) ?_
        refine lv_iload hx hb d_A_longestFit_38 (lv_at hl 5 rfl) ?_
        obtain ⟨hc3, hf⟩ := wk_if hf
        refine va_cald hx hb hK hP 6 5 rfl rfl (wk_inb_ok hc3) d_A_longestFit_40 ?_
        have hPc := hP.sub (ws' := (aw_W h q g I A L)) [0, 1, 2, 3, 4, 5] rfl
        have hDc := hD.sub (ws' := (aw_W h q g I A L)) [0, 1, 2, 3, 4, 5] (by decide) rfl
        have hKc := hK.sub (tys' := (aw_T h q g)) [0, 1, 2, 3, 4] rfl
        have hFc := va_free (wc := (aw_W h q g I A L)) hD hS hA [0, 1, 2, 3, 4, 5] rfl
        cases hg1 : f_A_consume I A L (Y 4) (tx ((X 6)).toNatClampNeg) with
        | none => rw [hg1] at hf; cases hf
        | some z1 =>
          obtain ⟨r1, I1, A1, L1⟩ := z1
          rw [hg1] at hf
          dsimp only [Option.bind_some] at hf
          refine va_calll (va_runV (As := [.long (Y 4), .int (tx ((X 6)).toNatClampNeg)]) (rest := [.ref h]) ⟨hx, hb, hml, hown, hts⟩ (cm_A_consume l dC dI h q g _  I A L (Y 4) (tx ((X 6)).toNatClampNeg) r1 I1 A1 L1 hg1) (cwV 2 hts (gd_v lk_291 lk_292 lk_293 lk_273 lk_290) rfl rfl rfl (by decide +kernel) ⟨Nat.le_of_ble_eq_true rfl, Nat.le_of_ble_eq_true rfl⟩) ⟨fun a U g mk q => by obtain ⟨q0, q1, qP, qK, qD⟩ := q; exact ⟨q0, q1, qP, va_K.moved (u := U) (U := U.calling g mk a) (Vm.Alike.refl U.vm) qK, qD⟩, va_recv (ci := 3) (q0 := 0) hK hP rfl rfl, fun U hU hW => ⟨rfl, by rw [hU], by rw [hU]; exact hPc, va_K.moved hW.alike hKc, hDc.weaken (fun _ _ _ _ => trivial)⟩⟩ rfl rfl hl.1 rfl (lv_room (Nat.le_of_ble_eq_true rfl)) d_A_longestFit_41 ⟨Nat.le_of_ble_eq_true rfl, Nat.le_of_ble_eq_true rfl⟩) hS (fun q _ h => hFc q h) hFc (fun r9 u t H1 locs ht hvm hw hB hz1 hk1 hS => ?_)
          obtain ⟨hP1, hK1, hD1⟩ := hB
          rw [ht] at hP1
          rw [hw]
          obtain ⟨hP, hD⟩ := va_join (wr := (([6] : List Nat).map (fun i => ((at_W h q g tq tg tn tx I A L)).getD i (0, .inr (0, []))))) (w1 := (aw_W h q g I1 A1 L1)) hP hD [0, 1, 2, 3, 4, 5] [6] rfl rfl (by decide) (by decide) hk1 hFc hP1 hD1
          generalize H1 = H at hP hS ⊢
          have hP := hP.sub (ws' := (at_W h q g tq tg tn tx I1 A1 L1)) [1, 2, 3, 4, 5, 6, 0] rfl
          have hD := hD.sub (ws' := (at_W h q g tq tg tn tx I1 A1 L1)) [1, 2, 3, 4, 5, 6, 0] (by decide) rfl
          refine lv_aload_n hx hb d_A_longestFit_44 rfl (lv_at hl 1 rfl) ?_
          refine lv_iload hx hb d_A_longestFit_45 (lv_at hl 5 rfl) ?_
          refine lv_iconst (v := 1) hx hb d_A_longestFit_47 (by decide) ?_
          refine lv_iadd hx hb d_A_longestFit_48 ?_
          have hPc := hP.sub (ws' := (at_W h q g tq tg tn tx I1 A1 L1)) [0, 1, 2, 3, 4, 5, 6] rfl
          have hDc := hD.sub (ws' := (at_W h q g tq tg tn tx I1 A1 L1)) [0, 1, 2, 3, 4, 5, 6] (by decide) rfl
          have hKc := hK.sub (tys' := (at_T h q g tq tg tn tx)) [0, 1, 2, 3, 4, 5] rfl
          have hFc := va_free (wc := (at_W h q g tq tg tn tx I1 A1 L1)) hD hS hA [0, 1, 2, 3, 4, 5, 6] rfl
          cases hg2 : f_A_spread tn tx I1 A1 L1 r1 ((X 6) + 1) with
          | none => rw [hg2] at hf; cases hf
          | some z2 =>
            obtain ⟨r2, I2, A2, L2⟩ := z2
            rw [hg2] at hf
            dsimp only [Option.bind_some] at hf
            refine va_calll (va_runV (As := [.long r1, .ref tq, .int ((X 6) + 1)]) (rest := []) ⟨hx, hb, hml, hown, hts⟩ (cm_A_spread l dC dI h q g tq tg tn tx _  I1 A1 L1 r1 ((X 6) + 1) r2 I2 A2 L2 hg2) (cwV 3 hts (gd_v lk_281 lk_282 lk_283 lk_273 lk_280) rfl rfl rfl (by decide +kernel) ⟨Nat.le_of_ble_eq_true rfl, Nat.le_of_ble_eq_true rfl⟩) ⟨fun a U g mk q => by obtain ⟨q0, q1, qP, qK, qD⟩ := q; exact ⟨q0, q1, qP, va_K.moved (u := U) (U := U.calling g mk a) (Vm.Alike.refl U.vm) qK, qD⟩, va_recv (ci := 3) (q0 := 0) hK hP rfl rfl, fun U hU hW => ⟨rfl, by rw [hU], by rw [hU]; exact hPc, va_K.moved hW.alike hKc, hDc.weaken (fun _ _ _ _ => trivial)⟩⟩ rfl rfl hl.1 rfl (lv_room (Nat.le_of_ble_eq_true rfl)) d_A_longestFit_49 ⟨Nat.le_of_ble_eq_true rfl, Nat.le_of_ble_eq_true rfl⟩) hS (fun q _ h => hFc q h) hFc (fun r9 u t H1 locs ht hvm hw hB hz1 hk1 hS => ?_)
            obtain ⟨hP1, hK1, hD1⟩ := hB
            rw [ht] at hP1
            rw [hw]
            obtain ⟨hP, hD⟩ := va_join (wr := (([] : List Nat).map (fun i => ((at_W h q g tq tg tn tx I1 A1 L1)).getD i (0, .inr (0, []))))) (w1 := (at_W h q g tq tg tn tx I2 A2 L2)) hP hD [0, 1, 2, 3, 4, 5, 6] [] rfl rfl (by decide) (by decide) hk1 hFc hP1 hD1
            generalize H1 = H at hP hS ⊢
            have hP := hP.sub (ws' := (at_W h q g tq tg tn tx I2 A2 L2)) [0, 1, 2, 3, 4, 5, 6] rfl
            have hD := hD.sub (ws' := (at_W h q g tq tg tn tx I2 A2 L2)) [0, 1, 2, 3, 4, 5, 6] (by decide) rfl
            refine lv_lstore (lv' := [(4, .long r2), (0, .ref h), (1, .ref tq), (2, .int (X 2)), (3, .int (X 3)), (6, .int (X 6))]) hx hb d_A_longestFit_52 hl (by decide) rfl (fun ls hl => ?_)
            have hl : lv_has ls 7 [(4, .long r2), (0, .ref h), (1, .ref tq), (2, .int (X 2)), (3, .int (X 3)), (6, .int (X 6))] := hl
            refine lv_lload hx hb d_A_longestFit_54 (lv_at hl 0 rfl) ?_
            refine lv_lconst (v := 1) hx hb d_A_longestFit_56 (by decide) ?_
            refine lv_aload_n hx hb d_A_longestFit_57 rfl (lv_at hl 1 rfl) ?_
            refine va_get (D := (dC, dI)) (ci := 3) (v := .int (I2 7)) (C := R_A) (T := F_A) (N := 10) hx hb hts (fun w h => List.mem_cons_of_mem _ (in_A w h)) hown hK hP 0 rfl rfl 7 (by decide) (hts _ (List.mem_cons_of_mem _ lk_294)) (fun _ h9 => h9) rfl d_A_longestFit_58 ?_
            refine lv_lshl hx hb d_A_longestFit_61 rfl ?_
            refine lv_land hx hb d_A_longestFit_62 ?_
            refine lv_lconst (v := 0) hx hb d_A_longestFit_63 (by decide) ?_
            refine W.lcmp hx hb d_A_longestFit_64 ?_
            refine lv_if_eq (tgt := 73) hx hb d_A_longestFit_65 (by decide) (fun hc4 => ?_) (fun hc4 => ?_)
            ·
              have hf := wk_ift hc4 hf
              exact blk73 rc hrc19 I2 A2 L2 X (vp_updL Y 4 r2) _ _ _ hf (lv_sub hl [1, 2, 3, 4, 0, 5] rfl) hP hD hS
            ·
              have hf := wk_iff hc4 hf
              refine lv_iload hx hb d_A_longestFit_68 (lv_at hl 5 rfl) ?_
              refine lv_iconst (v := 1) hx hb d_A_longestFit_70 (by decide) ?_
              refine lv_iadd hx hb d_A_longestFit_71 ?_
              refine lv_istore_n (lv' := [(3, .int ((X 6) + 1)), (4, .long r2), (0, .ref h), (1, .ref tq), (2, .int (X 2)), (6, .int (X 6))]) hx hb d_A_longestFit_72 rfl hl (by decide) rfl (fun ls hl => ?_)
              have hl : lv_has ls 7 [(3, .int ((X 6) + 1)), (4, .long r2), (0, .ref h), (1, .ref tq), (2, .int (X 2)), (6, .int (X 6))] := hl
              exact blk73 rc hrc19 I2 A2 L2 (upd X 3 ((X 6) + 1)) (vp_updL Y 4 r2) _ _ _ hf (lv_sub hl [2, 3, 4, 0, 1, 5] rfl) hP hD hS
  have key : ∀ n : Nat, (∀ (I : MI) (A : MA) (L : ML) (X : Nat → Int32) (Y : Nat → Int64) (ls : Array Slot) (H : Heap) (locs : List Loc), f_A_longestFit_go tn tx n 19 I A L X Y = some (r, I', A', L') → lv_has ls 7 [(0, .ref h), (1, .ref tq), (2, .int (X 2)), (3, .int (X 3)), (4, .long (Y 4)), (6, .int (X 6))] → va_P (dC, dI) vwCl (at_W h q g tq tg tn tx I A L) H → va_D B9 (at_W h q g tq tg tn tx I A L) → va_S B9 s.heap H locs → W p l e (headSpec w_A_longestFit ({ frames := 3, cells := 0, slots := 0, locals := 77 })).room s m ([.ref h, .ref tq, .int k2] : List Value).toArray below meth c H locs 0 0 (MQ below (va_Qi (fun (r9 : Int32) (_ : Unit) => r9 = r) (fun (_ : Unit) t => va_P (dC, dI) vwCl (at_W h q g tq tg tn tx I' A' L') t.heap ∧ va_K (dC, dI) vwCl (at_T h q g tq tg tn tx) t ∧ va_D B9 (at_W h q g tq tg tn tx I' A' L')) B9) ([.ref h, .ref tq, .int k2] : List Value).toArray s 0 0 B9) (F0 m 19 ls [])) := by
    intro n
    induction n with
    | zero => exact fun I A L X Y ls H locs hf => (by cases hf)
    | succ n ih =>
      have ih19 := ih
      exact stp19 (f_A_longestFit_go tn tx n) ih19
  unfold f_A_longestFit f_A_longestFit_e at hf
  have hrc19 := key wk_FUEL
  refine lv_iconst (v := (-1)) hx hb d_A_longestFit_0 (by decide) ?_
  refine lv_istore_n (lv' := [(3, .int (-1)), (0, .ref h), (1, .ref tq), (2, .int k2)]) hx hb d_A_longestFit_1 rfl hl (by decide) rfl (fun ls hl => ?_)
  have hl : lv_has ls 7 [(3, .int (-1)), (0, .ref h), (1, .ref tq), (2, .int k2)] := hl
  refine lv_aload_n hx hb d_A_longestFit_2 rfl (lv_at hl 1 rfl) ?_
  refine lv_lconst (v := 1) hx hb d_A_longestFit_3 (by decide) ?_
  refine lv_aload_n hx hb d_A_longestFit_4 rfl (lv_at hl 1 rfl) ?_
  refine va_get (D := (dC, dI)) (ci := 3) (v := .int (I 6)) (C := R_A) (T := F_A) (N := 10) hx hb hts (fun w h => List.mem_cons_of_mem _ (in_A w h)) hown hK hP 0 rfl rfl 6 (by decide) (hts _ (List.mem_cons_of_mem _ lk_257)) (fun _ h9 => h9) rfl d_A_longestFit_5 ?_
  refine lv_lshl hx hb d_A_longestFit_8 rfl ?_
  refine lv_aload_n hx hb d_A_longestFit_9 rfl (lv_at hl 2 rfl) ?_
  refine lv_iload_n hx hb d_A_longestFit_10 rfl (lv_at hl 3 rfl) ?_
  have hPc := hP.sub (ws' := (at_W h q g tq tg tn tx I A L)) [0, 1, 2, 3, 4, 5, 6] rfl
  have hDc := hD.sub (ws' := (at_W h q g tq tg tn tx I A L)) [0, 1, 2, 3, 4, 5, 6] (by decide) rfl
  have hKc := hK.sub (tys' := (at_T h q g tq tg tn tx)) [0, 1, 2, 3, 4, 5] rfl
  have hFc := va_free (wc := (at_W h q g tq tg tn tx I A L)) hD hS hA [0, 1, 2, 3, 4, 5, 6] rfl
  cases hg1 : f_A_spread tn tx I A L ((1 : Int64) <<< (((I 6)).toInt64 &&& 63)) k2 with
  | none => rw [hg1] at hf; cases hf
  | some z1 =>
    obtain ⟨r1, I1, A1, L1⟩ := z1
    rw [hg1] at hf
    dsimp only [Option.bind_some] at hf
    refine va_calll (va_runV (As := [.long ((1 : Int64) <<< (((I 6)).toInt64 &&& 63)), .ref tq, .int k2]) (rest := []) ⟨hx, hb, hml, hown, hts⟩ (cm_A_spread l dC dI h q g tq tg tn tx _  I A L ((1 : Int64) <<< (((I 6)).toInt64 &&& 63)) k2 r1 I1 A1 L1 hg1) (cwV 3 hts (gd_v lk_281 lk_282 lk_283 lk_273 lk_280) rfl rfl rfl (by decide +kernel) ⟨Nat.le_of_ble_eq_true rfl, Nat.le_of_ble_eq_true rfl⟩) ⟨fun a U g mk q => by obtain ⟨q0, q1, qP, qK, qD⟩ := q; exact ⟨q0, q1, qP, va_K.moved (u := U) (U := U.calling g mk a) (Vm.Alike.refl U.vm) qK, qD⟩, va_recv (ci := 3) (q0 := 0) hK hP rfl rfl, fun U hU hW => ⟨rfl, by rw [hU], by rw [hU]; exact hPc, va_K.moved hW.alike hKc, hDc.weaken (fun _ _ _ _ => trivial)⟩⟩ rfl rfl hl.1 rfl (lv_room (Nat.le_of_ble_eq_true rfl)) d_A_longestFit_11 ⟨Nat.le_of_ble_eq_true rfl, Nat.le_of_ble_eq_true rfl⟩) hS (fun q _ h => hFc q h) hFc (fun r9 u t H1 locs ht hvm hw hB hz1 hk1 hS => ?_)
    obtain ⟨hP1, hK1, hD1⟩ := hB
    rw [ht] at hP1
    rw [hw]
    obtain ⟨hP, hD⟩ := va_join (wr := (([] : List Nat).map (fun i => ((at_W h q g tq tg tn tx I A L)).getD i (0, .inr (0, []))))) (w1 := (at_W h q g tq tg tn tx I1 A1 L1)) hP hD [0, 1, 2, 3, 4, 5, 6] [] rfl rfl (by decide) (by decide) hk1 hFc hP1 hD1
    generalize H1 = H at hP hS ⊢
    have hP := hP.sub (ws' := (at_W h q g tq tg tn tx I1 A1 L1)) [0, 1, 2, 3, 4, 5, 6] rfl
    have hD := hD.sub (ws' := (at_W h q g tq tg tn tx I1 A1 L1)) [0, 1, 2, 3, 4, 5, 6] (by decide) rfl
    refine lv_lstore (lv' := [(4, .long r1), (3, .int (-1)), (0, .ref h), (1, .ref tq), (2, .int k2)]) hx hb d_A_longestFit_14 hl (by decide) rfl (fun ls hl => ?_)
    have hl : lv_has ls 7 [(4, .long r1), (3, .int (-1)), (0, .ref h), (1, .ref tq), (2, .int k2)] := hl
    refine lv_iload_n hx hb d_A_longestFit_16 rfl (lv_at hl 4 rfl) ?_
    refine lv_istore (lv' := [(6, .int k2), (4, .long r1), (3, .int (-1)), (0, .ref h), (1, .ref tq), (2, .int k2)]) hx hb d_A_longestFit_17 hl (by decide) rfl (fun ls hl => ?_)
    have hl : lv_has ls 7 [(6, .int k2), (4, .long r1), (3, .int (-1)), (0, .ref h), (1, .ref tq), (2, .int k2)] := hl
    exact hrc19 I1 A1 L1 (upd (upd (upd (fun _ => 0) 2 k2) 3 (-1)) 6 k2) (vp_updL (fun _ => 0) 4 r1) _ _ _ hf (lv_sub hl [3, 4, 5, 2, 1, 0] rfl) hP hD hS

