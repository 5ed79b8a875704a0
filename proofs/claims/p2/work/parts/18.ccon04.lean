set_option maxHeartbeats 8000000 in
set_option maxRecDepth 100000 in
theorem cm_A_takeCodes (l : Launch) (dC : Nat → ClassId) (dI : Nat → Nat → Nat) (h : Nat) (q : Nat → Nat) (g : Nat → ClassId) (sz : Nat) (I : MI) (A : MA) (L : ML) (k1 : Int32) (k2 : Int32) (k3 : Int32) (r : Int32) (I' : MI) (A' : MA) (L' : ML) (hf : f_A_takeCodes I A L  k1 k2 k3 = some (r, I', A', L')) : Met l y_A_takeCodes w_A_takeCodes ({ frames := 0, cells := 0, slots := 0, locals := 0 }) (va_Pc [.ref h, .int k1, .int k2, .int k3] (fun U => U.heap.size = sz ∧ va_P (dC, dI) vwCl (aw_W h q g I A L) U.heap ∧ va_K (dC, dI) vwCl (aw_T h q g) U ∧ va_D (fun _ => True) (aw_W h q g I A L))) (va_Qv (fun (u : Unit) => u = u) (fun (_ : Unit) t => va_P (dC, dI) vwCl (aw_W h q g I' A' L') t.heap ∧ va_K (dC, dI) vwCl (aw_T h q g) t ∧ va_D (va_A (aw_W h q g I A L) sz) (aw_W h q g I' A' L')) (va_A (aw_W h q g I A L) sz)) 0 0 (va_A (aw_W h q g I A L) sz) := by
  refine Met.ofW (cc := prog_2_method_3_code) (maxL := 5) (ret := none) (by decide) rfl ?_
  intro p e s m args below meth c s₁ B hml hv
  obtain ⟨rfl, hsz, hP, hK, hD0⟩ := hv
  have hx := B.exec
  have hb := B.bytes
  have hr := B.returns
  have hts := atoms_spec (ws := w_A_takeCodes) B.pre
  have hown : s.vm.findClass "DraftTree$Automaton" = some m.cls := findClass_of_methodNamed B.named
  have hlocks := B.notSynchronized
  subst hsz
  have hD := hD0.self (sz := s.heap.size)
  generalize hAe : va_A (aw_W h q g I A L) s.heap.size = B9 at hD ⊢
  have hA : ∀ q : Nat, s.heap.size ≤ q → B9 q := fun q h => by rw [← hAe]; exact Or.inr h
  clear hAe
  have hS : va_S B9 s.heap s.heap [] := va_S.rf
  have hl := lv_entry ([.ref h, .int k1, .int k2, .int k3]) (n := 5) (Nat.le_of_ble_eq_true rfl)
  rw [lg_entry_eq]
  generalize (lg_sl ([.ref h, .int k1, .int k2, .int k3]) ++ List.replicate (5 - (lg_sl ([.ref h, .int k1, .int k2, .int k3])).length) Slot.unset).toArray = ls at hl ⊢
  have hl : lv_has ls 5 [(0, .ref h), (1, .int k1), (2, .int k2), (3, .int k3)] := hl
  have blk48 : ∀ (rc : Nat → MI → MA → ML → (Nat → Int32) → (Nat → Int64) → Option (Int32 × MI × MA × ML)) (hrc3 : ∀ (I : MI) (A : MA) (L : ML) (X : Nat → Int32) (Y : Nat → Int64) (ls : Array Slot) (H : Heap) (locs : List Loc), rc 3 I A L X Y = some (r, I', A', L') → lv_has ls 5 [(0, .ref h), (1, .int (X 1)), (2, .int (X 2)), (3, .int (X 3)), (4, .int (X 4))] → va_P (dC, dI) vwCl (aw_W h q g I A L) H → va_D B9 (aw_W h q g I A L) → va_S B9 s.heap H locs → W p l e (headSpec w_A_takeCodes ({ frames := 0, cells := 0, slots := 0, locals := 0 })).room s m ([.ref h, .int k1, .int k2, .int k3] : List Value).toArray below meth c H locs 0 0 (MQ below (va_Qv (fun (u : Unit) => u = u) (fun (_ : Unit) t => va_P (dC, dI) vwCl (aw_W h q g I' A' L') t.heap ∧ va_K (dC, dI) vwCl (aw_T h q g) t ∧ va_D B9 (aw_W h q g I' A' L')) B9) ([.ref h, .int k1, .int k2, .int k3] : List Value).toArray s 0 0 B9) (F0 m 3 ls [])), ∀ (I : MI) (A : MA) (L : ML) (X : Nat → Int32) (Y : Nat → Int64) (ls : Array Slot) (H : Heap) (locs : List Loc), f_A_takeCodes_48 rc I A L X Y = some (r, I', A', L') → lv_has ls 5 [(0, .ref h), (1, .int (X 1)), (2, .int (X 2)), (3, .int (X 3)), (4, .int (X 4))] → va_P (dC, dI) vwCl (aw_W h q g I A L) H → va_D B9 (aw_W h q g I A L) → va_S B9 s.heap H locs → W p l e (headSpec w_A_takeCodes ({ frames := 0, cells := 0, slots := 0, locals := 0 })).room s m ([.ref h, .int k1, .int k2, .int k3] : List Value).toArray below meth c H locs 0 0 (MQ below (va_Qv (fun (u : Unit) => u = u) (fun (_ : Unit) t => va_P (dC, dI) vwCl (aw_W h q g I' A' L') t.heap ∧ va_K (dC, dI) vwCl (aw_T h q g) t ∧ va_D B9 (aw_W h q g I' A' L')) B9) ([.ref h, .int k1, .int k2, .int k3] : List Value).toArray s 0 0 B9) (F0 m 48 ls []) := by
    intro rc hrc3 I A L X Y ls H locs hf hl hP hD hS
    unfold f_A_takeCodes_48 at hf
    refine lv_iinc (k := 4) (v := ((X 4) + 1)) (lv' := [(4, .int ((X 4) + 1)), (0, .ref h), (1, .int (X 1)), (2, .int (X 2)), (3, .int (X 3))]) hx hb d_A_takeCodes_48 hl rfl (wk_inc (by decide)) (by decide) rfl (fun ls hl => ?_)
    have hl : lv_has ls 5 [(4, .int ((X 4) + 1)), (0, .ref h), (1, .int (X 1)), (2, .int (X 2)), (3, .int (X 3))] := hl
    refine lv_goto (tgt := 3) hx hb d_A_takeCodes_51 (by decide) ?_
    exact hrc3 I A L (upd X 4 ((X 4) + 1)) Y _ _ _ hf (lv_sub hl [1, 2, 3, 4, 0] rfl) hP hD hS
  have stp3 : ∀ (rc : Nat → MI → MA → ML → (Nat → Int32) → (Nat → Int64) → Option (Int32 × MI × MA × ML)) (hrc3 : ∀ (I : MI) (A : MA) (L : ML) (X : Nat → Int32) (Y : Nat → Int64) (ls : Array Slot) (H : Heap) (locs : List Loc), rc 3 I A L X Y = some (r, I', A', L') → lv_has ls 5 [(0, .ref h), (1, .int (X 1)), (2, .int (X 2)), (3, .int (X 3)), (4, .int (X 4))] → va_P (dC, dI) vwCl (aw_W h q g I A L) H → va_D B9 (aw_W h q g I A L) → va_S B9 s.heap H locs → W p l e (headSpec w_A_takeCodes ({ frames := 0, cells := 0, slots := 0, locals := 0 })).room s m ([.ref h, .int k1, .int k2, .int k3] : List Value).toArray below meth c H locs 0 0 (MQ below (va_Qv (fun (u : Unit) => u = u) (fun (_ : Unit) t => va_P (dC, dI) vwCl (aw_W h q g I' A' L') t.heap ∧ va_K (dC, dI) vwCl (aw_T h q g) t ∧ va_D B9 (aw_W h q g I' A' L')) B9) ([.ref h, .int k1, .int k2, .int k3] : List Value).toArray s 0 0 B9) (F0 m 3 ls [])), ∀ (I : MI) (A : MA) (L : ML) (X : Nat → Int32) (Y : Nat → Int64) (ls : Array Slot) (H : Heap) (locs : List Loc), f_A_takeCodes_3 rc I A L X Y = some (r, I', A', L') → lv_has ls 5 [(0, .ref h), (1, .int (X 1)), (2, .int (X 2)), (3, .int (X 3)), (4, .int (X 4))] → va_P (dC, dI) vwCl (aw_W h q g I A L) H → va_D B9 (aw_W h q g I A L) → va_S B9 s.heap H locs → W p l e (headSpec w_A_takeCodes ({ frames := 0, cells := 0, slots := 0, locals := 0 })).room s m ([.ref h, .int k1, .int k2, .int k3] : List Value).toArray below meth c H locs 0 0 (MQ below (va_Qv (fun (u : Unit) => u = u) (fun (_ : Unit) t => va_P (dC, dI) vwCl (aw_W h q g I' A' L') t.heap ∧ va_K (dC, dI) vwCl (aw_T h q g) t ∧ va_D B9 (aw_W h q g I' A' L')) B9) ([.ref h, .int k1, .int k2, .int k3] : List Value).toArray s 0 0 B9) (F0 m 3 ls []) := by
    intro rc hrc3 I A L X Y ls H locs hf hl hP hD hS
    unfold f_A_takeCodes_3 at hf
    refine lv_iload hx hb d_A_takeCodes_3 (lv_at hl 4 rfl) ?_
    refine lv_iload_n hx hb d_A_takeCodes_5 rfl (lv_at hl 3 rfl) ?_
    refine lv_icmp_gt (tgt := 54) hx hb d_A_takeCodes_6 (by decide) (fun hc1 => ?_) (fun hc1 => ?_)
    ·
      have hf := wk_ift hc1 hf
      obtain ⟨e0, e1, e2, e3⟩ := wk_inj3 hf
      subst e0
      subst e1
      subst e2
      subst e3
      exact W.vret hx hb hr (fun t ht hW => ⟨⟨(), rfl, rfl, by rw [ht]; exact hP, va_K.moved hW.alike hK, hD⟩, hS.F ht⟩) hS.2.2 d_A_takeCodes_54
    ·
      have hf := wk_iff hc1 hf
      refine lv_iload hx hb d_A_takeCodes_9 (lv_at hl 4 rfl) ?_
      refine lv_bipush (v := 64) hx hb d_A_takeCodes_11 (by decide) ?_
      refine lv_icmp_ge (tgt := 32) hx hb d_A_takeCodes_13 (by decide) (fun hc2 => ?_) (fun hc2 => ?_)
      ·
        have hf := wk_ift hc2 hf
        refine lv_aload_n hx hb d_A_takeCodes_32 rfl (lv_at hl 0 rfl) ?_
        refine va_get (D := (dC, dI)) (ci := 3) (v := .ref (q 4)) (C := R_A) (T := F_A) (N := 10) hx hb hts (fun w h => List.mem_cons_of_mem _ (in_A w h)) hown hK hP 0 rfl rfl 4 (by decide) (hts _ (List.mem_cons_of_mem _ lk_284)) (fun _ h9 => h9) rfl d_A_takeCodes_33 ?_
        refine lv_iload_n hx hb d_A_takeCodes_36 rfl (lv_at hl 1 rfl) ?_
        refine lv_dup2_11 hx hb d_A_takeCodes_37 rfl rfl ?_
        obtain ⟨hc3, hf⟩ := wk_if hf
        refine va_lald hx hb hK hP 5 4 rfl rfl (wk_inb_ok hc3) d_A_takeCodes_38 ?_
        refine lv_lconst (v := 1) hx hb d_A_takeCodes_39 (by decide) ?_
        refine lv_iload hx hb d_A_takeCodes_40 (lv_at hl 4 rfl) ?_
        refine lv_bipush (v := 64) hx hb d_A_takeCodes_42 (by decide) ?_
        refine lv_isub hx hb d_A_takeCodes_44 ?_
        refine lv_lshl hx hb d_A_takeCodes_45 rfl ?_
        refine lv_lor hx hb d_A_takeCodes_46 ?_
        obtain ⟨hc4, hf⟩ := wk_if hf
        refine va_last hx hb hK hP hD hS 5 4 rfl rfl (wk_inb_ok hc4) d_A_takeCodes_47 (fun H locs hP hD hS => ?_)
        obtain ⟨L1, hL1, hf⟩ := wk_letE hf
        have hP : va_P (dC, dI) vwCl (aw_W h q g I A L1) H := by rw [hL1]; exact hP
        have hD : va_D B9 (aw_W h q g I A L1) := by rw [hL1]; exact hD
        clear hL1
        exact blk48 rc hrc3 I A L1 X Y _ _ _ hf (lv_sub hl [0, 1, 2, 3, 4] rfl) hP hD hS
      ·
        have hf := wk_iff hc2 hf
        refine lv_aload_n hx hb d_A_takeCodes_16 rfl (lv_at hl 0 rfl) ?_
        refine va_get (D := (dC, dI)) (ci := 3) (v := .ref (q 3)) (C := R_A) (T := F_A) (N := 10) hx hb hts (fun w h => List.mem_cons_of_mem _ (in_A w h)) hown hK hP 0 rfl rfl 3 (by decide) (hts _ (List.mem_cons_of_mem _ lk_285)) (fun _ h9 => h9) rfl d_A_takeCodes_17 ?_
        refine lv_iload_n hx hb d_A_takeCodes_20 rfl (lv_at hl 1 rfl) ?_
        refine lv_dup2_11 hx hb d_A_takeCodes_21 rfl rfl ?_
        obtain ⟨hc3, hf⟩ := wk_if hf
        refine va_lald hx hb hK hP 4 3 rfl rfl (wk_inb_ok hc3) d_A_takeCodes_22 ?_
        refine lv_lconst (v := 1) hx hb d_A_takeCodes_23 (by decide) ?_
        refine lv_iload hx hb d_A_takeCodes_24 (lv_at hl 4 rfl) ?_
        refine lv_lshl hx hb d_A_takeCodes_26 rfl ?_
        refine lv_lor hx hb d_A_takeCodes_27 ?_
        obtain ⟨hc4, hf⟩ := wk_if hf
        refine va_last hx hb hK hP hD hS 4 3 rfl rfl (wk_inb_ok hc4) d_A_takeCodes_28 (fun H locs hP hD hS => ?_)
        obtain ⟨L1, hL1, hf⟩ := wk_letE hf
        have hP : va_P (dC, dI) vwCl (aw_W h q g I A L1) H := by rw [hL1]; exact hP
        have hD : va_D B9 (aw_W h q g I A L1) := by rw [hL1]; exact hD
        clear hL1
        refine lv_goto (tgt := 48) hx hb d_A_takeCodes_29 (by decide) ?_
        exact blk48 rc hrc3 I A L1 X Y _ _ _ hf (lv_sub hl [0, 1, 2, 3, 4] rfl) hP hD hS
  have key : ∀ n : Nat, (∀ (I : MI) (A : MA) (L : ML) (X : Nat → Int32) (Y : Nat → Int64) (ls : Array Slot) (H : Heap) (locs : List Loc), f_A_takeCodes_go n 3 I A L X Y = some (r, I', A', L') → lv_has ls 5 [(0, .ref h), (1, .int (X 1)), (2, .int (X 2)), (3, .int (X 3)), (4, .int (X 4))] → va_P (dC, dI) vwCl (aw_W h q g I A L) H → va_D B9 (aw_W h q g I A L) → va_S B9 s.heap H locs → W p l e (headSpec w_A_takeCodes ({ frames := 0, cells := 0, slots := 0, locals := 0 })).room s m ([.ref h, .int k1, .int k2, .int k3] : List Value).toArray below meth c H locs 0 0 (MQ below (va_Qv (fun (u : Unit) => u = u) (fun (_ : Unit) t => va_P (dC, dI) vwCl (aw_W h q g I' A' L') t.heap ∧ va_K (dC, dI) vwCl (aw_T h q g) t ∧ va_D B9 (aw_W h q g I' A' L')) B9) ([.ref h, .int k1, .int k2, .int k3] : List Value).toArray s 0 0 B9) (F0 m 3 ls [])) := by
    intro n
    induction n with
    | zero => exact fun I A L X Y ls H locs hf => (by cases hf)
    | succ n ih =>
      have ih3 := ih
      exact stp3 (f_A_takeCodes_go n) ih3
  unfold f_A_takeCodes f_A_takeCodes_e at hf
  have hrc3 := key wk_FUEL
  refine lv_iload_n hx hb d_A_takeCodes_0 rfl (lv_at hl 2 rfl) ?_
  refine lv_istore (lv' := [(4, .int k2), (0, .ref h), (1, .int k1), (2, .int k2), (3, .int k3)]) hx hb d_A_takeCodes_1 hl (by decide) rfl (fun ls hl => ?_)
  have hl : lv_has ls 5 [(4, .int k2), (0, .ref h), (1, .int k1), (2, .int k2), (3, .int k3)] := hl
  exact hrc3 I A L (upd (upd (upd (upd (fun _ => 0) 1 k1) 2 k2) 3 k3) 4 k2) (fun _ => 0) _ _ _ hf (lv_sub hl [1, 2, 3, 4, 0] rfl) hP hD hS

set_option maxHeartbeats 8000000 in
set_option maxRecDepth 100000 in
theorem cm_P_readRange (l : Launch) (dC : Nat → ClassId) (dI : Nat → Nat → Nat) (h : Nat) (q : Nat → Nat) (g : Nat → ClassId) (hm : Nat) (qm : Nat → Nat) (gm : Nat → ClassId) (so : Nat) (sg : ClassId) (sx : Nat → Int32) (sz : Nat) (I : MI) (A : MA) (M : MI) (MB : MA) (L : ML) (k1 : Int32) (r : Int32) (I' : MI) (A' : MA) (M' : MI) (MB' : MA) (L' : ML) (hf : f_P_readRange sx I A M MB L  k1 = some (r, I', A', M', MB', L')) : Met l y_P_readRange w_P_readRange ({ frames := 1, cells := 0, slots := 0, locals := 24 }) (va_Pc [.ref h, .int k1] (fun U => U.heap.size = sz ∧ va_P (dC, dI) vwCl (rw_W h q g hm qm gm so sg sx I A M MB L) U.heap ∧ va_K (dC, dI) vwCl (rw_T h q g hm qm gm so sg sx) U ∧ va_D (fun _ => True) (rw_W h q g hm qm gm so sg sx I A M MB L))) (va_Qv (fun (u : Unit) => u = u) (fun (_ : Unit) t => va_P (dC, dI) vwCl (rw_W h q g hm qm gm so sg sx I' A' M' MB' L') t.heap ∧ va_K (dC, dI) vwCl (rw_T h q g hm qm gm so sg sx) t ∧ va_D (va_A (rw_W h q g hm qm gm so sg sx I A M MB L) sz) (rw_W h q g hm qm gm so sg sx I' A' M' MB' L')) (va_A (rw_W h q g hm qm gm so sg sx I A M MB L) sz)) 0 0 (va_A (rw_W h q g hm qm gm so sg sx I A M MB L) sz) := by
  refine Met.ofW (cc := prog_3_method_11_code) (maxL := 4) (ret := none) (by decide) rfl ?_
  intro p e s m args below meth c s₁ B hml hv
  obtain ⟨rfl, hsz, hP, hK, hD0⟩ := hv
  have hx := B.exec
  have hb := B.bytes
  have hr := B.returns
  have hts := atoms_spec (ws := w_P_readRange) B.pre
  have hown : s.vm.findClass "DraftTree$PatternReader" = some m.cls := findClass_of_methodNamed B.named
  have hlocks := B.notSynchronized
  subst hsz
  have hD := hD0.self (sz := s.heap.size)
  generalize hAe : va_A (rw_W h q g hm qm gm so sg sx I A M MB L) s.heap.size = B9 at hD ⊢
  have hA : ∀ q : Nat, s.heap.size ≤ q → B9 q := fun q h => by rw [← hAe]; exact Or.inr h
  clear hAe
  have hS : va_S B9 s.heap s.heap [] := va_S.rf
  have hl := lv_entry ([.ref h, .int k1]) (n := 4) (Nat.le_of_ble_eq_true rfl)
  rw [lg_entry_eq]
  generalize (lg_sl ([.ref h, .int k1]) ++ List.replicate (4 - (lg_sl ([.ref h, .int k1])).length) Slot.unset).toArray = ls at hl ⊢
  have hl : lv_has ls 4 [(0, .ref h), (1, .int k1)] := hl
  have blk133 : ∀ (I : MI) (A : MA) (M : MI) (MB : MA) (L : ML) (X : Nat → Int32) (Y : Nat → Int64) (ls : Array Slot) (H : Heap) (locs : List Loc), f_P_readRange_133 sx I A M MB L X Y = some (r, I', A', M', MB', L') → lv_has ls 4 [(0, .ref h), (1, .int (X 1)), (2, .int (X 2)), (3, .int (X 3))] → va_P (dC, dI) vwCl (rw_W h q g hm qm gm so sg sx I A M MB L) H → va_D B9 (rw_W h q g hm qm gm so sg sx I A M MB L) → va_S B9 s.heap H locs → W p l e (headSpec w_P_readRange ({ frames := 1, cells := 0, slots := 0, locals := 24 })).room s m ([.ref h, .int k1] : List Value).toArray below meth c H locs 0 0 (MQ below (va_Qv (fun (u : Unit) => u = u) (fun (_ : Unit) t => va_P (dC, dI) vwCl (rw_W h q g hm qm gm so sg sx I' A' M' MB' L') t.heap ∧ va_K (dC, dI) vwCl (rw_T h q g hm qm gm so sg sx) t ∧ va_D B9 (rw_W h q g hm qm gm so sg sx I' A' M' MB' L')) B9) ([.ref h, .int k1] : List Value).toArray s 0 0 B9) (F0 m 133 ls []) := by
    intro I A M MB L X Y ls H locs hf hl hP hD hS
    unfold f_P_readRange_133 at hf
    obtain ⟨e0, e1, e2, e3, e4, e5⟩ := wk_inj5 hf
    subst e0
    subst e1
    subst e2
    subst e3
    subst e4
    subst e5
    exact W.vret hx hb hr (fun t ht hW => ⟨⟨(), rfl, rfl, by rw [ht]; exact hP, va_K.moved hW.alike hK, hD⟩, hS.F ht⟩) hS.2.2 d_P_readRange_133
  have blk75 : ∀ (I : MI) (A : MA) (M : MI) (MB : MA) (L : ML) (X : Nat → Int32) (Y : Nat → Int64) (s0 : Int32) (ls : Array Slot) (H : Heap) (locs : List Loc), f_P_readRange_75 sx I A M MB L X Y s0 = some (r, I', A', M', MB', L') → lv_has ls 4 [(0, .ref h), (1, .int (X 1)), (2, .int (X 2))] → va_P (dC, dI) vwCl (rw_W h q g hm qm gm so sg sx I A M MB L) H → va_D B9 (rw_W h q g hm qm gm so sg sx I A M MB L) → va_S B9 s.heap H locs → W p l e (headSpec w_P_readRange ({ frames := 1, cells := 0, slots := 0, locals := 24 })).room s m ([.ref h, .int k1] : List Value).toArray below meth c H locs 0 0 (MQ below (va_Qv (fun (u : Unit) => u = u) (fun (_ : Unit) t => va_P (dC, dI) vwCl (rw_W h q g hm qm gm so sg sx I' A' M' MB' L') t.heap ∧ va_K (dC, dI) vwCl (rw_T h q g hm qm gm so sg sx) t ∧ va_D B9 (rw_W h q g hm qm gm so sg sx I' A' M' MB' L')) B9) ([.ref h, .int k1] : List Value).toArray s 0 0 B9) (F0 m 75 ls [.int s0]) := by
    intro I A M MB L X Y s0 ls H locs hf hl hP hD hS
    unfold f_P_readRange_75 at hf
    refine lv_istore_n (lv' := [(3, .int s0), (0, .ref h), (1, .int (X 1)), (2, .int (X 2))]) hx hb d_P_readRange_75 rfl hl (by decide) rfl (fun ls hl => ?_)
    have hl : lv_has ls 4 [(3, .int s0), (0, .ref h), (1, .int (X 1)), (2, .int (X 2))] := hl
    refine lv_iload_n hx hb d_P_readRange_76 rfl (lv_at hl 0 rfl) ?_
    refine lv_if_eq (tgt := 113) hx hb d_P_readRange_77 (by decide) (fun hc1 => ?_) (fun hc1 => ?_)
    ·
      have hf := wk_ift hc1 hf
      refine lv_aload_n hx hb d_P_readRange_113 rfl (lv_at hl 1 rfl) ?_
      refine va_get (D := (dC, dI)) (ci := 2) (v := .ref hm) (C := R_P) (T := F_P) (N := 13) hx hb hts (fun w h => List.mem_cons_of_mem _ (in_P w h)) hown hK hP 0 rfl rfl 4 (by decide) (hts _ (List.mem_cons_of_mem _ lk_330)) (fun _ h9 => h9) rfl d_P_readRange_114 ?_
      refine lv_iload_n hx hb d_P_readRange_117 rfl (lv_at hl 2 rfl) ?_
      refine lv_iload_n hx hb d_P_readRange_118 rfl (lv_at hl 3 rfl) ?_
      refine lv_iload_n hx hb d_P_readRange_119 rfl (lv_at hl 3 rfl) ?_
      have hPc := hP.sub (ws' := (aw_W hm qm gm M MB L)) [5, 6, 7, 8, 9, 10] rfl
      have hDc := hD.sub (ws' := (aw_W hm qm gm M MB L)) [5, 6, 7, 8, 9, 10] (by decide) rfl
      have hKc := hK.sub (tys' := (aw_T hm qm gm)) [4, 5, 6, 7, 8] rfl
      have hFc := va_free (wc := (aw_W hm qm gm M MB L)) hD hS hA [5, 6, 7, 8, 9, 10] rfl
      cases hg1 : f_A_takeCodes M MB L (X 1) (X 2) (X 2) with
      | none => rw [hg1] at hf; cases hf
      | some z1 =>
        obtain ⟨r1, M1, MB1, L1⟩ := z1
        rw [hg1] at hf
        dsimp only [Option.bind_some] at hf
        refine va_callv (va_runV (As := [.int (X 1), .int (X 2), .int (X 2)]) (rest := []) ⟨hx, hb, hml, hown, hts⟩ (cm_A_takeCodes l dC dI hm qm gm _  M MB L (X 1) (X 2) (X 2) r1 M1 MB1 L1 hg1) (cwV 3 hts (gd_v lk_376 lk_377 lk_378 lk_273 lk_375) rfl rfl rfl (by decide +kernel) ⟨Nat.le_of_ble_eq_true rfl, Nat.le_of_ble_eq_true rfl⟩) ⟨fun a U g mk q => by obtain ⟨q0, q1, qP, qK, qD⟩ := q; exact ⟨q0, q1, qP, va_K.moved (u := U) (U := U.calling g mk a) (Vm.Alike.refl U.vm) qK, qD⟩, va_recv (ci := 3) (q0 := 5) hK hP rfl rfl, fun U hU hW => ⟨rfl, by rw [hU], by rw [hU]; exact hPc, va_K.moved hW.alike hKc, hDc.weaken (fun _ _ _ _ => trivial)⟩⟩ rfl rfl hl.1 rfl (lv_room (Nat.le_of_ble_eq_true rfl)) d_P_readRange_120 ⟨Nat.le_of_ble_eq_true rfl, Nat.le_of_ble_eq_true rfl⟩) hS (fun q _ h => hFc q h) hFc (fun u t H1 locs ht hvm hw hB hz1 hk1 hS => ?_)
        obtain ⟨hP1, hK1, hD1⟩ := hB
        rw [ht] at hP1
        obtain ⟨hP, hD⟩ := va_join (wr := (([0, 1, 2, 3, 4, 11] : List Nat).map (fun i => ((rw_W h q g hm qm gm so sg sx I A M MB L)).getD i (0, .inr (0, []))))) (w1 := (aw_W hm qm gm M1 MB1 L1)) hP hD [5, 6, 7, 8, 9, 10] [0, 1, 2, 3, 4, 11] rfl rfl (by decide) (by decide) hk1 hFc hP1 hD1
        generalize H1 = H at hP hS ⊢
        have hP := hP.sub (ws' := (rw_W h q g hm qm gm so sg sx I A M1 MB1 L1)) [0, 1, 2, 3, 4, 6, 7, 8, 9, 10, 11, 5] rfl
        have hD := hD.sub (ws' := (rw_W h q g hm qm gm so sg sx I A M1 MB1 L1)) [0, 1, 2, 3, 4, 6, 7, 8, 9, 10, 11, 5] (by decide) rfl
        refine lv_aload_n hx hb d_P_readRange_123 rfl (lv_at hl 1 rfl) ?_
        refine lv_dup hx hb d_P_readRange_124 rfl ?_
        refine va_get (D := (dC, dI)) (ci := 2) (v := .int (I 7)) (C := R_P) (T := F_P) (N := 13) hx hb hts (fun w h => List.mem_cons_of_mem _ (in_P w h)) hown hK hP 0 rfl rfl 7 (by decide) (hts _ (List.mem_cons_of_mem _ lk_328)) (fun _ h9 => h9) rfl d_P_readRange_125 ?_
        refine lv_iconst (v := 1) hx hb d_P_readRange_128 (by decide) ?_
        refine lv_iadd hx hb d_P_readRange_129 ?_
        refine va_put (D := (dC, dI)) (ci := 2) (v := .int ((I 7) + 1)) (ty := .int) (C := R_P) (T := F_P) (N := 13) hx hb hts (fun w h => List.mem_cons_of_mem _ (in_P w h)) t_P tk_P n_P hown hK hP hD hS 0 rfl rfl 7 (by decide) (hts _ (List.mem_cons_of_mem _ lk_328)) (fun _ h9 => h9) rfl (by decide +kernel) rfl rfl (Nat.le_of_ble_eq_true rfl) d_P_readRange_130 (fun H locs hP hD hS => ?_)
        obtain ⟨I2, hI2, hf⟩ := wk_letE hf
        have hP : va_P (dC, dI) vwCl (rw_W h q g hm qm gm so sg sx I2 A M1 MB1 L1) H := by rw [hI2]; exact hP
        have hD : va_D B9 (rw_W h q g hm qm gm so sg sx I2 A M1 MB1 L1) := by rw [hI2]; exact hD
        clear hI2
        exact blk133 I2 A M1 MB1 L1 (upd X 3 s0) Y _ _ _ hf (lv_sub hl [1, 2, 3, 0] rfl) hP hD hS
    ·
      have hf := wk_iff hc1 hf
      refine lv_aload_n hx hb d_P_readRange_80 rfl (lv_at hl 1 rfl) ?_
      refine va_get (D := (dC, dI)) (ci := 2) (v := .ref hm) (C := R_P) (T := F_P) (N := 13) hx hb hts (fun w h => List.mem_cons_of_mem _ (in_P w h)) hown hK hP 0 rfl rfl 4 (by decide) (hts _ (List.mem_cons_of_mem _ lk_330)) (fun _ h9 => h9) rfl d_P_readRange_81 ?_
      refine lv_iload_n hx hb d_P_readRange_84 rfl (lv_at hl 2 rfl) ?_
      refine lv_iload_n hx hb d_P_readRange_85 rfl (lv_at hl 3 rfl) ?_
      refine lv_aload_n hx hb d_P_readRange_86 rfl (lv_at hl 1 rfl) ?_
      refine va_get (D := (dC, dI)) (ci := 2) (v := .ref so) (C := R_P) (T := F_P) (N := 13) hx hb hts (fun w h => List.mem_cons_of_mem _ (in_P w h)) hown hK hP 0 rfl rfl 5 (by decide) (hts _ (List.mem_cons_of_mem _ lk_326)) (fun _ h9 => h9) rfl d_P_readRange_87 ?_
      refine lv_aload_n hx hb d_P_readRange_90 rfl (lv_at hl 1 rfl) ?_
      refine va_get (D := (dC, dI)) (ci := 2) (v := .int (I 7)) (C := R_P) (T := F_P) (N := 13) hx hb hts (fun w h => List.mem_cons_of_mem _ (in_P w h)) hown hK hP 0 rfl rfl 7 (by decide) (hts _ (List.mem_cons_of_mem _ lk_328)) (fun _ h9 => h9) rfl d_P_readRange_91 ?_
      refine lv_iconst (v := 2) hx hb d_P_readRange_94 (by decide) ?_
      refine lv_iadd hx hb d_P_readRange_95 ?_
      obtain ⟨hc2, hf⟩ := wk_if hf
      refine va_cald hx hb hK hP 11 9 rfl rfl (wk_inb_ok hc2) d_P_readRange_96 ?_
      have hPc := hP.sub (ws' := (aw_W hm qm gm M MB L)) [5, 6, 7, 8, 9, 10] rfl
      have hDc := hD.sub (ws' := (aw_W hm qm gm M MB L)) [5, 6, 7, 8, 9, 10] (by decide) rfl
      have hKc := hK.sub (tys' := (aw_T hm qm gm)) [4, 5, 6, 7, 8] rfl
      have hFc := va_free (wc := (aw_W hm qm gm M MB L)) hD hS hA [5, 6, 7, 8, 9, 10] rfl
      cases hg1 : f_A_takeCodes M MB L (X 1) (X 2) (sx (((I 7) + 2)).toNatClampNeg) with
      | none => rw [hg1] at hf; cases hf
      | some z1 =>
        obtain ⟨r1, M1, MB1, L1⟩ := z1
        rw [hg1] at hf
        dsimp only [Option.bind_some] at hf
        refine va_callv (va_runV (As := [.int (X 1), .int (X 2), .int (sx (((I 7) + 2)).toNatClampNeg)]) (rest := []) ⟨hx, hb, hml, hown, hts⟩ (cm_A_takeCodes l dC dI hm qm gm _  M MB L (X 1) (X 2) (sx (((I 7) + 2)).toNatClampNeg) r1 M1 MB1 L1 hg1) (cwV 3 hts (gd_v lk_376 lk_377 lk_378 lk_273 lk_375) rfl rfl rfl (by decide +kernel) ⟨Nat.le_of_ble_eq_true rfl, Nat.le_of_ble_eq_true rfl⟩) ⟨fun a U g mk q => by obtain ⟨q0, q1, qP, qK, qD⟩ := q; exact ⟨q0, q1, qP, va_K.moved (u := U) (U := U.calling g mk a) (Vm.Alike.refl U.vm) qK, qD⟩, va_recv (ci := 3) (q0 := 5) hK hP rfl rfl, fun U hU hW => ⟨rfl, by rw [hU], by rw [hU]; exact hPc, va_K.moved hW.alike hKc, hDc.weaken (fun _ _ _ _ => trivial)⟩⟩ rfl rfl hl.1 rfl (lv_room (Nat.le_of_ble_eq_true rfl)) d_P_readRange_97 ⟨Nat.le_of_ble_eq_true rfl, Nat.le_of_ble_eq_true rfl⟩) hS (fun q _ h => hFc q h) hFc (fun u t H1 locs ht hvm hw hB hz1 hk1 hS => ?_)
        obtain ⟨hP1, hK1, hD1⟩ := hB
        rw [ht] at hP1
        obtain ⟨hP, hD⟩ := va_join (wr := (([0, 1, 2, 3, 4, 11] : List Nat).map (fun i => ((rw_W h q g hm qm gm so sg sx I A M MB L)).getD i (0, .inr (0, []))))) (w1 := (aw_W hm qm gm M1 MB1 L1)) hP hD [5, 6, 7, 8, 9, 10] [0, 1, 2, 3, 4, 11] rfl rfl (by decide) (by decide) hk1 hFc hP1 hD1
        generalize H1 = H at hP hS ⊢
        have hP := hP.sub (ws' := (rw_W h q g hm qm gm so sg sx I A M1 MB1 L1)) [0, 1, 2, 3, 4, 6, 7, 8, 9, 10, 11, 5] rfl
        have hD := hD.sub (ws' := (rw_W h q g hm qm gm so sg sx I A M1 MB1 L1)) [0, 1, 2, 3, 4, 6, 7, 8, 9, 10, 11, 5] (by decide) rfl
        refine lv_aload_n hx hb d_P_readRange_100 rfl (lv_at hl 1 rfl) ?_
        refine lv_dup hx hb d_P_readRange_101 rfl ?_
        refine va_get (D := (dC, dI)) (ci := 2) (v := .int (I 7)) (C := R_P) (T := F_P) (N := 13) hx hb hts (fun w h => List.mem_cons_of_mem _ (in_P w h)) hown hK hP 0 rfl rfl 7 (by decide) (hts _ (List.mem_cons_of_mem _ lk_328)) (fun _ h9 => h9) rfl d_P_readRange_102 ?_
        refine lv_iconst (v := 3) hx hb d_P_readRange_105 (by decide) ?_
        refine lv_iadd hx hb d_P_readRange_106 ?_
        refine va_put (D := (dC, dI)) (ci := 2) (v := .int ((I 7) + 3)) (ty := .int) (C := R_P) (T := F_P) (N := 13) hx hb hts (fun w h => List.mem_cons_of_mem _ (in_P w h)) t_P tk_P n_P hown hK hP hD hS 0 rfl rfl 7 (by decide) (hts _ (List.mem_cons_of_mem _ lk_328)) (fun _ h9 => h9) rfl (by decide +kernel) rfl rfl (Nat.le_of_ble_eq_true rfl) d_P_readRange_107 (fun H locs hP hD hS => ?_)
        obtain ⟨I2, hI2, hf⟩ := wk_letE hf
        have hP : va_P (dC, dI) vwCl (rw_W h q g hm qm gm so sg sx I2 A M1 MB1 L1) H := by rw [hI2]; exact hP
        have hD : va_D B9 (rw_W h q g hm qm gm so sg sx I2 A M1 MB1 L1) := by rw [hI2]; exact hD
        clear hI2
        refine lv_goto (tgt := 133) hx hb d_P_readRange_110 (by decide) ?_
        exact blk133 I2 A M1 MB1 L1 (upd X 3 s0) Y _ _ _ hf (lv_sub hl [1, 2, 3, 0] rfl) hP hD hS
  have blk74 : ∀ (I : MI) (A : MA) (M : MI) (MB : MA) (L : ML) (X : Nat → Int32) (Y : Nat → Int64) (ls : Array Slot) (H : Heap) (locs : List Loc), f_P_readRange_74 sx I A M MB L X Y = some (r, I', A', M', MB', L') → lv_has ls 4 [(0, .ref h), (1, .int (X 1)), (2, .int (X 2))] → va_P (dC, dI) vwCl (rw_W h q g hm qm gm so sg sx I A M MB L) H → va_D B9 (rw_W h q g hm qm gm so sg sx I A M MB L) → va_S B9 s.heap H locs → W p l e (headSpec w_P_readRange ({ frames := 1, cells := 0, slots := 0, locals := 24 })).room s m ([.ref h, .int k1] : List Value).toArray below meth c H locs 0 0 (MQ below (va_Qv (fun (u : Unit) => u = u) (fun (_ : Unit) t => va_P (dC, dI) vwCl (rw_W h q g hm qm gm so sg sx I' A' M' MB' L') t.heap ∧ va_K (dC, dI) vwCl (rw_T h q g hm qm gm so sg sx) t ∧ va_D B9 (rw_W h q g hm qm gm so sg sx I' A' M' MB' L')) B9) ([.ref h, .int k1] : List Value).toArray s 0 0 B9) (F0 m 74 ls []) := by
    intro I A M MB L X Y ls H locs hf hl hP hD hS
    unfold f_P_readRange_74 at hf
    refine lv_iconst (v := 0) hx hb d_P_readRange_74 (by decide) ?_
    exact blk75 I A M MB L X Y 0 _ _ _ hf (lv_sub hl [0, 1, 2] rfl) hP hD hS
  unfold f_P_readRange at hf
  refine lv_aload_n hx hb d_P_readRange_0 rfl (lv_at hl 0 rfl) ?_
  refine va_get (D := (dC, dI)) (ci := 2) (v := .ref so) (C := R_P) (T := F_P) (N := 13) hx hb hts (fun w h => List.mem_cons_of_mem _ (in_P w h)) hown hK hP 0 rfl rfl 5 (by decide) (hts _ (List.mem_cons_of_mem _ lk_326)) (fun _ h9 => h9) rfl d_P_readRange_1 ?_
  refine lv_aload_n hx hb d_P_readRange_4 rfl (lv_at hl 0 rfl) ?_
  refine va_get (D := (dC, dI)) (ci := 2) (v := .int (I 7)) (C := R_P) (T := F_P) (N := 13) hx hb hts (fun w h => List.mem_cons_of_mem _ (in_P w h)) hown hK hP 0 rfl rfl 7 (by decide) (hts _ (List.mem_cons_of_mem _ lk_328)) (fun _ h9 => h9) rfl d_P_readRange_5 ?_
  obtain ⟨hc1, hf⟩ := wk_if hf
  refine va_cald hx hb hK hP 11 9 rfl rfl (wk_inb_ok hc1) d_P_readRange_8 ?_
  refine lv_istore_n (lv' := [(2, .int (sx ((I 7)).toNatClampNeg)), (0, .ref h), (1, .int k1)]) hx hb d_P_readRange_9 rfl hl (by decide) rfl (fun ls hl => ?_)
  have hl : lv_has ls 4 [(2, .int (sx ((I 7)).toNatClampNeg)), (0, .ref h), (1, .int k1)] := hl
  refine lv_aload_n hx hb d_P_readRange_10 rfl (lv_at hl 1 rfl) ?_
  refine va_get (D := (dC, dI)) (ci := 2) (v := .int (I 7)) (C := R_P) (T := F_P) (N := 13) hx hb hts (fun w h => List.mem_cons_of_mem _ (in_P w h)) hown hK hP 0 rfl rfl 7 (by decide) (hts _ (List.mem_cons_of_mem _ lk_328)) (fun _ h9 => h9) rfl d_P_readRange_11 ?_
  refine lv_iconst (v := 2) hx hb d_P_readRange_14 (by decide) ?_
  refine lv_iadd hx hb d_P_readRange_15 ?_
  refine lv_aload_n hx hb d_P_readRange_16 rfl (lv_at hl 1 rfl) ?_
  refine va_get (D := (dC, dI)) (ci := 2) (v := .int (I 6)) (C := R_P) (T := F_P) (N := 13) hx hb hts (fun w h => List.mem_cons_of_mem _ (in_P w h)) hown hK hP 0 rfl rfl 6 (by decide) (hts _ (List.mem_cons_of_mem _ lk_327)) (fun _ h9 => h9) rfl d_P_readRange_17 ?_
  refine lv_icmp_ge (tgt := 74) hx hb d_P_readRange_20 (by decide) (fun hc2 => ?_) (fun hc2 => ?_)
  ·
    have hf := wk_ift hc2 hf
    exact blk74 I A M MB L (upd (upd (fun _ => 0) 1 k1) 2 (sx ((I 7)).toNatClampNeg)) (fun _ => 0) _ _ _ hf (lv_sub hl [1, 2, 0] rfl) hP hD hS
  ·
    have hf := wk_iff hc2 hf
    refine lv_aload_n hx hb d_P_readRange_23 rfl (lv_at hl 1 rfl) ?_
    refine va_get (D := (dC, dI)) (ci := 2) (v := .ref so) (C := R_P) (T := F_P) (N := 13) hx hb hts (fun w h => List.mem_cons_of_mem _ (in_P w h)) hown hK hP 0 rfl rfl 5 (by decide) (hts _ (List.mem_cons_of_mem _ lk_326)) (fun _ h9 => h9) rfl d_P_readRange_24 ?_
    refine lv_aload_n hx hb d_P_readRange_27 rfl (lv_at hl 1 rfl) ?_
    refine va_get (D := (dC, dI)) (ci := 2) (v := .int (I 7)) (C := R_P) (T := F_P) (N := 13) hx hb hts (fun w h => List.mem_cons_of_mem _ (in_P w h)) hown hK hP 0 rfl rfl 7 (by decide) (hts _ (List.mem_cons_of_mem _ lk_328)) (fun _ h9 => h9) rfl d_P_readRange_28 ?_
    refine lv_iconst (v := 1) hx hb d_P_readRange_31 (by decide) ?_
    refine lv_iadd hx hb d_P_readRange_32 ?_
    obtain ⟨hc3, hf⟩ := wk_if hf
    refine va_cald hx hb hK hP 11 9 rfl rfl (wk_inb_ok hc3) d_P_readRange_33 ?_
    refine lv_bipush (v := 45) hx hb d_P_readRange_34 (by decide) ?_
    refine lv_icmp_ne (tgt := 74) hx hb d_P_readRange_36 (by decide) (fun hc4 => ?_) (fun hc4 => ?_)
    ·
      have hf := wk_iff hc4 hf
      exact blk74 I A M MB L (upd (upd (fun _ => 0) 1 k1) 2 (sx ((I 7)).toNatClampNeg)) (fun _ => 0) _ _ _ hf (lv_sub hl [1, 2, 0] rfl) hP hD hS
    ·
      have hf := wk_ift hc4 hf
      refine lv_aload_n hx hb d_P_readRange_39 rfl (lv_at hl 1 rfl) ?_
      refine va_get (D := (dC, dI)) (ci := 2) (v := .ref so) (C := R_P) (T := F_P) (N := 13) hx hb hts (fun w h => List.mem_cons_of_mem _ (in_P w h)) hown hK hP 0 rfl rfl 5 (by decide) (hts _ (List.mem_cons_of_mem _ lk_326)) (fun _ h9 => h9) rfl d_P_readRange_40 ?_
      refine lv_aload_n hx hb d_P_readRange_43 rfl (lv_at hl 1 rfl) ?_
      refine va_get (D := (dC, dI)) (ci := 2) (v := .int (I 7)) (C := R_P) (T := F_P) (N := 13) hx hb hts (fun w h => List.mem_cons_of_mem _ (in_P w h)) hown hK hP 0 rfl rfl 7 (by decide) (hts _ (List.mem_cons_of_mem _ lk_328)) (fun _ h9 => h9) rfl d_P_readRange_44 ?_
      refine lv_iconst (v := 2) hx hb d_P_readRange_47 (by decide) ?_
      refine lv_iadd hx hb d_P_readRange_48 ?_
      obtain ⟨hc5, hf⟩ := wk_if hf
      refine va_cald hx hb hK hP 11 9 rfl rfl (wk_inb_ok hc5) d_P_readRange_49 ?_
      refine lv_bipush (v := 93) hx hb d_P_readRange_50 (by decide) ?_
      refine lv_icmp_eq (tgt := 74) hx hb d_P_readRange_52 (by decide) (fun hc6 => ?_) (fun hc6 => ?_)
      ·
        have hf := wk_ift hc6 hf
        exact blk74 I A M MB L (upd (upd (fun _ => 0) 1 k1) 2 (sx ((I 7)).toNatClampNeg)) (fun _ => 0) _ _ _ hf (lv_sub hl [1, 2, 0] rfl) hP hD hS
      ·
        have hf := wk_iff hc6 hf
        refine lv_aload_n hx hb d_P_readRange_55 rfl (lv_at hl 1 rfl) ?_
        refine va_get (D := (dC, dI)) (ci := 2) (v := .ref so) (C := R_P) (T := F_P) (N := 13) hx hb hts (fun w h => List.mem_cons_of_mem _ (in_P w h)) hown hK hP 0 rfl rfl 5 (by decide) (hts _ (List.mem_cons_of_mem _ lk_326)) (fun _ h9 => h9) rfl d_P_readRange_56 ?_
        refine lv_aload_n hx hb d_P_readRange_59 rfl (lv_at hl 1 rfl) ?_
        refine va_get (D := (dC, dI)) (ci := 2) (v := .int (I 7)) (C := R_P) (T := F_P) (N := 13) hx hb hts (fun w h => List.mem_cons_of_mem _ (in_P w h)) hown hK hP 0 rfl rfl 7 (by decide) (hts _ (List.mem_cons_of_mem _ lk_328)) (fun _ h9 => h9) rfl d_P_readRange_60 ?_
        refine lv_iconst (v := 2) hx hb d_P_readRange_63 (by decide) ?_
        refine lv_iadd hx hb d_P_readRange_64 ?_
        obtain ⟨hc7, hf⟩ := wk_if hf
        refine va_cald hx hb hK hP 11 9 rfl rfl (wk_inb_ok hc7) d_P_readRange_65 ?_
        refine lv_iload_n hx hb d_P_readRange_66 rfl (lv_at hl 0 rfl) ?_
        refine lv_icmp_lt (tgt := 74) hx hb d_P_readRange_67 (by decide) (fun hc8 => ?_) (fun hc8 => ?_)
        ·
          have hf := wk_ift hc8 hf
          exact blk74 I A M MB L (upd (upd (fun _ => 0) 1 k1) 2 (sx ((I 7)).toNatClampNeg)) (fun _ => 0) _ _ _ hf (lv_sub hl [1, 2, 0] rfl) hP hD hS
        ·
          have hf := wk_iff hc8 hf
          refine lv_iconst (v := 1) hx hb d_P_readRange_70 (by decide) ?_
          refine lv_goto (tgt := 75) hx hb d_P_readRange_71 (by decide) ?_
          exact blk75 I A M MB L (upd (upd (fun _ => 0) 1 k1) 2 (sx ((I 7)).toNatClampNeg)) (fun _ => 0) 1 _ _ _ hf (lv_sub hl [1, 2, 0] rfl) hP hD hS

set_option maxHeartbeats 8000000 in
set_option maxRecDepth 100000 in
theorem cm_A_takeOtherCodes (l : Launch) (dC : Nat → ClassId) (dI : Nat → Nat → Nat) (h : Nat) (q : Nat → Nat) (g : Nat → ClassId) (sz : Nat) (I : MI) (A : MA) (L : ML) (k1 : Int32) (r : Int32) (I' : MI) (A' : MA) (L' : ML) (hf : f_A_takeOtherCodes I A L  k1 = some (r, I', A', L')) : Met l y_A_takeOtherCodes w_A_takeOtherCodes ({ frames := 0, cells := 0, slots := 0, locals := 0 }) (va_Pc [.ref h, .int k1] (fun U => U.heap.size = sz ∧ va_P (dC, dI) vwCl (aw_W h q g I A L) U.heap ∧ va_K (dC, dI) vwCl (aw_T h q g) U ∧ va_D (fun _ => True) (aw_W h q g I A L))) (va_Qv (fun (u : Unit) => u = u) (fun (_ : Unit) t => va_P (dC, dI) vwCl (aw_W h q g I' A' L') t.heap ∧ va_K (dC, dI) vwCl (aw_T h q g) t ∧ va_D (va_A (aw_W h q g I A L) sz) (aw_W h q g I' A' L')) (va_A (aw_W h q g I A L) sz)) 0 0 (va_A (aw_W h q g I A L) sz) := by
  refine Met.ofW (cc := prog_2_method_4_code) (maxL := 2) (ret := none) (by decide) rfl ?_
  intro p e s m args below meth c s₁ B hml hv
  obtain ⟨rfl, hsz, hP, hK, hD0⟩ := hv
  have hx := B.exec
  have hb := B.bytes
  have hr := B.returns
  have hts := atoms_spec (ws := w_A_takeOtherCodes) B.pre
  have hown : s.vm.findClass "DraftTree$Automaton" = some m.cls := findClass_of_methodNamed B.named
  have hlocks := B.notSynchronized
  subst hsz
  have hD := hD0.self (sz := s.heap.size)
  generalize hAe : va_A (aw_W h q g I A L) s.heap.size = B9 at hD ⊢
  have hA : ∀ q : Nat, s.heap.size ≤ q → B9 q := fun q h => by rw [← hAe]; exact Or.inr h
  clear hAe
  have hS : va_S B9 s.heap s.heap [] := va_S.rf
  have hl := lv_entry ([.ref h, .int k1]) (n := 2) (Nat.le_of_ble_eq_true rfl)
  rw [lg_entry_eq]
  generalize (lg_sl ([.ref h, .int k1]) ++ List.replicate (2 - (lg_sl ([.ref h, .int k1])).length) Slot.unset).toArray = ls at hl ⊢
  have hl : lv_has ls 2 [(0, .ref h), (1, .int k1)] := hl
  unfold f_A_takeOtherCodes at hf
  refine lv_aload_n hx hb d_A_takeOtherCodes_0 rfl (lv_at hl 0 rfl) ?_
  refine va_get (D := (dC, dI)) (ci := 3) (v := .ref (q 3)) (C := R_A) (T := F_A) (N := 10) hx hb hts (fun w h => List.mem_cons_of_mem _ (in_A w h)) hown hK hP 0 rfl rfl 3 (by decide) (hts _ (List.mem_cons_of_mem _ lk_285)) (fun _ h9 => h9) rfl d_A_takeOtherCodes_1 ?_
  refine lv_iload_n hx hb d_A_takeOtherCodes_4 rfl (lv_at hl 1 rfl) ?_
  refine lv_aload_n hx hb d_A_takeOtherCodes_5 rfl (lv_at hl 0 rfl) ?_
  refine va_get (D := (dC, dI)) (ci := 3) (v := .ref (q 3)) (C := R_A) (T := F_A) (N := 10) hx hb hts (fun w h => List.mem_cons_of_mem _ (in_A w h)) hown hK hP 0 rfl rfl 3 (by decide) (hts _ (List.mem_cons_of_mem _ lk_285)) (fun _ h9 => h9) rfl d_A_takeOtherCodes_6 ?_
  refine lv_iload_n hx hb d_A_takeOtherCodes_9 rfl (lv_at hl 1 rfl) ?_
  obtain ⟨hc1, hf⟩ := wk_if hf
  refine va_lald hx hb hK hP 4 3 rfl rfl (wk_inb_ok hc1) d_A_takeOtherCodes_10 ?_
  refine lv_ldc2 (v := (-1)) hx hb hown (hts _ (List.mem_cons_of_mem _ lk_279)) d_A_takeOtherCodes_11 ?_
  refine lv_lxor hx hb d_A_takeOtherCodes_14 ?_
  obtain ⟨hc2, hf⟩ := wk_if hf
  refine va_last hx hb hK hP hD hS 4 3 rfl rfl (wk_inb_ok hc2) d_A_takeOtherCodes_15 (fun H locs hP hD hS => ?_)
  obtain ⟨L1, hL1, hf⟩ := wk_letE hf
  have hP : va_P (dC, dI) vwCl (aw_W h q g I A L1) H := by rw [hL1]; exact hP
  have hD : va_D B9 (aw_W h q g I A L1) := by rw [hL1]; exact hD
  clear hL1
  refine lv_aload_n hx hb d_A_takeOtherCodes_16 rfl (lv_at hl 0 rfl) ?_
  refine va_get (D := (dC, dI)) (ci := 3) (v := .ref (q 4)) (C := R_A) (T := F_A) (N := 10) hx hb hts (fun w h => List.mem_cons_of_mem _ (in_A w h)) hown hK hP 0 rfl rfl 4 (by decide) (hts _ (List.mem_cons_of_mem _ lk_284)) (fun _ h9 => h9) rfl d_A_takeOtherCodes_17 ?_
  refine lv_iload_n hx hb d_A_takeOtherCodes_20 rfl (lv_at hl 1 rfl) ?_
  refine lv_aload_n hx hb d_A_takeOtherCodes_21 rfl (lv_at hl 0 rfl) ?_
  refine va_get (D := (dC, dI)) (ci := 3) (v := .ref (q 4)) (C := R_A) (T := F_A) (N := 10) hx hb hts (fun w h => List.mem_cons_of_mem _ (in_A w h)) hown hK hP 0 rfl rfl 4 (by decide) (hts _ (List.mem_cons_of_mem _ lk_284)) (fun _ h9 => h9) rfl d_A_takeOtherCodes_22 ?_
  refine lv_iload_n hx hb d_A_takeOtherCodes_25 rfl (lv_at hl 1 rfl) ?_
  obtain ⟨hc3, hf⟩ := wk_if hf
  refine va_lald hx hb hK hP 5 4 rfl rfl (wk_inb_ok hc3) d_A_takeOtherCodes_26 ?_
  refine lv_ldc2 (v := (-1)) hx hb hown (hts _ (List.mem_cons_of_mem _ lk_279)) d_A_takeOtherCodes_27 ?_
  refine lv_lxor hx hb d_A_takeOtherCodes_30 ?_
  obtain ⟨hc4, hf⟩ := wk_if hf
  refine va_last hx hb hK hP hD hS 5 4 rfl rfl (wk_inb_ok hc4) d_A_takeOtherCodes_31 (fun H locs hP hD hS => ?_)
  obtain ⟨L2, hL2, hf⟩ := wk_letE hf
  have hP : va_P (dC, dI) vwCl (aw_W h q g I A L2) H := by rw [hL2]; exact hP
  have hD : va_D B9 (aw_W h q g I A L2) := by rw [hL2]; exact hD
  clear hL2
  obtain ⟨e0, e1, e2, e3⟩ := wk_inj3 hf
  subst e0
  subst e1
  subst e2
  subst e3
  exact W.vret hx hb hr (fun t ht hW => ⟨⟨(), rfl, rfl, by rw [ht]; exact hP, va_K.moved hW.alike hK, hD⟩, hS.F ht⟩) hS.2.2 d_A_takeOtherCodes_32

set_option maxHeartbeats 8000000 in
set_option maxRecDepth 100000 in
theorem cm_P_readSet (l : Launch) (dC : Nat → ClassId) (dI : Nat → Nat → Nat) (h : Nat) (q : Nat → Nat) (g : Nat → ClassId) (hm : Nat) (qm : Nat → Nat) (gm : Nat → ClassId) (so : Nat) (sg : ClassId) (sx : Nat → Int32) (sz : Nat) (I : MI) (A : MA) (M : MI) (MB : MA) (L : ML) (r : Int32) (I' : MI) (A' : MA) (M' : MI) (MB' : MA) (L' : ML) (hf : f_P_readSet sx I A M MB L  = some (r, I', A', M', MB', L')) : Met l y_P_readSet w_P_readSet ({ frames := 2, cells := 0, slots := 0, locals := 47 }) (va_Pc [.ref h] (fun U => U.heap.size = sz ∧ va_P (dC, dI) vwCl (rw_W h q g hm qm gm so sg sx I A M MB L) U.heap ∧ va_K (dC, dI) vwCl (rw_T h q g hm qm gm so sg sx) U ∧ va_D (fun _ => True) (rw_W h q g hm qm gm so sg sx I A M MB L))) (va_Qv (fun (u : Unit) => u = u) (fun (_ : Unit) t => va_P (dC, dI) vwCl (rw_W h q g hm qm gm so sg sx I' A' M' MB' L') t.heap ∧ va_K (dC, dI) vwCl (rw_T h q g hm qm gm so sg sx) t ∧ va_D (va_A (rw_W h q g hm qm gm so sg sx I A M MB L) sz) (rw_W h q g hm qm gm so sg sx I' A' M' MB' L')) (va_A (rw_W h q g hm qm gm so sg sx I A M MB L) sz)) 0 0 (va_A (rw_W h q g hm qm gm so sg sx I A M MB L) sz) := by
  refine Met.ofW (cc := prog_3_method_10_code) (maxL := 5) (ret := none) (by decide) rfl ?_
  intro p e s m args below meth c s₁ B hml hv
  obtain ⟨rfl, hsz, hP, hK, hD0⟩ := hv
  have hx := B.exec
  have hb := B.bytes
  have hr := B.returns
  have hts := atoms_spec (ws := w_P_readSet) B.pre
  have hown : s.vm.findClass "DraftTree$PatternReader" = some m.cls := findClass_of_methodNamed B.named
  have hlocks := B.notSynchronized
  subst hsz
  have hD := hD0.self (sz := s.heap.size)
  generalize hAe : va_A (rw_W h q g hm qm gm so sg sx I A M MB L) s.heap.size = B9 at hD ⊢
  have hA : ∀ q : Nat, s.heap.size ≤ q → B9 q := fun q h => by rw [← hAe]; exact Or.inr h
  clear hAe
  have hS : va_S B9 s.heap s.heap [] := va_S.rf
  have hl := lv_entry ([.ref h]) (n := 5) (Nat.le_of_ble_eq_true rfl)
  rw [lg_entry_eq]
  generalize (lg_sl ([.ref h]) ++ List.replicate (5 - (lg_sl ([.ref h])).length) Slot.unset).toArray = ls at hl ⊢
  have hl : lv_has ls 5 [(0, .ref h)] := hl
  have blk49 : ∀ (rc : Nat → MI → MA → MI → MA → ML → (Nat → Int32) → (Nat → Int64) → Option (Int32 × MI × MA × MI × MA × ML)) (hrc67 : ∀ (I : MI) (A : MA) (M : MI) (MB : MA) (L : ML) (X : Nat → Int32) (Y : Nat → Int64) (ls : Array Slot) (H : Heap) (locs : List Loc), rc 67 I A M MB L X Y = some (r, I', A', M', MB', L') → lv_has ls 5 [(0, .ref h), (1, .int (X 1)), (2, .int (X 2)), (3, .int (X 3)), (4, .int (X 4))] → va_P (dC, dI) vwCl (rw_W h q g hm qm gm so sg sx I A M MB L) H → va_D B9 (rw_W h q g hm qm gm so sg sx I A M MB L) → va_S B9 s.heap H locs → W p l e (headSpec w_P_readSet ({ frames := 2, cells := 0, slots := 0, locals := 47 })).room s m ([.ref h] : List Value).toArray below meth c H locs 0 0 (MQ below (va_Qv (fun (u : Unit) => u = u) (fun (_ : Unit) t => va_P (dC, dI) vwCl (rw_W h q g hm qm gm so sg sx I' A' M' MB' L') t.heap ∧ va_K (dC, dI) vwCl (rw_T h q g hm qm gm so sg sx) t ∧ va_D B9 (rw_W h q g hm qm gm so sg sx I' A' M' MB' L')) B9) ([.ref h] : List Value).toArray s 0 0 B9) (F0 m 67 ls [])), ∀ (I : MI) (A : MA) (M : MI) (MB : MA) (L : ML) (X : Nat → Int32) (Y : Nat → Int64) (s0 : Int32) (s1 : Int32) (ls : Array Slot) (H : Heap) (locs : List Loc), f_P_readSet_49 sx rc I A M MB L X Y s0 s1 = some (r, I', A', M', MB', L') → lv_has ls 5 [(0, .ref h), (1, .int (X 1))] → va_P (dC, dI) vwCl (rw_W h q g hm qm gm so sg sx I A M MB L) H → va_D B9 (rw_W h q g hm qm gm so sg sx I A M MB L) → va_S B9 s.heap H locs → W p l e (headSpec w_P_readSet ({ frames := 2, cells := 0, slots := 0, locals := 47 })).room s m ([.ref h] : List Value).toArray below meth c H locs 0 0 (MQ below (va_Qv (fun (u : Unit) => u = u) (fun (_ : Unit) t => va_P (dC, dI) vwCl (rw_W h q g hm qm gm so sg sx I' A' M' MB' L') t.heap ∧ va_K (dC, dI) vwCl (rw_T h q g hm qm gm so sg sx) t ∧ va_D B9 (rw_W h q g hm qm gm so sg sx I' A' M' MB' L')) B9) ([.ref h] : List Value).toArray s 0 0 B9) (F0 m 49 ls [.int s0, .int s1, .ref h]) := by
    intro rc hrc67 I A M MB L X Y s0 s1 ls H locs hf hl hP hD hS
    unfold f_P_readSet_49 at hf
    refine lv_iadd hx hb d_P_readSet_49 ?_
    refine va_put (D := (dC, dI)) (ci := 2) (v := .int (s1 + s0)) (ty := .int) (C := R_P) (T := F_P) (N := 13) hx hb hts (fun w h => List.mem_cons_of_mem _ (in_P w h)) t_P tk_P n_P hown hK hP hD hS 0 rfl rfl 7 (by decide) (hts _ (List.mem_cons_of_mem _ lk_328)) (fun _ h9 => h9) rfl (by decide +kernel) rfl rfl (Nat.le_of_ble_eq_true rfl) d_P_readSet_50 (fun H locs hP hD hS => ?_)
    obtain ⟨I1, hI1, hf⟩ := wk_letE hf
    have hP : va_P (dC, dI) vwCl (rw_W h q g hm qm gm so sg sx I1 A M MB L) H := by rw [hI1]; exact hP
    have hD : va_D B9 (rw_W h q g hm qm gm so sg sx I1 A M MB L) := by rw [hI1]; exact hD
    clear hI1
    refine lv_aload_n hx hb d_P_readSet_53 rfl (lv_at hl 0 rfl) ?_
    refine va_get (D := (dC, dI)) (ci := 2) (v := .int (I1 7)) (C := R_P) (T := F_P) (N := 13) hx hb hts (fun w h => List.mem_cons_of_mem _ (in_P w h)) hown hK hP 0 rfl rfl 7 (by decide) (hts _ (List.mem_cons_of_mem _ lk_328)) (fun _ h9 => h9) rfl d_P_readSet_54 ?_
    refine lv_istore_n (lv' := [(2, .int (I1 7)), (0, .ref h), (1, .int (X 1))]) hx hb d_P_readSet_57 rfl hl (by decide) rfl (fun ls hl => ?_)
    have hl : lv_has ls 5 [(2, .int (I1 7)), (0, .ref h), (1, .int (X 1))] := hl
    refine lv_aload_n hx hb d_P_readSet_58 rfl (lv_at hl 1 rfl) ?_
    refine lv_iconst (v := 1) hx hb d_P_readSet_59 (by decide) ?_
    have hPc := hP.sub (ws' := (rw_W h q g hm qm gm so sg sx I1 A M MB L)) [0, 1, 2, 3, 4, 5, 6, 7, 8, 9, 10, 11] rfl
    have hDc := hD.sub (ws' := (rw_W h q g hm qm gm so sg sx I1 A M MB L)) [0, 1, 2, 3, 4, 5, 6, 7, 8, 9, 10, 11] (by decide) rfl
    have hKc := hK.sub (tys' := (rw_T h q g hm qm gm so sg sx)) [0, 1, 2, 3, 4, 5, 6, 7, 8, 9] rfl
    have hFc := va_free (wc := (rw_W h q g hm qm gm so sg sx I1 A M MB L)) hD hS hA [0, 1, 2, 3, 4, 5, 6, 7, 8, 9, 10, 11] rfl
    cases hg2 : f_P_addNodeAsPart sx I1 A M MB L 1 with
    | none => rw [hg2] at hf; cases hf
    | some z2 =>
      obtain ⟨r2, I2, A2, M2, MB2, L2⟩ := z2
      rw [hg2] at hf
      dsimp only [Option.bind_some] at hf
      refine va_calli (va_runV (As := [.int 1]) (rest := []) ⟨hx, hb, hml, hown, hts⟩ (cm_P_addNodeAsPart l dC dI h q g hm qm gm so sg sx _  I1 A M MB L 1 r2 I2 A2 M2 MB2 L2 hg2) (cwV 1 hts (gd_v lk_372 lk_373 lk_374 lk_348 lk_371) rfl rfl rfl (by decide +kernel) ⟨Nat.le_of_ble_eq_true rfl, Nat.le_of_ble_eq_true rfl⟩) ⟨fun a U g mk q => by obtain ⟨q0, q1, qP, qK, qD⟩ := q; exact ⟨q0, q1, qP, va_K.moved (u := U) (U := U.calling g mk a) (Vm.Alike.refl U.vm) qK, qD⟩, va_recv (ci := 2) (q0 := 0) hK hP rfl rfl, fun U hU hW => ⟨rfl, by rw [hU], by rw [hU]; exact hPc, va_K.moved hW.alike hKc, hDc.weaken (fun _ _ _ _ => trivial)⟩⟩ rfl rfl hl.1 rfl (lv_room (Nat.le_of_ble_eq_true rfl)) d_P_readSet_60 ⟨Nat.le_of_ble_eq_true rfl, Nat.le_of_ble_eq_true rfl⟩) hS (fun q _ h => hFc q h) hFc (fun r9 u t H1 locs ht hvm hw hB hz1 hk1 hS => ?_)
      obtain ⟨hP1, hK1, hD1⟩ := hB
      rw [ht] at hP1
      rw [hw]
      obtain ⟨hP, hD⟩ := va_join (wr := (([] : List Nat).map (fun i => ((rw_W h q g hm qm gm so sg sx I1 A M MB L)).getD i (0, .inr (0, []))))) (w1 := (rw_W h q g hm qm gm so sg sx I2 A2 M2 MB2 L2)) hP hD [0, 1, 2, 3, 4, 5, 6, 7, 8, 9, 10, 11] [] rfl rfl (by decide) (by decide) hk1 hFc hP1 hD1
      generalize H1 = H at hP hS ⊢
      have hP := hP.sub (ws' := (rw_W h q g hm qm gm so sg sx I2 A2 M2 MB2 L2)) [0, 1, 2, 3, 4, 5, 6, 7, 8, 9, 10, 11] rfl
      have hD := hD.sub (ws' := (rw_W h q g hm qm gm so sg sx I2 A2 M2 MB2 L2)) [0, 1, 2, 3, 4, 5, 6, 7, 8, 9, 10, 11] (by decide) rfl
      refine lv_istore_n (lv' := [(3, .int r2), (2, .int (I1 7)), (0, .ref h), (1, .int (X 1))]) hx hb d_P_readSet_63 rfl hl (by decide) rfl (fun ls hl => ?_)
      have hl : lv_has ls 5 [(3, .int r2), (2, .int (I1 7)), (0, .ref h), (1, .int (X 1))] := hl
      refine lv_iconst (v := 0) hx hb d_P_readSet_64 (by decide) ?_
      refine lv_istore (lv' := [(4, .int 0), (3, .int r2), (2, .int (I1 7)), (0, .ref h), (1, .int (X 1))]) hx hb d_P_readSet_65 hl (by decide) rfl (fun ls hl => ?_)
      have hl : lv_has ls 5 [(4, .int 0), (3, .int r2), (2, .int (I1 7)), (0, .ref h), (1, .int (X 1))] := hl
      exact hrc67 I2 A2 M2 MB2 L2 (upd (upd (upd X 2 (I1 7)) 3 r2) 4 0) Y _ _ _ hf (lv_sub hl [3, 4, 2, 1, 0] rfl) hP hD hS
  have blk34 : ∀ (rc : Nat → MI → MA → MI → MA → ML → (Nat → Int32) → (Nat → Int64) → Option (Int32 × MI × MA × MI × MA × ML)) (hrc67 : ∀ (I : MI) (A : MA) (M : MI) (MB : MA) (L : ML) (X : Nat → Int32) (Y : Nat → Int64) (ls : Array Slot) (H : Heap) (locs : List Loc), rc 67 I A M MB L X Y = some (r, I', A', M', MB', L') → lv_has ls 5 [(0, .ref h), (1, .int (X 1)), (2, .int (X 2)), (3, .int (X 3)), (4, .int (X 4))] → va_P (dC, dI) vwCl (rw_W h q g hm qm gm so sg sx I A M MB L) H → va_D B9 (rw_W h q g hm qm gm so sg sx I A M MB L) → va_S B9 s.heap H locs → W p l e (headSpec w_P_readSet ({ frames := 2, cells := 0, slots := 0, locals := 47 })).room s m ([.ref h] : List Value).toArray below meth c H locs 0 0 (MQ below (va_Qv (fun (u : Unit) => u = u) (fun (_ : Unit) t => va_P (dC, dI) vwCl (rw_W h q g hm qm gm so sg sx I' A' M' MB' L') t.heap ∧ va_K (dC, dI) vwCl (rw_T h q g hm qm gm so sg sx) t ∧ va_D B9 (rw_W h q g hm qm gm so sg sx I' A' M' MB' L')) B9) ([.ref h] : List Value).toArray s 0 0 B9) (F0 m 67 ls [])), ∀ (I : MI) (A : MA) (M : MI) (MB : MA) (L : ML) (X : Nat → Int32) (Y : Nat → Int64) (s0 : Int32) (ls : Array Slot) (H : Heap) (locs : List Loc), f_P_readSet_34 sx rc I A M MB L X Y s0 = some (r, I', A', M', MB', L') → lv_has ls 5 [(0, .ref h)] → va_P (dC, dI) vwCl (rw_W h q g hm qm gm so sg sx I A M MB L) H → va_D B9 (rw_W h q g hm qm gm so sg sx I A M MB L) → va_S B9 s.heap H locs → W p l e (headSpec w_P_readSet ({ frames := 2, cells := 0, slots := 0, locals := 47 })).room s m ([.ref h] : List Value).toArray below meth c H locs 0 0 (MQ below (va_Qv (fun (u : Unit) => u = u) (fun (_ : Unit) t => va_P (dC, dI) vwCl (rw_W h q g hm qm gm so sg sx I' A' M' MB' L') t.heap ∧ va_K (dC, dI) vwCl (rw_T h q g hm qm gm so sg sx) t ∧ va_D B9 (rw_W h q g hm qm gm so sg sx I' A' M' MB' L')) B9) ([.ref h] : List Value).toArray s 0 0 B9) (F0 m 34 ls [.int s0]) := by
    intro rc hrc67 I A M MB L X Y s0 ls H locs hf hl hP hD hS
    unfold f_P_readSet_34 at hf
    refine lv_istore_n (lv' := [(1, .int s0), (0, .ref h)]) hx hb d_P_readSet_34 rfl hl (by decide) rfl (fun ls hl => ?_)
    have hl : lv_has ls 5 [(1, .int s0), (0, .ref h)] := hl
    refine lv_aload_n hx hb d_P_readSet_35 rfl (lv_at hl 1 rfl) ?_
    refine lv_dup hx hb d_P_readSet_36 rfl ?_
    refine va_get (D := (dC, dI)) (ci := 2) (v := .int (I 7)) (C := R_P) (T := F_P) (N := 13) hx hb hts (fun w h => List.mem_cons_of_mem _ (in_P w h)) hown hK hP 0 rfl rfl 7 (by decide) (hts _ (List.mem_cons_of_mem _ lk_328)) (fun _ h9 => h9) rfl d_P_readSet_37 ?_
    refine lv_iload_n hx hb d_P_readSet_40 rfl (lv_at hl 0 rfl) ?_
    refine lv_if_eq (tgt := 48) hx hb d_P_readSet_41 (by decide) (fun hc1 => ?_) (fun hc1 => ?_)
    ·
      have hf := wk_ift hc1 hf
      refine lv_iconst (v := 1) hx hb d_P_readSet_48 (by decide) ?_
      exact blk49 rc hrc67 I A M MB L (upd X 1 s0) Y 1 (I 7) _ _ _ hf (lv_sub hl [1, 0] rfl) hP hD hS
    ·
      have hf := wk_iff hc1 hf
      refine lv_iconst (v := 2) hx hb d_P_readSet_44 (by decide) ?_
      refine lv_goto (tgt := 49) hx hb d_P_readSet_45 (by decide) ?_
      exact blk49 rc hrc67 I A M MB L (upd X 1 s0) Y 2 (I 7) _ _ _ hf (lv_sub hl [1, 0] rfl) hP hD hS
  have blk33 : ∀ (rc : Nat → MI → MA → MI → MA → ML → (Nat → Int32) → (Nat → Int64) → Option (Int32 × MI × MA × MI × MA × ML)) (hrc67 : ∀ (I : MI) (A : MA) (M : MI) (MB : MA) (L : ML) (X : Nat → Int32) (Y : Nat → Int64) (ls : Array Slot) (H : Heap) (locs : List Loc), rc 67 I A M MB L X Y = some (r, I', A', M', MB', L') → lv_has ls 5 [(0, .ref h), (1, .int (X 1)), (2, .int (X 2)), (3, .int (X 3)), (4, .int (X 4))] → va_P (dC, dI) vwCl (rw_W h q g hm qm gm so sg sx I A M MB L) H → va_D B9 (rw_W h q g hm qm gm so sg sx I A M MB L) → va_S B9 s.heap H locs → W p l e (headSpec w_P_readSet ({ frames := 2, cells := 0, slots := 0, locals := 47 })).room s m ([.ref h] : List Value).toArray below meth c H locs 0 0 (MQ below (va_Qv (fun (u : Unit) => u = u) (fun (_ : Unit) t => va_P (dC, dI) vwCl (rw_W h q g hm qm gm so sg sx I' A' M' MB' L') t.heap ∧ va_K (dC, dI) vwCl (rw_T h q g hm qm gm so sg sx) t ∧ va_D B9 (rw_W h q g hm qm gm so sg sx I' A' M' MB' L')) B9) ([.ref h] : List Value).toArray s 0 0 B9) (F0 m 67 ls [])), ∀ (I : MI) (A : MA) (M : MI) (MB : MA) (L : ML) (X : Nat → Int32) (Y : Nat → Int64) (ls : Array Slot) (H : Heap) (locs : List Loc), f_P_readSet_33 sx rc I A M MB L X Y = some (r, I', A', M', MB', L') → lv_has ls 5 [(0, .ref h)] → va_P (dC, dI) vwCl (rw_W h q g hm qm gm so sg sx I A M MB L) H → va_D B9 (rw_W h q g hm qm gm so sg sx I A M MB L) → va_S B9 s.heap H locs → W p l e (headSpec w_P_readSet ({ frames := 2, cells := 0, slots := 0, locals := 47 })).room s m ([.ref h] : List Value).toArray below meth c H locs 0 0 (MQ below (va_Qv (fun (u : Unit) => u = u) (fun (_ : Unit) t => va_P (dC, dI) vwCl (rw_W h q g hm qm gm so sg sx I' A' M' MB' L') t.heap ∧ va_K (dC, dI) vwCl (rw_T h q g hm qm gm so sg sx) t ∧ va_D B9 (rw_W h q g hm qm gm so sg sx I' A' M' MB' L')) B9) ([.ref h] : List Value).toArray s 0 0 B9) (F0 m 33 ls []) := by
    intro rc hrc67 I A M MB L X Y ls H locs hf hl hP hD hS
    unfold f_P_readSet_33 at hf
    refine lv_iconst (v := 0) hx hb d_P_readSet_33 (by decide) ?_
    exact blk34 rc hrc67 I A M MB L X Y 0 _ _ _ hf (lv_sub hl [0] rfl) hP hD hS
  have blk131 : ∀ (rc : Nat → MI → MA → MI → MA → ML → (Nat → Int32) → (Nat → Int64) → Option (Int32 × MI × MA × MI × MA × ML)) (hrc67 : ∀ (I : MI) (A : MA) (M : MI) (MB : MA) (L : ML) (X : Nat → Int32) (Y : Nat → Int64) (ls : Array Slot) (H : Heap) (locs : List Loc), rc 67 I A M MB L X Y = some (r, I', A', M', MB', L') → lv_has ls 5 [(0, .ref h), (1, .int (X 1)), (2, .int (X 2)), (3, .int (X 3)), (4, .int (X 4))] → va_P (dC, dI) vwCl (rw_W h q g hm qm gm so sg sx I A M MB L) H → va_D B9 (rw_W h q g hm qm gm so sg sx I A M MB L) → va_S B9 s.heap H locs → W p l e (headSpec w_P_readSet ({ frames := 2, cells := 0, slots := 0, locals := 47 })).room s m ([.ref h] : List Value).toArray below meth c H locs 0 0 (MQ below (va_Qv (fun (u : Unit) => u = u) (fun (_ : Unit) t => va_P (dC, dI) vwCl (rw_W h q g hm qm gm so sg sx I' A' M' MB' L') t.heap ∧ va_K (dC, dI) vwCl (rw_T h q g hm qm gm so sg sx) t ∧ va_D B9 (rw_W h q g hm qm gm so sg sx I' A' M' MB' L')) B9) ([.ref h] : List Value).toArray s 0 0 B9) (F0 m 67 ls [])), ∀ (I : MI) (A : MA) (M : MI) (MB : MA) (L : ML) (X : Nat → Int32) (Y : Nat → Int64) (ls : Array Slot) (H : Heap) (locs : List Loc), f_P_readSet_131 sx rc I A M MB L X Y = some (r, I', A', M', MB', L') → lv_has ls 5 [(0, .ref h), (1, .int (X 1)), (2, .int (X 2)), (3, .int (X 3)), (4, .int (X 4))] → va_P (dC, dI) vwCl (rw_W h q g hm qm gm so sg sx I A M MB L) H → va_D B9 (rw_W h q g hm qm gm so sg sx I A M MB L) → va_S B9 s.heap H locs → W p l e (headSpec w_P_readSet ({ frames := 2, cells := 0, slots := 0, locals := 47 })).room s m ([.ref h] : List Value).toArray below meth c H locs 0 0 (MQ below (va_Qv (fun (u : Unit) => u = u) (fun (_ : Unit) t => va_P (dC, dI) vwCl (rw_W h q g hm qm gm so sg sx I' A' M' MB' L') t.heap ∧ va_K (dC, dI) vwCl (rw_T h q g hm qm gm so sg sx) t ∧ va_D B9 (rw_W h q g hm qm gm so sg sx I' A' M' MB' L')) B9) ([.ref h] : List Value).toArray s 0 0 B9) (F0 m 131 ls []) := by
    intro rc hrc67 I A M MB L X Y ls H locs hf hl hP hD hS
    unfold f_P_readSet_131 at hf
    refine lv_aload_n hx hb d_P_readSet_131 rfl (lv_at hl 0 rfl) ?_
    refine lv_aload_n hx hb d_P_readSet_132 rfl (lv_at hl 0 rfl) ?_
    refine va_get (D := (dC, dI)) (ci := 2) (v := .int (I 7)) (C := R_P) (T := F_P) (N := 13) hx hb hts (fun w h => List.mem_cons_of_mem _ (in_P w h)) hown hK hP 0 rfl rfl 7 (by decide) (hts _ (List.mem_cons_of_mem _ lk_328)) (fun _ h9 => h9) rfl d_P_readSet_133 ?_
    refine va_put (D := (dC, dI)) (ci := 2) (v := .int (I 7)) (ty := .int) (C := R_P) (T := F_P) (N := 13) hx hb hts (fun w h => List.mem_cons_of_mem _ (in_P w h)) t_P tk_P n_P hown hK hP hD hS 0 rfl rfl 9 (by decide) (hts _ (List.mem_cons_of_mem _ lk_329)) (fun _ h9 => h9) rfl (by decide +kernel) rfl rfl (Nat.le_of_ble_eq_true rfl) d_P_readSet_136 (fun H locs hP hD hS => ?_)
    obtain ⟨I1, hI1, hf⟩ := wk_letE hf
    have hP : va_P (dC, dI) vwCl (rw_W h q g hm qm gm so sg sx I1 A M MB L) H := by rw [hI1]; exact hP
    have hD : va_D B9 (rw_W h q g hm qm gm so sg sx I1 A M MB L) := by rw [hI1]; exact hD
    clear hI1
    obtain ⟨e0, e1, e2, e3, e4, e5⟩ := wk_inj5 hf
    subst e0
    subst e1
    subst e2
    subst e3
    subst e4
    subst e5
    exact W.vret hx hb hr (fun t ht hW => ⟨⟨(), rfl, rfl, by rw [ht]; exact hP, va_K.moved hW.alike hK, hD⟩, hS.F ht⟩) hS.2.2 d_P_readSet_139
  have blk152 : ∀ (rc : Nat → MI → MA → MI → MA → ML → (Nat → Int32) → (Nat → Int64) → Option (Int32 × MI × MA × MI × MA × ML)) (hrc67 : ∀ (I : MI) (A : MA) (M : MI) (MB : MA) (L : ML) (X : Nat → Int32) (Y : Nat → Int64) (ls : Array Slot) (H : Heap) (locs : List Loc), rc 67 I A M MB L X Y = some (r, I', A', M', MB', L') → lv_has ls 5 [(0, .ref h), (1, .int (X 1)), (2, .int (X 2)), (3, .int (X 3)), (4, .int (X 4))] → va_P (dC, dI) vwCl (rw_W h q g hm qm gm so sg sx I A M MB L) H → va_D B9 (rw_W h q g hm qm gm so sg sx I A M MB L) → va_S B9 s.heap H locs → W p l e (headSpec w_P_readSet ({ frames := 2, cells := 0, slots := 0, locals := 47 })).room s m ([.ref h] : List Value).toArray below meth c H locs 0 0 (MQ below (va_Qv (fun (u : Unit) => u = u) (fun (_ : Unit) t => va_P (dC, dI) vwCl (rw_W h q g hm qm gm so sg sx I' A' M' MB' L') t.heap ∧ va_K (dC, dI) vwCl (rw_T h q g hm qm gm so sg sx) t ∧ va_D B9 (rw_W h q g hm qm gm so sg sx I' A' M' MB' L')) B9) ([.ref h] : List Value).toArray s 0 0 B9) (F0 m 67 ls [])), ∀ (I : MI) (A : MA) (M : MI) (MB : MA) (L : ML) (X : Nat → Int32) (Y : Nat → Int64) (ls : Array Slot) (H : Heap) (locs : List Loc), f_P_readSet_152 sx rc I A M MB L X Y = some (r, I', A', M', MB', L') → lv_has ls 5 [(0, .ref h), (1, .int (X 1)), (2, .int (X 2)), (3, .int (X 3)), (4, .int (X 4))] → va_P (dC, dI) vwCl (rw_W h q g hm qm gm so sg sx I A M MB L) H → va_D B9 (rw_W h q g hm qm gm so sg sx I A M MB L) → va_S B9 s.heap H locs → W p l e (headSpec w_P_readSet ({ frames := 2, cells := 0, slots := 0, locals := 47 })).room s m ([.ref h] : List Value).toArray below meth c H locs 0 0 (MQ below (va_Qv (fun (u : Unit) => u = u) (fun (_ : Unit) t => va_P (dC, dI) vwCl (rw_W h q g hm qm gm so sg sx I' A' M' MB' L') t.heap ∧ va_K (dC, dI) vwCl (rw_T h q g hm qm gm so sg sx) t ∧ va_D B9 (rw_W h q g hm qm gm so sg sx I' A' M' MB' L')) B9) ([.ref h] : List Value).toArray s 0 0 B9) (F0 m 152 ls []) := by
    intro rc hrc67 I A M MB L X Y ls H locs hf hl hP hD hS
    unfold f_P_readSet_152 at hf
    obtain ⟨e0, e1, e2, e3, e4, e5⟩ := wk_inj5 hf
    subst e0
    subst e1
    subst e2
    subst e3
    subst e4
    subst e5
    exact W.vret hx hb hr (fun t ht hW => ⟨⟨(), rfl, rfl, by rw [ht]; exact hP, va_K.moved hW.alike hK, hD⟩, hS.F ht⟩) hS.2.2 d_P_readSet_152
  have blk112 : ∀ (rc : Nat → MI → MA → MI → MA → ML → (Nat → Int32) → (Nat → Int64) → Option (Int32 × MI × MA × MI × MA × ML)) (hrc67 : ∀ (I : MI) (A : MA) (M : MI) (MB : MA) (L : ML) (X : Nat → Int32) (Y : Nat → Int64) (ls : Array Slot) (H : Heap) (locs : List Loc), rc 67 I A M MB L X Y = some (r, I', A', M', MB', L') → lv_has ls 5 [(0, .ref h), (1, .int (X 1)), (2, .int (X 2)), (3, .int (X 3)), (4, .int (X 4))] → va_P (dC, dI) vwCl (rw_W h q g hm qm gm so sg sx I A M MB L) H → va_D B9 (rw_W h q g hm qm gm so sg sx I A M MB L) → va_S B9 s.heap H locs → W p l e (headSpec w_P_readSet ({ frames := 2, cells := 0, slots := 0, locals := 47 })).room s m ([.ref h] : List Value).toArray below meth c H locs 0 0 (MQ below (va_Qv (fun (u : Unit) => u = u) (fun (_ : Unit) t => va_P (dC, dI) vwCl (rw_W h q g hm qm gm so sg sx I' A' M' MB' L') t.heap ∧ va_K (dC, dI) vwCl (rw_T h q g hm qm gm so sg sx) t ∧ va_D B9 (rw_W h q g hm qm gm so sg sx I' A' M' MB' L')) B9) ([.ref h] : List Value).toArray s 0 0 B9) (F0 m 67 ls [])), ∀ (I : MI) (A : MA) (M : MI) (MB : MA) (L : ML) (X : Nat → Int32) (Y : Nat → Int64) (ls : Array Slot) (H : Heap) (locs : List Loc), f_P_readSet_112 sx rc I A M MB L X Y = some (r, I', A', M', MB', L') → lv_has ls 5 [(0, .ref h), (1, .int (X 1)), (2, .int (X 2)), (3, .int (X 3)), (4, .int (X 4))] → va_P (dC, dI) vwCl (rw_W h q g hm qm gm so sg sx I A M MB L) H → va_D B9 (rw_W h q g hm qm gm so sg sx I A M MB L) → va_S B9 s.heap H locs → W p l e (headSpec w_P_readSet ({ frames := 2, cells := 0, slots := 0, locals := 47 })).room s m ([.ref h] : List Value).toArray below meth c H locs 0 0 (MQ below (va_Qv (fun (u : Unit) => u = u) (fun (_ : Unit) t => va_P (dC, dI) vwCl (rw_W h q g hm qm gm so sg sx I' A' M' MB' L') t.heap ∧ va_K (dC, dI) vwCl (rw_T h q g hm qm gm so sg sx) t ∧ va_D B9 (rw_W h q g hm qm gm so sg sx I' A' M' MB' L')) B9) ([.ref h] : List Value).toArray s 0 0 B9) (F0 m 112 ls []) := by
    intro rc hrc67 I A M MB L X Y ls H locs hf hl hP hD hS
    unfold f_P_readSet_112 at hf
    refine lv_aload_n hx hb d_P_readSet_112 rfl (lv_at hl 0 rfl) ?_
    refine va_get (D := (dC, dI)) (ci := 2) (v := .int (I 7)) (C := R_P) (T := F_P) (N := 13) hx hb hts (fun w h => List.mem_cons_of_mem _ (in_P w h)) hown hK hP 0 rfl rfl 7 (by decide) (hts _ (List.mem_cons_of_mem _ lk_328)) (fun _ h9 => h9) rfl d_P_readSet_113 ?_
    refine lv_aload_n hx hb d_P_readSet_116 rfl (lv_at hl 0 rfl) ?_
    refine va_get (D := (dC, dI)) (ci := 2) (v := .int (I 6)) (C := R_P) (T := F_P) (N := 13) hx hb hts (fun w h => List.mem_cons_of_mem _ (in_P w h)) hown hK hP 0 rfl rfl 6 (by decide) (hts _ (List.mem_cons_of_mem _ lk_327)) (fun _ h9 => h9) rfl d_P_readSet_117 ?_
    refine lv_icmp_eq (tgt := 131) hx hb d_P_readSet_120 (by decide) (fun hc1 => ?_) (fun hc1 => ?_)
    ·
      have hf := wk_ift hc1 hf
      exact blk131 rc hrc67 I A M MB L X Y _ _ _ hf (lv_sub hl [0, 1, 2, 3, 4] rfl) hP hD hS
    ·
      have hf := wk_iff hc1 hf
      refine lv_aload_n hx hb d_P_readSet_123 rfl (lv_at hl 0 rfl) ?_
      refine va_get (D := (dC, dI)) (ci := 2) (v := .int (I 7)) (C := R_P) (T := F_P) (N := 13) hx hb hts (fun w h => List.mem_cons_of_mem _ (in_P w h)) hown hK hP 0 rfl rfl 7 (by decide) (hts _ (List.mem_cons_of_mem _ lk_328)) (fun _ h9 => h9) rfl d_P_readSet_124 ?_
      refine lv_iload_n hx hb d_P_readSet_127 rfl (lv_at hl 2 rfl) ?_
      refine lv_icmp_ne (tgt := 140) hx hb d_P_readSet_128 (by decide) (fun hc2 => ?_) (fun hc2 => ?_)
      ·
        have hf := wk_iff hc2 hf
        refine lv_iload_n hx hb d_P_readSet_140 rfl (lv_at hl 1 rfl) ?_
        refine lv_if_eq (tgt := 152) hx hb d_P_readSet_141 (by decide) (fun hc3 => ?_) (fun hc3 => ?_)
        ·
          have hf := wk_ift hc3 hf
          exact blk152 rc hrc67 I A M MB L X Y _ _ _ hf (lv_sub hl [0, 1, 2, 3, 4] rfl) hP hD hS
        ·
          have hf := wk_iff hc3 hf
          refine lv_aload_n hx hb d_P_readSet_144 rfl (lv_at hl 0 rfl) ?_
          refine va_get (D := (dC, dI)) (ci := 2) (v := .ref hm) (C := R_P) (T := F_P) (N := 13) hx hb hts (fun w h => List.mem_cons_of_mem _ (in_P w h)) hown hK hP 0 rfl rfl 4 (by decide) (hts _ (List.mem_cons_of_mem _ lk_330)) (fun _ h9 => h9) rfl d_P_readSet_145 ?_
          refine lv_iload_n hx hb d_P_readSet_148 rfl (lv_at hl 3 rfl) ?_
          have hPc := hP.sub (ws' := (aw_W hm qm gm M MB L)) [5, 6, 7, 8, 9, 10] rfl
          have hDc := hD.sub (ws' := (aw_W hm qm gm M MB L)) [5, 6, 7, 8, 9, 10] (by decide) rfl
          have hKc := hK.sub (tys' := (aw_T hm qm gm)) [4, 5, 6, 7, 8] rfl
          have hFc := va_free (wc := (aw_W hm qm gm M MB L)) hD hS hA [5, 6, 7, 8, 9, 10] rfl
          cases hg1 : f_A_takeOtherCodes M MB L (X 3) with
          | none => rw [hg1] at hf; cases hf
          | some z1 =>
            obtain ⟨r1, M1, MB1, L1⟩ := z1
            rw [hg1] at hf
            dsimp only [Option.bind_some] at hf
            refine va_callv (va_runV (As := [.int (X 3)]) (rest := []) ⟨hx, hb, hml, hown, hts⟩ (cm_A_takeOtherCodes l dC dI hm qm gm _  M MB L (X 3) r1 M1 MB1 L1 hg1) (cwV 1 hts (gd_v lk_384 lk_385 lk_386 lk_273 lk_383) rfl rfl rfl (by decide +kernel) ⟨Nat.le_of_ble_eq_true rfl, Nat.le_of_ble_eq_true rfl⟩) ⟨fun a U g mk q => by obtain ⟨q0, q1, qP, qK, qD⟩ := q; exact ⟨q0, q1, qP, va_K.moved (u := U) (U := U.calling g mk a) (Vm.Alike.refl U.vm) qK, qD⟩, va_recv (ci := 3) (q0 := 5) hK hP rfl rfl, fun U hU hW => ⟨rfl, by rw [hU], by rw [hU]; exact hPc, va_K.moved hW.alike hKc, hDc.weaken (fun _ _ _ _ => trivial)⟩⟩ rfl rfl hl.1 rfl (lv_room (Nat.le_of_ble_eq_true rfl)) d_P_readSet_149 ⟨Nat.le_of_ble_eq_true rfl, Nat.le_of_ble_eq_true rfl⟩) hS (fun q _ h => hFc q h) hFc (fun u t H1 locs ht hvm hw hB hz1 hk1 hS => ?_)
            obtain ⟨hP1, hK1, hD1⟩ := hB
            rw [ht] at hP1
            obtain ⟨hP, hD⟩ := va_join (wr := (([0, 1, 2, 3, 4, 11] : List Nat).map (fun i => ((rw_W h q g hm qm gm so sg sx I A M MB L)).getD i (0, .inr (0, []))))) (w1 := (aw_W hm qm gm M1 MB1 L1)) hP hD [5, 6, 7, 8, 9, 10] [0, 1, 2, 3, 4, 11] rfl rfl (by decide) (by decide) hk1 hFc hP1 hD1
            generalize H1 = H at hP hS ⊢
            have hP := hP.sub (ws' := (rw_W h q g hm qm gm so sg sx I A M1 MB1 L1)) [0, 1, 2, 3, 4, 6, 7, 8, 9, 10, 11, 5] rfl
            have hD := hD.sub (ws' := (rw_W h q g hm qm gm so sg sx I A M1 MB1 L1)) [0, 1, 2, 3, 4, 6, 7, 8, 9, 10, 11, 5] (by decide) rfl
            exact blk152 rc hrc67 I A M1 MB1 L1 X Y _ _ _ hf (lv_sub hl [0, 1, 2, 3, 4] rfl) hP hD hS
      ·
        have hf := wk_ift hc2 hf
        exact blk131 rc hrc67 I A M MB L X Y _ _ _ hf (lv_sub hl [0, 1, 2, 3, 4] rfl) hP hD hS
  have stp67 : ∀ (rc : Nat → MI → MA → MI → MA → ML → (Nat → Int32) → (Nat → Int64) → Option (Int32 × MI × MA × MI × MA × ML)) (hrc67 : ∀ (I : MI) (A : MA) (M : MI) (MB : MA) (L : ML) (X : Nat → Int32) (Y : Nat → Int64) (ls : Array Slot) (H : Heap) (locs : List Loc), rc 67 I A M MB L X Y = some (r, I', A', M', MB', L') → lv_has ls 5 [(0, .ref h), (1, .int (X 1)), (2, .int (X 2)), (3, .int (X 3)), (4, .int (X 4))] → va_P (dC, dI) vwCl (rw_W h q g hm qm gm so sg sx I A M MB L) H → va_D B9 (rw_W h q g hm qm gm so sg sx I A M MB L) → va_S B9 s.heap H locs → W p l e (headSpec w_P_readSet ({ frames := 2, cells := 0, slots := 0, locals := 47 })).room s m ([.ref h] : List Value).toArray below meth c H locs 0 0 (MQ below (va_Qv (fun (u : Unit) => u = u) (fun (_ : Unit) t => va_P (dC, dI) vwCl (rw_W h q g hm qm gm so sg sx I' A' M' MB' L') t.heap ∧ va_K (dC, dI) vwCl (rw_T h q g hm qm gm so sg sx) t ∧ va_D B9 (rw_W h q g hm qm gm so sg sx I' A' M' MB' L')) B9) ([.ref h] : List Value).toArray s 0 0 B9) (F0 m 67 ls [])), ∀ (I : MI) (A : MA) (M : MI) (MB : MA) (L : ML) (X : Nat → Int32) (Y : Nat → Int64) (ls : Array Slot) (H : Heap) (locs : List Loc), f_P_readSet_67 sx rc I A M MB L X Y = some (r, I', A', M', MB', L') → lv_has ls 5 [(0, .ref h), (1, .int (X 1)), (2, .int (X 2)), (3, .int (X 3)), (4, .int (X 4))] → va_P (dC, dI) vwCl (rw_W h q g hm qm gm so sg sx I A M MB L) H → va_D B9 (rw_W h q g hm qm gm so sg sx I A M MB L) → va_S B9 s.heap H locs → W p l e (headSpec w_P_readSet ({ frames := 2, cells := 0, slots := 0, locals := 47 })).room s m ([.ref h] : List Value).toArray below meth c H locs 0 0 (MQ below (va_Qv (fun (u : Unit) => u = u) (fun (_ : Unit) t => va_P (dC, dI) vwCl (rw_W h q g hm qm gm so sg sx I' A' M' MB' L') t.heap ∧ va_K (dC, dI) vwCl (rw_T h q g hm qm gm so sg sx) t ∧ va_D B9 (rw_W h q g hm qm gm so sg sx I' A' M' MB' L')) B9) ([.ref h] : List Value).toArray s 0 0 B9) (F0 m 67 ls []) := by
    intro rc hrc67 I A M MB L X Y ls H locs hf hl hP hD hS
    unfold f_P_readSet_67 at hf
    refine lv_iload hx hb d_P_readSet_67 (lv_at hl 4 rfl) ?_
    refine lv_aload_n hx hb d_P_readSet_69 rfl (lv_at hl 0 rfl) ?_
    refine va_get (D := (dC, dI)) (ci := 2) (v := .int (I 6)) (C := R_P) (T := F_P) (N := 13) hx hb hts (fun w h => List.mem_cons_of_mem _ (in_P w h)) hown hK hP 0 rfl rfl 6 (by decide) (hts _ (List.mem_cons_of_mem _ lk_327)) (fun _ h9 => h9) rfl d_P_readSet_70 ?_
    refine lv_icmp_ge (tgt := 112) hx hb d_P_readSet_73 (by decide) (fun hc1 => ?_) (fun hc1 => ?_)
    ·
      have hf := wk_ift hc1 hf
      exact blk112 rc hrc67 I A M MB L X Y _ _ _ hf (lv_sub hl [0, 1, 2, 3, 4] rfl) hP hD hS
    ·
      have hf := wk_iff hc1 hf
      refine lv_aload_n hx hb d_P_readSet_76 rfl (lv_at hl 0 rfl) ?_
      refine va_get (D := (dC, dI)) (ci := 2) (v := .int (I 7)) (C := R_P) (T := F_P) (N := 13) hx hb hts (fun w h => List.mem_cons_of_mem _ (in_P w h)) hown hK hP 0 rfl rfl 7 (by decide) (hts _ (List.mem_cons_of_mem _ lk_328)) (fun _ h9 => h9) rfl d_P_readSet_77 ?_
      refine lv_aload_n hx hb d_P_readSet_80 rfl (lv_at hl 0 rfl) ?_
      refine va_get (D := (dC, dI)) (ci := 2) (v := .int (I 6)) (C := R_P) (T := F_P) (N := 13) hx hb hts (fun w h => List.mem_cons_of_mem _ (in_P w h)) hown hK hP 0 rfl rfl 6 (by decide) (hts _ (List.mem_cons_of_mem _ lk_327)) (fun _ h9 => h9) rfl d_P_readSet_81 ?_
      refine lv_icmp_ge (tgt := 112) hx hb d_P_readSet_84 (by decide) (fun hc2 => ?_) (fun hc2 => ?_)
      ·
        have hf := wk_ift hc2 hf
        exact blk112 rc hrc67 I A M MB L X Y _ _ _ hf (lv_sub hl [0, 1, 2, 3, 4] rfl) hP hD hS
      ·
        have hf := wk_iff hc2 hf
        refine lv_aload_n hx hb d_P_readSet_87 rfl (lv_at hl 0 rfl) ?_
        refine va_get (D := (dC, dI)) (ci := 2) (v := .ref so) (C := R_P) (T := F_P) (N := 13) hx hb hts (fun w h => List.mem_cons_of_mem _ (in_P w h)) hown hK hP 0 rfl rfl 5 (by decide) (hts _ (List.mem_cons_of_mem _ lk_326)) (fun _ h9 => h9) rfl d_P_readSet_88 ?_
        refine lv_aload_n hx hb d_P_readSet_91 rfl (lv_at hl 0 rfl) ?_
        refine va_get (D := (dC, dI)) (ci := 2) (v := .int (I 7)) (C := R_P) (T := F_P) (N := 13) hx hb hts (fun w h => List.mem_cons_of_mem _ (in_P w h)) hown hK hP 0 rfl rfl 7 (by decide) (hts _ (List.mem_cons_of_mem _ lk_328)) (fun _ h9 => h9) rfl d_P_readSet_92 ?_
        obtain ⟨hc3, hf⟩ := wk_if hf
        refine va_cald hx hb hK hP 11 9 rfl rfl (wk_inb_ok hc3) d_P_readSet_95 ?_
        refine lv_bipush (v := 93) hx hb d_P_readSet_96 (by decide) ?_
        refine lv_icmp_eq (tgt := 112) hx hb d_P_readSet_98 (by decide) (fun hc4 => ?_) (fun hc4 => ?_)
        ·
          have hf := wk_ift hc4 hf
          exact blk112 rc hrc67 I A M MB L X Y _ _ _ hf (lv_sub hl [0, 1, 2, 3, 4] rfl) hP hD hS
        ·
          have hf := wk_iff hc4 hf
          refine lv_aload_n hx hb d_P_readSet_101 rfl (lv_at hl 0 rfl) ?_
          refine lv_iload_n hx hb d_P_readSet_102 rfl (lv_at hl 3 rfl) ?_
          have hPc := hP.sub (ws' := (rw_W h q g hm qm gm so sg sx I A M MB L)) [0, 1, 2, 3, 4, 5, 6, 7, 8, 9, 10, 11] rfl
          have hDc := hD.sub (ws' := (rw_W h q g hm qm gm so sg sx I A M MB L)) [0, 1, 2, 3, 4, 5, 6, 7, 8, 9, 10, 11] (by decide) rfl
          have hKc := hK.sub (tys' := (rw_T h q g hm qm gm so sg sx)) [0, 1, 2, 3, 4, 5, 6, 7, 8, 9] rfl
          have hFc := va_free (wc := (rw_W h q g hm qm gm so sg sx I A M MB L)) hD hS hA [0, 1, 2, 3, 4, 5, 6, 7, 8, 9, 10, 11] rfl
          cases hg1 : f_P_readRange sx I A M MB L (X 3) with
          | none => rw [hg1] at hf; cases hf
          | some z1 =>
            obtain ⟨r1, I1, A1, M1, MB1, L1⟩ := z1
            rw [hg1] at hf
            dsimp only [Option.bind_some] at hf
            refine va_callv (va_runV (As := [.int (X 3)]) (rest := []) ⟨hx, hb, hml, hown, hts⟩ (cm_P_readRange l dC dI h q g hm qm gm so sg sx _  I A M MB L (X 3) r1 I1 A1 M1 MB1 L1 hg1) (cwV 1 hts (gd_v lk_380 lk_381 lk_382 lk_348 lk_379) rfl rfl rfl (by decide +kernel) ⟨Nat.le_of_ble_eq_true rfl, Nat.le_of_ble_eq_true rfl⟩) ⟨fun a U g mk q => by obtain ⟨q0, q1, qP, qK, qD⟩ := q; exact ⟨q0, q1, qP, va_K.moved (u := U) (U := U.calling g mk a) (Vm.Alike.refl U.vm) qK, qD⟩, va_recv (ci := 2) (q0 := 0) hK hP rfl rfl, fun U hU hW => ⟨rfl, by rw [hU], by rw [hU]; exact hPc, va_K.moved hW.alike hKc, hDc.weaken (fun _ _ _ _ => trivial)⟩⟩ rfl rfl hl.1 rfl (lv_room (Nat.le_of_ble_eq_true rfl)) d_P_readSet_103 ⟨Nat.le_of_ble_eq_true rfl, Nat.le_of_ble_eq_true rfl⟩) hS (fun q _ h => hFc q h) hFc (fun u t H1 locs ht hvm hw hB hz1 hk1 hS => ?_)
            obtain ⟨hP1, hK1, hD1⟩ := hB
            rw [ht] at hP1
            obtain ⟨hP, hD⟩ := va_join (wr := (([] : List Nat).map (fun i => ((rw_W h q g hm qm gm so sg sx I A M MB L)).getD i (0, .inr (0, []))))) (w1 := (rw_W h q g hm qm gm so sg sx I1 A1 M1 MB1 L1)) hP hD [0, 1, 2, 3, 4, 5, 6, 7, 8, 9, 10, 11] [] rfl rfl (by decide) (by decide) hk1 hFc hP1 hD1
            generalize H1 = H at hP hS ⊢
            have hP := hP.sub (ws' := (rw_W h q g hm qm gm so sg sx I1 A1 M1 MB1 L1)) [0, 1, 2, 3, 4, 5, 6, 7, 8, 9, 10, 11] rfl
            have hD := hD.sub (ws' := (rw_W h q g hm qm gm so sg sx I1 A1 M1 MB1 L1)) [0, 1, 2, 3, 4, 5, 6, 7, 8, 9, 10, 11] (by decide) rfl
            refine lv_iinc (k := 4) (v := ((X 4) + 1)) (lv' := [(4, .int ((X 4) + 1)), (0, .ref h), (1, .int (X 1)), (2, .int (X 2)), (3, .int (X 3))]) hx hb d_P_readSet_106 hl rfl (wk_inc (by decide)) (by decide) rfl (fun ls hl => ?_)
            have hl : lv_has ls 5 [(4, .int ((X 4) + 1)), (0, .ref h), (1, .int (X 1)), (2, .int (X 2)), (3, .int (X 3))] := hl
            refine lv_goto (tgt := 67) hx hb d_P_readSet_109 (by decide) ?_
            exact hrc67 I1 A1 M1 MB1 L1 (upd X 4 ((X 4) + 1)) Y _ _ _ hf (lv_sub hl [1, 2, 3, 4, 0] rfl) hP hD hS
  have key : ∀ n : Nat, (∀ (I : MI) (A : MA) (M : MI) (MB : MA) (L : ML) (X : Nat → Int32) (Y : Nat → Int64) (ls : Array Slot) (H : Heap) (locs : List Loc), f_P_readSet_go sx n 67 I A M MB L X Y = some (r, I', A', M', MB', L') → lv_has ls 5 [(0, .ref h), (1, .int (X 1)), (2, .int (X 2)), (3, .int (X 3)), (4, .int (X 4))] → va_P (dC, dI) vwCl (rw_W h q g hm qm gm so sg sx I A M MB L) H → va_D B9 (rw_W h q g hm qm gm so sg sx I A M MB L) → va_S B9 s.heap H locs → W p l e (headSpec w_P_readSet ({ frames := 2, cells := 0, slots := 0, locals := 47 })).room s m ([.ref h] : List Value).toArray below meth c H locs 0 0 (MQ below (va_Qv (fun (u : Unit) => u = u) (fun (_ : Unit) t => va_P (dC, dI) vwCl (rw_W h q g hm qm gm so sg sx I' A' M' MB' L') t.heap ∧ va_K (dC, dI) vwCl (rw_T h q g hm qm gm so sg sx) t ∧ va_D B9 (rw_W h q g hm qm gm so sg sx I' A' M' MB' L')) B9) ([.ref h] : List Value).toArray s 0 0 B9) (F0 m 67 ls [])) := by
    intro n
    induction n with
    | zero => exact fun I A M MB L X Y ls H locs hf => (by cases hf)
    | succ n ih =>
      have ih67 := ih
      exact stp67 (f_P_readSet_go sx n) ih67
  unfold f_P_readSet f_P_readSet_e at hf
  have hrc67 := key wk_FUEL
  refine lv_aload_n hx hb d_P_readSet_0 rfl (lv_at hl 0 rfl) ?_
  refine va_get (D := (dC, dI)) (ci := 2) (v := .int (I 7)) (C := R_P) (T := F_P) (N := 13) hx hb hts (fun w h => List.mem_cons_of_mem _ (in_P w h)) hown hK hP 0 rfl rfl 7 (by decide) (hts _ (List.mem_cons_of_mem _ lk_328)) (fun _ h9 => h9) rfl d_P_readSet_1 ?_
  refine lv_iconst (v := 1) hx hb d_P_readSet_4 (by decide) ?_
  refine lv_iadd hx hb d_P_readSet_5 ?_
  refine lv_aload_n hx hb d_P_readSet_6 rfl (lv_at hl 0 rfl) ?_
  refine va_get (D := (dC, dI)) (ci := 2) (v := .int (I 6)) (C := R_P) (T := F_P) (N := 13) hx hb hts (fun w h => List.mem_cons_of_mem _ (in_P w h)) hown hK hP 0 rfl rfl 6 (by decide) (hts _ (List.mem_cons_of_mem _ lk_327)) (fun _ h9 => h9) rfl d_P_readSet_7 ?_
  refine lv_icmp_ge (tgt := 33) hx hb d_P_readSet_10 (by decide) (fun hc1 => ?_) (fun hc1 => ?_)
  ·
    have hf := wk_ift hc1 hf
    exact blk33 _ hrc67 I A M MB L (fun _ => 0) (fun _ => 0) _ _ _ hf (lv_sub hl [0] rfl) hP hD hS
  ·
    have hf := wk_iff hc1 hf
    refine lv_aload_n hx hb d_P_readSet_13 rfl (lv_at hl 0 rfl) ?_
    refine va_get (D := (dC, dI)) (ci := 2) (v := .ref so) (C := R_P) (T := F_P) (N := 13) hx hb hts (fun w h => List.mem_cons_of_mem _ (in_P w h)) hown hK hP 0 rfl rfl 5 (by decide) (hts _ (List.mem_cons_of_mem _ lk_326)) (fun _ h9 => h9) rfl d_P_readSet_14 ?_
    refine lv_aload_n hx hb d_P_readSet_17 rfl (lv_at hl 0 rfl) ?_
    refine va_get (D := (dC, dI)) (ci := 2) (v := .int (I 7)) (C := R_P) (T := F_P) (N := 13) hx hb hts (fun w h => List.mem_cons_of_mem _ (in_P w h)) hown hK hP 0 rfl rfl 7 (by decide) (hts _ (List.mem_cons_of_mem _ lk_328)) (fun _ h9 => h9) rfl d_P_readSet_18 ?_
    refine lv_iconst (v := 1) hx hb d_P_readSet_21 (by decide) ?_
    refine lv_iadd hx hb d_P_readSet_22 ?_
    obtain ⟨hc2, hf⟩ := wk_if hf
    refine va_cald hx hb hK hP 11 9 rfl rfl (wk_inb_ok hc2) d_P_readSet_23 ?_
    refine lv_bipush (v := 94) hx hb d_P_readSet_24 (by decide) ?_
    refine lv_icmp_ne (tgt := 33) hx hb d_P_readSet_26 (by decide) (fun hc3 => ?_) (fun hc3 => ?_)
    ·
      have hf := wk_iff hc3 hf
      exact blk33 _ hrc67 I A M MB L (fun _ => 0) (fun _ => 0) _ _ _ hf (lv_sub hl [0] rfl) hP hD hS
    ·
      have hf := wk_ift hc3 hf
      refine lv_iconst (v := 1) hx hb d_P_readSet_29 (by decide) ?_
      refine lv_goto (tgt := 34) hx hb d_P_readSet_30 (by decide) ?_
      exact blk34 _ hrc67 I A M MB L (fun _ => 0) (fun _ => 0) 1 _ _ _ hf (lv_sub hl [0] rfl) hP hD hS

