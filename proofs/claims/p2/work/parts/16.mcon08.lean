set_option maxHeartbeats 8000000 in
set_option maxRecDepth 100000 in
theorem cm_M_inSet (l : Launch) (dC : Nat → ClassId) (dI : Nat → Nat → Nat) (h : Nat) (q : Nat → Nat) (g : Nat → ClassId) (sz : Nat) (I : MI) (A : MA) (k1 k2 k3 : Int32) (r : Int32) (I' : MI) (A' : MA) (hf : f_M_inSet I A k1 k2 k3 = some (r, I', A')) : Met l y_M_inSet w_M_inSet ({ frames := 0, cells := 0, slots := 0, locals := 0 }) (va_Pc [.ref h, .int k1, .int k2, .int k3] (fun U => U.heap.size = sz ∧ va_P (dC, dI) vwCl (mw_W h q g I A) U.heap ∧ va_K (dC, dI) vwCl (mw_T g) U ∧ va_D (fun _ => True) (mw_W h q g I A))) (va_Qi (fun (r9 : Int32) (_ : Unit) => r9 = r) (fun (_ : Unit) t => va_P (dC, dI) vwCl (mw_W h q g I' A') t.heap ∧ va_K (dC, dI) vwCl (mw_T g) t ∧ va_D (va_A (mw_W h q g I A) sz) (mw_W h q g I' A')) (va_A (mw_W h q g I A) sz)) 0 0 (va_A (mw_W h q g I A) sz) := by
  refine Met.ofW (cc := prog_6_method_38_code) (maxL := 9) (ret := (some .boolean)) (by decide) rfl ?_
  intro p e s m args below meth c s₁ B hml hv
  obtain ⟨rfl, hsz, hP, hK, hD0⟩ := hv
  have hx := B.exec
  have hb := B.bytes
  have hr := B.returns
  have hts := atoms_spec (ws := w_M_inSet) B.pre
  have hown : s.vm.findClass R_M = some m.cls := findClass_of_methodNamed B.named
  have hlocks := B.notSynchronized
  subst hsz
  have hD := hD0.self (sz := s.heap.size)
  generalize hAe : va_A (mw_W h q g I A) s.heap.size = B9 at hD ⊢
  have hA : ∀ q : Nat, s.heap.size ≤ q → B9 q := fun q h => by rw [← hAe]; exact Or.inr h
  clear hAe
  have hS : va_S B9 s.heap s.heap [] := va_S.rf
  have hl := lv_entry ([.ref h, .int k1, .int k2, .int k3]) (n := 9) (Nat.le_of_ble_eq_true rfl)
  rw [lg_entry_eq]
  generalize (lg_sl ([.ref h, .int k1, .int k2, .int k3]) ++ List.replicate (9 - (lg_sl ([.ref h, .int k1, .int k2, .int k3])).length) Slot.unset).toArray = ls at hl ⊢
  have hl : lv_has ls 9 [(0, .ref h), (1, .int k1), (2, .int k2), (3, .int k3)] := hl
  have blk33 : ∀ (rc : Nat → MI → MA → (Nat → Int32) → Option (Int32 × MI × MA)) (hrc35 : ∀ (I : MI) (A : MA) (X : Nat → Int32) (ls : Array Slot) (H : Heap) (locs : List Loc), rc 35 I A X = some (r, I', A') → lv_has ls 9 [(0, .ref h), (1, .int (X 1)), (2, .int (X 2)), (3, .int (X 3)), (4, .int (X 4)), (5, .int (X 5)), (6, .int (X 6))] → va_P (dC, dI) vwCl (mw_W h q g I A) H → va_D B9 (mw_W h q g I A) → va_S B9 s.heap H locs → W p l e (headSpec w_M_inSet ({ frames := 0, cells := 0, slots := 0, locals := 0 })).room s m ([.ref h, .int k1, .int k2, .int k3] : List Value).toArray below meth c H locs 0 0 (MQ below (va_Qi (fun (r9 : Int32) (_ : Unit) => r9 = r) (fun (_ : Unit) t => va_P (dC, dI) vwCl (mw_W h q g I' A') t.heap ∧ va_K (dC, dI) vwCl (mw_T g) t ∧ va_D B9 (mw_W h q g I' A')) B9) ([.ref h, .int k1, .int k2, .int k3] : List Value).toArray s 0 0 B9) (F0 m 35 ls [])), ∀ (I : MI) (A : MA) (X : Nat → Int32) (s0 : Int32) (ls : Array Slot) (H : Heap) (locs : List Loc), f_M_inSet_33 rc I A X s0 = some (r, I', A') → lv_has ls 9 [(0, .ref h), (1, .int (X 1)), (2, .int (X 2)), (3, .int (X 3)), (4, .int (X 4)), (5, .int (X 5))] → va_P (dC, dI) vwCl (mw_W h q g I A) H → va_D B9 (mw_W h q g I A) → va_S B9 s.heap H locs → W p l e (headSpec w_M_inSet ({ frames := 0, cells := 0, slots := 0, locals := 0 })).room s m ([.ref h, .int k1, .int k2, .int k3] : List Value).toArray below meth c H locs 0 0 (MQ below (va_Qi (fun (r9 : Int32) (_ : Unit) => r9 = r) (fun (_ : Unit) t => va_P (dC, dI) vwCl (mw_W h q g I' A') t.heap ∧ va_K (dC, dI) vwCl (mw_T g) t ∧ va_D B9 (mw_W h q g I' A')) B9) ([.ref h, .int k1, .int k2, .int k3] : List Value).toArray s 0 0 B9) (F0 m 33 ls [.int s0]) := by
    intro rc hrc35 I A X s0 ls H locs hf hl hP hD hS
    unfold f_M_inSet_33 at hf
    refine lv_istore (lv' := [(6, .int s0), (0, .ref h), (1, .int (X 1)), (2, .int (X 2)), (3, .int (X 3)), (4, .int (X 4)), (5, .int (X 5))]) hx hb d_M_inSet_33 hl (by decide) rfl (fun ls hl => ?_)
    have hl : lv_has ls 9 [(6, .int s0), (0, .ref h), (1, .int (X 1)), (2, .int (X 2)), (3, .int (X 3)), (4, .int (X 4)), (5, .int (X 5))] := hl
    exact hrc35 I A (upd X 6 s0) _ _ _ hf (lv_sub hl [1, 2, 3, 4, 5, 6, 0] rfl) hP hD hS
  have blk16 : ∀ (rc : Nat → MI → MA → (Nat → Int32) → Option (Int32 × MI × MA)) (hrc35 : ∀ (I : MI) (A : MA) (X : Nat → Int32) (ls : Array Slot) (H : Heap) (locs : List Loc), rc 35 I A X = some (r, I', A') → lv_has ls 9 [(0, .ref h), (1, .int (X 1)), (2, .int (X 2)), (3, .int (X 3)), (4, .int (X 4)), (5, .int (X 5)), (6, .int (X 6))] → va_P (dC, dI) vwCl (mw_W h q g I A) H → va_D B9 (mw_W h q g I A) → va_S B9 s.heap H locs → W p l e (headSpec w_M_inSet ({ frames := 0, cells := 0, slots := 0, locals := 0 })).room s m ([.ref h, .int k1, .int k2, .int k3] : List Value).toArray below meth c H locs 0 0 (MQ below (va_Qi (fun (r9 : Int32) (_ : Unit) => r9 = r) (fun (_ : Unit) t => va_P (dC, dI) vwCl (mw_W h q g I' A') t.heap ∧ va_K (dC, dI) vwCl (mw_T g) t ∧ va_D B9 (mw_W h q g I' A')) B9) ([.ref h, .int k1, .int k2, .int k3] : List Value).toArray s 0 0 B9) (F0 m 35 ls [])), ∀ (I : MI) (A : MA) (X : Nat → Int32) (s0 : Int32) (ls : Array Slot) (H : Heap) (locs : List Loc), f_M_inSet_16 rc I A X s0 = some (r, I', A') → lv_has ls 9 [(0, .ref h), (1, .int (X 1)), (2, .int (X 2)), (3, .int (X 3))] → va_P (dC, dI) vwCl (mw_W h q g I A) H → va_D B9 (mw_W h q g I A) → va_S B9 s.heap H locs → W p l e (headSpec w_M_inSet ({ frames := 0, cells := 0, slots := 0, locals := 0 })).room s m ([.ref h, .int k1, .int k2, .int k3] : List Value).toArray below meth c H locs 0 0 (MQ below (va_Qi (fun (r9 : Int32) (_ : Unit) => r9 = r) (fun (_ : Unit) t => va_P (dC, dI) vwCl (mw_W h q g I' A') t.heap ∧ va_K (dC, dI) vwCl (mw_T g) t ∧ va_D B9 (mw_W h q g I' A')) B9) ([.ref h, .int k1, .int k2, .int k3] : List Value).toArray s 0 0 B9) (F0 m 16 ls [.int s0]) := by
    intro rc hrc35 I A X s0 ls H locs hf hl hP hD hS
    unfold f_M_inSet_16 at hf
    refine lv_istore (lv' := [(4, .int s0), (0, .ref h), (1, .int (X 1)), (2, .int (X 2)), (3, .int (X 3))]) hx hb d_M_inSet_16 hl (by decide) rfl (fun ls hl => ?_)
    have hl : lv_has ls 9 [(4, .int s0), (0, .ref h), (1, .int (X 1)), (2, .int (X 2)), (3, .int (X 3))] := hl
    refine lv_iconst (v := 0) hx hb d_M_inSet_18 (by decide) ?_
    refine lv_istore (lv' := [(5, .int 0), (4, .int s0), (0, .ref h), (1, .int (X 1)), (2, .int (X 2)), (3, .int (X 3))]) hx hb d_M_inSet_19 hl (by decide) rfl (fun ls hl => ?_)
    have hl : lv_has ls 9 [(5, .int 0), (4, .int s0), (0, .ref h), (1, .int (X 1)), (2, .int (X 2)), (3, .int (X 3))] := hl
    refine lv_iload hx hb d_M_inSet_21 (lv_at hl 1 rfl) ?_
    refine lv_if_eq (tgt := 32) hx hb d_M_inSet_23 (by decide) (fun hc1 => ?_) (fun hc1 => ?_)
    ·
      have hf := wk_ift hc1 hf
      refine lv_iload_n hx hb d_M_inSet_32 rfl (lv_at hl 4 rfl) ?_
      exact blk33 rc hrc35 I A (upd (upd X 4 s0) 5 0) (X 2) _ _ _ hf (lv_sub hl [2, 3, 4, 5, 1, 0] rfl) hP hD hS
    ·
      have hf := wk_iff hc1 hf
      refine lv_iload_n hx hb d_M_inSet_26 rfl (lv_at hl 4 rfl) ?_
      refine lv_iconst (v := 1) hx hb d_M_inSet_27 (by decide) ?_
      refine lv_iadd hx hb d_M_inSet_28 ?_
      refine lv_goto (tgt := 33) hx hb d_M_inSet_29 (by decide) ?_
      exact blk33 rc hrc35 I A (upd (upd X 4 s0) 5 0) ((X 2) + 1) _ _ _ hf (lv_sub hl [2, 3, 4, 5, 1, 0] rfl) hP hD hS
  have blk174 : ∀ (rc : Nat → MI → MA → (Nat → Int32) → Option (Int32 × MI × MA)) (hrc35 : ∀ (I : MI) (A : MA) (X : Nat → Int32) (ls : Array Slot) (H : Heap) (locs : List Loc), rc 35 I A X = some (r, I', A') → lv_has ls 9 [(0, .ref h), (1, .int (X 1)), (2, .int (X 2)), (3, .int (X 3)), (4, .int (X 4)), (5, .int (X 5)), (6, .int (X 6))] → va_P (dC, dI) vwCl (mw_W h q g I A) H → va_D B9 (mw_W h q g I A) → va_S B9 s.heap H locs → W p l e (headSpec w_M_inSet ({ frames := 0, cells := 0, slots := 0, locals := 0 })).room s m ([.ref h, .int k1, .int k2, .int k3] : List Value).toArray below meth c H locs 0 0 (MQ below (va_Qi (fun (r9 : Int32) (_ : Unit) => r9 = r) (fun (_ : Unit) t => va_P (dC, dI) vwCl (mw_W h q g I' A') t.heap ∧ va_K (dC, dI) vwCl (mw_T g) t ∧ va_D B9 (mw_W h q g I' A')) B9) ([.ref h, .int k1, .int k2, .int k3] : List Value).toArray s 0 0 B9) (F0 m 35 ls [])), ∀ (I : MI) (A : MA) (X : Nat → Int32) (s0 : Int32) (ls : Array Slot) (H : Heap) (locs : List Loc), f_M_inSet_174 rc I A X s0 = some (r, I', A') → lv_has ls 9 [(0, .ref h), (1, .int (X 1)), (2, .int (X 2)), (3, .int (X 3)), (4, .int (X 4)), (5, .int (X 5)), (6, .int (X 6))] → va_P (dC, dI) vwCl (mw_W h q g I A) H → va_D B9 (mw_W h q g I A) → va_S B9 s.heap H locs → W p l e (headSpec w_M_inSet ({ frames := 0, cells := 0, slots := 0, locals := 0 })).room s m ([.ref h, .int k1, .int k2, .int k3] : List Value).toArray below meth c H locs 0 0 (MQ below (va_Qi (fun (r9 : Int32) (_ : Unit) => r9 = r) (fun (_ : Unit) t => va_P (dC, dI) vwCl (mw_W h q g I' A') t.heap ∧ va_K (dC, dI) vwCl (mw_T g) t ∧ va_D B9 (mw_W h q g I' A')) B9) ([.ref h, .int k1, .int k2, .int k3] : List Value).toArray s 0 0 B9) (F0 m 174 ls [.int s0]) := by
    intro rc hrc35 I A X s0 ls H locs hf hl hP hD hS
    unfold f_M_inSet_174 at hf
    obtain ⟨hn9, hf⟩ := wk_if hf
    obtain ⟨e1, e2, e3⟩ := wk_inj hf
    subst e1
    subst e2
    subst e3
    exact W.zret (v := s0) hx hb hr (congrArg Value.int hn9) (fun t ht hW => ⟨⟨s0, (), rfl, rfl, by rw [ht]; exact hP, va_K.moved hW.alike hK, hD⟩, hS.F ht⟩) hS.2.2 d_M_inSet_174
  have blk156 : ∀ (rc : Nat → MI → MA → (Nat → Int32) → Option (Int32 × MI × MA)) (hrc35 : ∀ (I : MI) (A : MA) (X : Nat → Int32) (ls : Array Slot) (H : Heap) (locs : List Loc), rc 35 I A X = some (r, I', A') → lv_has ls 9 [(0, .ref h), (1, .int (X 1)), (2, .int (X 2)), (3, .int (X 3)), (4, .int (X 4)), (5, .int (X 5)), (6, .int (X 6))] → va_P (dC, dI) vwCl (mw_W h q g I A) H → va_D B9 (mw_W h q g I A) → va_S B9 s.heap H locs → W p l e (headSpec w_M_inSet ({ frames := 0, cells := 0, slots := 0, locals := 0 })).room s m ([.ref h, .int k1, .int k2, .int k3] : List Value).toArray below meth c H locs 0 0 (MQ below (va_Qi (fun (r9 : Int32) (_ : Unit) => r9 = r) (fun (_ : Unit) t => va_P (dC, dI) vwCl (mw_W h q g I' A') t.heap ∧ va_K (dC, dI) vwCl (mw_T g) t ∧ va_D B9 (mw_W h q g I' A')) B9) ([.ref h, .int k1, .int k2, .int k3] : List Value).toArray s 0 0 B9) (F0 m 35 ls [])), ∀ (I : MI) (A : MA) (X : Nat → Int32) (s0 : Int32) (s1 : Int32) (ls : Array Slot) (H : Heap) (locs : List Loc), f_M_inSet_156 rc I A X s0 s1 = some (r, I', A') → lv_has ls 9 [(0, .ref h), (1, .int (X 1)), (2, .int (X 2)), (3, .int (X 3)), (4, .int (X 4)), (5, .int (X 5)), (6, .int (X 6)), (7, .int (X 7)), (8, .int (X 8))] → va_P (dC, dI) vwCl (mw_W h q g I A) H → va_D B9 (mw_W h q g I A) → va_S B9 s.heap H locs → W p l e (headSpec w_M_inSet ({ frames := 0, cells := 0, slots := 0, locals := 0 })).room s m ([.ref h, .int k1, .int k2, .int k3] : List Value).toArray below meth c H locs 0 0 (MQ below (va_Qi (fun (r9 : Int32) (_ : Unit) => r9 = r) (fun (_ : Unit) t => va_P (dC, dI) vwCl (mw_W h q g I' A') t.heap ∧ va_K (dC, dI) vwCl (mw_T g) t ∧ va_D B9 (mw_W h q g I' A')) B9) ([.ref h, .int k1, .int k2, .int k3] : List Value).toArray s 0 0 B9) (F0 m 156 ls [.int s0, .int s1]) := by
    intro rc hrc35 I A X s0 s1 ls H locs hf hl hP hD hS
    unfold f_M_inSet_156 at hf
    refine lv_iadd hx hb d_M_inSet_156 ?_
    refine lv_istore (lv' := [(6, .int (s1 + s0)), (0, .ref h), (1, .int (X 1)), (2, .int (X 2)), (3, .int (X 3)), (4, .int (X 4)), (5, .int (X 5)), (7, .int (X 7)), (8, .int (X 8))]) hx hb d_M_inSet_157 hl (by decide) rfl (fun ls hl => ?_)
    have hl : lv_has ls 9 [(6, .int (s1 + s0)), (0, .ref h), (1, .int (X 1)), (2, .int (X 2)), (3, .int (X 3)), (4, .int (X 4)), (5, .int (X 5)), (7, .int (X 7)), (8, .int (X 8))] := hl
    refine lv_goto (tgt := 35) hx hb d_M_inSet_159 (by decide) ?_
    exact hrc35 I A (upd X 6 (s1 + s0)) _ _ _ hf (lv_sub hl [1, 2, 3, 4, 5, 6, 0] rfl) hP hD hS
  have blk142 : ∀ (rc : Nat → MI → MA → (Nat → Int32) → Option (Int32 × MI × MA)) (hrc35 : ∀ (I : MI) (A : MA) (X : Nat → Int32) (ls : Array Slot) (H : Heap) (locs : List Loc), rc 35 I A X = some (r, I', A') → lv_has ls 9 [(0, .ref h), (1, .int (X 1)), (2, .int (X 2)), (3, .int (X 3)), (4, .int (X 4)), (5, .int (X 5)), (6, .int (X 6))] → va_P (dC, dI) vwCl (mw_W h q g I A) H → va_D B9 (mw_W h q g I A) → va_S B9 s.heap H locs → W p l e (headSpec w_M_inSet ({ frames := 0, cells := 0, slots := 0, locals := 0 })).room s m ([.ref h, .int k1, .int k2, .int k3] : List Value).toArray below meth c H locs 0 0 (MQ below (va_Qi (fun (r9 : Int32) (_ : Unit) => r9 = r) (fun (_ : Unit) t => va_P (dC, dI) vwCl (mw_W h q g I' A') t.heap ∧ va_K (dC, dI) vwCl (mw_T g) t ∧ va_D B9 (mw_W h q g I' A')) B9) ([.ref h, .int k1, .int k2, .int k3] : List Value).toArray s 0 0 B9) (F0 m 35 ls [])), ∀ (I : MI) (A : MA) (X : Nat → Int32) (s0 : Int32) (ls : Array Slot) (H : Heap) (locs : List Loc), f_M_inSet_142 rc I A X s0 = some (r, I', A') → lv_has ls 9 [(0, .ref h), (1, .int (X 1)), (2, .int (X 2)), (3, .int (X 3)), (4, .int (X 4)), (5, .int (X 5)), (6, .int (X 6)), (7, .int (X 7)), (8, .int (X 8))] → va_P (dC, dI) vwCl (mw_W h q g I A) H → va_D B9 (mw_W h q g I A) → va_S B9 s.heap H locs → W p l e (headSpec w_M_inSet ({ frames := 0, cells := 0, slots := 0, locals := 0 })).room s m ([.ref h, .int k1, .int k2, .int k3] : List Value).toArray below meth c H locs 0 0 (MQ below (va_Qi (fun (r9 : Int32) (_ : Unit) => r9 = r) (fun (_ : Unit) t => va_P (dC, dI) vwCl (mw_W h q g I' A') t.heap ∧ va_K (dC, dI) vwCl (mw_T g) t ∧ va_D B9 (mw_W h q g I' A')) B9) ([.ref h, .int k1, .int k2, .int k3] : List Value).toArray s 0 0 B9) (F0 m 142 ls [.int s0]) := by
    intro rc hrc35 I A X s0 ls H locs hf hl hP hD hS
    unfold f_M_inSet_142 at hf
    refine lv_istore (lv' := [(5, .int s0), (0, .ref h), (1, .int (X 1)), (2, .int (X 2)), (3, .int (X 3)), (4, .int (X 4)), (6, .int (X 6)), (7, .int (X 7)), (8, .int (X 8))]) hx hb d_M_inSet_142 hl (by decide) rfl (fun ls hl => ?_)
    have hl : lv_has ls 9 [(5, .int s0), (0, .ref h), (1, .int (X 1)), (2, .int (X 2)), (3, .int (X 3)), (4, .int (X 4)), (6, .int (X 6)), (7, .int (X 7)), (8, .int (X 8))] := hl
    refine lv_iload hx hb d_M_inSet_144 (lv_at hl 6 rfl) ?_
    refine lv_iload hx hb d_M_inSet_146 (lv_at hl 7 rfl) ?_
    refine lv_if_eq (tgt := 155) hx hb d_M_inSet_148 (by decide) (fun hc1 => ?_) (fun hc1 => ?_)
    ·
      have hf := wk_ift hc1 hf
      refine lv_iconst (v := 1) hx hb d_M_inSet_155 (by decide) ?_
      exact blk156 rc hrc35 I A (upd X 5 s0) 1 (X 6) _ _ _ hf (lv_sub hl [1, 2, 3, 4, 5, 0, 6, 7, 8] rfl) hP hD hS
    ·
      have hf := wk_iff hc1 hf
      refine lv_iconst (v := 3) hx hb d_M_inSet_151 (by decide) ?_
      refine lv_goto (tgt := 156) hx hb d_M_inSet_152 (by decide) ?_
      exact blk156 rc hrc35 I A (upd X 5 s0) 3 (X 6) _ _ _ hf (lv_sub hl [1, 2, 3, 4, 5, 0, 6, 7, 8] rfl) hP hD hS
  have blk137 : ∀ (rc : Nat → MI → MA → (Nat → Int32) → Option (Int32 × MI × MA)) (hrc35 : ∀ (I : MI) (A : MA) (X : Nat → Int32) (ls : Array Slot) (H : Heap) (locs : List Loc), rc 35 I A X = some (r, I', A') → lv_has ls 9 [(0, .ref h), (1, .int (X 1)), (2, .int (X 2)), (3, .int (X 3)), (4, .int (X 4)), (5, .int (X 5)), (6, .int (X 6))] → va_P (dC, dI) vwCl (mw_W h q g I A) H → va_D B9 (mw_W h q g I A) → va_S B9 s.heap H locs → W p l e (headSpec w_M_inSet ({ frames := 0, cells := 0, slots := 0, locals := 0 })).room s m ([.ref h, .int k1, .int k2, .int k3] : List Value).toArray below meth c H locs 0 0 (MQ below (va_Qi (fun (r9 : Int32) (_ : Unit) => r9 = r) (fun (_ : Unit) t => va_P (dC, dI) vwCl (mw_W h q g I' A') t.heap ∧ va_K (dC, dI) vwCl (mw_T g) t ∧ va_D B9 (mw_W h q g I' A')) B9) ([.ref h, .int k1, .int k2, .int k3] : List Value).toArray s 0 0 B9) (F0 m 35 ls [])), ∀ (I : MI) (A : MA) (X : Nat → Int32) (ls : Array Slot) (H : Heap) (locs : List Loc), f_M_inSet_137 rc I A X = some (r, I', A') → lv_has ls 9 [(0, .ref h), (1, .int (X 1)), (2, .int (X 2)), (3, .int (X 3)), (4, .int (X 4)), (5, .int (X 5)), (6, .int (X 6)), (7, .int (X 7)), (8, .int (X 8))] → va_P (dC, dI) vwCl (mw_W h q g I A) H → va_D B9 (mw_W h q g I A) → va_S B9 s.heap H locs → W p l e (headSpec w_M_inSet ({ frames := 0, cells := 0, slots := 0, locals := 0 })).room s m ([.ref h, .int k1, .int k2, .int k3] : List Value).toArray below meth c H locs 0 0 (MQ below (va_Qi (fun (r9 : Int32) (_ : Unit) => r9 = r) (fun (_ : Unit) t => va_P (dC, dI) vwCl (mw_W h q g I' A') t.heap ∧ va_K (dC, dI) vwCl (mw_T g) t ∧ va_D B9 (mw_W h q g I' A')) B9) ([.ref h, .int k1, .int k2, .int k3] : List Value).toArray s 0 0 B9) (F0 m 137 ls []) := by
    intro rc hrc35 I A X ls H locs hf hl hP hD hS
    unfold f_M_inSet_137 at hf
    refine lv_iconst (v := 1) hx hb d_M_inSet_137 (by decide) ?_
    refine lv_goto (tgt := 142) hx hb d_M_inSet_138 (by decide) ?_
    exact blk142 rc hrc35 I A X 1 _ _ _ hf (lv_sub hl [0, 1, 2, 3, 4, 5, 6, 7, 8] rfl) hP hD hS
  have blk141 : ∀ (rc : Nat → MI → MA → (Nat → Int32) → Option (Int32 × MI × MA)) (hrc35 : ∀ (I : MI) (A : MA) (X : Nat → Int32) (ls : Array Slot) (H : Heap) (locs : List Loc), rc 35 I A X = some (r, I', A') → lv_has ls 9 [(0, .ref h), (1, .int (X 1)), (2, .int (X 2)), (3, .int (X 3)), (4, .int (X 4)), (5, .int (X 5)), (6, .int (X 6))] → va_P (dC, dI) vwCl (mw_W h q g I A) H → va_D B9 (mw_W h q g I A) → va_S B9 s.heap H locs → W p l e (headSpec w_M_inSet ({ frames := 0, cells := 0, slots := 0, locals := 0 })).room s m ([.ref h, .int k1, .int k2, .int k3] : List Value).toArray below meth c H locs 0 0 (MQ below (va_Qi (fun (r9 : Int32) (_ : Unit) => r9 = r) (fun (_ : Unit) t => va_P (dC, dI) vwCl (mw_W h q g I' A') t.heap ∧ va_K (dC, dI) vwCl (mw_T g) t ∧ va_D B9 (mw_W h q g I' A')) B9) ([.ref h, .int k1, .int k2, .int k3] : List Value).toArray s 0 0 B9) (F0 m 35 ls [])), ∀ (I : MI) (A : MA) (X : Nat → Int32) (ls : Array Slot) (H : Heap) (locs : List Loc), f_M_inSet_141 rc I A X = some (r, I', A') → lv_has ls 9 [(0, .ref h), (1, .int (X 1)), (2, .int (X 2)), (3, .int (X 3)), (4, .int (X 4)), (5, .int (X 5)), (6, .int (X 6)), (7, .int (X 7)), (8, .int (X 8))] → va_P (dC, dI) vwCl (mw_W h q g I A) H → va_D B9 (mw_W h q g I A) → va_S B9 s.heap H locs → W p l e (headSpec w_M_inSet ({ frames := 0, cells := 0, slots := 0, locals := 0 })).room s m ([.ref h, .int k1, .int k2, .int k3] : List Value).toArray below meth c H locs 0 0 (MQ below (va_Qi (fun (r9 : Int32) (_ : Unit) => r9 = r) (fun (_ : Unit) t => va_P (dC, dI) vwCl (mw_W h q g I' A') t.heap ∧ va_K (dC, dI) vwCl (mw_T g) t ∧ va_D B9 (mw_W h q g I' A')) B9) ([.ref h, .int k1, .int k2, .int k3] : List Value).toArray s 0 0 B9) (F0 m 141 ls []) := by
    intro rc hrc35 I A X ls H locs hf hl hP hD hS
    unfold f_M_inSet_141 at hf
    refine lv_iconst (v := 0) hx hb d_M_inSet_141 (by decide) ?_
    exact blk142 rc hrc35 I A X 0 _ _ _ hf (lv_sub hl [0, 1, 2, 3, 4, 5, 6, 7, 8] rfl) hP hD hS
  have blk113 : ∀ (rc : Nat → MI → MA → (Nat → Int32) → Option (Int32 × MI × MA)) (hrc35 : ∀ (I : MI) (A : MA) (X : Nat → Int32) (ls : Array Slot) (H : Heap) (locs : List Loc), rc 35 I A X = some (r, I', A') → lv_has ls 9 [(0, .ref h), (1, .int (X 1)), (2, .int (X 2)), (3, .int (X 3)), (4, .int (X 4)), (5, .int (X 5)), (6, .int (X 6))] → va_P (dC, dI) vwCl (mw_W h q g I A) H → va_D B9 (mw_W h q g I A) → va_S B9 s.heap H locs → W p l e (headSpec w_M_inSet ({ frames := 0, cells := 0, slots := 0, locals := 0 })).room s m ([.ref h, .int k1, .int k2, .int k3] : List Value).toArray below meth c H locs 0 0 (MQ below (va_Qi (fun (r9 : Int32) (_ : Unit) => r9 = r) (fun (_ : Unit) t => va_P (dC, dI) vwCl (mw_W h q g I' A') t.heap ∧ va_K (dC, dI) vwCl (mw_T g) t ∧ va_D B9 (mw_W h q g I' A')) B9) ([.ref h, .int k1, .int k2, .int k3] : List Value).toArray s 0 0 B9) (F0 m 35 ls [])), ∀ (I : MI) (A : MA) (X : Nat → Int32) (s0 : Int32) (ls : Array Slot) (H : Heap) (locs : List Loc), f_M_inSet_113 rc I A X s0 = some (r, I', A') → lv_has ls 9 [(0, .ref h), (1, .int (X 1)), (2, .int (X 2)), (3, .int (X 3)), (4, .int (X 4)), (5, .int (X 5)), (6, .int (X 6)), (7, .int (X 7))] → va_P (dC, dI) vwCl (mw_W h q g I A) H → va_D B9 (mw_W h q g I A) → va_S B9 s.heap H locs → W p l e (headSpec w_M_inSet ({ frames := 0, cells := 0, slots := 0, locals := 0 })).room s m ([.ref h, .int k1, .int k2, .int k3] : List Value).toArray below meth c H locs 0 0 (MQ below (va_Qi (fun (r9 : Int32) (_ : Unit) => r9 = r) (fun (_ : Unit) t => va_P (dC, dI) vwCl (mw_W h q g I' A') t.heap ∧ va_K (dC, dI) vwCl (mw_T g) t ∧ va_D B9 (mw_W h q g I' A')) B9) ([.ref h, .int k1, .int k2, .int k3] : List Value).toArray s 0 0 B9) (F0 m 113 ls [.int s0]) := by
    intro rc hrc35 I A X s0 ls H locs hf hl hP hD hS
    unfold f_M_inSet_113 at hf
    refine lv_istore (lv' := [(8, .int s0), (0, .ref h), (1, .int (X 1)), (2, .int (X 2)), (3, .int (X 3)), (4, .int (X 4)), (5, .int (X 5)), (6, .int (X 6)), (7, .int (X 7))]) hx hb d_M_inSet_113 hl (by decide) rfl (fun ls hl => ?_)
    have hl : lv_has ls 9 [(8, .int s0), (0, .ref h), (1, .int (X 1)), (2, .int (X 2)), (3, .int (X 3)), (4, .int (X 4)), (5, .int (X 5)), (6, .int (X 6)), (7, .int (X 7))] := hl
    refine lv_iload hx hb d_M_inSet_115 (lv_at hl 6 rfl) ?_
    refine lv_if_ne (tgt := 137) hx hb d_M_inSet_117 (by decide) (fun hc1 => ?_) (fun hc1 => ?_)
    ·
      have hf := wk_iff hc1 hf
      exact blk137 rc hrc35 I A (upd X 8 s0) _ _ _ hf (lv_sub hl [1, 2, 3, 4, 5, 6, 7, 8, 0] rfl) hP hD hS
    ·
      have hf := wk_ift hc1 hf
      refine lv_iload_n hx hb d_M_inSet_120 rfl (lv_at hl 2 rfl) ?_
      refine lv_aload_n hx hb d_M_inSet_121 rfl (lv_at hl 1 rfl) ?_
      refine va_get (D := (dC, dI)) (ci := 4) (v := .ref (q 16)) (C := R_M) (T := F_M) (N := 38) hx hb hts (fun w h => List.mem_cons_of_mem _ (in_M w h)) hown hK hP 0 rfl rfl 16 (by decide) (hts _ (List.mem_cons_of_mem _ lk_77)) (fun _ h9 => h9) rfl d_M_inSet_122 ?_
      refine lv_iload hx hb d_M_inSet_125 (lv_at hl 7 rfl) ?_
      obtain ⟨hc2, hf⟩ := wk_if hf
      refine va_cald hx hb hK hP 7 6 rfl rfl (wk_inb_ok hc2) d_M_inSet_127 ?_
      refine lv_icmp_lt (tgt := 141) hx hb d_M_inSet_128 (by decide) (fun hc3 => ?_) (fun hc3 => ?_)
      ·
        have hf := wk_ift hc3 hf
        exact blk141 rc hrc35 I A (upd X 8 s0) _ _ _ hf (lv_sub hl [1, 2, 3, 4, 5, 6, 7, 8, 0] rfl) hP hD hS
      ·
        have hf := wk_iff hc3 hf
        refine lv_iload_n hx hb d_M_inSet_131 rfl (lv_at hl 2 rfl) ?_
        refine lv_iload hx hb d_M_inSet_132 (lv_at hl 0 rfl) ?_
        refine lv_icmp_gt (tgt := 141) hx hb d_M_inSet_134 (by decide) (fun hc4 => ?_) (fun hc4 => ?_)
        ·
          have hf := wk_ift hc4 hf
          exact blk141 rc hrc35 I A (upd X 8 s0) _ _ _ hf (lv_sub hl [1, 2, 3, 4, 5, 6, 7, 8, 0] rfl) hP hD hS
        ·
          have hf := wk_iff hc4 hf
          exact blk137 rc hrc35 I A (upd X 8 s0) _ _ _ hf (lv_sub hl [1, 2, 3, 4, 5, 6, 7, 8, 0] rfl) hP hD hS
  have blk87 : ∀ (rc : Nat → MI → MA → (Nat → Int32) → Option (Int32 × MI × MA)) (hrc35 : ∀ (I : MI) (A : MA) (X : Nat → Int32) (ls : Array Slot) (H : Heap) (locs : List Loc), rc 35 I A X = some (r, I', A') → lv_has ls 9 [(0, .ref h), (1, .int (X 1)), (2, .int (X 2)), (3, .int (X 3)), (4, .int (X 4)), (5, .int (X 5)), (6, .int (X 6))] → va_P (dC, dI) vwCl (mw_W h q g I A) H → va_D B9 (mw_W h q g I A) → va_S B9 s.heap H locs → W p l e (headSpec w_M_inSet ({ frames := 0, cells := 0, slots := 0, locals := 0 })).room s m ([.ref h, .int k1, .int k2, .int k3] : List Value).toArray below meth c H locs 0 0 (MQ below (va_Qi (fun (r9 : Int32) (_ : Unit) => r9 = r) (fun (_ : Unit) t => va_P (dC, dI) vwCl (mw_W h q g I' A') t.heap ∧ va_K (dC, dI) vwCl (mw_T g) t ∧ va_D B9 (mw_W h q g I' A')) B9) ([.ref h, .int k1, .int k2, .int k3] : List Value).toArray s 0 0 B9) (F0 m 35 ls [])), ∀ (I : MI) (A : MA) (X : Nat → Int32) (s0 : Int32) (ls : Array Slot) (H : Heap) (locs : List Loc), f_M_inSet_87 rc I A X s0 = some (r, I', A') → lv_has ls 9 [(0, .ref h), (1, .int (X 1)), (2, .int (X 2)), (3, .int (X 3)), (4, .int (X 4)), (5, .int (X 5)), (6, .int (X 6))] → va_P (dC, dI) vwCl (mw_W h q g I A) H → va_D B9 (mw_W h q g I A) → va_S B9 s.heap H locs → W p l e (headSpec w_M_inSet ({ frames := 0, cells := 0, slots := 0, locals := 0 })).room s m ([.ref h, .int k1, .int k2, .int k3] : List Value).toArray below meth c H locs 0 0 (MQ below (va_Qi (fun (r9 : Int32) (_ : Unit) => r9 = r) (fun (_ : Unit) t => va_P (dC, dI) vwCl (mw_W h q g I' A') t.heap ∧ va_K (dC, dI) vwCl (mw_T g) t ∧ va_D B9 (mw_W h q g I' A')) B9) ([.ref h, .int k1, .int k2, .int k3] : List Value).toArray s 0 0 B9) (F0 m 87 ls [.int s0]) := by
    intro rc hrc35 I A X s0 ls H locs hf hl hP hD hS
    unfold f_M_inSet_87 at hf
    refine lv_istore (lv' := [(7, .int s0), (0, .ref h), (1, .int (X 1)), (2, .int (X 2)), (3, .int (X 3)), (4, .int (X 4)), (5, .int (X 5)), (6, .int (X 6))]) hx hb d_M_inSet_87 hl (by decide) rfl (fun ls hl => ?_)
    have hl : lv_has ls 9 [(7, .int s0), (0, .ref h), (1, .int (X 1)), (2, .int (X 2)), (3, .int (X 3)), (4, .int (X 4)), (5, .int (X 5)), (6, .int (X 6))] := hl
    refine lv_iload hx hb d_M_inSet_89 (lv_at hl 0 rfl) ?_
    refine lv_if_eq (tgt := 106) hx hb d_M_inSet_91 (by decide) (fun hc1 => ?_) (fun hc1 => ?_)
    ·
      have hf := wk_ift hc1 hf
      refine lv_aload_n hx hb d_M_inSet_106 rfl (lv_at hl 1 rfl) ?_
      refine va_get (D := (dC, dI)) (ci := 4) (v := .ref (q 16)) (C := R_M) (T := F_M) (N := 38) hx hb hts (fun w h => List.mem_cons_of_mem _ (in_M w h)) hown hK hP 0 rfl rfl 16 (by decide) (hts _ (List.mem_cons_of_mem _ lk_77)) (fun _ h9 => h9) rfl d_M_inSet_107 ?_
      refine lv_iload hx hb d_M_inSet_110 (lv_at hl 7 rfl) ?_
      obtain ⟨hc2, hf⟩ := wk_if hf
      refine va_cald hx hb hK hP 7 6 rfl rfl (wk_inb_ok hc2) d_M_inSet_112 ?_
      exact blk113 rc hrc35 I A (upd X 7 s0) ((A 16) ((X 6)).toNatClampNeg) _ _ _ hf (lv_sub hl [1, 2, 3, 4, 5, 6, 7, 0] rfl) hP hD hS
    ·
      have hf := wk_iff hc1 hf
      refine lv_aload_n hx hb d_M_inSet_94 rfl (lv_at hl 1 rfl) ?_
      refine va_get (D := (dC, dI)) (ci := 4) (v := .ref (q 16)) (C := R_M) (T := F_M) (N := 38) hx hb hts (fun w h => List.mem_cons_of_mem _ (in_M w h)) hown hK hP 0 rfl rfl 16 (by decide) (hts _ (List.mem_cons_of_mem _ lk_77)) (fun _ h9 => h9) rfl d_M_inSet_95 ?_
      refine lv_iload hx hb d_M_inSet_98 (lv_at hl 7 rfl) ?_
      refine lv_iconst (v := 2) hx hb d_M_inSet_100 (by decide) ?_
      refine lv_iadd hx hb d_M_inSet_101 ?_
      obtain ⟨hc2, hf⟩ := wk_if hf
      refine va_cald hx hb hK hP 7 6 rfl rfl (wk_inb_ok hc2) d_M_inSet_102 ?_
      refine lv_goto (tgt := 113) hx hb d_M_inSet_103 (by decide) ?_
      exact blk113 rc hrc35 I A (upd X 7 s0) ((A 16) (((X 6) + 2)).toNatClampNeg) _ _ _ hf (lv_sub hl [1, 2, 3, 4, 5, 6, 7, 0] rfl) hP hD hS
  have blk86 : ∀ (rc : Nat → MI → MA → (Nat → Int32) → Option (Int32 × MI × MA)) (hrc35 : ∀ (I : MI) (A : MA) (X : Nat → Int32) (ls : Array Slot) (H : Heap) (locs : List Loc), rc 35 I A X = some (r, I', A') → lv_has ls 9 [(0, .ref h), (1, .int (X 1)), (2, .int (X 2)), (3, .int (X 3)), (4, .int (X 4)), (5, .int (X 5)), (6, .int (X 6))] → va_P (dC, dI) vwCl (mw_W h q g I A) H → va_D B9 (mw_W h q g I A) → va_S B9 s.heap H locs → W p l e (headSpec w_M_inSet ({ frames := 0, cells := 0, slots := 0, locals := 0 })).room s m ([.ref h, .int k1, .int k2, .int k3] : List Value).toArray below meth c H locs 0 0 (MQ below (va_Qi (fun (r9 : Int32) (_ : Unit) => r9 = r) (fun (_ : Unit) t => va_P (dC, dI) vwCl (mw_W h q g I' A') t.heap ∧ va_K (dC, dI) vwCl (mw_T g) t ∧ va_D B9 (mw_W h q g I' A')) B9) ([.ref h, .int k1, .int k2, .int k3] : List Value).toArray s 0 0 B9) (F0 m 35 ls [])), ∀ (I : MI) (A : MA) (X : Nat → Int32) (ls : Array Slot) (H : Heap) (locs : List Loc), f_M_inSet_86 rc I A X = some (r, I', A') → lv_has ls 9 [(0, .ref h), (1, .int (X 1)), (2, .int (X 2)), (3, .int (X 3)), (4, .int (X 4)), (5, .int (X 5)), (6, .int (X 6))] → va_P (dC, dI) vwCl (mw_W h q g I A) H → va_D B9 (mw_W h q g I A) → va_S B9 s.heap H locs → W p l e (headSpec w_M_inSet ({ frames := 0, cells := 0, slots := 0, locals := 0 })).room s m ([.ref h, .int k1, .int k2, .int k3] : List Value).toArray below meth c H locs 0 0 (MQ below (va_Qi (fun (r9 : Int32) (_ : Unit) => r9 = r) (fun (_ : Unit) t => va_P (dC, dI) vwCl (mw_W h q g I' A') t.heap ∧ va_K (dC, dI) vwCl (mw_T g) t ∧ va_D B9 (mw_W h q g I' A')) B9) ([.ref h, .int k1, .int k2, .int k3] : List Value).toArray s 0 0 B9) (F0 m 86 ls []) := by
    intro rc hrc35 I A X ls H locs hf hl hP hD hS
    unfold f_M_inSet_86 at hf
    refine lv_iconst (v := 0) hx hb d_M_inSet_86 (by decide) ?_
    exact blk87 rc hrc35 I A X 0 _ _ _ hf (lv_sub hl [0, 1, 2, 3, 4, 5, 6] rfl) hP hD hS
  have stp35 : ∀ (rc : Nat → MI → MA → (Nat → Int32) → Option (Int32 × MI × MA)) (hrc35 : ∀ (I : MI) (A : MA) (X : Nat → Int32) (ls : Array Slot) (H : Heap) (locs : List Loc), rc 35 I A X = some (r, I', A') → lv_has ls 9 [(0, .ref h), (1, .int (X 1)), (2, .int (X 2)), (3, .int (X 3)), (4, .int (X 4)), (5, .int (X 5)), (6, .int (X 6))] → va_P (dC, dI) vwCl (mw_W h q g I A) H → va_D B9 (mw_W h q g I A) → va_S B9 s.heap H locs → W p l e (headSpec w_M_inSet ({ frames := 0, cells := 0, slots := 0, locals := 0 })).room s m ([.ref h, .int k1, .int k2, .int k3] : List Value).toArray below meth c H locs 0 0 (MQ below (va_Qi (fun (r9 : Int32) (_ : Unit) => r9 = r) (fun (_ : Unit) t => va_P (dC, dI) vwCl (mw_W h q g I' A') t.heap ∧ va_K (dC, dI) vwCl (mw_T g) t ∧ va_D B9 (mw_W h q g I' A')) B9) ([.ref h, .int k1, .int k2, .int k3] : List Value).toArray s 0 0 B9) (F0 m 35 ls [])), ∀ (I : MI) (A : MA) (X : Nat → Int32) (ls : Array Slot) (H : Heap) (locs : List Loc), f_M_inSet_35 rc I A X = some (r, I', A') → lv_has ls 9 [(0, .ref h), (1, .int (X 1)), (2, .int (X 2)), (3, .int (X 3)), (4, .int (X 4)), (5, .int (X 5)), (6, .int (X 6))] → va_P (dC, dI) vwCl (mw_W h q g I A) H → va_D B9 (mw_W h q g I A) → va_S B9 s.heap H locs → W p l e (headSpec w_M_inSet ({ frames := 0, cells := 0, slots := 0, locals := 0 })).room s m ([.ref h, .int k1, .int k2, .int k3] : List Value).toArray below meth c H locs 0 0 (MQ below (va_Qi (fun (r9 : Int32) (_ : Unit) => r9 = r) (fun (_ : Unit) t => va_P (dC, dI) vwCl (mw_W h q g I' A') t.heap ∧ va_K (dC, dI) vwCl (mw_T g) t ∧ va_D B9 (mw_W h q g I' A')) B9) ([.ref h, .int k1, .int k2, .int k3] : List Value).toArray s 0 0 B9) (F0 m 35 ls []) := by
    intro rc hrc35 I A X ls H locs hf hl hP hD hS
    unfold f_M_inSet_35 at hf
    refine lv_iload hx hb d_M_inSet_35 (lv_at hl 6 rfl) ?_
    refine lv_iload_n hx hb d_M_inSet_37 rfl (lv_at hl 3 rfl) ?_
    refine lv_icmp_ge (tgt := 162) hx hb d_M_inSet_38 (by decide) (fun hc1 => ?_) (fun hc1 => ?_)
    ·
      have hf := wk_ift hc1 hf
      refine lv_iload hx hb d_M_inSet_162 (lv_at hl 5 rfl) ?_
      refine lv_iload hx hb d_M_inSet_164 (lv_at hl 4 rfl) ?_
      refine lv_icmp_eq (tgt := 173) hx hb d_M_inSet_166 (by decide) (fun hc2 => ?_) (fun hc2 => ?_)
      ·
        have hf := wk_ift hc2 hf
        refine lv_iconst (v := 0) hx hb d_M_inSet_173 (by decide) ?_
        exact blk174 rc hrc35 I A X 0 _ _ _ hf (lv_sub hl [0, 1, 2, 3, 4, 5, 6] rfl) hP hD hS
      ·
        have hf := wk_iff hc2 hf
        refine lv_iconst (v := 1) hx hb d_M_inSet_169 (by decide) ?_
        refine lv_goto (tgt := 174) hx hb d_M_inSet_170 (by decide) ?_
        exact blk174 rc hrc35 I A X 1 _ _ _ hf (lv_sub hl [0, 1, 2, 3, 4, 5, 6] rfl) hP hD hS
    ·
      have hf := wk_iff hc1 hf
      refine lv_iload hx hb d_M_inSet_41 (lv_at hl 6 rfl) ?_
      refine lv_iconst (v := 2) hx hb d_M_inSet_43 (by decide) ?_
      refine lv_iadd hx hb d_M_inSet_44 ?_
      refine lv_iload_n hx hb d_M_inSet_45 rfl (lv_at hl 3 rfl) ?_
      refine lv_icmp_ge (tgt := 86) hx hb d_M_inSet_46 (by decide) (fun hc2 => ?_) (fun hc2 => ?_)
      ·
        have hf := wk_ift hc2 hf
        exact blk86 rc hrc35 I A X _ _ _ hf (lv_sub hl [0, 1, 2, 3, 4, 5, 6] rfl) hP hD hS
      ·
        have hf := wk_iff hc2 hf
        refine lv_aload_n hx hb d_M_inSet_49 rfl (lv_at hl 0 rfl) ?_
        refine va_get (D := (dC, dI)) (ci := 4) (v := .ref (q 16)) (C := R_M) (T := F_M) (N := 38) hx hb hts (fun w h => List.mem_cons_of_mem _ (in_M w h)) hown hK hP 0 rfl rfl 16 (by decide) (hts _ (List.mem_cons_of_mem _ lk_77)) (fun _ h9 => h9) rfl d_M_inSet_50 ?_
        refine lv_iload hx hb d_M_inSet_53 (lv_at hl 6 rfl) ?_
        refine lv_iconst (v := 1) hx hb d_M_inSet_55 (by decide) ?_
        refine lv_iadd hx hb d_M_inSet_56 ?_
        obtain ⟨hc3, hf⟩ := wk_if hf
        refine va_cald hx hb hK hP 7 6 rfl rfl (wk_inb_ok hc3) d_M_inSet_57 ?_
        refine lv_bipush (v := 45) hx hb d_M_inSet_58 (by decide) ?_
        refine lv_icmp_ne (tgt := 86) hx hb d_M_inSet_60 (by decide) (fun hc4 => ?_) (fun hc4 => ?_)
        ·
          have hf := wk_iff hc4 hf
          exact blk86 rc hrc35 I A X _ _ _ hf (lv_sub hl [0, 1, 2, 3, 4, 5, 6] rfl) hP hD hS
        ·
          have hf := wk_ift hc4 hf
          refine lv_aload_n hx hb d_M_inSet_63 rfl (lv_at hl 0 rfl) ?_
          refine va_get (D := (dC, dI)) (ci := 4) (v := .ref (q 16)) (C := R_M) (T := F_M) (N := 38) hx hb hts (fun w h => List.mem_cons_of_mem _ (in_M w h)) hown hK hP 0 rfl rfl 16 (by decide) (hts _ (List.mem_cons_of_mem _ lk_77)) (fun _ h9 => h9) rfl d_M_inSet_64 ?_
          refine lv_iload hx hb d_M_inSet_67 (lv_at hl 6 rfl) ?_
          refine lv_iconst (v := 2) hx hb d_M_inSet_69 (by decide) ?_
          refine lv_iadd hx hb d_M_inSet_70 ?_
          obtain ⟨hc5, hf⟩ := wk_if hf
          refine va_cald hx hb hK hP 7 6 rfl rfl (wk_inb_ok hc5) d_M_inSet_71 ?_
          refine lv_aload_n hx hb d_M_inSet_72 rfl (lv_at hl 0 rfl) ?_
          refine va_get (D := (dC, dI)) (ci := 4) (v := .ref (q 16)) (C := R_M) (T := F_M) (N := 38) hx hb hts (fun w h => List.mem_cons_of_mem _ (in_M w h)) hown hK hP 0 rfl rfl 16 (by decide) (hts _ (List.mem_cons_of_mem _ lk_77)) (fun _ h9 => h9) rfl d_M_inSet_73 ?_
          refine lv_iload hx hb d_M_inSet_76 (lv_at hl 6 rfl) ?_
          obtain ⟨hc6, hf⟩ := wk_if hf
          refine va_cald hx hb hK hP 7 6 rfl rfl (wk_inb_ok hc6) d_M_inSet_78 ?_
          refine lv_icmp_lt (tgt := 86) hx hb d_M_inSet_79 (by decide) (fun hc7 => ?_) (fun hc7 => ?_)
          ·
            have hf := wk_ift hc7 hf
            exact blk86 rc hrc35 I A X _ _ _ hf (lv_sub hl [0, 1, 2, 3, 4, 5, 6] rfl) hP hD hS
          ·
            have hf := wk_iff hc7 hf
            refine lv_iconst (v := 1) hx hb d_M_inSet_82 (by decide) ?_
            refine lv_goto (tgt := 87) hx hb d_M_inSet_83 (by decide) ?_
            exact blk87 rc hrc35 I A X 1 _ _ _ hf (lv_sub hl [0, 1, 2, 3, 4, 5, 6] rfl) hP hD hS
  have key : ∀ n : Nat, (∀ (I : MI) (A : MA) (X : Nat → Int32) (ls : Array Slot) (H : Heap) (locs : List Loc), f_M_inSet_go n 35 I A X = some (r, I', A') → lv_has ls 9 [(0, .ref h), (1, .int (X 1)), (2, .int (X 2)), (3, .int (X 3)), (4, .int (X 4)), (5, .int (X 5)), (6, .int (X 6))] → va_P (dC, dI) vwCl (mw_W h q g I A) H → va_D B9 (mw_W h q g I A) → va_S B9 s.heap H locs → W p l e (headSpec w_M_inSet ({ frames := 0, cells := 0, slots := 0, locals := 0 })).room s m ([.ref h, .int k1, .int k2, .int k3] : List Value).toArray below meth c H locs 0 0 (MQ below (va_Qi (fun (r9 : Int32) (_ : Unit) => r9 = r) (fun (_ : Unit) t => va_P (dC, dI) vwCl (mw_W h q g I' A') t.heap ∧ va_K (dC, dI) vwCl (mw_T g) t ∧ va_D B9 (mw_W h q g I' A')) B9) ([.ref h, .int k1, .int k2, .int k3] : List Value).toArray s 0 0 B9) (F0 m 35 ls [])) := by
    intro n
    induction n with
    | zero => exact fun I A X ls H locs hf => (by cases hf)
    | succ n ih =>
      have ih35 := ih
      exact stp35 (f_M_inSet_go n) ih35
  unfold f_M_inSet f_M_inSet_e at hf
  have hrc35 := key wk_FUEL
  refine lv_aload_n hx hb d_M_inSet_0 rfl (lv_at hl 0 rfl) ?_
  refine va_get (D := (dC, dI)) (ci := 4) (v := .ref (q 16)) (C := R_M) (T := F_M) (N := 38) hx hb hts (fun w h => List.mem_cons_of_mem _ (in_M w h)) hown hK hP 0 rfl rfl 16 (by decide) (hts _ (List.mem_cons_of_mem _ lk_77)) (fun _ h9 => h9) rfl d_M_inSet_1 ?_
  refine lv_iload_n hx hb d_M_inSet_4 rfl (lv_at hl 2 rfl) ?_
  obtain ⟨hc1, hf⟩ := wk_if hf
  refine va_cald hx hb hK hP 7 6 rfl rfl (wk_inb_ok hc1) d_M_inSet_5 ?_
  refine lv_bipush (v := 94) hx hb d_M_inSet_6 (by decide) ?_
  refine lv_icmp_ne (tgt := 15) hx hb d_M_inSet_8 (by decide) (fun hc2 => ?_) (fun hc2 => ?_)
  ·
    have hf := wk_iff hc2 hf
    refine lv_iconst (v := 0) hx hb d_M_inSet_15 (by decide) ?_
    exact blk16 _ hrc35 I A (upd (upd (upd (fun _ => 0) 1 k1) 2 k2) 3 k3) 0 _ _ _ hf (lv_sub hl [0, 1, 2, 3] rfl) hP hD hS
  ·
    have hf := wk_ift hc2 hf
    refine lv_iconst (v := 1) hx hb d_M_inSet_11 (by decide) ?_
    refine lv_goto (tgt := 16) hx hb d_M_inSet_12 (by decide) ?_
    exact blk16 _ hrc35 I A (upd (upd (upd (fun _ => 0) 1 k1) 2 k2) 3 k3) 1 _ _ _ hf (lv_sub hl [0, 1, 2, 3] rfl) hP hD hS

set_option maxHeartbeats 8000000 in
set_option maxRecDepth 100000 in
theorem cm_M_takes (l : Launch) (dC : Nat → ClassId) (dI : Nat → Nat → Nat) (h : Nat) (q : Nat → Nat) (g : Nat → ClassId) (sz : Nat) (I : MI) (A : MA) (k1 k2 : Int32) (r : Int32) (I' : MI) (A' : MA) (hf : f_M_takes I A k1 k2 = some (r, I', A')) : Met l y_M_takes w_M_takes ({ frames := 1, cells := 0, slots := 0, locals := 28 }) (va_Pc [.ref h, .int k1, .int k2] (fun U => U.heap.size = sz ∧ va_P (dC, dI) vwCl (mw_W h q g I A) U.heap ∧ va_K (dC, dI) vwCl (mw_T g) U ∧ va_D (fun _ => True) (mw_W h q g I A))) (va_Qi (fun (r9 : Int32) (_ : Unit) => r9 = r) (fun (_ : Unit) t => va_P (dC, dI) vwCl (mw_W h q g I' A') t.heap ∧ va_K (dC, dI) vwCl (mw_T g) t ∧ va_D (va_A (mw_W h q g I A) sz) (mw_W h q g I' A')) (va_A (mw_W h q g I A) sz)) 0 0 (va_A (mw_W h q g I A) sz) := by
  refine Met.ofW (cc := prog_6_method_39_code) (maxL := 3) (ret := (some .boolean)) (by decide) rfl ?_
  intro p e s m args below meth c s₁ B hml hv
  obtain ⟨rfl, hsz, hP, hK, hD0⟩ := hv
  have hx := B.exec
  have hb := B.bytes
  have hr := B.returns
  have hts := atoms_spec (ws := w_M_takes) B.pre
  have hown : s.vm.findClass R_M = some m.cls := findClass_of_methodNamed B.named
  have hlocks := B.notSynchronized
  subst hsz
  have hD := hD0.self (sz := s.heap.size)
  generalize hAe : va_A (mw_W h q g I A) s.heap.size = B9 at hD ⊢
  have hA : ∀ q : Nat, s.heap.size ≤ q → B9 q := fun q h => by rw [← hAe]; exact Or.inr h
  clear hAe
  have hS : va_S B9 s.heap s.heap [] := va_S.rf
  have hl := lv_entry ([.ref h, .int k1, .int k2]) (n := 3) (Nat.le_of_ble_eq_true rfl)
  rw [lg_entry_eq]
  generalize (lg_sl ([.ref h, .int k1, .int k2]) ++ List.replicate (3 - (lg_sl ([.ref h, .int k1, .int k2])).length) Slot.unset).toArray = ls at hl ⊢
  have hl : lv_has ls 3 [(0, .ref h), (1, .int k1), (2, .int k2)] := hl
  have blk71 : ∀ (I : MI) (A : MA) (X : Nat → Int32) (s0 : Int32) (ls : Array Slot) (H : Heap) (locs : List Loc), f_M_takes_71 I A X s0 = some (r, I', A') → lv_has ls 3 [(0, .ref h), (1, .int (X 1)), (2, .int (X 2))] → va_P (dC, dI) vwCl (mw_W h q g I A) H → va_D B9 (mw_W h q g I A) → va_S B9 s.heap H locs → W p l e (headSpec w_M_takes ({ frames := 1, cells := 0, slots := 0, locals := 28 })).room s m ([.ref h, .int k1, .int k2] : List Value).toArray below meth c H locs 0 0 (MQ below (va_Qi (fun (r9 : Int32) (_ : Unit) => r9 = r) (fun (_ : Unit) t => va_P (dC, dI) vwCl (mw_W h q g I' A') t.heap ∧ va_K (dC, dI) vwCl (mw_T g) t ∧ va_D B9 (mw_W h q g I' A')) B9) ([.ref h, .int k1, .int k2] : List Value).toArray s 0 0 B9) (F0 m 71 ls [.int s0]) := by
    intro I A X s0 ls H locs hf hl hP hD hS
    unfold f_M_takes_71 at hf
    obtain ⟨hn9, hf⟩ := wk_if hf
    obtain ⟨e1, e2, e3⟩ := wk_inj hf
    subst e1
    subst e2
    subst e3
    exact W.zret (v := s0) hx hb hr (congrArg Value.int hn9) (fun t ht hW => ⟨⟨s0, (), rfl, rfl, by rw [ht]; exact hP, va_K.moved hW.alike hK, hD⟩, hS.F ht⟩) hS.2.2 d_M_takes_71
  have blk66 : ∀ (I : MI) (A : MA) (X : Nat → Int32) (ls : Array Slot) (H : Heap) (locs : List Loc), f_M_takes_66 I A X = some (r, I', A') → lv_has ls 3 [(0, .ref h), (1, .int (X 1)), (2, .int (X 2))] → va_P (dC, dI) vwCl (mw_W h q g I A) H → va_D B9 (mw_W h q g I A) → va_S B9 s.heap H locs → W p l e (headSpec w_M_takes ({ frames := 1, cells := 0, slots := 0, locals := 28 })).room s m ([.ref h, .int k1, .int k2] : List Value).toArray below meth c H locs 0 0 (MQ below (va_Qi (fun (r9 : Int32) (_ : Unit) => r9 = r) (fun (_ : Unit) t => va_P (dC, dI) vwCl (mw_W h q g I' A') t.heap ∧ va_K (dC, dI) vwCl (mw_T g) t ∧ va_D B9 (mw_W h q g I' A')) B9) ([.ref h, .int k1, .int k2] : List Value).toArray s 0 0 B9) (F0 m 66 ls []) := by
    intro I A X ls H locs hf hl hP hD hS
    unfold f_M_takes_66 at hf
    refine lv_iconst (v := 1) hx hb d_M_takes_66 (by decide) ?_
    refine lv_goto (tgt := 71) hx hb d_M_takes_67 (by decide) ?_
    exact blk71 I A X 1 _ _ _ hf (lv_sub hl [0, 1, 2] rfl) hP hD hS
  have blk70 : ∀ (I : MI) (A : MA) (X : Nat → Int32) (ls : Array Slot) (H : Heap) (locs : List Loc), f_M_takes_70 I A X = some (r, I', A') → lv_has ls 3 [(0, .ref h), (1, .int (X 1)), (2, .int (X 2))] → va_P (dC, dI) vwCl (mw_W h q g I A) H → va_D B9 (mw_W h q g I A) → va_S B9 s.heap H locs → W p l e (headSpec w_M_takes ({ frames := 1, cells := 0, slots := 0, locals := 28 })).room s m ([.ref h, .int k1, .int k2] : List Value).toArray below meth c H locs 0 0 (MQ below (va_Qi (fun (r9 : Int32) (_ : Unit) => r9 = r) (fun (_ : Unit) t => va_P (dC, dI) vwCl (mw_W h q g I' A') t.heap ∧ va_K (dC, dI) vwCl (mw_T g) t ∧ va_D B9 (mw_W h q g I' A')) B9) ([.ref h, .int k1, .int k2] : List Value).toArray s 0 0 B9) (F0 m 70 ls []) := by
    intro I A X ls H locs hf hl hP hD hS
    unfold f_M_takes_70 at hf
    refine lv_iconst (v := 0) hx hb d_M_takes_70 (by decide) ?_
    exact blk71 I A X 0 _ _ _ hf (lv_sub hl [0, 1, 2] rfl) hP hD hS
  have blk36 : ∀ (I : MI) (A : MA) (X : Nat → Int32) (ls : Array Slot) (H : Heap) (locs : List Loc), f_M_takes_36 I A X = some (r, I', A') → lv_has ls 3 [(0, .ref h), (1, .int (X 1)), (2, .int (X 2))] → va_P (dC, dI) vwCl (mw_W h q g I A) H → va_D B9 (mw_W h q g I A) → va_S B9 s.heap H locs → W p l e (headSpec w_M_takes ({ frames := 1, cells := 0, slots := 0, locals := 28 })).room s m ([.ref h, .int k1, .int k2] : List Value).toArray below meth c H locs 0 0 (MQ below (va_Qi (fun (r9 : Int32) (_ : Unit) => r9 = r) (fun (_ : Unit) t => va_P (dC, dI) vwCl (mw_W h q g I' A') t.heap ∧ va_K (dC, dI) vwCl (mw_T g) t ∧ va_D B9 (mw_W h q g I' A')) B9) ([.ref h, .int k1, .int k2] : List Value).toArray s 0 0 B9) (F0 m 36 ls []) := by
    intro I A X ls H locs hf hl hP hD hS
    unfold f_M_takes_36 at hf
    refine lv_aload_n hx hb d_M_takes_36 rfl (lv_at hl 0 rfl) ?_
    refine va_get (D := (dC, dI)) (ci := 4) (v := .ref (q 18)) (C := R_M) (T := F_M) (N := 38) hx hb hts (fun w h => List.mem_cons_of_mem _ (in_M w h)) hown hK hP 0 rfl rfl 18 (by decide) (hts _ (List.mem_cons_of_mem _ lk_82)) (fun _ h9 => h9) rfl d_M_takes_37 ?_
    refine lv_iload_n hx hb d_M_takes_40 rfl (lv_at hl 1 rfl) ?_
    obtain ⟨hc1, hf⟩ := wk_if hf
    refine va_iald hx hb hK hP 8 7 rfl rfl (wk_inb_ok hc1) d_M_takes_41 ?_
    refine lv_iconst (v := 3) hx hb d_M_takes_42 (by decide) ?_
    refine lv_icmp_ne (tgt := 70) hx hb d_M_takes_43 (by decide) (fun hc2 => ?_) (fun hc2 => ?_)
    ·
      have hf := wk_iff hc2 hf
      exact blk70 I A X _ _ _ hf (lv_sub hl [0, 1, 2] rfl) hP hD hS
    ·
      have hf := wk_ift hc2 hf
      refine lv_aload_n hx hb d_M_takes_46 rfl (lv_at hl 0 rfl) ?_
      refine lv_iload_n hx hb d_M_takes_47 rfl (lv_at hl 2 rfl) ?_
      refine lv_aload_n hx hb d_M_takes_48 rfl (lv_at hl 0 rfl) ?_
      refine va_get (D := (dC, dI)) (ci := 4) (v := .ref (q 19)) (C := R_M) (T := F_M) (N := 38) hx hb hts (fun w h => List.mem_cons_of_mem _ (in_M w h)) hown hK hP 0 rfl rfl 19 (by decide) (hts _ (List.mem_cons_of_mem _ lk_84)) (fun _ h9 => h9) rfl d_M_takes_49 ?_
      refine lv_iload_n hx hb d_M_takes_52 rfl (lv_at hl 1 rfl) ?_
      obtain ⟨hc3, hf⟩ := wk_if hf
      refine va_iald hx hb hK hP 9 8 rfl rfl (wk_inb_ok hc3) d_M_takes_53 ?_
      refine lv_aload_n hx hb d_M_takes_54 rfl (lv_at hl 0 rfl) ?_
      refine va_get (D := (dC, dI)) (ci := 4) (v := .ref (q 20)) (C := R_M) (T := F_M) (N := 38) hx hb hts (fun w h => List.mem_cons_of_mem _ (in_M w h)) hown hK hP 0 rfl rfl 20 (by decide) (hts _ (List.mem_cons_of_mem _ lk_85)) (fun _ h9 => h9) rfl d_M_takes_55 ?_
      refine lv_iload_n hx hb d_M_takes_58 rfl (lv_at hl 1 rfl) ?_
      obtain ⟨hc4, hf⟩ := wk_if hf
      refine va_iald hx hb hK hP 10 9 rfl rfl (wk_inb_ok hc4) d_M_takes_59 ?_
      have hPc := hP.sub (ws' := (mw_W h q g I A)) [0, 1, 2, 3, 4, 5, 6, 7, 8, 9, 10, 11, 12, 13, 14, 15, 16, 17, 18, 19, 20] rfl
      have hDc := hD.sub (ws' := (mw_W h q g I A)) [0, 1, 2, 3, 4, 5, 6, 7, 8, 9, 10, 11, 12, 13, 14, 15, 16, 17, 18, 19, 20] (by decide) rfl
      have hKc := hK.sub (tys' := (mw_T g)) [0, 1, 2, 3, 4, 5, 6, 7, 8, 9, 10, 11, 12, 13, 14, 15, 16, 17, 18, 19] rfl
      have hFc := va_free (wc := (mw_W h q g I A)) hD hS hA [0, 1, 2, 3, 4, 5, 6, 7, 8, 9, 10, 11, 12, 13, 14, 15, 16, 17, 18, 19, 20] rfl
      cases hg1 : f_M_inSet I A (X 2) ((A 19) ((X 1)).toNatClampNeg) ((A 20) ((X 1)).toNatClampNeg) with
      | none => rw [hg1] at hf; cases hf
      | some z1 =>
        obtain ⟨r1, I1, A1⟩ := z1
        rw [hg1] at hf
        dsimp only [Option.bind_some] at hf
        refine va_calli (va_runV (As := [.int (X 2), .int ((A 19) ((X 1)).toNatClampNeg), .int ((A 20) ((X 1)).toNatClampNeg)]) (rest := []) ⟨hx, hb, hml, hown, hts⟩ (cm_M_inSet l dC dI h q g _ I A (X 2) ((A 19) ((X 1)).toNatClampNeg) ((A 20) ((X 1)).toNatClampNeg) r1 I1 A1 hg1) (cwV 3 hts (gd_v lk_187 lk_188 lk_189 lk_46 lk_186) rfl rfl rfl (by decide +kernel) ⟨Nat.le_of_ble_eq_true rfl, Nat.le_of_ble_eq_true rfl⟩) ⟨fun a U g mk q => by obtain ⟨q0, q1, qP, qK, qD⟩ := q; exact ⟨q0, q1, qP, va_K.moved (u := U) (U := U.calling g mk a) (Vm.Alike.refl U.vm) qK, qD⟩, va_recv (ci := 4) (q0 := 0) hK hP rfl rfl, fun U hU hW => ⟨rfl, by rw [hU], by rw [hU]; exact hPc, va_K.moved hW.alike hKc, hDc.weaken (fun _ _ _ _ => trivial)⟩⟩ rfl rfl hl.1 rfl (lv_room (Nat.le_of_ble_eq_true rfl)) d_M_takes_60 ⟨Nat.le_of_ble_eq_true rfl, Nat.le_of_ble_eq_true rfl⟩) hS (fun q _ h => hFc q h) hFc (fun r9 u t H1 locs ht hvm hw hB hz1 hk1 hS => ?_)
        obtain ⟨hP1, hK1, hD1⟩ := hB
        rw [ht] at hP1
        rw [hw]
        obtain ⟨hP, hD⟩ := va_join (wr := []) (w1 := (mw_W h q g I1 A1)) hP hD [0, 1, 2, 3, 4, 5, 6, 7, 8, 9, 10, 11, 12, 13, 14, 15, 16, 17, 18, 19, 20] [] rfl rfl (by decide) (by decide) hk1 hFc hP1 hD1
        generalize H1 = H at hP hS ⊢
        have hP : va_P (dC, dI) vwCl (mw_W h q g I1 A1) H := hP
        have hD : va_D B9 (mw_W h q g I1 A1) := hD
        refine lv_if_eq (tgt := 70) hx hb d_M_takes_63 (by decide) (fun hc5 => ?_) (fun hc5 => ?_)
        ·
          have hf := wk_ift hc5 hf
          exact blk70 I1 A1 X _ _ _ hf (lv_sub hl [0, 1, 2] rfl) hP hD hS
        ·
          have hf := wk_iff hc5 hf
          exact blk66 I1 A1 X _ _ _ hf (lv_sub hl [0, 1, 2] rfl) hP hD hS
  have blk20 : ∀ (I : MI) (A : MA) (X : Nat → Int32) (ls : Array Slot) (H : Heap) (locs : List Loc), f_M_takes_20 I A X = some (r, I', A') → lv_has ls 3 [(0, .ref h), (1, .int (X 1)), (2, .int (X 2))] → va_P (dC, dI) vwCl (mw_W h q g I A) H → va_D B9 (mw_W h q g I A) → va_S B9 s.heap H locs → W p l e (headSpec w_M_takes ({ frames := 1, cells := 0, slots := 0, locals := 28 })).room s m ([.ref h, .int k1, .int k2] : List Value).toArray below meth c H locs 0 0 (MQ below (va_Qi (fun (r9 : Int32) (_ : Unit) => r9 = r) (fun (_ : Unit) t => va_P (dC, dI) vwCl (mw_W h q g I' A') t.heap ∧ va_K (dC, dI) vwCl (mw_T g) t ∧ va_D B9 (mw_W h q g I' A')) B9) ([.ref h, .int k1, .int k2] : List Value).toArray s 0 0 B9) (F0 m 20 ls []) := by
    intro I A X ls H locs hf hl hP hD hS
    unfold f_M_takes_20 at hf
    refine lv_aload_n hx hb d_M_takes_20 rfl (lv_at hl 0 rfl) ?_
    refine va_get (D := (dC, dI)) (ci := 4) (v := .ref (q 18)) (C := R_M) (T := F_M) (N := 38) hx hb hts (fun w h => List.mem_cons_of_mem _ (in_M w h)) hown hK hP 0 rfl rfl 18 (by decide) (hts _ (List.mem_cons_of_mem _ lk_82)) (fun _ h9 => h9) rfl d_M_takes_21 ?_
    refine lv_iload_n hx hb d_M_takes_24 rfl (lv_at hl 1 rfl) ?_
    obtain ⟨hc1, hf⟩ := wk_if hf
    refine va_iald hx hb hK hP 8 7 rfl rfl (wk_inb_ok hc1) d_M_takes_25 ?_
    refine lv_iconst (v := 2) hx hb d_M_takes_26 (by decide) ?_
    refine lv_icmp_ne (tgt := 36) hx hb d_M_takes_27 (by decide) (fun hc2 => ?_) (fun hc2 => ?_)
    ·
      have hf := wk_iff hc2 hf
      exact blk36 I A X _ _ _ hf (lv_sub hl [0, 1, 2] rfl) hP hD hS
    ·
      have hf := wk_ift hc2 hf
      refine lv_iload_n hx hb d_M_takes_30 rfl (lv_at hl 2 rfl) ?_
      refine lv_bipush (v := 10) hx hb d_M_takes_31 (by decide) ?_
      refine lv_icmp_ne (tgt := 66) hx hb d_M_takes_33 (by decide) (fun hc3 => ?_) (fun hc3 => ?_)
      ·
        have hf := wk_iff hc3 hf
        exact blk66 I A X _ _ _ hf (lv_sub hl [0, 1, 2] rfl) hP hD hS
      ·
        have hf := wk_ift hc3 hf
        exact blk36 I A X _ _ _ hf (lv_sub hl [0, 1, 2] rfl) hP hD hS
  unfold f_M_takes at hf
  refine lv_aload_n hx hb d_M_takes_0 rfl (lv_at hl 0 rfl) ?_
  refine va_get (D := (dC, dI)) (ci := 4) (v := .ref (q 18)) (C := R_M) (T := F_M) (N := 38) hx hb hts (fun w h => List.mem_cons_of_mem _ (in_M w h)) hown hK hP 0 rfl rfl 18 (by decide) (hts _ (List.mem_cons_of_mem _ lk_82)) (fun _ h9 => h9) rfl d_M_takes_1 ?_
  refine lv_iload_n hx hb d_M_takes_4 rfl (lv_at hl 1 rfl) ?_
  obtain ⟨hc1, hf⟩ := wk_if hf
  refine va_iald hx hb hK hP 8 7 rfl rfl (wk_inb_ok hc1) d_M_takes_5 ?_
  refine lv_iconst (v := 1) hx hb d_M_takes_6 (by decide) ?_
  refine lv_icmp_ne (tgt := 20) hx hb d_M_takes_7 (by decide) (fun hc2 => ?_) (fun hc2 => ?_)
  ·
    have hf := wk_iff hc2 hf
    exact blk20 I A (upd (upd (fun _ => 0) 1 k1) 2 k2) _ _ _ hf (lv_sub hl [0, 1, 2] rfl) hP hD hS
  ·
    have hf := wk_ift hc2 hf
    refine lv_iload_n hx hb d_M_takes_10 rfl (lv_at hl 2 rfl) ?_
    refine lv_aload_n hx hb d_M_takes_11 rfl (lv_at hl 0 rfl) ?_
    refine va_get (D := (dC, dI)) (ci := 4) (v := .ref (q 19)) (C := R_M) (T := F_M) (N := 38) hx hb hts (fun w h => List.mem_cons_of_mem _ (in_M w h)) hown hK hP 0 rfl rfl 19 (by decide) (hts _ (List.mem_cons_of_mem _ lk_84)) (fun _ h9 => h9) rfl d_M_takes_12 ?_
    refine lv_iload_n hx hb d_M_takes_15 rfl (lv_at hl 1 rfl) ?_
    obtain ⟨hc3, hf⟩ := wk_if hf
    refine va_iald hx hb hK hP 9 8 rfl rfl (wk_inb_ok hc3) d_M_takes_16 ?_
    refine lv_icmp_eq (tgt := 66) hx hb d_M_takes_17 (by decide) (fun hc4 => ?_) (fun hc4 => ?_)
    ·
      have hf := wk_ift hc4 hf
      exact blk66 I A (upd (upd (fun _ => 0) 1 k1) 2 k2) _ _ _ hf (lv_sub hl [0, 1, 2] rfl) hP hD hS
    ·
      have hf := wk_iff hc4 hf
      exact blk20 I A (upd (upd (fun _ => 0) 1 k1) 2 k2) _ _ _ hf (lv_sub hl [0, 1, 2] rfl) hP hD hS

set_option maxHeartbeats 8000000 in
set_option maxRecDepth 100000 in
theorem cm_M_longest (l : Launch) (dC : Nat → ClassId) (dI : Nat → Nat → Nat) (h : Nat) (q : Nat → Nat) (g : Nat → ClassId) (sz : Nat) (I : MI) (A : MA) (k1 : Int32) (r : Int32) (I' : MI) (A' : MA) (hf : f_M_longest I A k1 = some (r, I', A')) : Met l y_M_longest w_M_longest ({ frames := 3, cells := 0, slots := 0, locals := 68 }) (va_Pc [.ref h, .int k1] (fun U => U.heap.size = sz ∧ va_P (dC, dI) vwCl (mw_W h q g I A) U.heap ∧ va_K (dC, dI) vwCl (mw_T g) U ∧ va_D (fun _ => True) (mw_W h q g I A))) (va_Qi (fun (r9 : Int32) (_ : Unit) => r9 = r) (fun (_ : Unit) t => va_P (dC, dI) vwCl (mw_W h q g I' A') t.heap ∧ va_K (dC, dI) vwCl (mw_T g) t ∧ va_D (va_A (mw_W h q g I A) sz) (mw_W h q g I' A')) (va_A (mw_W h q g I A) sz)) 0 0 (va_A (mw_W h q g I A) sz) := by
  refine Met.ofW (cc := prog_6_method_43_code) (maxL := 6) (ret := (some .int)) (by decide) rfl ?_
  intro p e s m args below meth c s₁ B hml hv
  obtain ⟨rfl, hsz, hP, hK, hD0⟩ := hv
  have hx := B.exec
  have hb := B.bytes
  have hr := B.returns
  have hts := atoms_spec (ws := w_M_longest) B.pre
  have hown : s.vm.findClass R_M = some m.cls := findClass_of_methodNamed B.named
  have hlocks := B.notSynchronized
  subst hsz
  have hD := hD0.self (sz := s.heap.size)
  generalize hAe : va_A (mw_W h q g I A) s.heap.size = B9 at hD ⊢
  have hA : ∀ q : Nat, s.heap.size ≤ q → B9 q := fun q h => by rw [← hAe]; exact Or.inr h
  clear hAe
  have hS : va_S B9 s.heap s.heap [] := va_S.rf
  have hl := lv_entry ([.ref h, .int k1]) (n := 6) (Nat.le_of_ble_eq_true rfl)
  rw [lg_entry_eq]
  generalize (lg_sl ([.ref h, .int k1]) ++ List.replicate (6 - (lg_sl ([.ref h, .int k1])).length) Slot.unset).toArray = ls at hl ⊢
  have hl : lv_has ls 6 [(0, .ref h), (1, .int k1)] := hl
  have blk28 : ∀ (rc : Nat → MI → MA → (Nat → Int32) → Option (Int32 × MI × MA)) (hrc2 : ∀ (I : MI) (A : MA) (X : Nat → Int32) (ls : Array Slot) (H : Heap) (locs : List Loc), rc 2 I A X = some (r, I', A') → lv_has ls 6 [(0, .ref h), (1, .int (X 1)), (2, .int (X 2))] → va_P (dC, dI) vwCl (mw_W h q g I A) H → va_D B9 (mw_W h q g I A) → va_S B9 s.heap H locs → W p l e (headSpec w_M_longest ({ frames := 3, cells := 0, slots := 0, locals := 68 })).room s m ([.ref h, .int k1] : List Value).toArray below meth c H locs 0 0 (MQ below (va_Qi (fun (r9 : Int32) (_ : Unit) => r9 = r) (fun (_ : Unit) t => va_P (dC, dI) vwCl (mw_W h q g I' A') t.heap ∧ va_K (dC, dI) vwCl (mw_T g) t ∧ va_D B9 (mw_W h q g I' A')) B9) ([.ref h, .int k1] : List Value).toArray s 0 0 B9) (F0 m 2 ls [])) (hrc42 : ∀ (I : MI) (A : MA) (X : Nat → Int32) (ls : Array Slot) (H : Heap) (locs : List Loc), rc 42 I A X = some (r, I', A') → lv_has ls 6 [(0, .ref h), (1, .int (X 1)), (2, .int (X 2)), (3, .int (X 3)), (4, .int (X 4))] → va_P (dC, dI) vwCl (mw_W h q g I A) H → va_D B9 (mw_W h q g I A) → va_S B9 s.heap H locs → W p l e (headSpec w_M_longest ({ frames := 3, cells := 0, slots := 0, locals := 68 })).room s m ([.ref h, .int k1] : List Value).toArray below meth c H locs 0 0 (MQ below (va_Qi (fun (r9 : Int32) (_ : Unit) => r9 = r) (fun (_ : Unit) t => va_P (dC, dI) vwCl (mw_W h q g I' A') t.heap ∧ va_K (dC, dI) vwCl (mw_T g) t ∧ va_D B9 (mw_W h q g I' A')) B9) ([.ref h, .int k1] : List Value).toArray s 0 0 B9) (F0 m 42 ls [])) (hrc81 : ∀ (I : MI) (A : MA) (X : Nat → Int32) (ls : Array Slot) (H : Heap) (locs : List Loc), rc 81 I A X = some (r, I', A') → lv_has ls 6 [(0, .ref h), (1, .int (X 1)), (2, .int (X 2)), (3, .int (X 3)), (4, .int (X 4)), (5, .int (X 5))] → va_P (dC, dI) vwCl (mw_W h q g I A) H → va_D B9 (mw_W h q g I A) → va_S B9 s.heap H locs → W p l e (headSpec w_M_longest ({ frames := 3, cells := 0, slots := 0, locals := 68 })).room s m ([.ref h, .int k1] : List Value).toArray below meth c H locs 0 0 (MQ below (va_Qi (fun (r9 : Int32) (_ : Unit) => r9 = r) (fun (_ : Unit) t => va_P (dC, dI) vwCl (mw_W h q g I' A') t.heap ∧ va_K (dC, dI) vwCl (mw_T g) t ∧ va_D B9 (mw_W h q g I' A')) B9) ([.ref h, .int k1] : List Value).toArray s 0 0 B9) (F0 m 81 ls [])) (hrc107 : ∀ (I : MI) (A : MA) (X : Nat → Int32) (ls : Array Slot) (H : Heap) (locs : List Loc), rc 107 I A X = some (r, I', A') → lv_has ls 6 [(0, .ref h), (1, .int (X 1)), (2, .int (X 2)), (3, .int (X 3)), (4, .int (X 4)), (5, .int (X 5))] → va_P (dC, dI) vwCl (mw_W h q g I A) H → va_D B9 (mw_W h q g I A) → va_S B9 s.heap H locs → W p l e (headSpec w_M_longest ({ frames := 3, cells := 0, slots := 0, locals := 68 })).room s m ([.ref h, .int k1] : List Value).toArray below meth c H locs 0 0 (MQ below (va_Qi (fun (r9 : Int32) (_ : Unit) => r9 = r) (fun (_ : Unit) t => va_P (dC, dI) vwCl (mw_W h q g I' A') t.heap ∧ va_K (dC, dI) vwCl (mw_T g) t ∧ va_D B9 (mw_W h q g I' A')) B9) ([.ref h, .int k1] : List Value).toArray s 0 0 B9) (F0 m 107 ls [])) (hrc173 : ∀ (I : MI) (A : MA) (X : Nat → Int32) (ls : Array Slot) (H : Heap) (locs : List Loc), rc 173 I A X = some (r, I', A') → lv_has ls 6 [(0, .ref h), (1, .int (X 1)), (2, .int (X 2)), (3, .int (X 3)), (4, .int (X 4)), (5, .int (X 5))] → va_P (dC, dI) vwCl (mw_W h q g I A) H → va_D B9 (mw_W h q g I A) → va_S B9 s.heap H locs → W p l e (headSpec w_M_longest ({ frames := 3, cells := 0, slots := 0, locals := 68 })).room s m ([.ref h, .int k1] : List Value).toArray below meth c H locs 0 0 (MQ below (va_Qi (fun (r9 : Int32) (_ : Unit) => r9 = r) (fun (_ : Unit) t => va_P (dC, dI) vwCl (mw_W h q g I' A') t.heap ∧ va_K (dC, dI) vwCl (mw_T g) t ∧ va_D B9 (mw_W h q g I' A')) B9) ([.ref h, .int k1] : List Value).toArray s 0 0 B9) (F0 m 173 ls [])), ∀ (I : MI) (A : MA) (X : Nat → Int32) (s0 : Int32) (s1 : Int32) (ls : Array Slot) (H : Heap) (locs : List Loc), f_M_longest_28 rc I A X s0 s1 = some (r, I', A') → lv_has ls 6 [(0, .ref h), (1, .int (X 1)), (2, .int (X 2))] → va_P (dC, dI) vwCl (mw_W h q g I A) H → va_D B9 (mw_W h q g I A) → va_S B9 s.heap H locs → W p l e (headSpec w_M_longest ({ frames := 3, cells := 0, slots := 0, locals := 68 })).room s m ([.ref h, .int k1] : List Value).toArray below meth c H locs 0 0 (MQ below (va_Qi (fun (r9 : Int32) (_ : Unit) => r9 = r) (fun (_ : Unit) t => va_P (dC, dI) vwCl (mw_W h q g I' A') t.heap ∧ va_K (dC, dI) vwCl (mw_T g) t ∧ va_D B9 (mw_W h q g I' A')) B9) ([.ref h, .int k1] : List Value).toArray s 0 0 B9) (F0 m 28 ls [.int s0, .int s1, .ref (q 32)]) := by
    intro rc hrc2 hrc42 hrc81 hrc107 hrc173 I A X s0 s1 ls H locs hf hl hP hD hS
    unfold f_M_longest_28 at hf
    obtain ⟨hc1, hf⟩ := wk_if hf
    refine va_zast hx hb hK hP hD hS 18 17 rfl rfl (wk_inb_ok hc1) d_M_longest_28 (fun H locs hP hD hS => ?_)
    obtain ⟨A1, hA1, hf⟩ := wk_letE hf
    have hP : va_P (dC, dI) vwCl (mw_W h q g I A1) H := by rw [hA1]; exact hP
    have hD : va_D B9 (mw_W h q g I A1) := by rw [hA1]; exact hD
    clear hA1
    refine lv_iinc (k := 2) (v := ((X 2) + 1)) (lv' := [(2, .int ((X 2) + 1)), (0, .ref h), (1, .int (X 1))]) hx hb d_M_longest_29 hl rfl (wk_inc (by decide)) (by decide) rfl (fun ls hl => ?_)
    have hl : lv_has ls 6 [(2, .int ((X 2) + 1)), (0, .ref h), (1, .int (X 1))] := hl
    refine lv_goto (tgt := 2) hx hb d_M_longest_32 (by decide) ?_
    exact hrc2 I A1 (upd X 2 ((X 2) + 1)) _ _ _ hf (lv_sub hl [1, 2, 0] rfl) hP hD hS
  have stp2 : ∀ (rc : Nat → MI → MA → (Nat → Int32) → Option (Int32 × MI × MA)) (hrc2 : ∀ (I : MI) (A : MA) (X : Nat → Int32) (ls : Array Slot) (H : Heap) (locs : List Loc), rc 2 I A X = some (r, I', A') → lv_has ls 6 [(0, .ref h), (1, .int (X 1)), (2, .int (X 2))] → va_P (dC, dI) vwCl (mw_W h q g I A) H → va_D B9 (mw_W h q g I A) → va_S B9 s.heap H locs → W p l e (headSpec w_M_longest ({ frames := 3, cells := 0, slots := 0, locals := 68 })).room s m ([.ref h, .int k1] : List Value).toArray below meth c H locs 0 0 (MQ below (va_Qi (fun (r9 : Int32) (_ : Unit) => r9 = r) (fun (_ : Unit) t => va_P (dC, dI) vwCl (mw_W h q g I' A') t.heap ∧ va_K (dC, dI) vwCl (mw_T g) t ∧ va_D B9 (mw_W h q g I' A')) B9) ([.ref h, .int k1] : List Value).toArray s 0 0 B9) (F0 m 2 ls [])) (hrc42 : ∀ (I : MI) (A : MA) (X : Nat → Int32) (ls : Array Slot) (H : Heap) (locs : List Loc), rc 42 I A X = some (r, I', A') → lv_has ls 6 [(0, .ref h), (1, .int (X 1)), (2, .int (X 2)), (3, .int (X 3)), (4, .int (X 4))] → va_P (dC, dI) vwCl (mw_W h q g I A) H → va_D B9 (mw_W h q g I A) → va_S B9 s.heap H locs → W p l e (headSpec w_M_longest ({ frames := 3, cells := 0, slots := 0, locals := 68 })).room s m ([.ref h, .int k1] : List Value).toArray below meth c H locs 0 0 (MQ below (va_Qi (fun (r9 : Int32) (_ : Unit) => r9 = r) (fun (_ : Unit) t => va_P (dC, dI) vwCl (mw_W h q g I' A') t.heap ∧ va_K (dC, dI) vwCl (mw_T g) t ∧ va_D B9 (mw_W h q g I' A')) B9) ([.ref h, .int k1] : List Value).toArray s 0 0 B9) (F0 m 42 ls [])) (hrc81 : ∀ (I : MI) (A : MA) (X : Nat → Int32) (ls : Array Slot) (H : Heap) (locs : List Loc), rc 81 I A X = some (r, I', A') → lv_has ls 6 [(0, .ref h), (1, .int (X 1)), (2, .int (X 2)), (3, .int (X 3)), (4, .int (X 4)), (5, .int (X 5))] → va_P (dC, dI) vwCl (mw_W h q g I A) H → va_D B9 (mw_W h q g I A) → va_S B9 s.heap H locs → W p l e (headSpec w_M_longest ({ frames := 3, cells := 0, slots := 0, locals := 68 })).room s m ([.ref h, .int k1] : List Value).toArray below meth c H locs 0 0 (MQ below (va_Qi (fun (r9 : Int32) (_ : Unit) => r9 = r) (fun (_ : Unit) t => va_P (dC, dI) vwCl (mw_W h q g I' A') t.heap ∧ va_K (dC, dI) vwCl (mw_T g) t ∧ va_D B9 (mw_W h q g I' A')) B9) ([.ref h, .int k1] : List Value).toArray s 0 0 B9) (F0 m 81 ls [])) (hrc107 : ∀ (I : MI) (A : MA) (X : Nat → Int32) (ls : Array Slot) (H : Heap) (locs : List Loc), rc 107 I A X = some (r, I', A') → lv_has ls 6 [(0, .ref h), (1, .int (X 1)), (2, .int (X 2)), (3, .int (X 3)), (4, .int (X 4)), (5, .int (X 5))] → va_P (dC, dI) vwCl (mw_W h q g I A) H → va_D B9 (mw_W h q g I A) → va_S B9 s.heap H locs → W p l e (headSpec w_M_longest ({ frames := 3, cells := 0, slots := 0, locals := 68 })).room s m ([.ref h, .int k1] : List Value).toArray below meth c H locs 0 0 (MQ below (va_Qi (fun (r9 : Int32) (_ : Unit) => r9 = r) (fun (_ : Unit) t => va_P (dC, dI) vwCl (mw_W h q g I' A') t.heap ∧ va_K (dC, dI) vwCl (mw_T g) t ∧ va_D B9 (mw_W h q g I' A')) B9) ([.ref h, .int k1] : List Value).toArray s 0 0 B9) (F0 m 107 ls [])) (hrc173 : ∀ (I : MI) (A : MA) (X : Nat → Int32) (ls : Array Slot) (H : Heap) (locs : List Loc), rc 173 I A X = some (r, I', A') → lv_has ls 6 [(0, .ref h), (1, .int (X 1)), (2, .int (X 2)), (3, .int (X 3)), (4, .int (X 4)), (5, .int (X 5))] → va_P (dC, dI) vwCl (mw_W h q g I A) H → va_D B9 (mw_W h q g I A) → va_S B9 s.heap H locs → W p l e (headSpec w_M_longest ({ frames := 3, cells := 0, slots := 0, locals := 68 })).room s m ([.ref h, .int k1] : List Value).toArray below meth c H locs 0 0 (MQ below (va_Qi (fun (r9 : Int32) (_ : Unit) => r9 = r) (fun (_ : Unit) t => va_P (dC, dI) vwCl (mw_W h q g I' A') t.heap ∧ va_K (dC, dI) vwCl (mw_T g) t ∧ va_D B9 (mw_W h q g I' A')) B9) ([.ref h, .int k1] : List Value).toArray s 0 0 B9) (F0 m 173 ls [])), ∀ (I : MI) (A : MA) (X : Nat → Int32) (ls : Array Slot) (H : Heap) (locs : List Loc), f_M_longest_2 rc I A X = some (r, I', A') → lv_has ls 6 [(0, .ref h), (1, .int (X 1)), (2, .int (X 2))] → va_P (dC, dI) vwCl (mw_W h q g I A) H → va_D B9 (mw_W h q g I A) → va_S B9 s.heap H locs → W p l e (headSpec w_M_longest ({ frames := 3, cells := 0, slots := 0, locals := 68 })).room s m ([.ref h, .int k1] : List Value).toArray below meth c H locs 0 0 (MQ below (va_Qi (fun (r9 : Int32) (_ : Unit) => r9 = r) (fun (_ : Unit) t => va_P (dC, dI) vwCl (mw_W h q g I' A') t.heap ∧ va_K (dC, dI) vwCl (mw_T g) t ∧ va_D B9 (mw_W h q g I' A')) B9) ([.ref h, .int k1] : List Value).toArray s 0 0 B9) (F0 m 2 ls []) := by
    intro rc hrc2 hrc42 hrc81 hrc107 hrc173 I A X ls H locs hf hl hP hD hS
    unfold f_M_longest_2 at hf
    refine lv_iload_n hx hb d_M_longest_2 rfl (lv_at hl 2 rfl) ?_
    refine lv_aload_n hx hb d_M_longest_3 rfl (lv_at hl 0 rfl) ?_
    refine va_get (D := (dC, dI)) (ci := 4) (v := .int (I 17)) (C := R_M) (T := F_M) (N := 38) hx hb hts (fun w h => List.mem_cons_of_mem _ (in_M w h)) hown hK hP 0 rfl rfl 17 (by decide) (hts _ (List.mem_cons_of_mem _ lk_83)) (fun _ h9 => h9) rfl d_M_longest_4 ?_
    refine lv_icmp_ge (tgt := 35) hx hb d_M_longest_7 (by decide) (fun hc1 => ?_) (fun hc1 => ?_)
    ·
      have hf := wk_ift hc1 hf
      refine lv_iconst (v := (-1)) hx hb d_M_longest_35 (by decide) ?_
      refine lv_istore_n (lv' := [(2, .int (-1)), (0, .ref h), (1, .int (X 1))]) hx hb d_M_longest_36 rfl hl (by decide) rfl (fun ls hl => ?_)
      have hl : lv_has ls 6 [(2, .int (-1)), (0, .ref h), (1, .int (X 1))] := hl
      refine lv_iload_n hx hb d_M_longest_37 rfl (lv_at hl 2 rfl) ?_
      refine lv_istore_n (lv' := [(3, .int (X 1)), (2, .int (-1)), (0, .ref h), (1, .int (X 1))]) hx hb d_M_longest_38 rfl hl (by decide) rfl (fun ls hl => ?_)
      have hl : lv_has ls 6 [(3, .int (X 1)), (2, .int (-1)), (0, .ref h), (1, .int (X 1))] := hl
      refine lv_iconst (v := 1) hx hb d_M_longest_39 (by decide) ?_
      refine lv_istore (lv' := [(4, .int 1), (3, .int (X 1)), (2, .int (-1)), (0, .ref h), (1, .int (X 1))]) hx hb d_M_longest_40 hl (by decide) rfl (fun ls hl => ?_)
      have hl : lv_has ls 6 [(4, .int 1), (3, .int (X 1)), (2, .int (-1)), (0, .ref h), (1, .int (X 1))] := hl
      exact hrc42 I A (upd (upd (upd X 2 (-1)) 3 (X 1)) 4 1) _ _ _ hf (lv_sub hl [3, 4, 2, 1, 0] rfl) hP hD hS
    ·
      have hf := wk_iff hc1 hf
      refine lv_aload_n hx hb d_M_longest_10 rfl (lv_at hl 0 rfl) ?_
      refine va_get (D := (dC, dI)) (ci := 4) (v := .ref (q 32)) (C := R_M) (T := F_M) (N := 38) hx hb hts (fun w h => List.mem_cons_of_mem _ (in_M w h)) hown hK hP 0 rfl rfl 32 (by decide) (hts _ (List.mem_cons_of_mem _ lk_172)) (fun _ h9 => h9) rfl d_M_longest_11 ?_
      refine lv_iload_n hx hb d_M_longest_14 rfl (lv_at hl 2 rfl) ?_
      refine lv_iload_n hx hb d_M_longest_15 rfl (lv_at hl 2 rfl) ?_
      refine lv_aload_n hx hb d_M_longest_16 rfl (lv_at hl 0 rfl) ?_
      refine va_get (D := (dC, dI)) (ci := 4) (v := .int (I 23)) (C := R_M) (T := F_M) (N := 38) hx hb hts (fun w h => List.mem_cons_of_mem _ (in_M w h)) hown hK hP 0 rfl rfl 23 (by decide) (hts _ (List.mem_cons_of_mem _ lk_140)) (fun _ h9 => h9) rfl d_M_longest_17 ?_
      refine lv_icmp_ne (tgt := 27) hx hb d_M_longest_20 (by decide) (fun hc2 => ?_) (fun hc2 => ?_)
      ·
        have hf := wk_iff hc2 hf
        refine lv_iconst (v := 0) hx hb d_M_longest_27 (by decide) ?_
        exact blk28 rc hrc2 hrc42 hrc81 hrc107 hrc173 I A X 0 (X 2) _ _ _ hf (lv_sub hl [0, 1, 2] rfl) hP hD hS
      ·
        have hf := wk_ift hc2 hf
        refine lv_iconst (v := 1) hx hb d_M_longest_23 (by decide) ?_
        refine lv_goto (tgt := 28) hx hb d_M_longest_24 (by decide) ?_
        exact blk28 rc hrc2 hrc42 hrc81 hrc107 hrc173 I A X 1 (X 2) _ _ _ hf (lv_sub hl [0, 1, 2] rfl) hP hD hS
  have blk74 : ∀ (rc : Nat → MI → MA → (Nat → Int32) → Option (Int32 × MI × MA)) (hrc2 : ∀ (I : MI) (A : MA) (X : Nat → Int32) (ls : Array Slot) (H : Heap) (locs : List Loc), rc 2 I A X = some (r, I', A') → lv_has ls 6 [(0, .ref h), (1, .int (X 1)), (2, .int (X 2))] → va_P (dC, dI) vwCl (mw_W h q g I A) H → va_D B9 (mw_W h q g I A) → va_S B9 s.heap H locs → W p l e (headSpec w_M_longest ({ frames := 3, cells := 0, slots := 0, locals := 68 })).room s m ([.ref h, .int k1] : List Value).toArray below meth c H locs 0 0 (MQ below (va_Qi (fun (r9 : Int32) (_ : Unit) => r9 = r) (fun (_ : Unit) t => va_P (dC, dI) vwCl (mw_W h q g I' A') t.heap ∧ va_K (dC, dI) vwCl (mw_T g) t ∧ va_D B9 (mw_W h q g I' A')) B9) ([.ref h, .int k1] : List Value).toArray s 0 0 B9) (F0 m 2 ls [])) (hrc42 : ∀ (I : MI) (A : MA) (X : Nat → Int32) (ls : Array Slot) (H : Heap) (locs : List Loc), rc 42 I A X = some (r, I', A') → lv_has ls 6 [(0, .ref h), (1, .int (X 1)), (2, .int (X 2)), (3, .int (X 3)), (4, .int (X 4))] → va_P (dC, dI) vwCl (mw_W h q g I A) H → va_D B9 (mw_W h q g I A) → va_S B9 s.heap H locs → W p l e (headSpec w_M_longest ({ frames := 3, cells := 0, slots := 0, locals := 68 })).room s m ([.ref h, .int k1] : List Value).toArray below meth c H locs 0 0 (MQ below (va_Qi (fun (r9 : Int32) (_ : Unit) => r9 = r) (fun (_ : Unit) t => va_P (dC, dI) vwCl (mw_W h q g I' A') t.heap ∧ va_K (dC, dI) vwCl (mw_T g) t ∧ va_D B9 (mw_W h q g I' A')) B9) ([.ref h, .int k1] : List Value).toArray s 0 0 B9) (F0 m 42 ls [])) (hrc81 : ∀ (I : MI) (A : MA) (X : Nat → Int32) (ls : Array Slot) (H : Heap) (locs : List Loc), rc 81 I A X = some (r, I', A') → lv_has ls 6 [(0, .ref h), (1, .int (X 1)), (2, .int (X 2)), (3, .int (X 3)), (4, .int (X 4)), (5, .int (X 5))] → va_P (dC, dI) vwCl (mw_W h q g I A) H → va_D B9 (mw_W h q g I A) → va_S B9 s.heap H locs → W p l e (headSpec w_M_longest ({ frames := 3, cells := 0, slots := 0, locals := 68 })).room s m ([.ref h, .int k1] : List Value).toArray below meth c H locs 0 0 (MQ below (va_Qi (fun (r9 : Int32) (_ : Unit) => r9 = r) (fun (_ : Unit) t => va_P (dC, dI) vwCl (mw_W h q g I' A') t.heap ∧ va_K (dC, dI) vwCl (mw_T g) t ∧ va_D B9 (mw_W h q g I' A')) B9) ([.ref h, .int k1] : List Value).toArray s 0 0 B9) (F0 m 81 ls [])) (hrc107 : ∀ (I : MI) (A : MA) (X : Nat → Int32) (ls : Array Slot) (H : Heap) (locs : List Loc), rc 107 I A X = some (r, I', A') → lv_has ls 6 [(0, .ref h), (1, .int (X 1)), (2, .int (X 2)), (3, .int (X 3)), (4, .int (X 4)), (5, .int (X 5))] → va_P (dC, dI) vwCl (mw_W h q g I A) H → va_D B9 (mw_W h q g I A) → va_S B9 s.heap H locs → W p l e (headSpec w_M_longest ({ frames := 3, cells := 0, slots := 0, locals := 68 })).room s m ([.ref h, .int k1] : List Value).toArray below meth c H locs 0 0 (MQ below (va_Qi (fun (r9 : Int32) (_ : Unit) => r9 = r) (fun (_ : Unit) t => va_P (dC, dI) vwCl (mw_W h q g I' A') t.heap ∧ va_K (dC, dI) vwCl (mw_T g) t ∧ va_D B9 (mw_W h q g I' A')) B9) ([.ref h, .int k1] : List Value).toArray s 0 0 B9) (F0 m 107 ls [])) (hrc173 : ∀ (I : MI) (A : MA) (X : Nat → Int32) (ls : Array Slot) (H : Heap) (locs : List Loc), rc 173 I A X = some (r, I', A') → lv_has ls 6 [(0, .ref h), (1, .int (X 1)), (2, .int (X 2)), (3, .int (X 3)), (4, .int (X 4)), (5, .int (X 5))] → va_P (dC, dI) vwCl (mw_W h q g I A) H → va_D B9 (mw_W h q g I A) → va_S B9 s.heap H locs → W p l e (headSpec w_M_longest ({ frames := 3, cells := 0, slots := 0, locals := 68 })).room s m ([.ref h, .int k1] : List Value).toArray below meth c H locs 0 0 (MQ below (va_Qi (fun (r9 : Int32) (_ : Unit) => r9 = r) (fun (_ : Unit) t => va_P (dC, dI) vwCl (mw_W h q g I' A') t.heap ∧ va_K (dC, dI) vwCl (mw_T g) t ∧ va_D B9 (mw_W h q g I' A')) B9) ([.ref h, .int k1] : List Value).toArray s 0 0 B9) (F0 m 173 ls [])), ∀ (I : MI) (A : MA) (X : Nat → Int32) (s0 : Int32) (ls : Array Slot) (H : Heap) (locs : List Loc), f_M_longest_74 rc I A X s0 = some (r, I', A') → lv_has ls 6 [(0, .ref h), (1, .int (X 1)), (2, .int (X 2)), (3, .int (X 3)), (4, .int (X 4))] → va_P (dC, dI) vwCl (mw_W h q g I A) H → va_D B9 (mw_W h q g I A) → va_S B9 s.heap H locs → W p l e (headSpec w_M_longest ({ frames := 3, cells := 0, slots := 0, locals := 68 })).room s m ([.ref h, .int k1] : List Value).toArray below meth c H locs 0 0 (MQ below (va_Qi (fun (r9 : Int32) (_ : Unit) => r9 = r) (fun (_ : Unit) t => va_P (dC, dI) vwCl (mw_W h q g I' A') t.heap ∧ va_K (dC, dI) vwCl (mw_T g) t ∧ va_D B9 (mw_W h q g I' A')) B9) ([.ref h, .int k1] : List Value).toArray s 0 0 B9) (F0 m 74 ls [.int s0]) := by
    intro rc hrc2 hrc42 hrc81 hrc107 hrc173 I A X s0 ls H locs hf hl hP hD hS
    unfold f_M_longest_74 at hf
    refine lv_istore_n (lv' := [(2, .int s0), (0, .ref h), (1, .int (X 1)), (3, .int (X 3)), (4, .int (X 4))]) hx hb d_M_longest_74 rfl hl (by decide) rfl (fun ls hl => ?_)
    have hl : lv_has ls 6 [(2, .int s0), (0, .ref h), (1, .int (X 1)), (3, .int (X 3)), (4, .int (X 4))] := hl
    refine lv_iconst (v := 0) hx hb d_M_longest_75 (by decide) ?_
    refine lv_istore (lv' := [(4, .int 0), (2, .int s0), (0, .ref h), (1, .int (X 1)), (3, .int (X 3))]) hx hb d_M_longest_76 hl (by decide) rfl (fun ls hl => ?_)
    have hl : lv_has ls 6 [(4, .int 0), (2, .int s0), (0, .ref h), (1, .int (X 1)), (3, .int (X 3))] := hl
    refine lv_iconst (v := 0) hx hb d_M_longest_78 (by decide) ?_
    refine lv_istore (lv' := [(5, .int 0), (4, .int 0), (2, .int s0), (0, .ref h), (1, .int (X 1)), (3, .int (X 3))]) hx hb d_M_longest_79 hl (by decide) rfl (fun ls hl => ?_)
    have hl : lv_has ls 6 [(5, .int 0), (4, .int 0), (2, .int s0), (0, .ref h), (1, .int (X 1)), (3, .int (X 3))] := hl
    exact hrc81 I A (upd (upd (upd X 2 s0) 4 0) 5 0) _ _ _ hf (lv_sub hl [3, 4, 2, 5, 1, 0] rfl) hP hD hS
  have blk73 : ∀ (rc : Nat → MI → MA → (Nat → Int32) → Option (Int32 × MI × MA)) (hrc2 : ∀ (I : MI) (A : MA) (X : Nat → Int32) (ls : Array Slot) (H : Heap) (locs : List Loc), rc 2 I A X = some (r, I', A') → lv_has ls 6 [(0, .ref h), (1, .int (X 1)), (2, .int (X 2))] → va_P (dC, dI) vwCl (mw_W h q g I A) H → va_D B9 (mw_W h q g I A) → va_S B9 s.heap H locs → W p l e (headSpec w_M_longest ({ frames := 3, cells := 0, slots := 0, locals := 68 })).room s m ([.ref h, .int k1] : List Value).toArray below meth c H locs 0 0 (MQ below (va_Qi (fun (r9 : Int32) (_ : Unit) => r9 = r) (fun (_ : Unit) t => va_P (dC, dI) vwCl (mw_W h q g I' A') t.heap ∧ va_K (dC, dI) vwCl (mw_T g) t ∧ va_D B9 (mw_W h q g I' A')) B9) ([.ref h, .int k1] : List Value).toArray s 0 0 B9) (F0 m 2 ls [])) (hrc42 : ∀ (I : MI) (A : MA) (X : Nat → Int32) (ls : Array Slot) (H : Heap) (locs : List Loc), rc 42 I A X = some (r, I', A') → lv_has ls 6 [(0, .ref h), (1, .int (X 1)), (2, .int (X 2)), (3, .int (X 3)), (4, .int (X 4))] → va_P (dC, dI) vwCl (mw_W h q g I A) H → va_D B9 (mw_W h q g I A) → va_S B9 s.heap H locs → W p l e (headSpec w_M_longest ({ frames := 3, cells := 0, slots := 0, locals := 68 })).room s m ([.ref h, .int k1] : List Value).toArray below meth c H locs 0 0 (MQ below (va_Qi (fun (r9 : Int32) (_ : Unit) => r9 = r) (fun (_ : Unit) t => va_P (dC, dI) vwCl (mw_W h q g I' A') t.heap ∧ va_K (dC, dI) vwCl (mw_T g) t ∧ va_D B9 (mw_W h q g I' A')) B9) ([.ref h, .int k1] : List Value).toArray s 0 0 B9) (F0 m 42 ls [])) (hrc81 : ∀ (I : MI) (A : MA) (X : Nat → Int32) (ls : Array Slot) (H : Heap) (locs : List Loc), rc 81 I A X = some (r, I', A') → lv_has ls 6 [(0, .ref h), (1, .int (X 1)), (2, .int (X 2)), (3, .int (X 3)), (4, .int (X 4)), (5, .int (X 5))] → va_P (dC, dI) vwCl (mw_W h q g I A) H → va_D B9 (mw_W h q g I A) → va_S B9 s.heap H locs → W p l e (headSpec w_M_longest ({ frames := 3, cells := 0, slots := 0, locals := 68 })).room s m ([.ref h, .int k1] : List Value).toArray below meth c H locs 0 0 (MQ below (va_Qi (fun (r9 : Int32) (_ : Unit) => r9 = r) (fun (_ : Unit) t => va_P (dC, dI) vwCl (mw_W h q g I' A') t.heap ∧ va_K (dC, dI) vwCl (mw_T g) t ∧ va_D B9 (mw_W h q g I' A')) B9) ([.ref h, .int k1] : List Value).toArray s 0 0 B9) (F0 m 81 ls [])) (hrc107 : ∀ (I : MI) (A : MA) (X : Nat → Int32) (ls : Array Slot) (H : Heap) (locs : List Loc), rc 107 I A X = some (r, I', A') → lv_has ls 6 [(0, .ref h), (1, .int (X 1)), (2, .int (X 2)), (3, .int (X 3)), (4, .int (X 4)), (5, .int (X 5))] → va_P (dC, dI) vwCl (mw_W h q g I A) H → va_D B9 (mw_W h q g I A) → va_S B9 s.heap H locs → W p l e (headSpec w_M_longest ({ frames := 3, cells := 0, slots := 0, locals := 68 })).room s m ([.ref h, .int k1] : List Value).toArray below meth c H locs 0 0 (MQ below (va_Qi (fun (r9 : Int32) (_ : Unit) => r9 = r) (fun (_ : Unit) t => va_P (dC, dI) vwCl (mw_W h q g I' A') t.heap ∧ va_K (dC, dI) vwCl (mw_T g) t ∧ va_D B9 (mw_W h q g I' A')) B9) ([.ref h, .int k1] : List Value).toArray s 0 0 B9) (F0 m 107 ls [])) (hrc173 : ∀ (I : MI) (A : MA) (X : Nat → Int32) (ls : Array Slot) (H : Heap) (locs : List Loc), rc 173 I A X = some (r, I', A') → lv_has ls 6 [(0, .ref h), (1, .int (X 1)), (2, .int (X 2)), (3, .int (X 3)), (4, .int (X 4)), (5, .int (X 5))] → va_P (dC, dI) vwCl (mw_W h q g I A) H → va_D B9 (mw_W h q g I A) → va_S B9 s.heap H locs → W p l e (headSpec w_M_longest ({ frames := 3, cells := 0, slots := 0, locals := 68 })).room s m ([.ref h, .int k1] : List Value).toArray below meth c H locs 0 0 (MQ below (va_Qi (fun (r9 : Int32) (_ : Unit) => r9 = r) (fun (_ : Unit) t => va_P (dC, dI) vwCl (mw_W h q g I' A') t.heap ∧ va_K (dC, dI) vwCl (mw_T g) t ∧ va_D B9 (mw_W h q g I' A')) B9) ([.ref h, .int k1] : List Value).toArray s 0 0 B9) (F0 m 173 ls [])), ∀ (I : MI) (A : MA) (X : Nat → Int32) (ls : Array Slot) (H : Heap) (locs : List Loc), f_M_longest_73 rc I A X = some (r, I', A') → lv_has ls 6 [(0, .ref h), (1, .int (X 1)), (2, .int (X 2)), (3, .int (X 3)), (4, .int (X 4))] → va_P (dC, dI) vwCl (mw_W h q g I A) H → va_D B9 (mw_W h q g I A) → va_S B9 s.heap H locs → W p l e (headSpec w_M_longest ({ frames := 3, cells := 0, slots := 0, locals := 68 })).room s m ([.ref h, .int k1] : List Value).toArray below meth c H locs 0 0 (MQ below (va_Qi (fun (r9 : Int32) (_ : Unit) => r9 = r) (fun (_ : Unit) t => va_P (dC, dI) vwCl (mw_W h q g I' A') t.heap ∧ va_K (dC, dI) vwCl (mw_T g) t ∧ va_D B9 (mw_W h q g I' A')) B9) ([.ref h, .int k1] : List Value).toArray s 0 0 B9) (F0 m 73 ls []) := by
    intro rc hrc2 hrc42 hrc81 hrc107 hrc173 I A X ls H locs hf hl hP hD hS
    unfold f_M_longest_73 at hf
    refine lv_iload_n hx hb d_M_longest_73 rfl (lv_at hl 2 rfl) ?_
    exact blk74 rc hrc2 hrc42 hrc81 hrc107 hrc173 I A X (X 2) _ _ _ hf (lv_sub hl [0, 1, 2, 3, 4] rfl) hP hD hS
  have stp42 : ∀ (rc : Nat → MI → MA → (Nat → Int32) → Option (Int32 × MI × MA)) (hrc2 : ∀ (I : MI) (A : MA) (X : Nat → Int32) (ls : Array Slot) (H : Heap) (locs : List Loc), rc 2 I A X = some (r, I', A') → lv_has ls 6 [(0, .ref h), (1, .int (X 1)), (2, .int (X 2))] → va_P (dC, dI) vwCl (mw_W h q g I A) H → va_D B9 (mw_W h q g I A) → va_S B9 s.heap H locs → W p l e (headSpec w_M_longest ({ frames := 3, cells := 0, slots := 0, locals := 68 })).room s m ([.ref h, .int k1] : List Value).toArray below meth c H locs 0 0 (MQ below (va_Qi (fun (r9 : Int32) (_ : Unit) => r9 = r) (fun (_ : Unit) t => va_P (dC, dI) vwCl (mw_W h q g I' A') t.heap ∧ va_K (dC, dI) vwCl (mw_T g) t ∧ va_D B9 (mw_W h q g I' A')) B9) ([.ref h, .int k1] : List Value).toArray s 0 0 B9) (F0 m 2 ls [])) (hrc42 : ∀ (I : MI) (A : MA) (X : Nat → Int32) (ls : Array Slot) (H : Heap) (locs : List Loc), rc 42 I A X = some (r, I', A') → lv_has ls 6 [(0, .ref h), (1, .int (X 1)), (2, .int (X 2)), (3, .int (X 3)), (4, .int (X 4))] → va_P (dC, dI) vwCl (mw_W h q g I A) H → va_D B9 (mw_W h q g I A) → va_S B9 s.heap H locs → W p l e (headSpec w_M_longest ({ frames := 3, cells := 0, slots := 0, locals := 68 })).room s m ([.ref h, .int k1] : List Value).toArray below meth c H locs 0 0 (MQ below (va_Qi (fun (r9 : Int32) (_ : Unit) => r9 = r) (fun (_ : Unit) t => va_P (dC, dI) vwCl (mw_W h q g I' A') t.heap ∧ va_K (dC, dI) vwCl (mw_T g) t ∧ va_D B9 (mw_W h q g I' A')) B9) ([.ref h, .int k1] : List Value).toArray s 0 0 B9) (F0 m 42 ls [])) (hrc81 : ∀ (I : MI) (A : MA) (X : Nat → Int32) (ls : Array Slot) (H : Heap) (locs : List Loc), rc 81 I A X = some (r, I', A') → lv_has ls 6 [(0, .ref h), (1, .int (X 1)), (2, .int (X 2)), (3, .int (X 3)), (4, .int (X 4)), (5, .int (X 5))] → va_P (dC, dI) vwCl (mw_W h q g I A) H → va_D B9 (mw_W h q g I A) → va_S B9 s.heap H locs → W p l e (headSpec w_M_longest ({ frames := 3, cells := 0, slots := 0, locals := 68 })).room s m ([.ref h, .int k1] : List Value).toArray below meth c H locs 0 0 (MQ below (va_Qi (fun (r9 : Int32) (_ : Unit) => r9 = r) (fun (_ : Unit) t => va_P (dC, dI) vwCl (mw_W h q g I' A') t.heap ∧ va_K (dC, dI) vwCl (mw_T g) t ∧ va_D B9 (mw_W h q g I' A')) B9) ([.ref h, .int k1] : List Value).toArray s 0 0 B9) (F0 m 81 ls [])) (hrc107 : ∀ (I : MI) (A : MA) (X : Nat → Int32) (ls : Array Slot) (H : Heap) (locs : List Loc), rc 107 I A X = some (r, I', A') → lv_has ls 6 [(0, .ref h), (1, .int (X 1)), (2, .int (X 2)), (3, .int (X 3)), (4, .int (X 4)), (5, .int (X 5))] → va_P (dC, dI) vwCl (mw_W h q g I A) H → va_D B9 (mw_W h q g I A) → va_S B9 s.heap H locs → W p l e (headSpec w_M_longest ({ frames := 3, cells := 0, slots := 0, locals := 68 })).room s m ([.ref h, .int k1] : List Value).toArray below meth c H locs 0 0 (MQ below (va_Qi (fun (r9 : Int32) (_ : Unit) => r9 = r) (fun (_ : Unit) t => va_P (dC, dI) vwCl (mw_W h q g I' A') t.heap ∧ va_K (dC, dI) vwCl (mw_T g) t ∧ va_D B9 (mw_W h q g I' A')) B9) ([.ref h, .int k1] : List Value).toArray s 0 0 B9) (F0 m 107 ls [])) (hrc173 : ∀ (I : MI) (A : MA) (X : Nat → Int32) (ls : Array Slot) (H : Heap) (locs : List Loc), rc 173 I A X = some (r, I', A') → lv_has ls 6 [(0, .ref h), (1, .int (X 1)), (2, .int (X 2)), (3, .int (X 3)), (4, .int (X 4)), (5, .int (X 5))] → va_P (dC, dI) vwCl (mw_W h q g I A) H → va_D B9 (mw_W h q g I A) → va_S B9 s.heap H locs → W p l e (headSpec w_M_longest ({ frames := 3, cells := 0, slots := 0, locals := 68 })).room s m ([.ref h, .int k1] : List Value).toArray below meth c H locs 0 0 (MQ below (va_Qi (fun (r9 : Int32) (_ : Unit) => r9 = r) (fun (_ : Unit) t => va_P (dC, dI) vwCl (mw_W h q g I' A') t.heap ∧ va_K (dC, dI) vwCl (mw_T g) t ∧ va_D B9 (mw_W h q g I' A')) B9) ([.ref h, .int k1] : List Value).toArray s 0 0 B9) (F0 m 173 ls [])), ∀ (I : MI) (A : MA) (X : Nat → Int32) (ls : Array Slot) (H : Heap) (locs : List Loc), f_M_longest_42 rc I A X = some (r, I', A') → lv_has ls 6 [(0, .ref h), (1, .int (X 1)), (2, .int (X 2)), (3, .int (X 3)), (4, .int (X 4))] → va_P (dC, dI) vwCl (mw_W h q g I A) H → va_D B9 (mw_W h q g I A) → va_S B9 s.heap H locs → W p l e (headSpec w_M_longest ({ frames := 3, cells := 0, slots := 0, locals := 68 })).room s m ([.ref h, .int k1] : List Value).toArray below meth c H locs 0 0 (MQ below (va_Qi (fun (r9 : Int32) (_ : Unit) => r9 = r) (fun (_ : Unit) t => va_P (dC, dI) vwCl (mw_W h q g I' A') t.heap ∧ va_K (dC, dI) vwCl (mw_T g) t ∧ va_D B9 (mw_W h q g I' A')) B9) ([.ref h, .int k1] : List Value).toArray s 0 0 B9) (F0 m 42 ls []) := by
    intro rc hrc2 hrc42 hrc81 hrc107 hrc173 I A X ls H locs hf hl hP hD hS
    unfold f_M_longest_42 at hf
    refine lv_iload hx hb d_M_longest_42 (lv_at hl 4 rfl) ?_
    refine lv_if_eq (tgt := 208) hx hb d_M_longest_44 (by decide) (fun hc1 => ?_) (fun hc1 => ?_)
    ·
      have hf := wk_ift hc1 hf
      refine lv_iload_n hx hb d_M_longest_208 rfl (lv_at hl 2 rfl) ?_
      obtain ⟨e1, e2, e3⟩ := wk_inj hf
      subst e1
      subst e2
      subst e3
      exact W.iret (v := (X 2)) hx hb hr (fun t ht hW => ⟨⟨(X 2), (), rfl, rfl, by rw [ht]; exact hP, va_K.moved hW.alike hK, hD⟩, hS.F ht⟩) hS.2.2 d_M_longest_209
    ·
      have hf := wk_iff hc1 hf
      refine lv_aload_n hx hb d_M_longest_47 rfl (lv_at hl 0 rfl) ?_
      refine lv_iload_n hx hb d_M_longest_48 rfl (lv_at hl 3 rfl) ?_
      have hPc := hP.sub (ws' := (mw_W h q g I A)) [0, 1, 2, 3, 4, 5, 6, 7, 8, 9, 10, 11, 12, 13, 14, 15, 16, 17, 18, 19, 20] rfl
      have hDc := hD.sub (ws' := (mw_W h q g I A)) [0, 1, 2, 3, 4, 5, 6, 7, 8, 9, 10, 11, 12, 13, 14, 15, 16, 17, 18, 19, 20] (by decide) rfl
      have hKc := hK.sub (tys' := (mw_T g)) [0, 1, 2, 3, 4, 5, 6, 7, 8, 9, 10, 11, 12, 13, 14, 15, 16, 17, 18, 19] rfl
      have hFc := va_free (wc := (mw_W h q g I A)) hD hS hA [0, 1, 2, 3, 4, 5, 6, 7, 8, 9, 10, 11, 12, 13, 14, 15, 16, 17, 18, 19, 20] rfl
      cases hg1 : f_M_spread I A (X 3) with
      | none => rw [hg1] at hf; cases hf
      | some z1 =>
        obtain ⟨r1, I1, A1⟩ := z1
        rw [hg1] at hf
        dsimp only [Option.bind_some] at hf
        refine va_callv (va_runV (As := [.int (X 3)]) (rest := []) ⟨hx, hb, hml, hown, hts⟩ (cm_M_spread l dC dI h q g _ I A (X 3) r1 I1 A1 hg1) (cwV 1 hts (gd_v lk_182 lk_183 lk_184 lk_46 lk_181) rfl rfl rfl (by decide +kernel) ⟨Nat.le_of_ble_eq_true rfl, Nat.le_of_ble_eq_true rfl⟩) ⟨fun a U g mk q => by obtain ⟨q0, q1, qP, qK, qD⟩ := q; exact ⟨q0, q1, qP, va_K.moved (u := U) (U := U.calling g mk a) (Vm.Alike.refl U.vm) qK, qD⟩, va_recv (ci := 4) (q0 := 0) hK hP rfl rfl, fun U hU hW => ⟨rfl, by rw [hU], by rw [hU]; exact hPc, va_K.moved hW.alike hKc, hDc.weaken (fun _ _ _ _ => trivial)⟩⟩ rfl rfl hl.1 rfl (lv_room (Nat.le_of_ble_eq_true rfl)) d_M_longest_49 ⟨Nat.le_of_ble_eq_true rfl, Nat.le_of_ble_eq_true rfl⟩) hS (fun q _ h => hFc q h) hFc (fun u t H1 locs ht hvm hw hB hz1 hk1 hS => ?_)
        obtain ⟨hP1, hK1, hD1⟩ := hB
        rw [ht] at hP1
        obtain ⟨hP, hD⟩ := va_join (wr := []) (w1 := (mw_W h q g I1 A1)) hP hD [0, 1, 2, 3, 4, 5, 6, 7, 8, 9, 10, 11, 12, 13, 14, 15, 16, 17, 18, 19, 20] [] rfl rfl (by decide) (by decide) hk1 hFc hP1 hD1
        generalize H1 = H at hP hS ⊢
        have hP : va_P (dC, dI) vwCl (mw_W h q g I1 A1) H := hP
        have hD : va_D B9 (mw_W h q g I1 A1) := hD
        refine lv_aload_n hx hb d_M_longest_52 rfl (lv_at hl 0 rfl) ?_
        refine va_get (D := (dC, dI)) (ci := 4) (v := .ref (q 32)) (C := R_M) (T := F_M) (N := 38) hx hb hts (fun w h => List.mem_cons_of_mem _ (in_M w h)) hown hK hP 0 rfl rfl 32 (by decide) (hts _ (List.mem_cons_of_mem _ lk_172)) (fun _ h9 => h9) rfl d_M_longest_53 ?_
        refine lv_aload_n hx hb d_M_longest_56 rfl (lv_at hl 0 rfl) ?_
        refine va_get (D := (dC, dI)) (ci := 4) (v := .int (I1 24)) (C := R_M) (T := F_M) (N := 38) hx hb hts (fun w h => List.mem_cons_of_mem _ (in_M w h)) hown hK hP 0 rfl rfl 24 (by decide) (hts _ (List.mem_cons_of_mem _ lk_141)) (fun _ h9 => h9) rfl d_M_longest_57 ?_
        obtain ⟨hc2, hf⟩ := wk_if hf
        refine va_zald hx hb hK hP 18 17 rfl rfl (wk_inb_ok hc2) d_M_longest_60 ?_
        refine lv_if_eq (tgt := 73) hx hb d_M_longest_61 (by decide) (fun hc3 => ?_) (fun hc3 => ?_)
        ·
          have hf := wk_ift hc3 hf
          exact blk73 rc hrc2 hrc42 hrc81 hrc107 hrc173 I1 A1 X _ _ _ hf (lv_sub hl [0, 1, 2, 3, 4] rfl) hP hD hS
        ·
          have hf := wk_iff hc3 hf
          refine lv_iload_n hx hb d_M_longest_64 rfl (lv_at hl 3 rfl) ?_
          refine lv_iload_n hx hb d_M_longest_65 rfl (lv_at hl 1 rfl) ?_
          refine lv_icmp_le (tgt := 73) hx hb d_M_longest_66 (by decide) (fun hc4 => ?_) (fun hc4 => ?_)
          ·
            have hf := wk_ift hc4 hf
            exact blk73 rc hrc2 hrc42 hrc81 hrc107 hrc173 I1 A1 X _ _ _ hf (lv_sub hl [0, 1, 2, 3, 4] rfl) hP hD hS
          ·
            have hf := wk_iff hc4 hf
            refine lv_iload_n hx hb d_M_longest_69 rfl (lv_at hl 3 rfl) ?_
            refine lv_goto (tgt := 74) hx hb d_M_longest_70 (by decide) ?_
            exact blk74 rc hrc2 hrc42 hrc81 hrc107 hrc173 I1 A1 X (X 3) _ _ _ hf (lv_sub hl [0, 1, 2, 3, 4] rfl) hP hD hS
  have stp81 : ∀ (rc : Nat → MI → MA → (Nat → Int32) → Option (Int32 × MI × MA)) (hrc2 : ∀ (I : MI) (A : MA) (X : Nat → Int32) (ls : Array Slot) (H : Heap) (locs : List Loc), rc 2 I A X = some (r, I', A') → lv_has ls 6 [(0, .ref h), (1, .int (X 1)), (2, .int (X 2))] → va_P (dC, dI) vwCl (mw_W h q g I A) H → va_D B9 (mw_W h q g I A) → va_S B9 s.heap H locs → W p l e (headSpec w_M_longest ({ frames := 3, cells := 0, slots := 0, locals := 68 })).room s m ([.ref h, .int k1] : List Value).toArray below meth c H locs 0 0 (MQ below (va_Qi (fun (r9 : Int32) (_ : Unit) => r9 = r) (fun (_ : Unit) t => va_P (dC, dI) vwCl (mw_W h q g I' A') t.heap ∧ va_K (dC, dI) vwCl (mw_T g) t ∧ va_D B9 (mw_W h q g I' A')) B9) ([.ref h, .int k1] : List Value).toArray s 0 0 B9) (F0 m 2 ls [])) (hrc42 : ∀ (I : MI) (A : MA) (X : Nat → Int32) (ls : Array Slot) (H : Heap) (locs : List Loc), rc 42 I A X = some (r, I', A') → lv_has ls 6 [(0, .ref h), (1, .int (X 1)), (2, .int (X 2)), (3, .int (X 3)), (4, .int (X 4))] → va_P (dC, dI) vwCl (mw_W h q g I A) H → va_D B9 (mw_W h q g I A) → va_S B9 s.heap H locs → W p l e (headSpec w_M_longest ({ frames := 3, cells := 0, slots := 0, locals := 68 })).room s m ([.ref h, .int k1] : List Value).toArray below meth c H locs 0 0 (MQ below (va_Qi (fun (r9 : Int32) (_ : Unit) => r9 = r) (fun (_ : Unit) t => va_P (dC, dI) vwCl (mw_W h q g I' A') t.heap ∧ va_K (dC, dI) vwCl (mw_T g) t ∧ va_D B9 (mw_W h q g I' A')) B9) ([.ref h, .int k1] : List Value).toArray s 0 0 B9) (F0 m 42 ls [])) (hrc81 : ∀ (I : MI) (A : MA) (X : Nat → Int32) (ls : Array Slot) (H : Heap) (locs : List Loc), rc 81 I A X = some (r, I', A') → lv_has ls 6 [(0, .ref h), (1, .int (X 1)), (2, .int (X 2)), (3, .int (X 3)), (4, .int (X 4)), (5, .int (X 5))] → va_P (dC, dI) vwCl (mw_W h q g I A) H → va_D B9 (mw_W h q g I A) → va_S B9 s.heap H locs → W p l e (headSpec w_M_longest ({ frames := 3, cells := 0, slots := 0, locals := 68 })).room s m ([.ref h, .int k1] : List Value).toArray below meth c H locs 0 0 (MQ below (va_Qi (fun (r9 : Int32) (_ : Unit) => r9 = r) (fun (_ : Unit) t => va_P (dC, dI) vwCl (mw_W h q g I' A') t.heap ∧ va_K (dC, dI) vwCl (mw_T g) t ∧ va_D B9 (mw_W h q g I' A')) B9) ([.ref h, .int k1] : List Value).toArray s 0 0 B9) (F0 m 81 ls [])) (hrc107 : ∀ (I : MI) (A : MA) (X : Nat → Int32) (ls : Array Slot) (H : Heap) (locs : List Loc), rc 107 I A X = some (r, I', A') → lv_has ls 6 [(0, .ref h), (1, .int (X 1)), (2, .int (X 2)), (3, .int (X 3)), (4, .int (X 4)), (5, .int (X 5))] → va_P (dC, dI) vwCl (mw_W h q g I A) H → va_D B9 (mw_W h q g I A) → va_S B9 s.heap H locs → W p l e (headSpec w_M_longest ({ frames := 3, cells := 0, slots := 0, locals := 68 })).room s m ([.ref h, .int k1] : List Value).toArray below meth c H locs 0 0 (MQ below (va_Qi (fun (r9 : Int32) (_ : Unit) => r9 = r) (fun (_ : Unit) t => va_P (dC, dI) vwCl (mw_W h q g I' A') t.heap ∧ va_K (dC, dI) vwCl (mw_T g) t ∧ va_D B9 (mw_W h q g I' A')) B9) ([.ref h, .int k1] : List Value).toArray s 0 0 B9) (F0 m 107 ls [])) (hrc173 : ∀ (I : MI) (A : MA) (X : Nat → Int32) (ls : Array Slot) (H : Heap) (locs : List Loc), rc 173 I A X = some (r, I', A') → lv_has ls 6 [(0, .ref h), (1, .int (X 1)), (2, .int (X 2)), (3, .int (X 3)), (4, .int (X 4)), (5, .int (X 5))] → va_P (dC, dI) vwCl (mw_W h q g I A) H → va_D B9 (mw_W h q g I A) → va_S B9 s.heap H locs → W p l e (headSpec w_M_longest ({ frames := 3, cells := 0, slots := 0, locals := 68 })).room s m ([.ref h, .int k1] : List Value).toArray below meth c H locs 0 0 (MQ below (va_Qi (fun (r9 : Int32) (_ : Unit) => r9 = r) (fun (_ : Unit) t => va_P (dC, dI) vwCl (mw_W h q g I' A') t.heap ∧ va_K (dC, dI) vwCl (mw_T g) t ∧ va_D B9 (mw_W h q g I' A')) B9) ([.ref h, .int k1] : List Value).toArray s 0 0 B9) (F0 m 173 ls [])), ∀ (I : MI) (A : MA) (X : Nat → Int32) (ls : Array Slot) (H : Heap) (locs : List Loc), f_M_longest_81 rc I A X = some (r, I', A') → lv_has ls 6 [(0, .ref h), (1, .int (X 1)), (2, .int (X 2)), (3, .int (X 3)), (4, .int (X 4)), (5, .int (X 5))] → va_P (dC, dI) vwCl (mw_W h q g I A) H → va_D B9 (mw_W h q g I A) → va_S B9 s.heap H locs → W p l e (headSpec w_M_longest ({ frames := 3, cells := 0, slots := 0, locals := 68 })).room s m ([.ref h, .int k1] : List Value).toArray below meth c H locs 0 0 (MQ below (va_Qi (fun (r9 : Int32) (_ : Unit) => r9 = r) (fun (_ : Unit) t => va_P (dC, dI) vwCl (mw_W h q g I' A') t.heap ∧ va_K (dC, dI) vwCl (mw_T g) t ∧ va_D B9 (mw_W h q g I' A')) B9) ([.ref h, .int k1] : List Value).toArray s 0 0 B9) (F0 m 81 ls []) := by
    intro rc hrc2 hrc42 hrc81 hrc107 hrc173 I A X ls H locs hf hl hP hD hS
    unfold f_M_longest_81 at hf
    refine lv_iload hx hb d_M_longest_81 (lv_at hl 5 rfl) ?_
    refine lv_aload_n hx hb d_M_longest_83 rfl (lv_at hl 0 rfl) ?_
    refine va_get (D := (dC, dI)) (ci := 4) (v := .int (I 17)) (C := R_M) (T := F_M) (N := 38) hx hb hts (fun w h => List.mem_cons_of_mem _ (in_M w h)) hown hK hP 0 rfl rfl 17 (by decide) (hts _ (List.mem_cons_of_mem _ lk_83)) (fun _ h9 => h9) rfl d_M_longest_84 ?_
    refine lv_icmp_ge (tgt := 104) hx hb d_M_longest_87 (by decide) (fun hc1 => ?_) (fun hc1 => ?_)
    ·
      have hf := wk_ift hc1 hf
      refine lv_iconst (v := 0) hx hb d_M_longest_104 (by decide) ?_
      refine lv_istore (lv' := [(5, .int 0), (0, .ref h), (1, .int (X 1)), (2, .int (X 2)), (3, .int (X 3)), (4, .int (X 4))]) hx hb d_M_longest_105 hl (by decide) rfl (fun ls hl => ?_)
      have hl : lv_has ls 6 [(5, .int 0), (0, .ref h), (1, .int (X 1)), (2, .int (X 2)), (3, .int (X 3)), (4, .int (X 4))] := hl
      exact hrc107 I A (upd X 5 0) _ _ _ hf (lv_sub hl [1, 2, 3, 4, 5, 0] rfl) hP hD hS
    ·
      have hf := wk_iff hc1 hf
      refine lv_aload_n hx hb d_M_longest_90 rfl (lv_at hl 0 rfl) ?_
      refine va_get (D := (dC, dI)) (ci := 4) (v := .ref (q 33)) (C := R_M) (T := F_M) (N := 38) hx hb hts (fun w h => List.mem_cons_of_mem _ (in_M w h)) hown hK hP 0 rfl rfl 33 (by decide) (hts _ (List.mem_cons_of_mem _ lk_185)) (fun _ h9 => h9) rfl d_M_longest_91 ?_
      refine lv_iload hx hb d_M_longest_94 (lv_at hl 5 rfl) ?_
      refine lv_iconst (v := 0) hx hb d_M_longest_96 (by decide) ?_
      obtain ⟨hc2, hf⟩ := wk_if hf
      refine va_zast hx hb hK hP hD hS 19 18 rfl rfl (wk_inb_ok hc2) d_M_longest_97 (fun H locs hP hD hS => ?_)
      obtain ⟨A1, hA1, hf⟩ := wk_letE hf
      have hP : va_P (dC, dI) vwCl (mw_W h q g I A1) H := by rw [hA1]; exact hP
      have hD : va_D B9 (mw_W h q g I A1) := by rw [hA1]; exact hD
      clear hA1
      refine lv_iinc (k := 5) (v := ((X 5) + 1)) (lv' := [(5, .int ((X 5) + 1)), (0, .ref h), (1, .int (X 1)), (2, .int (X 2)), (3, .int (X 3)), (4, .int (X 4))]) hx hb d_M_longest_98 hl rfl (wk_inc (by decide)) (by decide) rfl (fun ls hl => ?_)
      have hl : lv_has ls 6 [(5, .int ((X 5) + 1)), (0, .ref h), (1, .int (X 1)), (2, .int (X 2)), (3, .int (X 3)), (4, .int (X 4))] := hl
      refine lv_goto (tgt := 81) hx hb d_M_longest_101 (by decide) ?_
      exact hrc81 I A1 (upd X 5 ((X 5) + 1)) _ _ _ hf (lv_sub hl [1, 2, 3, 4, 5, 0] rfl) hP hD hS
  have blk170 : ∀ (rc : Nat → MI → MA → (Nat → Int32) → Option (Int32 × MI × MA)) (hrc2 : ∀ (I : MI) (A : MA) (X : Nat → Int32) (ls : Array Slot) (H : Heap) (locs : List Loc), rc 2 I A X = some (r, I', A') → lv_has ls 6 [(0, .ref h), (1, .int (X 1)), (2, .int (X 2))] → va_P (dC, dI) vwCl (mw_W h q g I A) H → va_D B9 (mw_W h q g I A) → va_S B9 s.heap H locs → W p l e (headSpec w_M_longest ({ frames := 3, cells := 0, slots := 0, locals := 68 })).room s m ([.ref h, .int k1] : List Value).toArray below meth c H locs 0 0 (MQ below (va_Qi (fun (r9 : Int32) (_ : Unit) => r9 = r) (fun (_ : Unit) t => va_P (dC, dI) vwCl (mw_W h q g I' A') t.heap ∧ va_K (dC, dI) vwCl (mw_T g) t ∧ va_D B9 (mw_W h q g I' A')) B9) ([.ref h, .int k1] : List Value).toArray s 0 0 B9) (F0 m 2 ls [])) (hrc42 : ∀ (I : MI) (A : MA) (X : Nat → Int32) (ls : Array Slot) (H : Heap) (locs : List Loc), rc 42 I A X = some (r, I', A') → lv_has ls 6 [(0, .ref h), (1, .int (X 1)), (2, .int (X 2)), (3, .int (X 3)), (4, .int (X 4))] → va_P (dC, dI) vwCl (mw_W h q g I A) H → va_D B9 (mw_W h q g I A) → va_S B9 s.heap H locs → W p l e (headSpec w_M_longest ({ frames := 3, cells := 0, slots := 0, locals := 68 })).room s m ([.ref h, .int k1] : List Value).toArray below meth c H locs 0 0 (MQ below (va_Qi (fun (r9 : Int32) (_ : Unit) => r9 = r) (fun (_ : Unit) t => va_P (dC, dI) vwCl (mw_W h q g I' A') t.heap ∧ va_K (dC, dI) vwCl (mw_T g) t ∧ va_D B9 (mw_W h q g I' A')) B9) ([.ref h, .int k1] : List Value).toArray s 0 0 B9) (F0 m 42 ls [])) (hrc81 : ∀ (I : MI) (A : MA) (X : Nat → Int32) (ls : Array Slot) (H : Heap) (locs : List Loc), rc 81 I A X = some (r, I', A') → lv_has ls 6 [(0, .ref h), (1, .int (X 1)), (2, .int (X 2)), (3, .int (X 3)), (4, .int (X 4)), (5, .int (X 5))] → va_P (dC, dI) vwCl (mw_W h q g I A) H → va_D B9 (mw_W h q g I A) → va_S B9 s.heap H locs → W p l e (headSpec w_M_longest ({ frames := 3, cells := 0, slots := 0, locals := 68 })).room s m ([.ref h, .int k1] : List Value).toArray below meth c H locs 0 0 (MQ below (va_Qi (fun (r9 : Int32) (_ : Unit) => r9 = r) (fun (_ : Unit) t => va_P (dC, dI) vwCl (mw_W h q g I' A') t.heap ∧ va_K (dC, dI) vwCl (mw_T g) t ∧ va_D B9 (mw_W h q g I' A')) B9) ([.ref h, .int k1] : List Value).toArray s 0 0 B9) (F0 m 81 ls [])) (hrc107 : ∀ (I : MI) (A : MA) (X : Nat → Int32) (ls : Array Slot) (H : Heap) (locs : List Loc), rc 107 I A X = some (r, I', A') → lv_has ls 6 [(0, .ref h), (1, .int (X 1)), (2, .int (X 2)), (3, .int (X 3)), (4, .int (X 4)), (5, .int (X 5))] → va_P (dC, dI) vwCl (mw_W h q g I A) H → va_D B9 (mw_W h q g I A) → va_S B9 s.heap H locs → W p l e (headSpec w_M_longest ({ frames := 3, cells := 0, slots := 0, locals := 68 })).room s m ([.ref h, .int k1] : List Value).toArray below meth c H locs 0 0 (MQ below (va_Qi (fun (r9 : Int32) (_ : Unit) => r9 = r) (fun (_ : Unit) t => va_P (dC, dI) vwCl (mw_W h q g I' A') t.heap ∧ va_K (dC, dI) vwCl (mw_T g) t ∧ va_D B9 (mw_W h q g I' A')) B9) ([.ref h, .int k1] : List Value).toArray s 0 0 B9) (F0 m 107 ls [])) (hrc173 : ∀ (I : MI) (A : MA) (X : Nat → Int32) (ls : Array Slot) (H : Heap) (locs : List Loc), rc 173 I A X = some (r, I', A') → lv_has ls 6 [(0, .ref h), (1, .int (X 1)), (2, .int (X 2)), (3, .int (X 3)), (4, .int (X 4)), (5, .int (X 5))] → va_P (dC, dI) vwCl (mw_W h q g I A) H → va_D B9 (mw_W h q g I A) → va_S B9 s.heap H locs → W p l e (headSpec w_M_longest ({ frames := 3, cells := 0, slots := 0, locals := 68 })).room s m ([.ref h, .int k1] : List Value).toArray below meth c H locs 0 0 (MQ below (va_Qi (fun (r9 : Int32) (_ : Unit) => r9 = r) (fun (_ : Unit) t => va_P (dC, dI) vwCl (mw_W h q g I' A') t.heap ∧ va_K (dC, dI) vwCl (mw_T g) t ∧ va_D B9 (mw_W h q g I' A')) B9) ([.ref h, .int k1] : List Value).toArray s 0 0 B9) (F0 m 173 ls [])), ∀ (I : MI) (A : MA) (X : Nat → Int32) (ls : Array Slot) (H : Heap) (locs : List Loc), f_M_longest_170 rc I A X = some (r, I', A') → lv_has ls 6 [(0, .ref h), (1, .int (X 1)), (2, .int (X 2)), (3, .int (X 3)), (4, .int (X 4)), (5, .int (X 5))] → va_P (dC, dI) vwCl (mw_W h q g I A) H → va_D B9 (mw_W h q g I A) → va_S B9 s.heap H locs → W p l e (headSpec w_M_longest ({ frames := 3, cells := 0, slots := 0, locals := 68 })).room s m ([.ref h, .int k1] : List Value).toArray below meth c H locs 0 0 (MQ below (va_Qi (fun (r9 : Int32) (_ : Unit) => r9 = r) (fun (_ : Unit) t => va_P (dC, dI) vwCl (mw_W h q g I' A') t.heap ∧ va_K (dC, dI) vwCl (mw_T g) t ∧ va_D B9 (mw_W h q g I' A')) B9) ([.ref h, .int k1] : List Value).toArray s 0 0 B9) (F0 m 170 ls []) := by
    intro rc hrc2 hrc42 hrc81 hrc107 hrc173 I A X ls H locs hf hl hP hD hS
    unfold f_M_longest_170 at hf
    refine lv_iconst (v := 0) hx hb d_M_longest_170 (by decide) ?_
    refine lv_istore (lv' := [(5, .int 0), (0, .ref h), (1, .int (X 1)), (2, .int (X 2)), (3, .int (X 3)), (4, .int (X 4))]) hx hb d_M_longest_171 hl (by decide) rfl (fun ls hl => ?_)
    have hl : lv_has ls 6 [(5, .int 0), (0, .ref h), (1, .int (X 1)), (2, .int (X 2)), (3, .int (X 3)), (4, .int (X 4))] := hl
    exact hrc173 I A (upd X 5 0) _ _ _ hf (lv_sub hl [1, 2, 3, 4, 5, 0] rfl) hP hD hS
  have blk164 : ∀ (rc : Nat → MI → MA → (Nat → Int32) → Option (Int32 × MI × MA)) (hrc2 : ∀ (I : MI) (A : MA) (X : Nat → Int32) (ls : Array Slot) (H : Heap) (locs : List Loc), rc 2 I A X = some (r, I', A') → lv_has ls 6 [(0, .ref h), (1, .int (X 1)), (2, .int (X 2))] → va_P (dC, dI) vwCl (mw_W h q g I A) H → va_D B9 (mw_W h q g I A) → va_S B9 s.heap H locs → W p l e (headSpec w_M_longest ({ frames := 3, cells := 0, slots := 0, locals := 68 })).room s m ([.ref h, .int k1] : List Value).toArray below meth c H locs 0 0 (MQ below (va_Qi (fun (r9 : Int32) (_ : Unit) => r9 = r) (fun (_ : Unit) t => va_P (dC, dI) vwCl (mw_W h q g I' A') t.heap ∧ va_K (dC, dI) vwCl (mw_T g) t ∧ va_D B9 (mw_W h q g I' A')) B9) ([.ref h, .int k1] : List Value).toArray s 0 0 B9) (F0 m 2 ls [])) (hrc42 : ∀ (I : MI) (A : MA) (X : Nat → Int32) (ls : Array Slot) (H : Heap) (locs : List Loc), rc 42 I A X = some (r, I', A') → lv_has ls 6 [(0, .ref h), (1, .int (X 1)), (2, .int (X 2)), (3, .int (X 3)), (4, .int (X 4))] → va_P (dC, dI) vwCl (mw_W h q g I A) H → va_D B9 (mw_W h q g I A) → va_S B9 s.heap H locs → W p l e (headSpec w_M_longest ({ frames := 3, cells := 0, slots := 0, locals := 68 })).room s m ([.ref h, .int k1] : List Value).toArray below meth c H locs 0 0 (MQ below (va_Qi (fun (r9 : Int32) (_ : Unit) => r9 = r) (fun (_ : Unit) t => va_P (dC, dI) vwCl (mw_W h q g I' A') t.heap ∧ va_K (dC, dI) vwCl (mw_T g) t ∧ va_D B9 (mw_W h q g I' A')) B9) ([.ref h, .int k1] : List Value).toArray s 0 0 B9) (F0 m 42 ls [])) (hrc81 : ∀ (I : MI) (A : MA) (X : Nat → Int32) (ls : Array Slot) (H : Heap) (locs : List Loc), rc 81 I A X = some (r, I', A') → lv_has ls 6 [(0, .ref h), (1, .int (X 1)), (2, .int (X 2)), (3, .int (X 3)), (4, .int (X 4)), (5, .int (X 5))] → va_P (dC, dI) vwCl (mw_W h q g I A) H → va_D B9 (mw_W h q g I A) → va_S B9 s.heap H locs → W p l e (headSpec w_M_longest ({ frames := 3, cells := 0, slots := 0, locals := 68 })).room s m ([.ref h, .int k1] : List Value).toArray below meth c H locs 0 0 (MQ below (va_Qi (fun (r9 : Int32) (_ : Unit) => r9 = r) (fun (_ : Unit) t => va_P (dC, dI) vwCl (mw_W h q g I' A') t.heap ∧ va_K (dC, dI) vwCl (mw_T g) t ∧ va_D B9 (mw_W h q g I' A')) B9) ([.ref h, .int k1] : List Value).toArray s 0 0 B9) (F0 m 81 ls [])) (hrc107 : ∀ (I : MI) (A : MA) (X : Nat → Int32) (ls : Array Slot) (H : Heap) (locs : List Loc), rc 107 I A X = some (r, I', A') → lv_has ls 6 [(0, .ref h), (1, .int (X 1)), (2, .int (X 2)), (3, .int (X 3)), (4, .int (X 4)), (5, .int (X 5))] → va_P (dC, dI) vwCl (mw_W h q g I A) H → va_D B9 (mw_W h q g I A) → va_S B9 s.heap H locs → W p l e (headSpec w_M_longest ({ frames := 3, cells := 0, slots := 0, locals := 68 })).room s m ([.ref h, .int k1] : List Value).toArray below meth c H locs 0 0 (MQ below (va_Qi (fun (r9 : Int32) (_ : Unit) => r9 = r) (fun (_ : Unit) t => va_P (dC, dI) vwCl (mw_W h q g I' A') t.heap ∧ va_K (dC, dI) vwCl (mw_T g) t ∧ va_D B9 (mw_W h q g I' A')) B9) ([.ref h, .int k1] : List Value).toArray s 0 0 B9) (F0 m 107 ls [])) (hrc173 : ∀ (I : MI) (A : MA) (X : Nat → Int32) (ls : Array Slot) (H : Heap) (locs : List Loc), rc 173 I A X = some (r, I', A') → lv_has ls 6 [(0, .ref h), (1, .int (X 1)), (2, .int (X 2)), (3, .int (X 3)), (4, .int (X 4)), (5, .int (X 5))] → va_P (dC, dI) vwCl (mw_W h q g I A) H → va_D B9 (mw_W h q g I A) → va_S B9 s.heap H locs → W p l e (headSpec w_M_longest ({ frames := 3, cells := 0, slots := 0, locals := 68 })).room s m ([.ref h, .int k1] : List Value).toArray below meth c H locs 0 0 (MQ below (va_Qi (fun (r9 : Int32) (_ : Unit) => r9 = r) (fun (_ : Unit) t => va_P (dC, dI) vwCl (mw_W h q g I' A') t.heap ∧ va_K (dC, dI) vwCl (mw_T g) t ∧ va_D B9 (mw_W h q g I' A')) B9) ([.ref h, .int k1] : List Value).toArray s 0 0 B9) (F0 m 173 ls [])), ∀ (I : MI) (A : MA) (X : Nat → Int32) (ls : Array Slot) (H : Heap) (locs : List Loc), f_M_longest_164 rc I A X = some (r, I', A') → lv_has ls 6 [(0, .ref h), (1, .int (X 1)), (2, .int (X 2)), (3, .int (X 3)), (4, .int (X 4)), (5, .int (X 5))] → va_P (dC, dI) vwCl (mw_W h q g I A) H → va_D B9 (mw_W h q g I A) → va_S B9 s.heap H locs → W p l e (headSpec w_M_longest ({ frames := 3, cells := 0, slots := 0, locals := 68 })).room s m ([.ref h, .int k1] : List Value).toArray below meth c H locs 0 0 (MQ below (va_Qi (fun (r9 : Int32) (_ : Unit) => r9 = r) (fun (_ : Unit) t => va_P (dC, dI) vwCl (mw_W h q g I' A') t.heap ∧ va_K (dC, dI) vwCl (mw_T g) t ∧ va_D B9 (mw_W h q g I' A')) B9) ([.ref h, .int k1] : List Value).toArray s 0 0 B9) (F0 m 164 ls []) := by
    intro rc hrc2 hrc42 hrc81 hrc107 hrc173 I A X ls H locs hf hl hP hD hS
    unfold f_M_longest_164 at hf
    refine lv_iinc (k := 5) (v := ((X 5) + 1)) (lv' := [(5, .int ((X 5) + 1)), (0, .ref h), (1, .int (X 1)), (2, .int (X 2)), (3, .int (X 3)), (4, .int (X 4))]) hx hb d_M_longest_164 hl rfl (wk_inc (by decide)) (by decide) rfl (fun ls hl => ?_)
    have hl : lv_has ls 6 [(5, .int ((X 5) + 1)), (0, .ref h), (1, .int (X 1)), (2, .int (X 2)), (3, .int (X 3)), (4, .int (X 4))] := hl
    refine lv_goto (tgt := 107) hx hb d_M_longest_167 (by decide) ?_
    exact hrc107 I A (upd X 5 ((X 5) + 1)) _ _ _ hf (lv_sub hl [1, 2, 3, 4, 5, 0] rfl) hP hD hS
  have stp107 : ∀ (rc : Nat → MI → MA → (Nat → Int32) → Option (Int32 × MI × MA)) (hrc2 : ∀ (I : MI) (A : MA) (X : Nat → Int32) (ls : Array Slot) (H : Heap) (locs : List Loc), rc 2 I A X = some (r, I', A') → lv_has ls 6 [(0, .ref h), (1, .int (X 1)), (2, .int (X 2))] → va_P (dC, dI) vwCl (mw_W h q g I A) H → va_D B9 (mw_W h q g I A) → va_S B9 s.heap H locs → W p l e (headSpec w_M_longest ({ frames := 3, cells := 0, slots := 0, locals := 68 })).room s m ([.ref h, .int k1] : List Value).toArray below meth c H locs 0 0 (MQ below (va_Qi (fun (r9 : Int32) (_ : Unit) => r9 = r) (fun (_ : Unit) t => va_P (dC, dI) vwCl (mw_W h q g I' A') t.heap ∧ va_K (dC, dI) vwCl (mw_T g) t ∧ va_D B9 (mw_W h q g I' A')) B9) ([.ref h, .int k1] : List Value).toArray s 0 0 B9) (F0 m 2 ls [])) (hrc42 : ∀ (I : MI) (A : MA) (X : Nat → Int32) (ls : Array Slot) (H : Heap) (locs : List Loc), rc 42 I A X = some (r, I', A') → lv_has ls 6 [(0, .ref h), (1, .int (X 1)), (2, .int (X 2)), (3, .int (X 3)), (4, .int (X 4))] → va_P (dC, dI) vwCl (mw_W h q g I A) H → va_D B9 (mw_W h q g I A) → va_S B9 s.heap H locs → W p l e (headSpec w_M_longest ({ frames := 3, cells := 0, slots := 0, locals := 68 })).room s m ([.ref h, .int k1] : List Value).toArray below meth c H locs 0 0 (MQ below (va_Qi (fun (r9 : Int32) (_ : Unit) => r9 = r) (fun (_ : Unit) t => va_P (dC, dI) vwCl (mw_W h q g I' A') t.heap ∧ va_K (dC, dI) vwCl (mw_T g) t ∧ va_D B9 (mw_W h q g I' A')) B9) ([.ref h, .int k1] : List Value).toArray s 0 0 B9) (F0 m 42 ls [])) (hrc81 : ∀ (I : MI) (A : MA) (X : Nat → Int32) (ls : Array Slot) (H : Heap) (locs : List Loc), rc 81 I A X = some (r, I', A') → lv_has ls 6 [(0, .ref h), (1, .int (X 1)), (2, .int (X 2)), (3, .int (X 3)), (4, .int (X 4)), (5, .int (X 5))] → va_P (dC, dI) vwCl (mw_W h q g I A) H → va_D B9 (mw_W h q g I A) → va_S B9 s.heap H locs → W p l e (headSpec w_M_longest ({ frames := 3, cells := 0, slots := 0, locals := 68 })).room s m ([.ref h, .int k1] : List Value).toArray below meth c H locs 0 0 (MQ below (va_Qi (fun (r9 : Int32) (_ : Unit) => r9 = r) (fun (_ : Unit) t => va_P (dC, dI) vwCl (mw_W h q g I' A') t.heap ∧ va_K (dC, dI) vwCl (mw_T g) t ∧ va_D B9 (mw_W h q g I' A')) B9) ([.ref h, .int k1] : List Value).toArray s 0 0 B9) (F0 m 81 ls [])) (hrc107 : ∀ (I : MI) (A : MA) (X : Nat → Int32) (ls : Array Slot) (H : Heap) (locs : List Loc), rc 107 I A X = some (r, I', A') → lv_has ls 6 [(0, .ref h), (1, .int (X 1)), (2, .int (X 2)), (3, .int (X 3)), (4, .int (X 4)), (5, .int (X 5))] → va_P (dC, dI) vwCl (mw_W h q g I A) H → va_D B9 (mw_W h q g I A) → va_S B9 s.heap H locs → W p l e (headSpec w_M_longest ({ frames := 3, cells := 0, slots := 0, locals := 68 })).room s m ([.ref h, .int k1] : List Value).toArray below meth c H locs 0 0 (MQ below (va_Qi (fun (r9 : Int32) (_ : Unit) => r9 = r) (fun (_ : Unit) t => va_P (dC, dI) vwCl (mw_W h q g I' A') t.heap ∧ va_K (dC, dI) vwCl (mw_T g) t ∧ va_D B9 (mw_W h q g I' A')) B9) ([.ref h, .int k1] : List Value).toArray s 0 0 B9) (F0 m 107 ls [])) (hrc173 : ∀ (I : MI) (A : MA) (X : Nat → Int32) (ls : Array Slot) (H : Heap) (locs : List Loc), rc 173 I A X = some (r, I', A') → lv_has ls 6 [(0, .ref h), (1, .int (X 1)), (2, .int (X 2)), (3, .int (X 3)), (4, .int (X 4)), (5, .int (X 5))] → va_P (dC, dI) vwCl (mw_W h q g I A) H → va_D B9 (mw_W h q g I A) → va_S B9 s.heap H locs → W p l e (headSpec w_M_longest ({ frames := 3, cells := 0, slots := 0, locals := 68 })).room s m ([.ref h, .int k1] : List Value).toArray below meth c H locs 0 0 (MQ below (va_Qi (fun (r9 : Int32) (_ : Unit) => r9 = r) (fun (_ : Unit) t => va_P (dC, dI) vwCl (mw_W h q g I' A') t.heap ∧ va_K (dC, dI) vwCl (mw_T g) t ∧ va_D B9 (mw_W h q g I' A')) B9) ([.ref h, .int k1] : List Value).toArray s 0 0 B9) (F0 m 173 ls [])), ∀ (I : MI) (A : MA) (X : Nat → Int32) (ls : Array Slot) (H : Heap) (locs : List Loc), f_M_longest_107 rc I A X = some (r, I', A') → lv_has ls 6 [(0, .ref h), (1, .int (X 1)), (2, .int (X 2)), (3, .int (X 3)), (4, .int (X 4)), (5, .int (X 5))] → va_P (dC, dI) vwCl (mw_W h q g I A) H → va_D B9 (mw_W h q g I A) → va_S B9 s.heap H locs → W p l e (headSpec w_M_longest ({ frames := 3, cells := 0, slots := 0, locals := 68 })).room s m ([.ref h, .int k1] : List Value).toArray below meth c H locs 0 0 (MQ below (va_Qi (fun (r9 : Int32) (_ : Unit) => r9 = r) (fun (_ : Unit) t => va_P (dC, dI) vwCl (mw_W h q g I' A') t.heap ∧ va_K (dC, dI) vwCl (mw_T g) t ∧ va_D B9 (mw_W h q g I' A')) B9) ([.ref h, .int k1] : List Value).toArray s 0 0 B9) (F0 m 107 ls []) := by
    intro rc hrc2 hrc42 hrc81 hrc107 hrc173 I A X ls H locs hf hl hP hD hS
    unfold f_M_longest_107 at hf
    refine lv_iload hx hb d_M_longest_107 (lv_at hl 5 rfl) ?_
    refine lv_aload_n hx hb d_M_longest_109 rfl (lv_at hl 0 rfl) ?_
    refine va_get (D := (dC, dI)) (ci := 4) (v := .int (I 17)) (C := R_M) (T := F_M) (N := 38) hx hb hts (fun w h => List.mem_cons_of_mem _ (in_M w h)) hown hK hP 0 rfl rfl 17 (by decide) (hts _ (List.mem_cons_of_mem _ lk_83)) (fun _ h9 => h9) rfl d_M_longest_110 ?_
    refine lv_icmp_ge (tgt := 170) hx hb d_M_longest_113 (by decide) (fun hc1 => ?_) (fun hc1 => ?_)
    ·
      have hf := wk_ift hc1 hf
      exact blk170 rc hrc2 hrc42 hrc81 hrc107 hrc173 I A X _ _ _ hf (lv_sub hl [0, 1, 2, 3, 4, 5] rfl) hP hD hS
    ·
      have hf := wk_iff hc1 hf
      refine lv_iload_n hx hb d_M_longest_116 rfl (lv_at hl 3 rfl) ?_
      refine lv_aload_n hx hb d_M_longest_117 rfl (lv_at hl 0 rfl) ?_
      have hPc := hP.sub (ws' := (mw_W h q g I A)) [0, 1, 2, 3, 4, 5, 6, 7, 8, 9, 10, 11, 12, 13, 14, 15, 16, 17, 18, 19, 20] rfl
      have hDc := hD.sub (ws' := (mw_W h q g I A)) [0, 1, 2, 3, 4, 5, 6, 7, 8, 9, 10, 11, 12, 13, 14, 15, 16, 17, 18, 19, 20] (by decide) rfl
      have hKc := hK.sub (tys' := (mw_T g)) [0, 1, 2, 3, 4, 5, 6, 7, 8, 9, 10, 11, 12, 13, 14, 15, 16, 17, 18, 19] rfl
      have hFc := va_free (wc := (mw_W h q g I A)) hD hS hA [0, 1, 2, 3, 4, 5, 6, 7, 8, 9, 10, 11, 12, 13, 14, 15, 16, 17, 18, 19, 20] rfl
      cases hg1 : f_M_textLength I A with
      | none => rw [hg1] at hf; cases hf
      | some z1 =>
        obtain ⟨r1, I1, A1⟩ := z1
        rw [hg1] at hf
        dsimp only [Option.bind_some] at hf
        refine va_calli (va_runV (As := []) (rest := [.int (X 3)]) ⟨hx, hb, hml, hown, hts⟩ (cm_M_textLength l dC dI h q g _ I A r1 I1 A1 hg1) (cwV 0 hts (gd_v lk_57 lk_58 lk_59 lk_46 lk_56) rfl rfl rfl (by decide +kernel) ⟨Nat.le_of_ble_eq_true rfl, Nat.le_of_ble_eq_true rfl⟩) ⟨fun a U g mk q => by obtain ⟨q0, q1, qP, qK, qD⟩ := q; exact ⟨q0, q1, qP, va_K.moved (u := U) (U := U.calling g mk a) (Vm.Alike.refl U.vm) qK, qD⟩, va_recv (ci := 4) (q0 := 0) hK hP rfl rfl, fun U hU hW => ⟨rfl, by rw [hU], by rw [hU]; exact hPc, va_K.moved hW.alike hKc, hDc.weaken (fun _ _ _ _ => trivial)⟩⟩ rfl rfl hl.1 rfl (lv_room (Nat.le_of_ble_eq_true rfl)) d_M_longest_118 ⟨Nat.le_of_ble_eq_true rfl, Nat.le_of_ble_eq_true rfl⟩) hS (fun q _ h => hFc q h) hFc (fun r9 u t H1 locs ht hvm hw hB hz1 hk1 hS => ?_)
        obtain ⟨hP1, hK1, hD1⟩ := hB
        rw [ht] at hP1
        rw [hw]
        obtain ⟨hP, hD⟩ := va_join (wr := []) (w1 := (mw_W h q g I1 A1)) hP hD [0, 1, 2, 3, 4, 5, 6, 7, 8, 9, 10, 11, 12, 13, 14, 15, 16, 17, 18, 19, 20] [] rfl rfl (by decide) (by decide) hk1 hFc hP1 hD1
        generalize H1 = H at hP hS ⊢
        have hP : va_P (dC, dI) vwCl (mw_W h q g I1 A1) H := hP
        have hD : va_D B9 (mw_W h q g I1 A1) := hD
        refine lv_icmp_ge (tgt := 170) hx hb d_M_longest_121 (by decide) (fun hc2 => ?_) (fun hc2 => ?_)
        ·
          have hf := wk_ift hc2 hf
          exact blk170 rc hrc2 hrc42 hrc81 hrc107 hrc173 I1 A1 X _ _ _ hf (lv_sub hl [0, 1, 2, 3, 4, 5] rfl) hP hD hS
        ·
          have hf := wk_iff hc2 hf
          refine lv_aload_n hx hb d_M_longest_124 rfl (lv_at hl 0 rfl) ?_
          refine va_get (D := (dC, dI)) (ci := 4) (v := .ref (q 32)) (C := R_M) (T := F_M) (N := 38) hx hb hts (fun w h => List.mem_cons_of_mem _ (in_M w h)) hown hK hP 0 rfl rfl 32 (by decide) (hts _ (List.mem_cons_of_mem _ lk_172)) (fun _ h9 => h9) rfl d_M_longest_125 ?_
          refine lv_iload hx hb d_M_longest_128 (lv_at hl 5 rfl) ?_
          obtain ⟨hc3, hf⟩ := wk_if hf
          refine va_zald hx hb hK hP 18 17 rfl rfl (wk_inb_ok hc3) d_M_longest_130 ?_
          refine lv_if_eq (tgt := 164) hx hb d_M_longest_131 (by decide) (fun hc4 => ?_) (fun hc4 => ?_)
          ·
            have hf := wk_ift hc4 hf
            exact blk164 rc hrc2 hrc42 hrc81 hrc107 hrc173 I1 A1 X _ _ _ hf (lv_sub hl [0, 1, 2, 3, 4, 5] rfl) hP hD hS
          ·
            have hf := wk_iff hc4 hf
            refine lv_aload_n hx hb d_M_longest_134 rfl (lv_at hl 0 rfl) ?_
            refine lv_iload hx hb d_M_longest_135 (lv_at hl 5 rfl) ?_
            refine lv_aload_n hx hb d_M_longest_137 rfl (lv_at hl 0 rfl) ?_
            refine lv_iload_n hx hb d_M_longest_138 rfl (lv_at hl 3 rfl) ?_
            have hPc := hP.sub (ws' := (mw_W h q g I1 A1)) [0, 1, 2, 3, 4, 5, 6, 7, 8, 9, 10, 11, 12, 13, 14, 15, 16, 17, 18, 19, 20] rfl
            have hDc := hD.sub (ws' := (mw_W h q g I1 A1)) [0, 1, 2, 3, 4, 5, 6, 7, 8, 9, 10, 11, 12, 13, 14, 15, 16, 17, 18, 19, 20] (by decide) rfl
            have hKc := hK.sub (tys' := (mw_T g)) [0, 1, 2, 3, 4, 5, 6, 7, 8, 9, 10, 11, 12, 13, 14, 15, 16, 17, 18, 19] rfl
            have hFc := va_free (wc := (mw_W h q g I1 A1)) hD hS hA [0, 1, 2, 3, 4, 5, 6, 7, 8, 9, 10, 11, 12, 13, 14, 15, 16, 17, 18, 19, 20] rfl
            cases hg2 : f_M_charAt I1 A1 (X 3) with
            | none => rw [hg2] at hf; cases hf
            | some z2 =>
              obtain ⟨r2, I2, A2⟩ := z2
              rw [hg2] at hf
              dsimp only [Option.bind_some] at hf
              refine va_calli (va_runV (As := [.int (X 3)]) (rest := [.int (X 5), .ref h]) ⟨hx, hb, hml, hown, hts⟩ (cm_M_charAt l dC dI h q g _ I1 A1 (X 3) r2 I2 A2 hg2) (cwV 1 hts (gd_v lk_51 lk_52 lk_53 lk_46 lk_50) rfl rfl rfl (by decide +kernel) ⟨Nat.le_of_ble_eq_true rfl, Nat.le_of_ble_eq_true rfl⟩) ⟨fun a U g mk q => by obtain ⟨q0, q1, qP, qK, qD⟩ := q; exact ⟨q0, q1, qP, va_K.moved (u := U) (U := U.calling g mk a) (Vm.Alike.refl U.vm) qK, qD⟩, va_recv (ci := 4) (q0 := 0) hK hP rfl rfl, fun U hU hW => ⟨rfl, by rw [hU], by rw [hU]; exact hPc, va_K.moved hW.alike hKc, hDc.weaken (fun _ _ _ _ => trivial)⟩⟩ rfl rfl hl.1 rfl (lv_room (Nat.le_of_ble_eq_true rfl)) d_M_longest_139 ⟨Nat.le_of_ble_eq_true rfl, Nat.le_of_ble_eq_true rfl⟩) hS (fun q _ h => hFc q h) hFc (fun r9 u t H1 locs ht hvm hw hB hz1 hk1 hS => ?_)
              obtain ⟨hP1, hK1, hD1⟩ := hB
              rw [ht] at hP1
              rw [hw]
              obtain ⟨hP, hD⟩ := va_join (wr := []) (w1 := (mw_W h q g I2 A2)) hP hD [0, 1, 2, 3, 4, 5, 6, 7, 8, 9, 10, 11, 12, 13, 14, 15, 16, 17, 18, 19, 20] [] rfl rfl (by decide) (by decide) hk1 hFc hP1 hD1
              generalize H1 = H at hP hS ⊢
              have hP : va_P (dC, dI) vwCl (mw_W h q g I2 A2) H := hP
              have hD : va_D B9 (mw_W h q g I2 A2) := hD
              have hPc := hP.sub (ws' := (mw_W h q g I2 A2)) [0, 1, 2, 3, 4, 5, 6, 7, 8, 9, 10, 11, 12, 13, 14, 15, 16, 17, 18, 19, 20] rfl
              have hDc := hD.sub (ws' := (mw_W h q g I2 A2)) [0, 1, 2, 3, 4, 5, 6, 7, 8, 9, 10, 11, 12, 13, 14, 15, 16, 17, 18, 19, 20] (by decide) rfl
              have hKc := hK.sub (tys' := (mw_T g)) [0, 1, 2, 3, 4, 5, 6, 7, 8, 9, 10, 11, 12, 13, 14, 15, 16, 17, 18, 19] rfl
              have hFc := va_free (wc := (mw_W h q g I2 A2)) hD hS hA [0, 1, 2, 3, 4, 5, 6, 7, 8, 9, 10, 11, 12, 13, 14, 15, 16, 17, 18, 19, 20] rfl
              cases hg3 : f_M_takes I2 A2 (X 5) r2 with
              | none => rw [hg3] at hf; cases hf
              | some z3 =>
                obtain ⟨r3, I3, A3⟩ := z3
                rw [hg3] at hf
                dsimp only [Option.bind_some] at hf
                refine va_calli (va_runV (As := [.int (X 5), .int r2]) (rest := []) ⟨hx, hb, hml, hown, hts⟩ (cm_M_takes l dC dI h q g _ I2 A2 (X 5) r2 r3 I3 A3 hg3) (cwV 2 hts (gd_v lk_191 lk_192 lk_193 lk_46 lk_190) rfl rfl rfl (by decide +kernel) ⟨Nat.le_of_ble_eq_true rfl, Nat.le_of_ble_eq_true rfl⟩) ⟨fun a U g mk q => by obtain ⟨q0, q1, qP, qK, qD⟩ := q; exact ⟨q0, q1, qP, va_K.moved (u := U) (U := U.calling g mk a) (Vm.Alike.refl U.vm) qK, qD⟩, va_recv (ci := 4) (q0 := 0) hK hP rfl rfl, fun U hU hW => ⟨rfl, by rw [hU], by rw [hU]; exact hPc, va_K.moved hW.alike hKc, hDc.weaken (fun _ _ _ _ => trivial)⟩⟩ rfl rfl hl.1 rfl (lv_room (Nat.le_of_ble_eq_true rfl)) d_M_longest_142 ⟨Nat.le_of_ble_eq_true rfl, Nat.le_of_ble_eq_true rfl⟩) hS (fun q _ h => hFc q h) hFc (fun r9 u t H1 locs ht hvm hw hB hz1 hk1 hS => ?_)
                obtain ⟨hP1, hK1, hD1⟩ := hB
                rw [ht] at hP1
                rw [hw]
                obtain ⟨hP, hD⟩ := va_join (wr := []) (w1 := (mw_W h q g I3 A3)) hP hD [0, 1, 2, 3, 4, 5, 6, 7, 8, 9, 10, 11, 12, 13, 14, 15, 16, 17, 18, 19, 20] [] rfl rfl (by decide) (by decide) hk1 hFc hP1 hD1
                generalize H1 = H at hP hS ⊢
                have hP : va_P (dC, dI) vwCl (mw_W h q g I3 A3) H := hP
                have hD : va_D B9 (mw_W h q g I3 A3) := hD
                refine lv_if_eq (tgt := 164) hx hb d_M_longest_145 (by decide) (fun hc5 => ?_) (fun hc5 => ?_)
                ·
                  have hf := wk_ift hc5 hf
                  exact blk164 rc hrc2 hrc42 hrc81 hrc107 hrc173 I3 A3 X _ _ _ hf (lv_sub hl [0, 1, 2, 3, 4, 5] rfl) hP hD hS
                ·
                  have hf := wk_iff hc5 hf
                  refine lv_aload_n hx hb d_M_longest_148 rfl (lv_at hl 0 rfl) ?_
                  refine va_get (D := (dC, dI)) (ci := 4) (v := .ref (q 33)) (C := R_M) (T := F_M) (N := 38) hx hb hts (fun w h => List.mem_cons_of_mem _ (in_M w h)) hown hK hP 0 rfl rfl 33 (by decide) (hts _ (List.mem_cons_of_mem _ lk_185)) (fun _ h9 => h9) rfl d_M_longest_149 ?_
                  refine lv_aload_n hx hb d_M_longest_152 rfl (lv_at hl 0 rfl) ?_
                  refine va_get (D := (dC, dI)) (ci := 4) (v := .ref (q 21)) (C := R_M) (T := F_M) (N := 38) hx hb hts (fun w h => List.mem_cons_of_mem _ (in_M w h)) hown hK hP 0 rfl rfl 21 (by decide) (hts _ (List.mem_cons_of_mem _ lk_64)) (fun _ h9 => h9) rfl d_M_longest_153 ?_
                  refine lv_iload hx hb d_M_longest_156 (lv_at hl 5 rfl) ?_
                  obtain ⟨hc6, hf⟩ := wk_if hf
                  refine va_iald hx hb hK hP 11 10 rfl rfl (wk_inb_ok hc6) d_M_longest_158 ?_
                  refine lv_iconst (v := 1) hx hb d_M_longest_159 (by decide) ?_
                  obtain ⟨hc7, hf⟩ := wk_if hf
                  refine va_zast hx hb hK hP hD hS 19 18 rfl rfl (wk_inb_ok hc7) d_M_longest_160 (fun H locs hP hD hS => ?_)
                  obtain ⟨A4, hA4, hf⟩ := wk_letE hf
                  have hP : va_P (dC, dI) vwCl (mw_W h q g I3 A4) H := by rw [hA4]; exact hP
                  have hD : va_D B9 (mw_W h q g I3 A4) := by rw [hA4]; exact hD
                  clear hA4
                  refine lv_iconst (v := 1) hx hb d_M_longest_161 (by decide) ?_
                  refine lv_istore (lv' := [(4, .int 1), (0, .ref h), (1, .int (X 1)), (2, .int (X 2)), (3, .int (X 3)), (5, .int (X 5))]) hx hb d_M_longest_162 hl (by decide) rfl (fun ls hl => ?_)
                  have hl : lv_has ls 6 [(4, .int 1), (0, .ref h), (1, .int (X 1)), (2, .int (X 2)), (3, .int (X 3)), (5, .int (X 5))] := hl
                  exact blk164 rc hrc2 hrc42 hrc81 hrc107 hrc173 I3 A4 (upd X 4 1) _ _ _ hf (lv_sub hl [1, 2, 3, 4, 0, 5] rfl) hP hD hS
  have stp173 : ∀ (rc : Nat → MI → MA → (Nat → Int32) → Option (Int32 × MI × MA)) (hrc2 : ∀ (I : MI) (A : MA) (X : Nat → Int32) (ls : Array Slot) (H : Heap) (locs : List Loc), rc 2 I A X = some (r, I', A') → lv_has ls 6 [(0, .ref h), (1, .int (X 1)), (2, .int (X 2))] → va_P (dC, dI) vwCl (mw_W h q g I A) H → va_D B9 (mw_W h q g I A) → va_S B9 s.heap H locs → W p l e (headSpec w_M_longest ({ frames := 3, cells := 0, slots := 0, locals := 68 })).room s m ([.ref h, .int k1] : List Value).toArray below meth c H locs 0 0 (MQ below (va_Qi (fun (r9 : Int32) (_ : Unit) => r9 = r) (fun (_ : Unit) t => va_P (dC, dI) vwCl (mw_W h q g I' A') t.heap ∧ va_K (dC, dI) vwCl (mw_T g) t ∧ va_D B9 (mw_W h q g I' A')) B9) ([.ref h, .int k1] : List Value).toArray s 0 0 B9) (F0 m 2 ls [])) (hrc42 : ∀ (I : MI) (A : MA) (X : Nat → Int32) (ls : Array Slot) (H : Heap) (locs : List Loc), rc 42 I A X = some (r, I', A') → lv_has ls 6 [(0, .ref h), (1, .int (X 1)), (2, .int (X 2)), (3, .int (X 3)), (4, .int (X 4))] → va_P (dC, dI) vwCl (mw_W h q g I A) H → va_D B9 (mw_W h q g I A) → va_S B9 s.heap H locs → W p l e (headSpec w_M_longest ({ frames := 3, cells := 0, slots := 0, locals := 68 })).room s m ([.ref h, .int k1] : List Value).toArray below meth c H locs 0 0 (MQ below (va_Qi (fun (r9 : Int32) (_ : Unit) => r9 = r) (fun (_ : Unit) t => va_P (dC, dI) vwCl (mw_W h q g I' A') t.heap ∧ va_K (dC, dI) vwCl (mw_T g) t ∧ va_D B9 (mw_W h q g I' A')) B9) ([.ref h, .int k1] : List Value).toArray s 0 0 B9) (F0 m 42 ls [])) (hrc81 : ∀ (I : MI) (A : MA) (X : Nat → Int32) (ls : Array Slot) (H : Heap) (locs : List Loc), rc 81 I A X = some (r, I', A') → lv_has ls 6 [(0, .ref h), (1, .int (X 1)), (2, .int (X 2)), (3, .int (X 3)), (4, .int (X 4)), (5, .int (X 5))] → va_P (dC, dI) vwCl (mw_W h q g I A) H → va_D B9 (mw_W h q g I A) → va_S B9 s.heap H locs → W p l e (headSpec w_M_longest ({ frames := 3, cells := 0, slots := 0, locals := 68 })).room s m ([.ref h, .int k1] : List Value).toArray below meth c H locs 0 0 (MQ below (va_Qi (fun (r9 : Int32) (_ : Unit) => r9 = r) (fun (_ : Unit) t => va_P (dC, dI) vwCl (mw_W h q g I' A') t.heap ∧ va_K (dC, dI) vwCl (mw_T g) t ∧ va_D B9 (mw_W h q g I' A')) B9) ([.ref h, .int k1] : List Value).toArray s 0 0 B9) (F0 m 81 ls [])) (hrc107 : ∀ (I : MI) (A : MA) (X : Nat → Int32) (ls : Array Slot) (H : Heap) (locs : List Loc), rc 107 I A X = some (r, I', A') → lv_has ls 6 [(0, .ref h), (1, .int (X 1)), (2, .int (X 2)), (3, .int (X 3)), (4, .int (X 4)), (5, .int (X 5))] → va_P (dC, dI) vwCl (mw_W h q g I A) H → va_D B9 (mw_W h q g I A) → va_S B9 s.heap H locs → W p l e (headSpec w_M_longest ({ frames := 3, cells := 0, slots := 0, locals := 68 })).room s m ([.ref h, .int k1] : List Value).toArray below meth c H locs 0 0 (MQ below (va_Qi (fun (r9 : Int32) (_ : Unit) => r9 = r) (fun (_ : Unit) t => va_P (dC, dI) vwCl (mw_W h q g I' A') t.heap ∧ va_K (dC, dI) vwCl (mw_T g) t ∧ va_D B9 (mw_W h q g I' A')) B9) ([.ref h, .int k1] : List Value).toArray s 0 0 B9) (F0 m 107 ls [])) (hrc173 : ∀ (I : MI) (A : MA) (X : Nat → Int32) (ls : Array Slot) (H : Heap) (locs : List Loc), rc 173 I A X = some (r, I', A') → lv_has ls 6 [(0, .ref h), (1, .int (X 1)), (2, .int (X 2)), (3, .int (X 3)), (4, .int (X 4)), (5, .int (X 5))] → va_P (dC, dI) vwCl (mw_W h q g I A) H → va_D B9 (mw_W h q g I A) → va_S B9 s.heap H locs → W p l e (headSpec w_M_longest ({ frames := 3, cells := 0, slots := 0, locals := 68 })).room s m ([.ref h, .int k1] : List Value).toArray below meth c H locs 0 0 (MQ below (va_Qi (fun (r9 : Int32) (_ : Unit) => r9 = r) (fun (_ : Unit) t => va_P (dC, dI) vwCl (mw_W h q g I' A') t.heap ∧ va_K (dC, dI) vwCl (mw_T g) t ∧ va_D B9 (mw_W h q g I' A')) B9) ([.ref h, .int k1] : List Value).toArray s 0 0 B9) (F0 m 173 ls [])), ∀ (I : MI) (A : MA) (X : Nat → Int32) (ls : Array Slot) (H : Heap) (locs : List Loc), f_M_longest_173 rc I A X = some (r, I', A') → lv_has ls 6 [(0, .ref h), (1, .int (X 1)), (2, .int (X 2)), (3, .int (X 3)), (4, .int (X 4)), (5, .int (X 5))] → va_P (dC, dI) vwCl (mw_W h q g I A) H → va_D B9 (mw_W h q g I A) → va_S B9 s.heap H locs → W p l e (headSpec w_M_longest ({ frames := 3, cells := 0, slots := 0, locals := 68 })).room s m ([.ref h, .int k1] : List Value).toArray below meth c H locs 0 0 (MQ below (va_Qi (fun (r9 : Int32) (_ : Unit) => r9 = r) (fun (_ : Unit) t => va_P (dC, dI) vwCl (mw_W h q g I' A') t.heap ∧ va_K (dC, dI) vwCl (mw_T g) t ∧ va_D B9 (mw_W h q g I' A')) B9) ([.ref h, .int k1] : List Value).toArray s 0 0 B9) (F0 m 173 ls []) := by
    intro rc hrc2 hrc42 hrc81 hrc107 hrc173 I A X ls H locs hf hl hP hD hS
    unfold f_M_longest_173 at hf
    refine lv_iload hx hb d_M_longest_173 (lv_at hl 5 rfl) ?_
    refine lv_aload_n hx hb d_M_longest_175 rfl (lv_at hl 0 rfl) ?_
    refine va_get (D := (dC, dI)) (ci := 4) (v := .int (I 17)) (C := R_M) (T := F_M) (N := 38) hx hb hts (fun w h => List.mem_cons_of_mem _ (in_M w h)) hown hK hP 0 rfl rfl 17 (by decide) (hts _ (List.mem_cons_of_mem _ lk_83)) (fun _ h9 => h9) rfl d_M_longest_176 ?_
    refine lv_icmp_ge (tgt := 202) hx hb d_M_longest_179 (by decide) (fun hc1 => ?_) (fun hc1 => ?_)
    ·
      have hf := wk_ift hc1 hf
      refine lv_iinc (k := 3) (v := ((X 3) + 1)) (lv' := [(3, .int ((X 3) + 1)), (0, .ref h), (1, .int (X 1)), (2, .int (X 2)), (4, .int (X 4)), (5, .int (X 5))]) hx hb d_M_longest_202 hl rfl (wk_inc (by decide)) (by decide) rfl (fun ls hl => ?_)
      have hl : lv_has ls 6 [(3, .int ((X 3) + 1)), (0, .ref h), (1, .int (X 1)), (2, .int (X 2)), (4, .int (X 4)), (5, .int (X 5))] := hl
      refine lv_goto (tgt := 42) hx hb d_M_longest_205 (by decide) ?_
      exact hrc42 I A (upd X 3 ((X 3) + 1)) _ _ _ hf (lv_sub hl [1, 2, 3, 0, 4] rfl) hP hD hS
    ·
      have hf := wk_iff hc1 hf
      refine lv_aload_n hx hb d_M_longest_182 rfl (lv_at hl 0 rfl) ?_
      refine va_get (D := (dC, dI)) (ci := 4) (v := .ref (q 32)) (C := R_M) (T := F_M) (N := 38) hx hb hts (fun w h => List.mem_cons_of_mem _ (in_M w h)) hown hK hP 0 rfl rfl 32 (by decide) (hts _ (List.mem_cons_of_mem _ lk_172)) (fun _ h9 => h9) rfl d_M_longest_183 ?_
      refine lv_iload hx hb d_M_longest_186 (lv_at hl 5 rfl) ?_
      refine lv_aload_n hx hb d_M_longest_188 rfl (lv_at hl 0 rfl) ?_
      refine va_get (D := (dC, dI)) (ci := 4) (v := .ref (q 33)) (C := R_M) (T := F_M) (N := 38) hx hb hts (fun w h => List.mem_cons_of_mem _ (in_M w h)) hown hK hP 0 rfl rfl 33 (by decide) (hts _ (List.mem_cons_of_mem _ lk_185)) (fun _ h9 => h9) rfl d_M_longest_189 ?_
      refine lv_iload hx hb d_M_longest_192 (lv_at hl 5 rfl) ?_
      obtain ⟨hc2, hf⟩ := wk_if hf
      refine va_zald hx hb hK hP 19 18 rfl rfl (wk_inb_ok hc2) d_M_longest_194 ?_
      obtain ⟨hc3, hf⟩ := wk_if hf
      refine va_zast hx hb hK hP hD hS 18 17 rfl rfl (wk_inb_ok hc3) d_M_longest_195 (fun H locs hP hD hS => ?_)
      obtain ⟨A1, hA1, hf⟩ := wk_letE hf
      have hP : va_P (dC, dI) vwCl (mw_W h q g I A1) H := by rw [hA1]; exact hP
      have hD : va_D B9 (mw_W h q g I A1) := by rw [hA1]; exact hD
      clear hA1
      refine lv_iinc (k := 5) (v := ((X 5) + 1)) (lv' := [(5, .int ((X 5) + 1)), (0, .ref h), (1, .int (X 1)), (2, .int (X 2)), (3, .int (X 3)), (4, .int (X 4))]) hx hb d_M_longest_196 hl rfl (wk_inc (by decide)) (by decide) rfl (fun ls hl => ?_)
      have hl : lv_has ls 6 [(5, .int ((X 5) + 1)), (0, .ref h), (1, .int (X 1)), (2, .int (X 2)), (3, .int (X 3)), (4, .int (X 4))] := hl
      refine lv_goto (tgt := 173) hx hb d_M_longest_199 (by decide) ?_
      exact hrc173 I A1 (upd X 5 ((X 5) + 1)) _ _ _ hf (lv_sub hl [1, 2, 3, 4, 5, 0] rfl) hP hD hS
  have key : ∀ n : Nat, (∀ (I : MI) (A : MA) (X : Nat → Int32) (ls : Array Slot) (H : Heap) (locs : List Loc), f_M_longest_go n 2 I A X = some (r, I', A') → lv_has ls 6 [(0, .ref h), (1, .int (X 1)), (2, .int (X 2))] → va_P (dC, dI) vwCl (mw_W h q g I A) H → va_D B9 (mw_W h q g I A) → va_S B9 s.heap H locs → W p l e (headSpec w_M_longest ({ frames := 3, cells := 0, slots := 0, locals := 68 })).room s m ([.ref h, .int k1] : List Value).toArray below meth c H locs 0 0 (MQ below (va_Qi (fun (r9 : Int32) (_ : Unit) => r9 = r) (fun (_ : Unit) t => va_P (dC, dI) vwCl (mw_W h q g I' A') t.heap ∧ va_K (dC, dI) vwCl (mw_T g) t ∧ va_D B9 (mw_W h q g I' A')) B9) ([.ref h, .int k1] : List Value).toArray s 0 0 B9) (F0 m 2 ls [])) ∧ (∀ (I : MI) (A : MA) (X : Nat → Int32) (ls : Array Slot) (H : Heap) (locs : List Loc), f_M_longest_go n 42 I A X = some (r, I', A') → lv_has ls 6 [(0, .ref h), (1, .int (X 1)), (2, .int (X 2)), (3, .int (X 3)), (4, .int (X 4))] → va_P (dC, dI) vwCl (mw_W h q g I A) H → va_D B9 (mw_W h q g I A) → va_S B9 s.heap H locs → W p l e (headSpec w_M_longest ({ frames := 3, cells := 0, slots := 0, locals := 68 })).room s m ([.ref h, .int k1] : List Value).toArray below meth c H locs 0 0 (MQ below (va_Qi (fun (r9 : Int32) (_ : Unit) => r9 = r) (fun (_ : Unit) t => va_P (dC, dI) vwCl (mw_W h q g I' A') t.heap ∧ va_K (dC, dI) vwCl (mw_T g) t ∧ va_D B9 (mw_W h q g I' A')) B9) ([.ref h, .int k1] : List Value).toArray s 0 0 B9) (F0 m 42 ls [])) ∧ (∀ (I : MI) (A : MA) (X : Nat → Int32) (ls : Array Slot) (H : Heap) (locs : List Loc), f_M_longest_go n 81 I A X = some (r, I', A') → lv_has ls 6 [(0, .ref h), (1, .int (X 1)), (2, .int (X 2)), (3, .int (X 3)), (4, .int (X 4)), (5, .int (X 5))] → va_P (dC, dI) vwCl (mw_W h q g I A) H → va_D B9 (mw_W h q g I A) → va_S B9 s.heap H locs → W p l e (headSpec w_M_longest ({ frames := 3, cells := 0, slots := 0, locals := 68 })).room s m ([.ref h, .int k1] : List Value).toArray below meth c H locs 0 0 (MQ below (va_Qi (fun (r9 : Int32) (_ : Unit) => r9 = r) (fun (_ : Unit) t => va_P (dC, dI) vwCl (mw_W h q g I' A') t.heap ∧ va_K (dC, dI) vwCl (mw_T g) t ∧ va_D B9 (mw_W h q g I' A')) B9) ([.ref h, .int k1] : List Value).toArray s 0 0 B9) (F0 m 81 ls [])) ∧ (∀ (I : MI) (A : MA) (X : Nat → Int32) (ls : Array Slot) (H : Heap) (locs : List Loc), f_M_longest_go n 107 I A X = some (r, I', A') → lv_has ls 6 [(0, .ref h), (1, .int (X 1)), (2, .int (X 2)), (3, .int (X 3)), (4, .int (X 4)), (5, .int (X 5))] → va_P (dC, dI) vwCl (mw_W h q g I A) H → va_D B9 (mw_W h q g I A) → va_S B9 s.heap H locs → W p l e (headSpec w_M_longest ({ frames := 3, cells := 0, slots := 0, locals := 68 })).room s m ([.ref h, .int k1] : List Value).toArray below meth c H locs 0 0 (MQ below (va_Qi (fun (r9 : Int32) (_ : Unit) => r9 = r) (fun (_ : Unit) t => va_P (dC, dI) vwCl (mw_W h q g I' A') t.heap ∧ va_K (dC, dI) vwCl (mw_T g) t ∧ va_D B9 (mw_W h q g I' A')) B9) ([.ref h, .int k1] : List Value).toArray s 0 0 B9) (F0 m 107 ls [])) ∧ (∀ (I : MI) (A : MA) (X : Nat → Int32) (ls : Array Slot) (H : Heap) (locs : List Loc), f_M_longest_go n 173 I A X = some (r, I', A') → lv_has ls 6 [(0, .ref h), (1, .int (X 1)), (2, .int (X 2)), (3, .int (X 3)), (4, .int (X 4)), (5, .int (X 5))] → va_P (dC, dI) vwCl (mw_W h q g I A) H → va_D B9 (mw_W h q g I A) → va_S B9 s.heap H locs → W p l e (headSpec w_M_longest ({ frames := 3, cells := 0, slots := 0, locals := 68 })).room s m ([.ref h, .int k1] : List Value).toArray below meth c H locs 0 0 (MQ below (va_Qi (fun (r9 : Int32) (_ : Unit) => r9 = r) (fun (_ : Unit) t => va_P (dC, dI) vwCl (mw_W h q g I' A') t.heap ∧ va_K (dC, dI) vwCl (mw_T g) t ∧ va_D B9 (mw_W h q g I' A')) B9) ([.ref h, .int k1] : List Value).toArray s 0 0 B9) (F0 m 173 ls [])) := by
    intro n
    induction n with
    | zero => exact ⟨fun I A X ls H locs hf => (by cases hf), fun I A X ls H locs hf => (by cases hf), fun I A X ls H locs hf => (by cases hf), fun I A X ls H locs hf => (by cases hf), fun I A X ls H locs hf => (by cases hf)⟩
    | succ n ih =>
      obtain ⟨ih2, ih42, ih81, ih107, ih173⟩ := ih
      exact ⟨stp2 (f_M_longest_go n) ih2 ih42 ih81 ih107 ih173, stp42 (f_M_longest_go n) ih2 ih42 ih81 ih107 ih173, stp81 (f_M_longest_go n) ih2 ih42 ih81 ih107 ih173, stp107 (f_M_longest_go n) ih2 ih42 ih81 ih107 ih173, stp173 (f_M_longest_go n) ih2 ih42 ih81 ih107 ih173⟩
  unfold f_M_longest f_M_longest_e at hf
  have hrc2 := (key wk_FUEL).1
  have hrc42 := (key wk_FUEL).2.1
  have hrc81 := (key wk_FUEL).2.2.1
  have hrc107 := (key wk_FUEL).2.2.2.1
  have hrc173 := (key wk_FUEL).2.2.2.2
  refine lv_iconst (v := 0) hx hb d_M_longest_0 (by decide) ?_
  refine lv_istore_n (lv' := [(2, .int 0), (0, .ref h), (1, .int k1)]) hx hb d_M_longest_1 rfl hl (by decide) rfl (fun ls hl => ?_)
  have hl : lv_has ls 6 [(2, .int 0), (0, .ref h), (1, .int k1)] := hl
  exact hrc2 I A (upd (upd (fun _ => 0) 1 k1) 2 0) _ _ _ hf (lv_sub hl [1, 2, 0] rfl) hP hD hS

