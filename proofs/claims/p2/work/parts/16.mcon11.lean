set_option maxHeartbeats 8000000 in
set_option maxRecDepth 100000 in
theorem cm_M_parent (l : Launch) (dC : Nat → ClassId) (dI : Nat → Nat → Nat) (h : Nat) (q : Nat → Nat) (g : Nat → ClassId) (sz : Nat) (I : MI) (A : MA) (k1 : Int32) (r : Int32) (I' : MI) (A' : MA) (hf : f_M_parent I A k1 = some (r, I', A')) : Met l y_M_parent w_M_parent ({ frames := 0, cells := 0, slots := 0, locals := 0 }) (va_Pc [.ref h, .int k1] (fun U => U.heap.size = sz ∧ va_P (dC, dI) vwCl (mw_W h q g I A) U.heap ∧ va_K (dC, dI) vwCl (mw_T g) U ∧ va_D (fun _ => True) (mw_W h q g I A))) (va_Qi (fun (r9 : Int32) (_ : Unit) => r9 = r) (fun (_ : Unit) t => va_P (dC, dI) vwCl (mw_W h q g I' A') t.heap ∧ va_K (dC, dI) vwCl (mw_T g) t ∧ va_D (va_A (mw_W h q g I A) sz) (mw_W h q g I' A')) (va_A (mw_W h q g I A) sz)) 0 0 (va_A (mw_W h q g I A) sz) := by
  refine Met.ofW (cc := prog_6_method_53_code) (maxL := 2) (ret := (some .int)) (by decide) rfl ?_
  intro p e s m args below meth c s₁ B hml hv
  obtain ⟨rfl, hsz, hP, hK, hD0⟩ := hv
  have hx := B.exec
  have hb := B.bytes
  have hr := B.returns
  have hts := atoms_spec (ws := w_M_parent) B.pre
  have hown : s.vm.findClass R_M = some m.cls := findClass_of_methodNamed B.named
  have hlocks := B.notSynchronized
  subst hsz
  have hD := hD0.self (sz := s.heap.size)
  generalize hAe : va_A (mw_W h q g I A) s.heap.size = B9 at hD ⊢
  have hA : ∀ q : Nat, s.heap.size ≤ q → B9 q := fun q h => by rw [← hAe]; exact Or.inr h
  clear hAe
  have hS : va_S B9 s.heap s.heap [] := va_S.rf
  have hl := lv_entry ([.ref h, .int k1]) (n := 2) (Nat.le_of_ble_eq_true rfl)
  rw [lg_entry_eq]
  generalize (lg_sl ([.ref h, .int k1]) ++ List.replicate (2 - (lg_sl ([.ref h, .int k1])).length) Slot.unset).toArray = ls at hl ⊢
  have hl : lv_has ls 2 [(0, .ref h), (1, .int k1)] := hl
  have blk38 : ∀ (I : MI) (A : MA) (X : Nat → Int32) (s0 : Int32) (ls : Array Slot) (H : Heap) (locs : List Loc), f_M_parent_38 I A X s0 = some (r, I', A') → lv_has ls 2 [(0, .ref h), (1, .int (X 1))] → va_P (dC, dI) vwCl (mw_W h q g I A) H → va_D B9 (mw_W h q g I A) → va_S B9 s.heap H locs → W p l e (headSpec w_M_parent ({ frames := 0, cells := 0, slots := 0, locals := 0 })).room s m ([.ref h, .int k1] : List Value).toArray below meth c H locs 0 0 (MQ below (va_Qi (fun (r9 : Int32) (_ : Unit) => r9 = r) (fun (_ : Unit) t => va_P (dC, dI) vwCl (mw_W h q g I' A') t.heap ∧ va_K (dC, dI) vwCl (mw_T g) t ∧ va_D B9 (mw_W h q g I' A')) B9) ([.ref h, .int k1] : List Value).toArray s 0 0 B9) (F0 m 38 ls [.int s0]) := by
    intro I A X s0 ls H locs hf hl hP hD hS
    unfold f_M_parent_38 at hf
    obtain ⟨e1, e2, e3⟩ := wk_inj hf
    subst e1
    subst e2
    subst e3
    exact W.iret (v := s0) hx hb hr (fun t ht hW => ⟨⟨s0, (), rfl, rfl, by rw [ht]; exact hP, va_K.moved hW.alike hK, hD⟩, hS.F ht⟩) hS.2.2 d_M_parent_38
  have blk18 : ∀ (I : MI) (A : MA) (X : Nat → Int32) (s0 : Int32) (ls : Array Slot) (H : Heap) (locs : List Loc), f_M_parent_18 I A X s0 = some (r, I', A') → lv_has ls 2 [(0, .ref h), (1, .int (X 1))] → va_P (dC, dI) vwCl (mw_W h q g I A) H → va_D B9 (mw_W h q g I A) → va_S B9 s.heap H locs → W p l e (headSpec w_M_parent ({ frames := 0, cells := 0, slots := 0, locals := 0 })).room s m ([.ref h, .int k1] : List Value).toArray below meth c H locs 0 0 (MQ below (va_Qi (fun (r9 : Int32) (_ : Unit) => r9 = r) (fun (_ : Unit) t => va_P (dC, dI) vwCl (mw_W h q g I' A') t.heap ∧ va_K (dC, dI) vwCl (mw_T g) t ∧ va_D B9 (mw_W h q g I' A')) B9) ([.ref h, .int k1] : List Value).toArray s 0 0 B9) (F0 m 18 ls [.int s0, .ref h]) := by
    intro I A X s0 ls H locs hf hl hP hD hS
    unfold f_M_parent_18 at hf
    refine va_put (D := (dC, dI)) (ci := 4) (v := .int s0) (ty := .int) (C := R_M) (T := F_M) (N := 38) hx hb hts (fun w h => List.mem_cons_of_mem _ (in_M w h)) t_M tk_M n_M hown hK hP hD hS 0 rfl rfl 0 (by decide) (hts _ (List.mem_cons_of_mem _ lk_60)) (fun _ h9 => h9) rfl (by decide +kernel) rfl rfl (Nat.le_of_ble_eq_true rfl) d_M_parent_18 (fun H locs hP hD hS => ?_)
    obtain ⟨I1, hI1, hf⟩ := wk_letE hf
    have hP : va_P (dC, dI) vwCl (mw_W h q g I1 A) H := by rw [hI1]; exact hP
    have hD : va_D B9 (mw_W h q g I1 A) := by rw [hI1]; exact hD
    clear hI1
    refine lv_aload_n hx hb d_M_parent_21 rfl (lv_at hl 0 rfl) ?_
    refine va_get (D := (dC, dI)) (ci := 4) (v := .int (I1 0)) (C := R_M) (T := F_M) (N := 38) hx hb hts (fun w h => List.mem_cons_of_mem _ (in_M w h)) hown hK hP 0 rfl rfl 0 (by decide) (hts _ (List.mem_cons_of_mem _ lk_60)) (fun _ h9 => h9) rfl d_M_parent_22 ?_
    refine lv_if_ne (tgt := 37) hx hb d_M_parent_25 (by decide) (fun hc1 => ?_) (fun hc1 => ?_)
    ·
      have hf := wk_iff hc1 hf
      refine lv_iconst (v := 0) hx hb d_M_parent_37 (by decide) ?_
      exact blk38 I1 A X 0 _ _ _ hf (lv_sub hl [0, 1] rfl) hP hD hS
    ·
      have hf := wk_ift hc1 hf
      refine lv_aload_n hx hb d_M_parent_28 rfl (lv_at hl 0 rfl) ?_
      refine va_get (D := (dC, dI)) (ci := 4) (v := .ref (q 8)) (C := R_M) (T := F_M) (N := 38) hx hb hts (fun w h => List.mem_cons_of_mem _ (in_M w h)) hown hK hP 0 rfl rfl 8 (by decide) (hts _ (List.mem_cons_of_mem _ lk_148)) (fun _ h9 => h9) rfl d_M_parent_29 ?_
      refine lv_iload_n hx hb d_M_parent_32 rfl (lv_at hl 1 rfl) ?_
      obtain ⟨hc2, hf⟩ := wk_if hf
      refine va_iald hx hb hK hP 5 4 rfl rfl (wk_inb_ok hc2) d_M_parent_33 ?_
      refine lv_goto (tgt := 38) hx hb d_M_parent_34 (by decide) ?_
      exact blk38 I1 A X ((A 8) ((X 1)).toNatClampNeg) _ _ _ hf (lv_sub hl [0, 1] rfl) hP hD hS
  have blk13 : ∀ (I : MI) (A : MA) (X : Nat → Int32) (ls : Array Slot) (H : Heap) (locs : List Loc), f_M_parent_13 I A X = some (r, I', A') → lv_has ls 2 [(0, .ref h), (1, .int (X 1))] → va_P (dC, dI) vwCl (mw_W h q g I A) H → va_D B9 (mw_W h q g I A) → va_S B9 s.heap H locs → W p l e (headSpec w_M_parent ({ frames := 0, cells := 0, slots := 0, locals := 0 })).room s m ([.ref h, .int k1] : List Value).toArray below meth c H locs 0 0 (MQ below (va_Qi (fun (r9 : Int32) (_ : Unit) => r9 = r) (fun (_ : Unit) t => va_P (dC, dI) vwCl (mw_W h q g I' A') t.heap ∧ va_K (dC, dI) vwCl (mw_T g) t ∧ va_D B9 (mw_W h q g I' A')) B9) ([.ref h, .int k1] : List Value).toArray s 0 0 B9) (F0 m 13 ls [.ref h]) := by
    intro I A X ls H locs hf hl hP hD hS
    unfold f_M_parent_13 at hf
    refine lv_iconst (v := 1) hx hb d_M_parent_13 (by decide) ?_
    refine lv_goto (tgt := 18) hx hb d_M_parent_14 (by decide) ?_
    exact blk18 I A X 1 _ _ _ hf (lv_sub hl [0, 1] rfl) hP hD hS
  unfold f_M_parent at hf
  refine lv_aload_n hx hb d_M_parent_0 rfl (lv_at hl 0 rfl) ?_
  refine lv_iload_n hx hb d_M_parent_1 rfl (lv_at hl 1 rfl) ?_
  refine lv_if_lt (tgt := 13) hx hb d_M_parent_2 (by decide) (fun hc1 => ?_) (fun hc1 => ?_)
  ·
    have hf := wk_ift hc1 hf
    exact blk13 I A (upd (fun _ => 0) 1 k1) _ _ _ hf (lv_sub hl [0, 1] rfl) hP hD hS
  ·
    have hf := wk_iff hc1 hf
    refine lv_iload_n hx hb d_M_parent_5 rfl (lv_at hl 1 rfl) ?_
    refine lv_aload_n hx hb d_M_parent_6 rfl (lv_at hl 0 rfl) ?_
    refine va_get (D := (dC, dI)) (ci := 4) (v := .int (I 3)) (C := R_M) (T := F_M) (N := 38) hx hb hts (fun w h => List.mem_cons_of_mem _ (in_M w h)) hown hK hP 0 rfl rfl 3 (by decide) (hts _ (List.mem_cons_of_mem _ lk_147)) (fun _ h9 => h9) rfl d_M_parent_7 ?_
    refine lv_icmp_lt (tgt := 17) hx hb d_M_parent_10 (by decide) (fun hc2 => ?_) (fun hc2 => ?_)
    ·
      have hf := wk_ift hc2 hf
      refine lv_iconst (v := 0) hx hb d_M_parent_17 (by decide) ?_
      exact blk18 I A (upd (fun _ => 0) 1 k1) 0 _ _ _ hf (lv_sub hl [0, 1] rfl) hP hD hS
    ·
      have hf := wk_iff hc2 hf
      exact blk13 I A (upd (fun _ => 0) 1 k1) _ _ _ hf (lv_sub hl [0, 1] rfl) hP hD hS

set_option maxHeartbeats 8000000 in
set_option maxRecDepth 100000 in
theorem cm_M_redo (l : Launch) (dC : Nat → ClassId) (dI : Nat → Nat → Nat) (h : Nat) (q : Nat → Nat) (g : Nat → ClassId) (sz : Nat) (I : MI) (A : MA) (r : Int32) (I' : MI) (A' : MA) (hf : f_M_redo I A  = some (r, I', A')) : Met l y_M_redo w_M_redo ({ frames := 1, cells := 0, slots := 0, locals := 21 }) (va_Pc [.ref h] (fun U => U.heap.size = sz ∧ va_P (dC, dI) vwCl (mw_W h q g I A) U.heap ∧ va_K (dC, dI) vwCl (mw_T g) U ∧ va_D (fun _ => True) (mw_W h q g I A))) (va_Qi (fun (r9 : Int32) (_ : Unit) => r9 = r) (fun (_ : Unit) t => va_P (dC, dI) vwCl (mw_W h q g I' A') t.heap ∧ va_K (dC, dI) vwCl (mw_T g) t ∧ va_D (va_A (mw_W h q g I A) sz) (mw_W h q g I' A')) (va_A (mw_W h q g I A) sz)) 0 0 (va_A (mw_W h q g I A) sz) := by
  refine Met.ofW (cc := prog_6_method_19_code) (maxL := 3) (ret := (some .int)) (by decide) rfl ?_
  intro p e s m args below meth c s₁ B hml hv
  obtain ⟨rfl, hsz, hP, hK, hD0⟩ := hv
  have hx := B.exec
  have hb := B.bytes
  have hr := B.returns
  have hts := atoms_spec (ws := w_M_redo) B.pre
  have hown : s.vm.findClass R_M = some m.cls := findClass_of_methodNamed B.named
  have hlocks := B.notSynchronized
  subst hsz
  have hD := hD0.self (sz := s.heap.size)
  generalize hAe : va_A (mw_W h q g I A) s.heap.size = B9 at hD ⊢
  have hA : ∀ q : Nat, s.heap.size ≤ q → B9 q := fun q h => by rw [← hAe]; exact Or.inr h
  clear hAe
  have hS : va_S B9 s.heap s.heap [] := va_S.rf
  have hl := lv_entry ([.ref h]) (n := 3) (Nat.le_of_ble_eq_true rfl)
  rw [lg_entry_eq]
  generalize (lg_sl ([.ref h]) ++ List.replicate (3 - (lg_sl ([.ref h])).length) Slot.unset).toArray = ls at hl ⊢
  have hl : lv_has ls 3 [(0, .ref h)] := hl
  have blk96 : ∀ (rc : Nat → MI → MA → (Nat → Int32) → Option (Int32 × MI × MA)) (hrc4 : ∀ (I : MI) (A : MA) (X : Nat → Int32) (ls : Array Slot) (H : Heap) (locs : List Loc), rc 4 I A X = some (r, I', A') → lv_has ls 3 [(0, .ref h), (1, .int (X 1)), (2, .int (X 2))] → va_P (dC, dI) vwCl (mw_W h q g I A) H → va_D B9 (mw_W h q g I A) → va_S B9 s.heap H locs → W p l e (headSpec w_M_redo ({ frames := 1, cells := 0, slots := 0, locals := 21 })).room s m ([.ref h] : List Value).toArray below meth c H locs 0 0 (MQ below (va_Qi (fun (r9 : Int32) (_ : Unit) => r9 = r) (fun (_ : Unit) t => va_P (dC, dI) vwCl (mw_W h q g I' A') t.heap ∧ va_K (dC, dI) vwCl (mw_T g) t ∧ va_D B9 (mw_W h q g I' A')) B9) ([.ref h] : List Value).toArray s 0 0 B9) (F0 m 4 ls [])), ∀ (I : MI) (A : MA) (X : Nat → Int32) (s0 : Int32) (ls : Array Slot) (H : Heap) (locs : List Loc), f_M_redo_96 rc I A X s0 = some (r, I', A') → lv_has ls 3 [(0, .ref h), (1, .int (X 1)), (2, .int (X 2))] → va_P (dC, dI) vwCl (mw_W h q g I A) H → va_D B9 (mw_W h q g I A) → va_S B9 s.heap H locs → W p l e (headSpec w_M_redo ({ frames := 1, cells := 0, slots := 0, locals := 21 })).room s m ([.ref h] : List Value).toArray below meth c H locs 0 0 (MQ below (va_Qi (fun (r9 : Int32) (_ : Unit) => r9 = r) (fun (_ : Unit) t => va_P (dC, dI) vwCl (mw_W h q g I' A') t.heap ∧ va_K (dC, dI) vwCl (mw_T g) t ∧ va_D B9 (mw_W h q g I' A')) B9) ([.ref h] : List Value).toArray s 0 0 B9) (F0 m 96 ls [.int s0]) := by
    intro rc hrc4 I A X s0 ls H locs hf hl hP hD hS
    unfold f_M_redo_96 at hf
    obtain ⟨e1, e2, e3⟩ := wk_inj hf
    subst e1
    subst e2
    subst e3
    exact W.iret (v := s0) hx hb hr (fun t ht hW => ⟨⟨s0, (), rfl, rfl, by rw [ht]; exact hP, va_K.moved hW.alike hK, hD⟩, hS.F ht⟩) hS.2.2 d_M_redo_96
  have blk81 : ∀ (rc : Nat → MI → MA → (Nat → Int32) → Option (Int32 × MI × MA)) (hrc4 : ∀ (I : MI) (A : MA) (X : Nat → Int32) (ls : Array Slot) (H : Heap) (locs : List Loc), rc 4 I A X = some (r, I', A') → lv_has ls 3 [(0, .ref h), (1, .int (X 1)), (2, .int (X 2))] → va_P (dC, dI) vwCl (mw_W h q g I A) H → va_D B9 (mw_W h q g I A) → va_S B9 s.heap H locs → W p l e (headSpec w_M_redo ({ frames := 1, cells := 0, slots := 0, locals := 21 })).room s m ([.ref h] : List Value).toArray below meth c H locs 0 0 (MQ below (va_Qi (fun (r9 : Int32) (_ : Unit) => r9 = r) (fun (_ : Unit) t => va_P (dC, dI) vwCl (mw_W h q g I' A') t.heap ∧ va_K (dC, dI) vwCl (mw_T g) t ∧ va_D B9 (mw_W h q g I' A')) B9) ([.ref h] : List Value).toArray s 0 0 B9) (F0 m 4 ls [])), ∀ (I : MI) (A : MA) (X : Nat → Int32) (ls : Array Slot) (H : Heap) (locs : List Loc), f_M_redo_81 rc I A X = some (r, I', A') → lv_has ls 3 [(0, .ref h), (1, .int (X 1)), (2, .int (X 2))] → va_P (dC, dI) vwCl (mw_W h q g I A) H → va_D B9 (mw_W h q g I A) → va_S B9 s.heap H locs → W p l e (headSpec w_M_redo ({ frames := 1, cells := 0, slots := 0, locals := 21 })).room s m ([.ref h] : List Value).toArray below meth c H locs 0 0 (MQ below (va_Qi (fun (r9 : Int32) (_ : Unit) => r9 = r) (fun (_ : Unit) t => va_P (dC, dI) vwCl (mw_W h q g I' A') t.heap ∧ va_K (dC, dI) vwCl (mw_T g) t ∧ va_D B9 (mw_W h q g I' A')) B9) ([.ref h] : List Value).toArray s 0 0 B9) (F0 m 81 ls []) := by
    intro rc hrc4 I A X ls H locs hf hl hP hD hS
    unfold f_M_redo_81 at hf
    refine lv_aload_n hx hb d_M_redo_81 rfl (lv_at hl 0 rfl) ?_
    refine va_get (D := (dC, dI)) (ci := 4) (v := .int (I 0)) (C := R_M) (T := F_M) (N := 38) hx hb hts (fun w h => List.mem_cons_of_mem _ (in_M w h)) hown hK hP 0 rfl rfl 0 (by decide) (hts _ (List.mem_cons_of_mem _ lk_60)) (fun _ h9 => h9) rfl d_M_redo_82 ?_
    refine lv_if_ne (tgt := 95) hx hb d_M_redo_85 (by decide) (fun hc1 => ?_) (fun hc1 => ?_)
    ·
      have hf := wk_iff hc1 hf
      refine lv_iconst (v := 0) hx hb d_M_redo_95 (by decide) ?_
      exact blk96 rc hrc4 I A X 0 _ _ _ hf (lv_sub hl [0, 1, 2] rfl) hP hD hS
    ·
      have hf := wk_ift hc1 hf
      refine lv_aload_n hx hb d_M_redo_88 rfl (lv_at hl 0 rfl) ?_
      refine va_get (D := (dC, dI)) (ci := 4) (v := .int (I 4)) (C := R_M) (T := F_M) (N := 38) hx hb hts (fun w h => List.mem_cons_of_mem _ (in_M w h)) hown hK hP 0 rfl rfl 4 (by decide) (hts _ (List.mem_cons_of_mem _ lk_49)) (fun _ h9 => h9) rfl d_M_redo_89 ?_
      refine lv_goto (tgt := 96) hx hb d_M_redo_92 (by decide) ?_
      exact blk96 rc hrc4 I A X (I 4) _ _ _ hf (lv_sub hl [0, 1, 2] rfl) hP hD hS
  have blk66 : ∀ (rc : Nat → MI → MA → (Nat → Int32) → Option (Int32 × MI × MA)) (hrc4 : ∀ (I : MI) (A : MA) (X : Nat → Int32) (ls : Array Slot) (H : Heap) (locs : List Loc), rc 4 I A X = some (r, I', A') → lv_has ls 3 [(0, .ref h), (1, .int (X 1)), (2, .int (X 2))] → va_P (dC, dI) vwCl (mw_W h q g I A) H → va_D B9 (mw_W h q g I A) → va_S B9 s.heap H locs → W p l e (headSpec w_M_redo ({ frames := 1, cells := 0, slots := 0, locals := 21 })).room s m ([.ref h] : List Value).toArray below meth c H locs 0 0 (MQ below (va_Qi (fun (r9 : Int32) (_ : Unit) => r9 = r) (fun (_ : Unit) t => va_P (dC, dI) vwCl (mw_W h q g I' A') t.heap ∧ va_K (dC, dI) vwCl (mw_T g) t ∧ va_D B9 (mw_W h q g I' A')) B9) ([.ref h] : List Value).toArray s 0 0 B9) (F0 m 4 ls [])), ∀ (I : MI) (A : MA) (X : Nat → Int32) (s0 : Int32) (ls : Array Slot) (H : Heap) (locs : List Loc), f_M_redo_66 rc I A X s0 = some (r, I', A') → lv_has ls 3 [(0, .ref h), (1, .int (X 1)), (2, .int (X 2))] → va_P (dC, dI) vwCl (mw_W h q g I A) H → va_D B9 (mw_W h q g I A) → va_S B9 s.heap H locs → W p l e (headSpec w_M_redo ({ frames := 1, cells := 0, slots := 0, locals := 21 })).room s m ([.ref h] : List Value).toArray below meth c H locs 0 0 (MQ below (va_Qi (fun (r9 : Int32) (_ : Unit) => r9 = r) (fun (_ : Unit) t => va_P (dC, dI) vwCl (mw_W h q g I' A') t.heap ∧ va_K (dC, dI) vwCl (mw_T g) t ∧ va_D B9 (mw_W h q g I' A')) B9) ([.ref h] : List Value).toArray s 0 0 B9) (F0 m 66 ls [.int s0, .ref h]) := by
    intro rc hrc4 I A X s0 ls H locs hf hl hP hD hS
    unfold f_M_redo_66 at hf
    refine va_put (D := (dC, dI)) (ci := 4) (v := .int s0) (ty := .int) (C := R_M) (T := F_M) (N := 38) hx hb hts (fun w h => List.mem_cons_of_mem _ (in_M w h)) t_M tk_M n_M hown hK hP hD hS 0 rfl rfl 0 (by decide) (hts _ (List.mem_cons_of_mem _ lk_60)) (fun _ h9 => h9) rfl (by decide +kernel) rfl rfl (Nat.le_of_ble_eq_true rfl) d_M_redo_66 (fun H locs hP hD hS => ?_)
    obtain ⟨I1, hI1, hf⟩ := wk_letE hf
    have hP : va_P (dC, dI) vwCl (mw_W h q g I1 A) H := by rw [hI1]; exact hP
    have hD : va_D B9 (mw_W h q g I1 A) := by rw [hI1]; exact hD
    clear hI1
    refine lv_aload_n hx hb d_M_redo_69 rfl (lv_at hl 0 rfl) ?_
    refine va_get (D := (dC, dI)) (ci := 4) (v := .int (I1 0)) (C := R_M) (T := F_M) (N := 38) hx hb hts (fun w h => List.mem_cons_of_mem _ (in_M w h)) hown hK hP 0 rfl rfl 0 (by decide) (hts _ (List.mem_cons_of_mem _ lk_60)) (fun _ h9 => h9) rfl d_M_redo_70 ?_
    refine lv_if_ne (tgt := 81) hx hb d_M_redo_73 (by decide) (fun hc1 => ?_) (fun hc1 => ?_)
    ·
      have hf := wk_iff hc1 hf
      exact blk81 rc hrc4 I1 A X _ _ _ hf (lv_sub hl [0, 1, 2] rfl) hP hD hS
    ·
      have hf := wk_ift hc1 hf
      refine lv_aload_n hx hb d_M_redo_76 rfl (lv_at hl 0 rfl) ?_
      refine lv_iload_n hx hb d_M_redo_77 rfl (lv_at hl 1 rfl) ?_
      have hPc := hP.sub (ws' := (mw_W h q g I1 A)) [0, 1, 2, 3, 4, 5, 6, 7, 8, 9, 10, 11, 12, 13, 14, 15, 16, 17, 18, 19, 20] rfl
      have hDc := hD.sub (ws' := (mw_W h q g I1 A)) [0, 1, 2, 3, 4, 5, 6, 7, 8, 9, 10, 11, 12, 13, 14, 15, 16, 17, 18, 19, 20] (by decide) rfl
      have hKc := hK.sub (tys' := (mw_T g)) [0, 1, 2, 3, 4, 5, 6, 7, 8, 9, 10, 11, 12, 13, 14, 15, 16, 17, 18, 19] rfl
      have hFc := va_free (wc := (mw_W h q g I1 A)) hD hS hA [0, 1, 2, 3, 4, 5, 6, 7, 8, 9, 10, 11, 12, 13, 14, 15, 16, 17, 18, 19, 20] rfl
      cases hg2 : f_M_come I1 A (X 1) with
      | none => rw [hg2] at hf; cases hf
      | some z2 =>
        obtain ⟨r2, I2, A2⟩ := z2
        rw [hg2] at hf
        dsimp only [Option.bind_some] at hf
        refine va_callv (va_runV (As := [.int (X 1)]) (rest := []) ⟨hx, hb, hml, hown, hts⟩ (cm_M_come l dC dI h q g _ I1 A (X 1) r2 I2 A2 hg2) (cwV 1 hts (gd_v lk_149 lk_150 lk_151 lk_46 lk_130) rfl rfl rfl (by decide +kernel) ⟨Nat.le_of_ble_eq_true rfl, Nat.le_of_ble_eq_true rfl⟩) ⟨fun a U g mk q => by obtain ⟨q0, q1, qP, qK, qD⟩ := q; exact ⟨q0, q1, qP, va_K.moved (u := U) (U := U.calling g mk a) (Vm.Alike.refl U.vm) qK, qD⟩, va_recv (ci := 4) (q0 := 0) hK hP rfl rfl, fun U hU hW => ⟨rfl, by rw [hU], by rw [hU]; exact hPc, va_K.moved hW.alike hKc, hDc.weaken (fun _ _ _ _ => trivial)⟩⟩ rfl rfl hl.1 rfl (lv_room (Nat.le_of_ble_eq_true rfl)) d_M_redo_78 ⟨Nat.le_of_ble_eq_true rfl, Nat.le_of_ble_eq_true rfl⟩) hS (fun q _ h => hFc q h) hFc (fun u t H1 locs ht hvm hw hB hz1 hk1 hS => ?_)
        obtain ⟨hP1, hK1, hD1⟩ := hB
        rw [ht] at hP1
        obtain ⟨hP, hD⟩ := va_join (wr := []) (w1 := (mw_W h q g I2 A2)) hP hD [0, 1, 2, 3, 4, 5, 6, 7, 8, 9, 10, 11, 12, 13, 14, 15, 16, 17, 18, 19, 20] [] rfl rfl (by decide) (by decide) hk1 hFc hP1 hD1
        generalize H1 = H at hP hS ⊢
        have hP : va_P (dC, dI) vwCl (mw_W h q g I2 A2) H := hP
        have hD : va_D B9 (mw_W h q g I2 A2) := hD
        exact blk81 rc hrc4 I2 A2 X _ _ _ hf (lv_sub hl [0, 1, 2] rfl) hP hD hS
  have blk49 : ∀ (rc : Nat → MI → MA → (Nat → Int32) → Option (Int32 × MI × MA)) (hrc4 : ∀ (I : MI) (A : MA) (X : Nat → Int32) (ls : Array Slot) (H : Heap) (locs : List Loc), rc 4 I A X = some (r, I', A') → lv_has ls 3 [(0, .ref h), (1, .int (X 1)), (2, .int (X 2))] → va_P (dC, dI) vwCl (mw_W h q g I A) H → va_D B9 (mw_W h q g I A) → va_S B9 s.heap H locs → W p l e (headSpec w_M_redo ({ frames := 1, cells := 0, slots := 0, locals := 21 })).room s m ([.ref h] : List Value).toArray below meth c H locs 0 0 (MQ below (va_Qi (fun (r9 : Int32) (_ : Unit) => r9 = r) (fun (_ : Unit) t => va_P (dC, dI) vwCl (mw_W h q g I' A') t.heap ∧ va_K (dC, dI) vwCl (mw_T g) t ∧ va_D B9 (mw_W h q g I' A')) B9) ([.ref h] : List Value).toArray s 0 0 B9) (F0 m 4 ls [])), ∀ (I : MI) (A : MA) (X : Nat → Int32) (s0 : Int32) (ls : Array Slot) (H : Heap) (locs : List Loc), f_M_redo_49 rc I A X s0 = some (r, I', A') → lv_has ls 3 [(0, .ref h), (1, .int (X 1)), (2, .int (X 2))] → va_P (dC, dI) vwCl (mw_W h q g I A) H → va_D B9 (mw_W h q g I A) → va_S B9 s.heap H locs → W p l e (headSpec w_M_redo ({ frames := 1, cells := 0, slots := 0, locals := 21 })).room s m ([.ref h] : List Value).toArray below meth c H locs 0 0 (MQ below (va_Qi (fun (r9 : Int32) (_ : Unit) => r9 = r) (fun (_ : Unit) t => va_P (dC, dI) vwCl (mw_W h q g I' A') t.heap ∧ va_K (dC, dI) vwCl (mw_T g) t ∧ va_D B9 (mw_W h q g I' A')) B9) ([.ref h] : List Value).toArray s 0 0 B9) (F0 m 49 ls [.int s0]) := by
    intro rc hrc4 I A X s0 ls H locs hf hl hP hD hS
    unfold f_M_redo_49 at hf
    refine lv_istore_n (lv' := [(1, .int s0), (0, .ref h), (2, .int (X 2))]) hx hb d_M_redo_49 rfl hl (by decide) rfl (fun ls hl => ?_)
    have hl : lv_has ls 3 [(1, .int s0), (0, .ref h), (2, .int (X 2))] := hl
    refine lv_iinc (k := 2) (v := ((X 2) + 1)) (lv' := [(2, .int ((X 2) + 1)), (1, .int s0), (0, .ref h)]) hx hb d_M_redo_50 hl rfl (wk_inc (by decide)) (by decide) rfl (fun ls hl => ?_)
    have hl : lv_has ls 3 [(2, .int ((X 2) + 1)), (1, .int s0), (0, .ref h)] := hl
    refine lv_goto (tgt := 4) hx hb d_M_redo_53 (by decide) ?_
    exact hrc4 I A (upd (upd X 1 s0) 2 ((X 2) + 1)) _ _ _ hf (lv_sub hl [2, 1, 0] rfl) hP hD hS
  have blk48 : ∀ (rc : Nat → MI → MA → (Nat → Int32) → Option (Int32 × MI × MA)) (hrc4 : ∀ (I : MI) (A : MA) (X : Nat → Int32) (ls : Array Slot) (H : Heap) (locs : List Loc), rc 4 I A X = some (r, I', A') → lv_has ls 3 [(0, .ref h), (1, .int (X 1)), (2, .int (X 2))] → va_P (dC, dI) vwCl (mw_W h q g I A) H → va_D B9 (mw_W h q g I A) → va_S B9 s.heap H locs → W p l e (headSpec w_M_redo ({ frames := 1, cells := 0, slots := 0, locals := 21 })).room s m ([.ref h] : List Value).toArray below meth c H locs 0 0 (MQ below (va_Qi (fun (r9 : Int32) (_ : Unit) => r9 = r) (fun (_ : Unit) t => va_P (dC, dI) vwCl (mw_W h q g I' A') t.heap ∧ va_K (dC, dI) vwCl (mw_T g) t ∧ va_D B9 (mw_W h q g I' A')) B9) ([.ref h] : List Value).toArray s 0 0 B9) (F0 m 4 ls [])), ∀ (I : MI) (A : MA) (X : Nat → Int32) (ls : Array Slot) (H : Heap) (locs : List Loc), f_M_redo_48 rc I A X = some (r, I', A') → lv_has ls 3 [(0, .ref h), (1, .int (X 1)), (2, .int (X 2))] → va_P (dC, dI) vwCl (mw_W h q g I A) H → va_D B9 (mw_W h q g I A) → va_S B9 s.heap H locs → W p l e (headSpec w_M_redo ({ frames := 1, cells := 0, slots := 0, locals := 21 })).room s m ([.ref h] : List Value).toArray below meth c H locs 0 0 (MQ below (va_Qi (fun (r9 : Int32) (_ : Unit) => r9 = r) (fun (_ : Unit) t => va_P (dC, dI) vwCl (mw_W h q g I' A') t.heap ∧ va_K (dC, dI) vwCl (mw_T g) t ∧ va_D B9 (mw_W h q g I' A')) B9) ([.ref h] : List Value).toArray s 0 0 B9) (F0 m 48 ls []) := by
    intro rc hrc4 I A X ls H locs hf hl hP hD hS
    unfold f_M_redo_48 at hf
    refine lv_iload_n hx hb d_M_redo_48 rfl (lv_at hl 1 rfl) ?_
    exact blk49 rc hrc4 I A X (X 1) _ _ _ hf (lv_sub hl [0, 1, 2] rfl) hP hD hS
  have blk44 : ∀ (rc : Nat → MI → MA → (Nat → Int32) → Option (Int32 × MI × MA)) (hrc4 : ∀ (I : MI) (A : MA) (X : Nat → Int32) (ls : Array Slot) (H : Heap) (locs : List Loc), rc 4 I A X = some (r, I', A') → lv_has ls 3 [(0, .ref h), (1, .int (X 1)), (2, .int (X 2))] → va_P (dC, dI) vwCl (mw_W h q g I A) H → va_D B9 (mw_W h q g I A) → va_S B9 s.heap H locs → W p l e (headSpec w_M_redo ({ frames := 1, cells := 0, slots := 0, locals := 21 })).room s m ([.ref h] : List Value).toArray below meth c H locs 0 0 (MQ below (va_Qi (fun (r9 : Int32) (_ : Unit) => r9 = r) (fun (_ : Unit) t => va_P (dC, dI) vwCl (mw_W h q g I' A') t.heap ∧ va_K (dC, dI) vwCl (mw_T g) t ∧ va_D B9 (mw_W h q g I' A')) B9) ([.ref h] : List Value).toArray s 0 0 B9) (F0 m 4 ls [])), ∀ (I : MI) (A : MA) (X : Nat → Int32) (ls : Array Slot) (H : Heap) (locs : List Loc), f_M_redo_44 rc I A X = some (r, I', A') → lv_has ls 3 [(0, .ref h), (1, .int (X 1)), (2, .int (X 2))] → va_P (dC, dI) vwCl (mw_W h q g I A) H → va_D B9 (mw_W h q g I A) → va_S B9 s.heap H locs → W p l e (headSpec w_M_redo ({ frames := 1, cells := 0, slots := 0, locals := 21 })).room s m ([.ref h] : List Value).toArray below meth c H locs 0 0 (MQ below (va_Qi (fun (r9 : Int32) (_ : Unit) => r9 = r) (fun (_ : Unit) t => va_P (dC, dI) vwCl (mw_W h q g I' A') t.heap ∧ va_K (dC, dI) vwCl (mw_T g) t ∧ va_D B9 (mw_W h q g I' A')) B9) ([.ref h] : List Value).toArray s 0 0 B9) (F0 m 44 ls []) := by
    intro rc hrc4 I A X ls H locs hf hl hP hD hS
    unfold f_M_redo_44 at hf
    refine lv_iload_n hx hb d_M_redo_44 rfl (lv_at hl 2 rfl) ?_
    refine lv_goto (tgt := 49) hx hb d_M_redo_45 (by decide) ?_
    exact blk49 rc hrc4 I A X (X 2) _ _ _ hf (lv_sub hl [0, 1, 2] rfl) hP hD hS
  have stp4 : ∀ (rc : Nat → MI → MA → (Nat → Int32) → Option (Int32 × MI × MA)) (hrc4 : ∀ (I : MI) (A : MA) (X : Nat → Int32) (ls : Array Slot) (H : Heap) (locs : List Loc), rc 4 I A X = some (r, I', A') → lv_has ls 3 [(0, .ref h), (1, .int (X 1)), (2, .int (X 2))] → va_P (dC, dI) vwCl (mw_W h q g I A) H → va_D B9 (mw_W h q g I A) → va_S B9 s.heap H locs → W p l e (headSpec w_M_redo ({ frames := 1, cells := 0, slots := 0, locals := 21 })).room s m ([.ref h] : List Value).toArray below meth c H locs 0 0 (MQ below (va_Qi (fun (r9 : Int32) (_ : Unit) => r9 = r) (fun (_ : Unit) t => va_P (dC, dI) vwCl (mw_W h q g I' A') t.heap ∧ va_K (dC, dI) vwCl (mw_T g) t ∧ va_D B9 (mw_W h q g I' A')) B9) ([.ref h] : List Value).toArray s 0 0 B9) (F0 m 4 ls [])), ∀ (I : MI) (A : MA) (X : Nat → Int32) (ls : Array Slot) (H : Heap) (locs : List Loc), f_M_redo_4 rc I A X = some (r, I', A') → lv_has ls 3 [(0, .ref h), (1, .int (X 1)), (2, .int (X 2))] → va_P (dC, dI) vwCl (mw_W h q g I A) H → va_D B9 (mw_W h q g I A) → va_S B9 s.heap H locs → W p l e (headSpec w_M_redo ({ frames := 1, cells := 0, slots := 0, locals := 21 })).room s m ([.ref h] : List Value).toArray below meth c H locs 0 0 (MQ below (va_Qi (fun (r9 : Int32) (_ : Unit) => r9 = r) (fun (_ : Unit) t => va_P (dC, dI) vwCl (mw_W h q g I' A') t.heap ∧ va_K (dC, dI) vwCl (mw_T g) t ∧ va_D B9 (mw_W h q g I' A')) B9) ([.ref h] : List Value).toArray s 0 0 B9) (F0 m 4 ls []) := by
    intro rc hrc4 I A X ls H locs hf hl hP hD hS
    unfold f_M_redo_4 at hf
    refine lv_iload_n hx hb d_M_redo_4 rfl (lv_at hl 2 rfl) ?_
    refine lv_aload_n hx hb d_M_redo_5 rfl (lv_at hl 0 rfl) ?_
    refine va_get (D := (dC, dI)) (ci := 4) (v := .int (I 3)) (C := R_M) (T := F_M) (N := 38) hx hb hts (fun w h => List.mem_cons_of_mem _ (in_M w h)) hown hK hP 0 rfl rfl 3 (by decide) (hts _ (List.mem_cons_of_mem _ lk_147)) (fun _ h9 => h9) rfl d_M_redo_6 ?_
    refine lv_icmp_ge (tgt := 56) hx hb d_M_redo_9 (by decide) (fun hc1 => ?_) (fun hc1 => ?_)
    ·
      have hf := wk_ift hc1 hf
      refine lv_aload_n hx hb d_M_redo_56 rfl (lv_at hl 0 rfl) ?_
      refine lv_iload_n hx hb d_M_redo_57 rfl (lv_at hl 1 rfl) ?_
      refine lv_if_ge (tgt := 65) hx hb d_M_redo_58 (by decide) (fun hc2 => ?_) (fun hc2 => ?_)
      ·
        have hf := wk_ift hc2 hf
        refine lv_iconst (v := 0) hx hb d_M_redo_65 (by decide) ?_
        exact blk66 rc hrc4 I A X 0 _ _ _ hf (lv_sub hl [0, 1, 2] rfl) hP hD hS
      ·
        have hf := wk_iff hc2 hf
        refine lv_iconst (v := 1) hx hb d_M_redo_61 (by decide) ?_
        refine lv_goto (tgt := 66) hx hb d_M_redo_62 (by decide) ?_
        exact blk66 rc hrc4 I A X 1 _ _ _ hf (lv_sub hl [0, 1, 2] rfl) hP hD hS
    ·
      have hf := wk_iff hc1 hf
      refine lv_aload_n hx hb d_M_redo_12 rfl (lv_at hl 0 rfl) ?_
      refine va_get (D := (dC, dI)) (ci := 4) (v := .ref (q 8)) (C := R_M) (T := F_M) (N := 38) hx hb hts (fun w h => List.mem_cons_of_mem _ (in_M w h)) hown hK hP 0 rfl rfl 8 (by decide) (hts _ (List.mem_cons_of_mem _ lk_148)) (fun _ h9 => h9) rfl d_M_redo_13 ?_
      refine lv_iload_n hx hb d_M_redo_16 rfl (lv_at hl 2 rfl) ?_
      obtain ⟨hc2, hf⟩ := wk_if hf
      refine va_iald hx hb hK hP 5 4 rfl rfl (wk_inb_ok hc2) d_M_redo_17 ?_
      refine lv_aload_n hx hb d_M_redo_18 rfl (lv_at hl 0 rfl) ?_
      refine va_get (D := (dC, dI)) (ci := 4) (v := .int (I 4)) (C := R_M) (T := F_M) (N := 38) hx hb hts (fun w h => List.mem_cons_of_mem _ (in_M w h)) hown hK hP 0 rfl rfl 4 (by decide) (hts _ (List.mem_cons_of_mem _ lk_49)) (fun _ h9 => h9) rfl d_M_redo_19 ?_
      refine lv_icmp_ne (tgt := 48) hx hb d_M_redo_22 (by decide) (fun hc3 => ?_) (fun hc3 => ?_)
      ·
        have hf := wk_iff hc3 hf
        exact blk48 rc hrc4 I A X _ _ _ hf (lv_sub hl [0, 1, 2] rfl) hP hD hS
      ·
        have hf := wk_ift hc3 hf
        refine lv_iload_n hx hb d_M_redo_25 rfl (lv_at hl 1 rfl) ?_
        refine lv_if_lt (tgt := 44) hx hb d_M_redo_26 (by decide) (fun hc4 => ?_) (fun hc4 => ?_)
        ·
          have hf := wk_ift hc4 hf
          exact blk44 rc hrc4 I A X _ _ _ hf (lv_sub hl [0, 1, 2] rfl) hP hD hS
        ·
          have hf := wk_iff hc4 hf
          refine lv_aload_n hx hb d_M_redo_29 rfl (lv_at hl 0 rfl) ?_
          refine va_get (D := (dC, dI)) (ci := 4) (v := .ref (q 9)) (C := R_M) (T := F_M) (N := 38) hx hb hts (fun w h => List.mem_cons_of_mem _ (in_M w h)) hown hK hP 0 rfl rfl 9 (by decide) (hts _ (List.mem_cons_of_mem _ lk_129)) (fun _ h9 => h9) rfl d_M_redo_30 ?_
          refine lv_iload_n hx hb d_M_redo_33 rfl (lv_at hl 2 rfl) ?_
          obtain ⟨hc5, hf⟩ := wk_if hf
          refine va_iald hx hb hK hP 6 5 rfl rfl (wk_inb_ok hc5) d_M_redo_34 ?_
          refine lv_aload_n hx hb d_M_redo_35 rfl (lv_at hl 0 rfl) ?_
          refine va_get (D := (dC, dI)) (ci := 4) (v := .ref (q 9)) (C := R_M) (T := F_M) (N := 38) hx hb hts (fun w h => List.mem_cons_of_mem _ (in_M w h)) hown hK hP 0 rfl rfl 9 (by decide) (hts _ (List.mem_cons_of_mem _ lk_129)) (fun _ h9 => h9) rfl d_M_redo_36 ?_
          refine lv_iload_n hx hb d_M_redo_39 rfl (lv_at hl 1 rfl) ?_
          obtain ⟨hc6, hf⟩ := wk_if hf
          refine va_iald hx hb hK hP 6 5 rfl rfl (wk_inb_ok hc6) d_M_redo_40 ?_
          refine lv_icmp_le (tgt := 48) hx hb d_M_redo_41 (by decide) (fun hc7 => ?_) (fun hc7 => ?_)
          ·
            have hf := wk_ift hc7 hf
            exact blk48 rc hrc4 I A X _ _ _ hf (lv_sub hl [0, 1, 2] rfl) hP hD hS
          ·
            have hf := wk_iff hc7 hf
            exact blk44 rc hrc4 I A X _ _ _ hf (lv_sub hl [0, 1, 2] rfl) hP hD hS
  have key : ∀ n : Nat, (∀ (I : MI) (A : MA) (X : Nat → Int32) (ls : Array Slot) (H : Heap) (locs : List Loc), f_M_redo_go n 4 I A X = some (r, I', A') → lv_has ls 3 [(0, .ref h), (1, .int (X 1)), (2, .int (X 2))] → va_P (dC, dI) vwCl (mw_W h q g I A) H → va_D B9 (mw_W h q g I A) → va_S B9 s.heap H locs → W p l e (headSpec w_M_redo ({ frames := 1, cells := 0, slots := 0, locals := 21 })).room s m ([.ref h] : List Value).toArray below meth c H locs 0 0 (MQ below (va_Qi (fun (r9 : Int32) (_ : Unit) => r9 = r) (fun (_ : Unit) t => va_P (dC, dI) vwCl (mw_W h q g I' A') t.heap ∧ va_K (dC, dI) vwCl (mw_T g) t ∧ va_D B9 (mw_W h q g I' A')) B9) ([.ref h] : List Value).toArray s 0 0 B9) (F0 m 4 ls [])) := by
    intro n
    induction n with
    | zero => exact fun I A X ls H locs hf => (by cases hf)
    | succ n ih =>
      have ih4 := ih
      exact stp4 (f_M_redo_go n) ih4
  unfold f_M_redo f_M_redo_e at hf
  have hrc4 := key wk_FUEL
  refine lv_iconst (v := (-1)) hx hb d_M_redo_0 (by decide) ?_
  refine lv_istore_n (lv' := [(1, .int (-1)), (0, .ref h)]) hx hb d_M_redo_1 rfl hl (by decide) rfl (fun ls hl => ?_)
  have hl : lv_has ls 3 [(1, .int (-1)), (0, .ref h)] := hl
  refine lv_iconst (v := 0) hx hb d_M_redo_2 (by decide) ?_
  refine lv_istore_n (lv' := [(2, .int 0), (1, .int (-1)), (0, .ref h)]) hx hb d_M_redo_3 rfl hl (by decide) rfl (fun ls hl => ?_)
  have hl : lv_has ls 3 [(2, .int 0), (1, .int (-1)), (0, .ref h)] := hl
  exact hrc4 I A (upd (upd (fun _ => 0) 1 (-1)) 2 0) _ _ _ hf (lv_sub hl [2, 1, 0] rfl) hP hD hS

set_option maxHeartbeats 8000000 in
set_option maxRecDepth 100000 in
theorem cm_M_replace (l : Launch) (dC : Nat → ClassId) (dI : Nat → Nat → Nat) (h : Nat) (q : Nat → Nat) (g : Nat → ClassId) (sz : Nat) (I : MI) (A : MA) (r : Int32) (I' : MI) (A' : MA) (hf : f_M_replace I A  = some (r, I', A')) : Met l y_M_replace w_M_replace ({ frames := 5, cells := 0, slots := 0, locals := 115 }) (va_Pc [.ref h] (fun U => U.heap.size = sz ∧ va_P (dC, dI) vwCl (mw_W h q g I A) U.heap ∧ va_K (dC, dI) vwCl (mw_T g) U ∧ va_D (fun _ => True) (mw_W h q g I A))) (va_Qi (fun (r9 : Int32) (_ : Unit) => r9 = r) (fun (_ : Unit) t => va_P (dC, dI) vwCl (mw_W h q g I' A') t.heap ∧ va_K (dC, dI) vwCl (mw_T g) t ∧ va_D (va_A (mw_W h q g I A) sz) (mw_W h q g I' A')) (va_A (mw_W h q g I A) sz)) 0 0 (va_A (mw_W h q g I A) sz) := by
  refine Met.ofW (cc := prog_6_method_46_code) (maxL := 4) (ret := (some .int)) (by decide) rfl ?_
  intro p e s m args below meth c s₁ B hml hv
  obtain ⟨rfl, hsz, hP, hK, hD0⟩ := hv
  have hx := B.exec
  have hb := B.bytes
  have hr := B.returns
  have hts := atoms_spec (ws := w_M_replace) B.pre
  have hown : s.vm.findClass R_M = some m.cls := findClass_of_methodNamed B.named
  have hlocks := B.notSynchronized
  subst hsz
  have hD := hD0.self (sz := s.heap.size)
  generalize hAe : va_A (mw_W h q g I A) s.heap.size = B9 at hD ⊢
  have hA : ∀ q : Nat, s.heap.size ≤ q → B9 q := fun q h => by rw [← hAe]; exact Or.inr h
  clear hAe
  have hS : va_S B9 s.heap s.heap [] := va_S.rf
  have hl := lv_entry ([.ref h]) (n := 4) (Nat.le_of_ble_eq_true rfl)
  rw [lg_entry_eq]
  generalize (lg_sl ([.ref h]) ++ List.replicate (4 - (lg_sl ([.ref h])).length) Slot.unset).toArray = ls at hl ⊢
  have hl : lv_has ls 4 [(0, .ref h)] := hl
  have blk13 : ∀ (rc : Nat → MI → MA → (Nat → Int32) → Option (Int32 × MI × MA)) (hrc36 : ∀ (I : MI) (A : MA) (X : Nat → Int32) (ls : Array Slot) (H : Heap) (locs : List Loc), rc 36 I A X = some (r, I', A') → lv_has ls 4 [(0, .ref h), (1, .int (X 1)), (2, .int (X 2)), (3, .int (X 3))] → va_P (dC, dI) vwCl (mw_W h q g I A) H → va_D B9 (mw_W h q g I A) → va_S B9 s.heap H locs → W p l e (headSpec w_M_replace ({ frames := 5, cells := 0, slots := 0, locals := 115 })).room s m ([.ref h] : List Value).toArray below meth c H locs 0 0 (MQ below (va_Qi (fun (r9 : Int32) (_ : Unit) => r9 = r) (fun (_ : Unit) t => va_P (dC, dI) vwCl (mw_W h q g I' A') t.heap ∧ va_K (dC, dI) vwCl (mw_T g) t ∧ va_D B9 (mw_W h q g I' A')) B9) ([.ref h] : List Value).toArray s 0 0 B9) (F0 m 36 ls [])), ∀ (I : MI) (A : MA) (X : Nat → Int32) (s0 : Int32) (ls : Array Slot) (H : Heap) (locs : List Loc), f_M_replace_13 rc I A X s0 = some (r, I', A') → lv_has ls 4 [(0, .ref h)] → va_P (dC, dI) vwCl (mw_W h q g I A) H → va_D B9 (mw_W h q g I A) → va_S B9 s.heap H locs → W p l e (headSpec w_M_replace ({ frames := 5, cells := 0, slots := 0, locals := 115 })).room s m ([.ref h] : List Value).toArray below meth c H locs 0 0 (MQ below (va_Qi (fun (r9 : Int32) (_ : Unit) => r9 = r) (fun (_ : Unit) t => va_P (dC, dI) vwCl (mw_W h q g I' A') t.heap ∧ va_K (dC, dI) vwCl (mw_T g) t ∧ va_D B9 (mw_W h q g I' A')) B9) ([.ref h] : List Value).toArray s 0 0 B9) (F0 m 13 ls [.int s0, .ref h]) := by
    intro rc hrc36 I A X s0 ls H locs hf hl hP hD hS
    unfold f_M_replace_13 at hf
    refine va_put (D := (dC, dI)) (ci := 4) (v := .int s0) (ty := .int) (C := R_M) (T := F_M) (N := 38) hx hb hts (fun w h => List.mem_cons_of_mem _ (in_M w h)) t_M tk_M n_M hown hK hP hD hS 0 rfl rfl 0 (by decide) (hts _ (List.mem_cons_of_mem _ lk_60)) (fun _ h9 => h9) rfl (by decide +kernel) rfl rfl (Nat.le_of_ble_eq_true rfl) d_M_replace_13 (fun H locs hP hD hS => ?_)
    obtain ⟨I1, hI1, hf⟩ := wk_letE hf
    have hP : va_P (dC, dI) vwCl (mw_W h q g I1 A) H := by rw [hI1]; exact hP
    have hD : va_D B9 (mw_W h q g I1 A) := by rw [hI1]; exact hD
    clear hI1
    refine lv_aload_n hx hb d_M_replace_16 rfl (lv_at hl 0 rfl) ?_
    refine va_get (D := (dC, dI)) (ci := 4) (v := .int (I1 0)) (C := R_M) (T := F_M) (N := 38) hx hb hts (fun w h => List.mem_cons_of_mem _ (in_M w h)) hown hK hP 0 rfl rfl 0 (by decide) (hts _ (List.mem_cons_of_mem _ lk_60)) (fun _ h9 => h9) rfl d_M_replace_17 ?_
    refine lv_if_le (tgt := 25) hx hb d_M_replace_20 (by decide) (fun hc1 => ?_) (fun hc1 => ?_)
    ·
      have hf := wk_ift hc1 hf
      refine lv_aload_n hx hb d_M_replace_25 rfl (lv_at hl 0 rfl) ?_
      refine lv_iconst (v := 0) hx hb d_M_replace_26 (by decide) ?_
      refine va_put (D := (dC, dI)) (ci := 4) (v := .int 0) (ty := .int) (C := R_M) (T := F_M) (N := 38) hx hb hts (fun w h => List.mem_cons_of_mem _ (in_M w h)) t_M tk_M n_M hown hK hP hD hS 0 rfl rfl 36 (by decide) (hts _ (List.mem_cons_of_mem _ lk_39)) (fun _ h9 => h9) rfl (by decide +kernel) rfl rfl (Nat.le_of_ble_eq_true rfl) d_M_replace_27 (fun H locs hP hD hS => ?_)
      obtain ⟨I2, hI2, hf⟩ := wk_letE hf
      have hP : va_P (dC, dI) vwCl (mw_W h q g I2 A) H := by rw [hI2]; exact hP
      have hD : va_D B9 (mw_W h q g I2 A) := by rw [hI2]; exact hD
      clear hI2
      refine lv_iconst (v := 0) hx hb d_M_replace_30 (by decide) ?_
      refine lv_istore_n (lv' := [(1, .int 0), (0, .ref h)]) hx hb d_M_replace_31 rfl hl (by decide) rfl (fun ls hl => ?_)
      have hl : lv_has ls 4 [(1, .int 0), (0, .ref h)] := hl
      refine lv_iconst (v := 0) hx hb d_M_replace_32 (by decide) ?_
      refine lv_istore_n (lv' := [(2, .int 0), (1, .int 0), (0, .ref h)]) hx hb d_M_replace_33 rfl hl (by decide) rfl (fun ls hl => ?_)
      have hl : lv_has ls 4 [(2, .int 0), (1, .int 0), (0, .ref h)] := hl
      refine lv_iconst (v := 0) hx hb d_M_replace_34 (by decide) ?_
      refine lv_istore_n (lv' := [(3, .int 0), (2, .int 0), (1, .int 0), (0, .ref h)]) hx hb d_M_replace_35 rfl hl (by decide) rfl (fun ls hl => ?_)
      have hl : lv_has ls 4 [(3, .int 0), (2, .int 0), (1, .int 0), (0, .ref h)] := hl
      exact hrc36 I2 A (upd (upd (upd X 1 0) 2 0) 3 0) _ _ _ hf (lv_sub hl [3, 2, 1, 0] rfl) hP hD hS
    ·
      have hf := wk_iff hc1 hf
      refine lv_iconst (v := 0) hx hb d_M_replace_23 (by decide) ?_
      obtain ⟨e1, e2, e3⟩ := wk_inj hf
      subst e1
      subst e2
      subst e3
      exact W.iret (v := 0) hx hb hr (fun t ht hW => ⟨⟨0, (), rfl, rfl, by rw [ht]; exact hP, va_K.moved hW.alike hK, hD⟩, hS.F ht⟩) hS.2.2 d_M_replace_24
  have blk132 : ∀ (rc : Nat → MI → MA → (Nat → Int32) → Option (Int32 × MI × MA)) (hrc36 : ∀ (I : MI) (A : MA) (X : Nat → Int32) (ls : Array Slot) (H : Heap) (locs : List Loc), rc 36 I A X = some (r, I', A') → lv_has ls 4 [(0, .ref h), (1, .int (X 1)), (2, .int (X 2)), (3, .int (X 3))] → va_P (dC, dI) vwCl (mw_W h q g I A) H → va_D B9 (mw_W h q g I A) → va_S B9 s.heap H locs → W p l e (headSpec w_M_replace ({ frames := 5, cells := 0, slots := 0, locals := 115 })).room s m ([.ref h] : List Value).toArray below meth c H locs 0 0 (MQ below (va_Qi (fun (r9 : Int32) (_ : Unit) => r9 = r) (fun (_ : Unit) t => va_P (dC, dI) vwCl (mw_W h q g I' A') t.heap ∧ va_K (dC, dI) vwCl (mw_T g) t ∧ va_D B9 (mw_W h q g I' A')) B9) ([.ref h] : List Value).toArray s 0 0 B9) (F0 m 36 ls [])), ∀ (I : MI) (A : MA) (X : Nat → Int32) (ls : Array Slot) (H : Heap) (locs : List Loc), f_M_replace_132 rc I A X = some (r, I', A') → lv_has ls 4 [(0, .ref h), (1, .int (X 1)), (2, .int (X 2)), (3, .int (X 3))] → va_P (dC, dI) vwCl (mw_W h q g I A) H → va_D B9 (mw_W h q g I A) → va_S B9 s.heap H locs → W p l e (headSpec w_M_replace ({ frames := 5, cells := 0, slots := 0, locals := 115 })).room s m ([.ref h] : List Value).toArray below meth c H locs 0 0 (MQ below (va_Qi (fun (r9 : Int32) (_ : Unit) => r9 = r) (fun (_ : Unit) t => va_P (dC, dI) vwCl (mw_W h q g I' A') t.heap ∧ va_K (dC, dI) vwCl (mw_T g) t ∧ va_D B9 (mw_W h q g I' A')) B9) ([.ref h] : List Value).toArray s 0 0 B9) (F0 m 132 ls []) := by
    intro rc hrc36 I A X ls H locs hf hl hP hD hS
    unfold f_M_replace_132 at hf
    refine lv_aload_n hx hb d_M_replace_132 rfl (lv_at hl 0 rfl) ?_
    refine lv_iconst (v := 0) hx hb d_M_replace_133 (by decide) ?_
    refine va_put (D := (dC, dI)) (ci := 4) (v := .int 0) (ty := .int) (C := R_M) (T := F_M) (N := 38) hx hb hts (fun w h => List.mem_cons_of_mem _ (in_M w h)) t_M tk_M n_M hown hK hP hD hS 0 rfl rfl 1 (by decide) (hts _ (List.mem_cons_of_mem _ lk_41)) (fun _ h9 => h9) rfl (by decide +kernel) rfl rfl (Nat.le_of_ble_eq_true rfl) d_M_replace_134 (fun H locs hP hD hS => ?_)
    obtain ⟨I1, hI1, hf⟩ := wk_letE hf
    have hP : va_P (dC, dI) vwCl (mw_W h q g I1 A) H := by rw [hI1]; exact hP
    have hD : va_D B9 (mw_W h q g I1 A) := by rw [hI1]; exact hD
    clear hI1
    refine lv_iload_n hx hb d_M_replace_137 rfl (lv_at hl 1 rfl) ?_
    obtain ⟨e1, e2, e3⟩ := wk_inj hf
    subst e1
    subst e2
    subst e3
    exact W.iret (v := (X 1)) hx hb hr (fun t ht hW => ⟨⟨(X 1), (), rfl, rfl, by rw [ht]; exact hP, va_K.moved hW.alike hK, hD⟩, hS.F ht⟩) hS.2.2 d_M_replace_138
  have blk111 : ∀ (rc : Nat → MI → MA → (Nat → Int32) → Option (Int32 × MI × MA)) (hrc36 : ∀ (I : MI) (A : MA) (X : Nat → Int32) (ls : Array Slot) (H : Heap) (locs : List Loc), rc 36 I A X = some (r, I', A') → lv_has ls 4 [(0, .ref h), (1, .int (X 1)), (2, .int (X 2)), (3, .int (X 3))] → va_P (dC, dI) vwCl (mw_W h q g I A) H → va_D B9 (mw_W h q g I A) → va_S B9 s.heap H locs → W p l e (headSpec w_M_replace ({ frames := 5, cells := 0, slots := 0, locals := 115 })).room s m ([.ref h] : List Value).toArray below meth c H locs 0 0 (MQ below (va_Qi (fun (r9 : Int32) (_ : Unit) => r9 = r) (fun (_ : Unit) t => va_P (dC, dI) vwCl (mw_W h q g I' A') t.heap ∧ va_K (dC, dI) vwCl (mw_T g) t ∧ va_D B9 (mw_W h q g I' A')) B9) ([.ref h] : List Value).toArray s 0 0 B9) (F0 m 36 ls [])), ∀ (I : MI) (A : MA) (X : Nat → Int32) (s0 : Int32) (ls : Array Slot) (H : Heap) (locs : List Loc), f_M_replace_111 rc I A X s0 = some (r, I', A') → lv_has ls 4 [(0, .ref h), (1, .int (X 1)), (2, .int (X 2)), (3, .int (X 3))] → va_P (dC, dI) vwCl (mw_W h q g I A) H → va_D B9 (mw_W h q g I A) → va_S B9 s.heap H locs → W p l e (headSpec w_M_replace ({ frames := 5, cells := 0, slots := 0, locals := 115 })).room s m ([.ref h] : List Value).toArray below meth c H locs 0 0 (MQ below (va_Qi (fun (r9 : Int32) (_ : Unit) => r9 = r) (fun (_ : Unit) t => va_P (dC, dI) vwCl (mw_W h q g I' A') t.heap ∧ va_K (dC, dI) vwCl (mw_T g) t ∧ va_D B9 (mw_W h q g I' A')) B9) ([.ref h] : List Value).toArray s 0 0 B9) (F0 m 111 ls [.int s0, .ref h]) := by
    intro rc hrc36 I A X s0 ls H locs hf hl hP hD hS
    unfold f_M_replace_111 at hf
    refine va_put (D := (dC, dI)) (ci := 4) (v := .int s0) (ty := .int) (C := R_M) (T := F_M) (N := 38) hx hb hts (fun w h => List.mem_cons_of_mem _ (in_M w h)) t_M tk_M n_M hown hK hP hD hS 0 rfl rfl 0 (by decide) (hts _ (List.mem_cons_of_mem _ lk_60)) (fun _ h9 => h9) rfl (by decide +kernel) rfl rfl (Nat.le_of_ble_eq_true rfl) d_M_replace_111 (fun H locs hP hD hS => ?_)
    obtain ⟨I1, hI1, hf⟩ := wk_letE hf
    have hP : va_P (dC, dI) vwCl (mw_W h q g I1 A) H := by rw [hI1]; exact hP
    have hD : va_D B9 (mw_W h q g I1 A) := by rw [hI1]; exact hD
    clear hI1
    refine lv_aload_n hx hb d_M_replace_114 rfl (lv_at hl 0 rfl) ?_
    refine va_get (D := (dC, dI)) (ci := 4) (v := .int (I1 0)) (C := R_M) (T := F_M) (N := 38) hx hb hts (fun w h => List.mem_cons_of_mem _ (in_M w h)) hown hK hP 0 rfl rfl 0 (by decide) (hts _ (List.mem_cons_of_mem _ lk_60)) (fun _ h9 => h9) rfl d_M_replace_115 ?_
    refine lv_if_le (tgt := 123) hx hb d_M_replace_118 (by decide) (fun hc1 => ?_) (fun hc1 => ?_)
    ·
      have hf := wk_ift hc1 hf
      refine lv_iload_n hx hb d_M_replace_123 rfl (lv_at hl 1 rfl) ?_
      refine lv_if_le (tgt := 132) hx hb d_M_replace_124 (by decide) (fun hc2 => ?_) (fun hc2 => ?_)
      ·
        have hf := wk_ift hc2 hf
        exact blk132 rc hrc36 I1 A X _ _ _ hf (lv_sub hl [0, 1, 2, 3] rfl) hP hD hS
      ·
        have hf := wk_iff hc2 hf
        refine lv_aload_n hx hb d_M_replace_127 rfl (lv_at hl 0 rfl) ?_
        refine lv_iload_n hx hb d_M_replace_128 rfl (lv_at hl 3 rfl) ?_
        have hPc := hP.sub (ws' := (mw_W h q g I1 A)) [0, 1, 2, 3, 4, 5, 6, 7, 8, 9, 10, 11, 12, 13, 14, 15, 16, 17, 18, 19, 20] rfl
        have hDc := hD.sub (ws' := (mw_W h q g I1 A)) [0, 1, 2, 3, 4, 5, 6, 7, 8, 9, 10, 11, 12, 13, 14, 15, 16, 17, 18, 19, 20] (by decide) rfl
        have hKc := hK.sub (tys' := (mw_T g)) [0, 1, 2, 3, 4, 5, 6, 7, 8, 9, 10, 11, 12, 13, 14, 15, 16, 17, 18, 19] rfl
        have hFc := va_free (wc := (mw_W h q g I1 A)) hD hS hA [0, 1, 2, 3, 4, 5, 6, 7, 8, 9, 10, 11, 12, 13, 14, 15, 16, 17, 18, 19, 20] rfl
        cases hg2 : f_M_edit I1 A (X 3) with
        | none => rw [hg2] at hf; cases hf
        | some z2 =>
          obtain ⟨r2, I2, A2⟩ := z2
          rw [hg2] at hf
          dsimp only [Option.bind_some] at hf
          refine va_callv (va_runV (As := [.int (X 3)]) (rest := []) ⟨hx, hb, hml, hown, hts⟩ (cm_M_edit l dC dI h q g _ I1 A (X 3) r2 I2 A2 hg2) (cwV 1 hts (gd_v lk_164 lk_165 lk_166 lk_46 lk_152) rfl rfl rfl (by decide +kernel) ⟨Nat.le_of_ble_eq_true rfl, Nat.le_of_ble_eq_true rfl⟩) ⟨fun a U g mk q => by obtain ⟨q0, q1, qP, qK, qD⟩ := q; exact ⟨q0, q1, qP, va_K.moved (u := U) (U := U.calling g mk a) (Vm.Alike.refl U.vm) qK, qD⟩, va_recv (ci := 4) (q0 := 0) hK hP rfl rfl, fun U hU hW => ⟨rfl, by rw [hU], by rw [hU]; exact hPc, va_K.moved hW.alike hKc, hDc.weaken (fun _ _ _ _ => trivial)⟩⟩ rfl rfl hl.1 rfl (lv_room (Nat.le_of_ble_eq_true rfl)) d_M_replace_129 ⟨Nat.le_of_ble_eq_true rfl, Nat.le_of_ble_eq_true rfl⟩) hS (fun q _ h => hFc q h) hFc (fun u t H1 locs ht hvm hw hB hz1 hk1 hS => ?_)
          obtain ⟨hP1, hK1, hD1⟩ := hB
          rw [ht] at hP1
          obtain ⟨hP, hD⟩ := va_join (wr := []) (w1 := (mw_W h q g I2 A2)) hP hD [0, 1, 2, 3, 4, 5, 6, 7, 8, 9, 10, 11, 12, 13, 14, 15, 16, 17, 18, 19, 20] [] rfl rfl (by decide) (by decide) hk1 hFc hP1 hD1
          generalize H1 = H at hP hS ⊢
          have hP : va_P (dC, dI) vwCl (mw_W h q g I2 A2) H := hP
          have hD : va_D B9 (mw_W h q g I2 A2) := hD
          exact blk132 rc hrc36 I2 A2 X _ _ _ hf (lv_sub hl [0, 1, 2, 3] rfl) hP hD hS
    ·
      have hf := wk_iff hc1 hf
      refine lv_iconst (v := 0) hx hb d_M_replace_121 (by decide) ?_
      obtain ⟨e1, e2, e3⟩ := wk_inj hf
      subst e1
      subst e2
      subst e3
      exact W.iret (v := 0) hx hb hr (fun t ht hW => ⟨⟨0, (), rfl, rfl, by rw [ht]; exact hP, va_K.moved hW.alike hK, hD⟩, hS.F ht⟩) hS.2.2 d_M_replace_122
  have blk110 : ∀ (rc : Nat → MI → MA → (Nat → Int32) → Option (Int32 × MI × MA)) (hrc36 : ∀ (I : MI) (A : MA) (X : Nat → Int32) (ls : Array Slot) (H : Heap) (locs : List Loc), rc 36 I A X = some (r, I', A') → lv_has ls 4 [(0, .ref h), (1, .int (X 1)), (2, .int (X 2)), (3, .int (X 3))] → va_P (dC, dI) vwCl (mw_W h q g I A) H → va_D B9 (mw_W h q g I A) → va_S B9 s.heap H locs → W p l e (headSpec w_M_replace ({ frames := 5, cells := 0, slots := 0, locals := 115 })).room s m ([.ref h] : List Value).toArray below meth c H locs 0 0 (MQ below (va_Qi (fun (r9 : Int32) (_ : Unit) => r9 = r) (fun (_ : Unit) t => va_P (dC, dI) vwCl (mw_W h q g I' A') t.heap ∧ va_K (dC, dI) vwCl (mw_T g) t ∧ va_D B9 (mw_W h q g I' A')) B9) ([.ref h] : List Value).toArray s 0 0 B9) (F0 m 36 ls [])), ∀ (I : MI) (A : MA) (X : Nat → Int32) (ls : Array Slot) (H : Heap) (locs : List Loc), f_M_replace_110 rc I A X = some (r, I', A') → lv_has ls 4 [(0, .ref h), (1, .int (X 1)), (2, .int (X 2)), (3, .int (X 3))] → va_P (dC, dI) vwCl (mw_W h q g I A) H → va_D B9 (mw_W h q g I A) → va_S B9 s.heap H locs → W p l e (headSpec w_M_replace ({ frames := 5, cells := 0, slots := 0, locals := 115 })).room s m ([.ref h] : List Value).toArray below meth c H locs 0 0 (MQ below (va_Qi (fun (r9 : Int32) (_ : Unit) => r9 = r) (fun (_ : Unit) t => va_P (dC, dI) vwCl (mw_W h q g I' A') t.heap ∧ va_K (dC, dI) vwCl (mw_T g) t ∧ va_D B9 (mw_W h q g I' A')) B9) ([.ref h] : List Value).toArray s 0 0 B9) (F0 m 110 ls [.ref h]) := by
    intro rc hrc36 I A X ls H locs hf hl hP hD hS
    unfold f_M_replace_110 at hf
    refine lv_iconst (v := 0) hx hb d_M_replace_110 (by decide) ?_
    exact blk111 rc hrc36 I A X 0 _ _ _ hf (lv_sub hl [0, 1, 2, 3] rfl) hP hD hS
  have blk106 : ∀ (rc : Nat → MI → MA → (Nat → Int32) → Option (Int32 × MI × MA)) (hrc36 : ∀ (I : MI) (A : MA) (X : Nat → Int32) (ls : Array Slot) (H : Heap) (locs : List Loc), rc 36 I A X = some (r, I', A') → lv_has ls 4 [(0, .ref h), (1, .int (X 1)), (2, .int (X 2)), (3, .int (X 3))] → va_P (dC, dI) vwCl (mw_W h q g I A) H → va_D B9 (mw_W h q g I A) → va_S B9 s.heap H locs → W p l e (headSpec w_M_replace ({ frames := 5, cells := 0, slots := 0, locals := 115 })).room s m ([.ref h] : List Value).toArray below meth c H locs 0 0 (MQ below (va_Qi (fun (r9 : Int32) (_ : Unit) => r9 = r) (fun (_ : Unit) t => va_P (dC, dI) vwCl (mw_W h q g I' A') t.heap ∧ va_K (dC, dI) vwCl (mw_T g) t ∧ va_D B9 (mw_W h q g I' A')) B9) ([.ref h] : List Value).toArray s 0 0 B9) (F0 m 36 ls [])), ∀ (I : MI) (A : MA) (X : Nat → Int32) (ls : Array Slot) (H : Heap) (locs : List Loc), f_M_replace_106 rc I A X = some (r, I', A') → lv_has ls 4 [(0, .ref h), (1, .int (X 1)), (2, .int (X 2)), (3, .int (X 3))] → va_P (dC, dI) vwCl (mw_W h q g I A) H → va_D B9 (mw_W h q g I A) → va_S B9 s.heap H locs → W p l e (headSpec w_M_replace ({ frames := 5, cells := 0, slots := 0, locals := 115 })).room s m ([.ref h] : List Value).toArray below meth c H locs 0 0 (MQ below (va_Qi (fun (r9 : Int32) (_ : Unit) => r9 = r) (fun (_ : Unit) t => va_P (dC, dI) vwCl (mw_W h q g I' A') t.heap ∧ va_K (dC, dI) vwCl (mw_T g) t ∧ va_D B9 (mw_W h q g I' A')) B9) ([.ref h] : List Value).toArray s 0 0 B9) (F0 m 106 ls [.ref h]) := by
    intro rc hrc36 I A X ls H locs hf hl hP hD hS
    unfold f_M_replace_106 at hf
    refine lv_iconst (v := 1) hx hb d_M_replace_106 (by decide) ?_
    refine lv_goto (tgt := 111) hx hb d_M_replace_107 (by decide) ?_
    exact blk111 rc hrc36 I A X 1 _ _ _ hf (lv_sub hl [0, 1, 2, 3] rfl) hP hD hS
  have stp36 : ∀ (rc : Nat → MI → MA → (Nat → Int32) → Option (Int32 × MI × MA)) (hrc36 : ∀ (I : MI) (A : MA) (X : Nat → Int32) (ls : Array Slot) (H : Heap) (locs : List Loc), rc 36 I A X = some (r, I', A') → lv_has ls 4 [(0, .ref h), (1, .int (X 1)), (2, .int (X 2)), (3, .int (X 3))] → va_P (dC, dI) vwCl (mw_W h q g I A) H → va_D B9 (mw_W h q g I A) → va_S B9 s.heap H locs → W p l e (headSpec w_M_replace ({ frames := 5, cells := 0, slots := 0, locals := 115 })).room s m ([.ref h] : List Value).toArray below meth c H locs 0 0 (MQ below (va_Qi (fun (r9 : Int32) (_ : Unit) => r9 = r) (fun (_ : Unit) t => va_P (dC, dI) vwCl (mw_W h q g I' A') t.heap ∧ va_K (dC, dI) vwCl (mw_T g) t ∧ va_D B9 (mw_W h q g I' A')) B9) ([.ref h] : List Value).toArray s 0 0 B9) (F0 m 36 ls [])), ∀ (I : MI) (A : MA) (X : Nat → Int32) (ls : Array Slot) (H : Heap) (locs : List Loc), f_M_replace_36 rc I A X = some (r, I', A') → lv_has ls 4 [(0, .ref h), (1, .int (X 1)), (2, .int (X 2)), (3, .int (X 3))] → va_P (dC, dI) vwCl (mw_W h q g I A) H → va_D B9 (mw_W h q g I A) → va_S B9 s.heap H locs → W p l e (headSpec w_M_replace ({ frames := 5, cells := 0, slots := 0, locals := 115 })).room s m ([.ref h] : List Value).toArray below meth c H locs 0 0 (MQ below (va_Qi (fun (r9 : Int32) (_ : Unit) => r9 = r) (fun (_ : Unit) t => va_P (dC, dI) vwCl (mw_W h q g I' A') t.heap ∧ va_K (dC, dI) vwCl (mw_T g) t ∧ va_D B9 (mw_W h q g I' A')) B9) ([.ref h] : List Value).toArray s 0 0 B9) (F0 m 36 ls []) := by
    intro rc hrc36 I A X ls H locs hf hl hP hD hS
    unfold f_M_replace_36 at hf
    refine lv_aload_n hx hb d_M_replace_36 rfl (lv_at hl 0 rfl) ?_
    refine lv_iload_n hx hb d_M_replace_37 rfl (lv_at hl 2 rfl) ?_
    have hPc := hP.sub (ws' := (mw_W h q g I A)) [0, 1, 2, 3, 4, 5, 6, 7, 8, 9, 10, 11, 12, 13, 14, 15, 16, 17, 18, 19, 20] rfl
    have hDc := hD.sub (ws' := (mw_W h q g I A)) [0, 1, 2, 3, 4, 5, 6, 7, 8, 9, 10, 11, 12, 13, 14, 15, 16, 17, 18, 19, 20] (by decide) rfl
    have hKc := hK.sub (tys' := (mw_T g)) [0, 1, 2, 3, 4, 5, 6, 7, 8, 9, 10, 11, 12, 13, 14, 15, 16, 17, 18, 19] rfl
    have hFc := va_free (wc := (mw_W h q g I A)) hD hS hA [0, 1, 2, 3, 4, 5, 6, 7, 8, 9, 10, 11, 12, 13, 14, 15, 16, 17, 18, 19, 20] rfl
    cases hg1 : f_M_look I A (X 2) with
    | none => rw [hg1] at hf; cases hf
    | some z1 =>
      obtain ⟨r1, I1, A1⟩ := z1
      rw [hg1] at hf
      dsimp only [Option.bind_some] at hf
      refine va_calli (va_runV (As := [.int (X 2)]) (rest := []) ⟨hx, hb, hml, hown, hts⟩ (cm_M_look l dC dI h q g _ I A (X 2) r1 I1 A1 hg1) (cwV 1 hts (gd_v lk_199 lk_200 lk_201 lk_46 lk_198) rfl rfl rfl (by decide +kernel) ⟨Nat.le_of_ble_eq_true rfl, Nat.le_of_ble_eq_true rfl⟩) ⟨fun a U g mk q => by obtain ⟨q0, q1, qP, qK, qD⟩ := q; exact ⟨q0, q1, qP, va_K.moved (u := U) (U := U.calling g mk a) (Vm.Alike.refl U.vm) qK, qD⟩, va_recv (ci := 4) (q0 := 0) hK hP rfl rfl, fun U hU hW => ⟨rfl, by rw [hU], by rw [hU]; exact hPc, va_K.moved hW.alike hKc, hDc.weaken (fun _ _ _ _ => trivial)⟩⟩ rfl rfl hl.1 rfl (lv_room (Nat.le_of_ble_eq_true rfl)) d_M_replace_38 ⟨Nat.le_of_ble_eq_true rfl, Nat.le_of_ble_eq_true rfl⟩) hS (fun q _ h => hFc q h) hFc (fun r9 u t H1 locs ht hvm hw hB hz1 hk1 hS => ?_)
      obtain ⟨hP1, hK1, hD1⟩ := hB
      rw [ht] at hP1
      rw [hw]
      obtain ⟨hP, hD⟩ := va_join (wr := []) (w1 := (mw_W h q g I1 A1)) hP hD [0, 1, 2, 3, 4, 5, 6, 7, 8, 9, 10, 11, 12, 13, 14, 15, 16, 17, 18, 19, 20] [] rfl rfl (by decide) (by decide) hk1 hFc hP1 hD1
      generalize H1 = H at hP hS ⊢
      have hP : va_P (dC, dI) vwCl (mw_W h q g I1 A1) H := hP
      have hD : va_D B9 (mw_W h q g I1 A1) := hD
      refine lv_if_eq (tgt := 73) hx hb d_M_replace_41 (by decide) (fun hc1 => ?_) (fun hc1 => ?_)
      ·
        have hf := wk_ift hc1 hf
        refine lv_aload_n hx hb d_M_replace_73 rfl (lv_at hl 0 rfl) ?_
        refine lv_iload_n hx hb d_M_replace_74 rfl (lv_at hl 2 rfl) ?_
        refine lv_aload_n hx hb d_M_replace_75 rfl (lv_at hl 0 rfl) ?_
        have hPc := hP.sub (ws' := (mw_W h q g I1 A1)) [0, 1, 2, 3, 4, 5, 6, 7, 8, 9, 10, 11, 12, 13, 14, 15, 16, 17, 18, 19, 20] rfl
        have hDc := hD.sub (ws' := (mw_W h q g I1 A1)) [0, 1, 2, 3, 4, 5, 6, 7, 8, 9, 10, 11, 12, 13, 14, 15, 16, 17, 18, 19, 20] (by decide) rfl
        have hKc := hK.sub (tys' := (mw_T g)) [0, 1, 2, 3, 4, 5, 6, 7, 8, 9, 10, 11, 12, 13, 14, 15, 16, 17, 18, 19] rfl
        have hFc := va_free (wc := (mw_W h q g I1 A1)) hD hS hA [0, 1, 2, 3, 4, 5, 6, 7, 8, 9, 10, 11, 12, 13, 14, 15, 16, 17, 18, 19, 20] rfl
        cases hg2 : f_M_textLength I1 A1 with
        | none => rw [hg2] at hf; cases hf
        | some z2 =>
          obtain ⟨r2, I2, A2⟩ := z2
          rw [hg2] at hf
          dsimp only [Option.bind_some] at hf
          refine va_calli (va_runV (As := []) (rest := [.int (X 2), .ref h]) ⟨hx, hb, hml, hown, hts⟩ (cm_M_textLength l dC dI h q g _ I1 A1 r2 I2 A2 hg2) (cwV 0 hts (gd_v lk_57 lk_58 lk_59 lk_46 lk_56) rfl rfl rfl (by decide +kernel) ⟨Nat.le_of_ble_eq_true rfl, Nat.le_of_ble_eq_true rfl⟩) ⟨fun a U g mk q => by obtain ⟨q0, q1, qP, qK, qD⟩ := q; exact ⟨q0, q1, qP, va_K.moved (u := U) (U := U.calling g mk a) (Vm.Alike.refl U.vm) qK, qD⟩, va_recv (ci := 4) (q0 := 0) hK hP rfl rfl, fun U hU hW => ⟨rfl, by rw [hU], by rw [hU]; exact hPc, va_K.moved hW.alike hKc, hDc.weaken (fun _ _ _ _ => trivial)⟩⟩ rfl rfl hl.1 rfl (lv_room (Nat.le_of_ble_eq_true rfl)) d_M_replace_76 ⟨Nat.le_of_ble_eq_true rfl, Nat.le_of_ble_eq_true rfl⟩) hS (fun q _ h => hFc q h) hFc (fun r9 u t H1 locs ht hvm hw hB hz1 hk1 hS => ?_)
          obtain ⟨hP1, hK1, hD1⟩ := hB
          rw [ht] at hP1
          rw [hw]
          obtain ⟨hP, hD⟩ := va_join (wr := []) (w1 := (mw_W h q g I2 A2)) hP hD [0, 1, 2, 3, 4, 5, 6, 7, 8, 9, 10, 11, 12, 13, 14, 15, 16, 17, 18, 19, 20] [] rfl rfl (by decide) (by decide) hk1 hFc hP1 hD1
          generalize H1 = H at hP hS ⊢
          have hP : va_P (dC, dI) vwCl (mw_W h q g I2 A2) H := hP
          have hD : va_D B9 (mw_W h q g I2 A2) := hD
          have hPc := hP.sub (ws' := (mw_W h q g I2 A2)) [0, 1, 2, 3, 4, 5, 6, 7, 8, 9, 10, 11, 12, 13, 14, 15, 16, 17, 18, 19, 20] rfl
          have hDc := hD.sub (ws' := (mw_W h q g I2 A2)) [0, 1, 2, 3, 4, 5, 6, 7, 8, 9, 10, 11, 12, 13, 14, 15, 16, 17, 18, 19, 20] (by decide) rfl
          have hKc := hK.sub (tys' := (mw_T g)) [0, 1, 2, 3, 4, 5, 6, 7, 8, 9, 10, 11, 12, 13, 14, 15, 16, 17, 18, 19] rfl
          have hFc := va_free (wc := (mw_W h q g I2 A2)) hD hS hA [0, 1, 2, 3, 4, 5, 6, 7, 8, 9, 10, 11, 12, 13, 14, 15, 16, 17, 18, 19, 20] rfl
          cases hg3 : f_M_addText I2 A2 (X 2) r2 with
          | none => rw [hg3] at hf; cases hf
          | some z3 =>
            obtain ⟨r3, I3, A3⟩ := z3
            rw [hg3] at hf
            dsimp only [Option.bind_some] at hf
            refine va_callv (va_runV (As := [.int (X 2), .int r2]) (rest := []) ⟨hx, hb, hml, hown, hts⟩ (cm_M_addText l dC dI h q g _ I2 A2 (X 2) r2 r3 I3 A3 hg3) (cwV 2 hts (gd_v lk_161 lk_162 lk_163 lk_46 lk_54) rfl rfl rfl (by decide +kernel) ⟨Nat.le_of_ble_eq_true rfl, Nat.le_of_ble_eq_true rfl⟩) ⟨fun a U g mk q => by obtain ⟨q0, q1, qP, qK, qD⟩ := q; exact ⟨q0, q1, qP, va_K.moved (u := U) (U := U.calling g mk a) (Vm.Alike.refl U.vm) qK, qD⟩, va_recv (ci := 4) (q0 := 0) hK hP rfl rfl, fun U hU hW => ⟨rfl, by rw [hU], by rw [hU]; exact hPc, va_K.moved hW.alike hKc, hDc.weaken (fun _ _ _ _ => trivial)⟩⟩ rfl rfl hl.1 rfl (lv_room (Nat.le_of_ble_eq_true rfl)) d_M_replace_79 ⟨Nat.le_of_ble_eq_true rfl, Nat.le_of_ble_eq_true rfl⟩) hS (fun q _ h => hFc q h) hFc (fun u t H1 locs ht hvm hw hB hz1 hk1 hS => ?_)
            obtain ⟨hP1, hK1, hD1⟩ := hB
            rw [ht] at hP1
            obtain ⟨hP, hD⟩ := va_join (wr := []) (w1 := (mw_W h q g I3 A3)) hP hD [0, 1, 2, 3, 4, 5, 6, 7, 8, 9, 10, 11, 12, 13, 14, 15, 16, 17, 18, 19, 20] [] rfl rfl (by decide) (by decide) hk1 hFc hP1 hD1
            generalize H1 = H at hP hS ⊢
            have hP : va_P (dC, dI) vwCl (mw_W h q g I3 A3) H := hP
            have hD : va_D B9 (mw_W h q g I3 A3) := hD
            refine lv_aload_n hx hb d_M_replace_82 rfl (lv_at hl 0 rfl) ?_
            refine lv_iload_n hx hb d_M_replace_83 rfl (lv_at hl 1 rfl) ?_
            refine lv_if_le (tgt := 110) hx hb d_M_replace_84 (by decide) (fun hc2 => ?_) (fun hc2 => ?_)
            ·
              have hf := wk_ift hc2 hf
              exact blk110 rc hrc36 I3 A3 X _ _ _ hf (lv_sub hl [0, 1, 2, 3] rfl) hP hD hS
            ·
              have hf := wk_iff hc2 hf
              refine lv_aload_n hx hb d_M_replace_87 rfl (lv_at hl 0 rfl) ?_
              refine va_get (D := (dC, dI)) (ci := 4) (v := .int (I3 36)) (C := R_M) (T := F_M) (N := 38) hx hb hts (fun w h => List.mem_cons_of_mem _ (in_M w h)) hown hK hP 0 rfl rfl 36 (by decide) (hts _ (List.mem_cons_of_mem _ lk_39)) (fun _ h9 => h9) rfl d_M_replace_88 ?_
              refine lv_sipush (v := 160) hx hb d_M_replace_91 (by decide) ?_
              refine lv_icmp_gt (tgt := 106) hx hb d_M_replace_94 (by decide) (fun hc3 => ?_) (fun hc3 => ?_)
              ·
                have hf := wk_ift hc3 hf
                exact blk106 rc hrc36 I3 A3 X _ _ _ hf (lv_sub hl [0, 1, 2, 3] rfl) hP hD hS
              ·
                have hf := wk_iff hc3 hf
                refine lv_aload_n hx hb d_M_replace_97 rfl (lv_at hl 0 rfl) ?_
                refine va_get (D := (dC, dI)) (ci := 4) (v := .int (I3 3)) (C := R_M) (T := F_M) (N := 38) hx hb hts (fun w h => List.mem_cons_of_mem _ (in_M w h)) hown hK hP 0 rfl rfl 3 (by decide) (hts _ (List.mem_cons_of_mem _ lk_147)) (fun _ h9 => h9) rfl d_M_replace_98 ?_
                refine lv_bipush (v := 40) hx hb d_M_replace_101 (by decide) ?_
                refine lv_icmp_ne (tgt := 110) hx hb d_M_replace_103 (by decide) (fun hc4 => ?_) (fun hc4 => ?_)
                ·
                  have hf := wk_iff hc4 hf
                  exact blk110 rc hrc36 I3 A3 X _ _ _ hf (lv_sub hl [0, 1, 2, 3] rfl) hP hD hS
                ·
                  have hf := wk_ift hc4 hf
                  exact blk106 rc hrc36 I3 A3 X _ _ _ hf (lv_sub hl [0, 1, 2, 3] rfl) hP hD hS
      ·
        have hf := wk_iff hc1 hf
        refine lv_aload_n hx hb d_M_replace_44 rfl (lv_at hl 0 rfl) ?_
        refine lv_iload_n hx hb d_M_replace_45 rfl (lv_at hl 2 rfl) ?_
        refine lv_aload_n hx hb d_M_replace_46 rfl (lv_at hl 0 rfl) ?_
        refine va_get (D := (dC, dI)) (ci := 4) (v := .int (I1 34)) (C := R_M) (T := F_M) (N := 38) hx hb hts (fun w h => List.mem_cons_of_mem _ (in_M w h)) hown hK hP 0 rfl rfl 34 (by decide) (hts _ (List.mem_cons_of_mem _ lk_171)) (fun _ h9 => h9) rfl d_M_replace_47 ?_
        have hPc := hP.sub (ws' := (mw_W h q g I1 A1)) [0, 1, 2, 3, 4, 5, 6, 7, 8, 9, 10, 11, 12, 13, 14, 15, 16, 17, 18, 19, 20] rfl
        have hDc := hD.sub (ws' := (mw_W h q g I1 A1)) [0, 1, 2, 3, 4, 5, 6, 7, 8, 9, 10, 11, 12, 13, 14, 15, 16, 17, 18, 19, 20] (by decide) rfl
        have hKc := hK.sub (tys' := (mw_T g)) [0, 1, 2, 3, 4, 5, 6, 7, 8, 9, 10, 11, 12, 13, 14, 15, 16, 17, 18, 19] rfl
        have hFc := va_free (wc := (mw_W h q g I1 A1)) hD hS hA [0, 1, 2, 3, 4, 5, 6, 7, 8, 9, 10, 11, 12, 13, 14, 15, 16, 17, 18, 19, 20] rfl
        cases hg2 : f_M_addText I1 A1 (X 2) (I1 34) with
        | none => rw [hg2] at hf; cases hf
        | some z2 =>
          obtain ⟨r2, I2, A2⟩ := z2
          rw [hg2] at hf
          dsimp only [Option.bind_some] at hf
          refine va_callv (va_runV (As := [.int (X 2), .int (I1 34)]) (rest := []) ⟨hx, hb, hml, hown, hts⟩ (cm_M_addText l dC dI h q g _ I1 A1 (X 2) (I1 34) r2 I2 A2 hg2) (cwV 2 hts (gd_v lk_161 lk_162 lk_163 lk_46 lk_54) rfl rfl rfl (by decide +kernel) ⟨Nat.le_of_ble_eq_true rfl, Nat.le_of_ble_eq_true rfl⟩) ⟨fun a U g mk q => by obtain ⟨q0, q1, qP, qK, qD⟩ := q; exact ⟨q0, q1, qP, va_K.moved (u := U) (U := U.calling g mk a) (Vm.Alike.refl U.vm) qK, qD⟩, va_recv (ci := 4) (q0 := 0) hK hP rfl rfl, fun U hU hW => ⟨rfl, by rw [hU], by rw [hU]; exact hPc, va_K.moved hW.alike hKc, hDc.weaken (fun _ _ _ _ => trivial)⟩⟩ rfl rfl hl.1 rfl (lv_room (Nat.le_of_ble_eq_true rfl)) d_M_replace_50 ⟨Nat.le_of_ble_eq_true rfl, Nat.le_of_ble_eq_true rfl⟩) hS (fun q _ h => hFc q h) hFc (fun u t H1 locs ht hvm hw hB hz1 hk1 hS => ?_)
          obtain ⟨hP1, hK1, hD1⟩ := hB
          rw [ht] at hP1
          obtain ⟨hP, hD⟩ := va_join (wr := []) (w1 := (mw_W h q g I2 A2)) hP hD [0, 1, 2, 3, 4, 5, 6, 7, 8, 9, 10, 11, 12, 13, 14, 15, 16, 17, 18, 19, 20] [] rfl rfl (by decide) (by decide) hk1 hFc hP1 hD1
          generalize H1 = H at hP hS ⊢
          have hP : va_P (dC, dI) vwCl (mw_W h q g I2 A2) H := hP
          have hD : va_D B9 (mw_W h q g I2 A2) := hD
          refine lv_aload_n hx hb d_M_replace_53 rfl (lv_at hl 0 rfl) ?_
          have hPc := hP.sub (ws' := (mw_W h q g I2 A2)) [0, 1, 2, 3, 4, 5, 6, 7, 8, 9, 10, 11, 12, 13, 14, 15, 16, 17, 18, 19, 20] rfl
          have hDc := hD.sub (ws' := (mw_W h q g I2 A2)) [0, 1, 2, 3, 4, 5, 6, 7, 8, 9, 10, 11, 12, 13, 14, 15, 16, 17, 18, 19, 20] (by decide) rfl
          have hKc := hK.sub (tys' := (mw_T g)) [0, 1, 2, 3, 4, 5, 6, 7, 8, 9, 10, 11, 12, 13, 14, 15, 16, 17, 18, 19] rfl
          have hFc := va_free (wc := (mw_W h q g I2 A2)) hD hS hA [0, 1, 2, 3, 4, 5, 6, 7, 8, 9, 10, 11, 12, 13, 14, 15, 16, 17, 18, 19, 20] rfl
          cases hg3 : f_M_addSlip I2 A2 with
          | none => rw [hg3] at hf; cases hf
          | some z3 =>
            obtain ⟨r3, I3, A3⟩ := z3
            rw [hg3] at hf
            dsimp only [Option.bind_some] at hf
            refine va_callv (va_runV (As := []) (rest := []) ⟨hx, hb, hml, hown, hts⟩ (cm_M_addSlip l dC dI h q g _ I2 A2 r3 I3 A3 hg3) (cwV 0 hts (gd_v lk_204 lk_205 lk_206 lk_46 lk_47) rfl rfl rfl (by decide +kernel) ⟨Nat.le_of_ble_eq_true rfl, Nat.le_of_ble_eq_true rfl⟩) ⟨fun a U g mk q => by obtain ⟨q0, q1, qP, qK, qD⟩ := q; exact ⟨q0, q1, qP, va_K.moved (u := U) (U := U.calling g mk a) (Vm.Alike.refl U.vm) qK, qD⟩, va_recv (ci := 4) (q0 := 0) hK hP rfl rfl, fun U hU hW => ⟨rfl, by rw [hU], by rw [hU]; exact hPc, va_K.moved hW.alike hKc, hDc.weaken (fun _ _ _ _ => trivial)⟩⟩ rfl rfl hl.1 rfl (lv_room (Nat.le_of_ble_eq_true rfl)) d_M_replace_54 ⟨Nat.le_of_ble_eq_true rfl, Nat.le_of_ble_eq_true rfl⟩) hS (fun q _ h => hFc q h) hFc (fun u t H1 locs ht hvm hw hB hz1 hk1 hS => ?_)
            obtain ⟨hP1, hK1, hD1⟩ := hB
            rw [ht] at hP1
            obtain ⟨hP, hD⟩ := va_join (wr := []) (w1 := (mw_W h q g I3 A3)) hP hD [0, 1, 2, 3, 4, 5, 6, 7, 8, 9, 10, 11, 12, 13, 14, 15, 16, 17, 18, 19, 20] [] rfl rfl (by decide) (by decide) hk1 hFc hP1 hD1
            generalize H1 = H at hP hS ⊢
            have hP : va_P (dC, dI) vwCl (mw_W h q g I3 A3) H := hP
            have hD : va_D B9 (mw_W h q g I3 A3) := hD
            refine lv_aload_n hx hb d_M_replace_57 rfl (lv_at hl 0 rfl) ?_
            refine va_get (D := (dC, dI)) (ci := 4) (v := .int (I3 36)) (C := R_M) (T := F_M) (N := 38) hx hb hts (fun w h => List.mem_cons_of_mem _ (in_M w h)) hown hK hP 0 rfl rfl 36 (by decide) (hts _ (List.mem_cons_of_mem _ lk_39)) (fun _ h9 => h9) rfl d_M_replace_58 ?_
            refine lv_istore_n (lv' := [(3, .int (I3 36)), (0, .ref h), (1, .int (X 1)), (2, .int (X 2))]) hx hb d_M_replace_61 rfl hl (by decide) rfl (fun ls hl => ?_)
            have hl : lv_has ls 4 [(3, .int (I3 36)), (0, .ref h), (1, .int (X 1)), (2, .int (X 2))] := hl
            refine lv_aload_n hx hb d_M_replace_62 rfl (lv_at hl 1 rfl) ?_
            refine va_get (D := (dC, dI)) (ci := 4) (v := .int (I3 35)) (C := R_M) (T := F_M) (N := 38) hx hb hts (fun w h => List.mem_cons_of_mem _ (in_M w h)) hown hK hP 0 rfl rfl 35 (by decide) (hts _ (List.mem_cons_of_mem _ lk_170)) (fun _ h9 => h9) rfl d_M_replace_63 ?_
            refine lv_istore_n (lv' := [(2, .int (I3 35)), (3, .int (I3 36)), (0, .ref h), (1, .int (X 1))]) hx hb d_M_replace_66 rfl hl (by decide) rfl (fun ls hl => ?_)
            have hl : lv_has ls 4 [(2, .int (I3 35)), (3, .int (I3 36)), (0, .ref h), (1, .int (X 1))] := hl
            refine lv_iinc (k := 3) (v := ((X 1) + 1)) (lv' := [(1, .int ((X 1) + 1)), (2, .int (I3 35)), (3, .int (I3 36)), (0, .ref h)]) hx hb d_M_replace_67 hl rfl (wk_inc (by decide)) (by decide) rfl (fun ls hl => ?_)
            have hl : lv_has ls 4 [(1, .int ((X 1) + 1)), (2, .int (I3 35)), (3, .int (I3 36)), (0, .ref h)] := hl
            refine lv_goto (tgt := 36) hx hb d_M_replace_70 (by decide) ?_
            exact hrc36 I3 A3 (upd (upd (upd X 1 ((X 1) + 1)) 2 (I3 35)) 3 (I3 36)) _ _ _ hf (lv_sub hl [3, 0, 1, 2] rfl) hP hD hS
  have key : ∀ n : Nat, (∀ (I : MI) (A : MA) (X : Nat → Int32) (ls : Array Slot) (H : Heap) (locs : List Loc), f_M_replace_go n 36 I A X = some (r, I', A') → lv_has ls 4 [(0, .ref h), (1, .int (X 1)), (2, .int (X 2)), (3, .int (X 3))] → va_P (dC, dI) vwCl (mw_W h q g I A) H → va_D B9 (mw_W h q g I A) → va_S B9 s.heap H locs → W p l e (headSpec w_M_replace ({ frames := 5, cells := 0, slots := 0, locals := 115 })).room s m ([.ref h] : List Value).toArray below meth c H locs 0 0 (MQ below (va_Qi (fun (r9 : Int32) (_ : Unit) => r9 = r) (fun (_ : Unit) t => va_P (dC, dI) vwCl (mw_W h q g I' A') t.heap ∧ va_K (dC, dI) vwCl (mw_T g) t ∧ va_D B9 (mw_W h q g I' A')) B9) ([.ref h] : List Value).toArray s 0 0 B9) (F0 m 36 ls [])) := by
    intro n
    induction n with
    | zero => exact fun I A X ls H locs hf => (by cases hf)
    | succ n ih =>
      have ih36 := ih
      exact stp36 (f_M_replace_go n) ih36
  unfold f_M_replace f_M_replace_e at hf
  have hrc36 := key wk_FUEL
  refine lv_aload_n hx hb d_M_replace_0 rfl (lv_at hl 0 rfl) ?_
  refine lv_aload_n hx hb d_M_replace_1 rfl (lv_at hl 0 rfl) ?_
  refine va_get (D := (dC, dI)) (ci := 4) (v := .int (I 13)) (C := R_M) (T := F_M) (N := 38) hx hb hts (fun w h => List.mem_cons_of_mem _ (in_M w h)) hown hK hP 0 rfl rfl 13 (by decide) (hts _ (List.mem_cons_of_mem _ lk_142)) (fun _ h9 => h9) rfl d_M_replace_2 ?_
  refine lv_if_eq (tgt := 12) hx hb d_M_replace_5 (by decide) (fun hc1 => ?_) (fun hc1 => ?_)
  ·
    have hf := wk_ift hc1 hf
    refine lv_iconst (v := 1) hx hb d_M_replace_12 (by decide) ?_
    exact blk13 _ hrc36 I A (fun _ => 0) 1 _ _ _ hf (lv_sub hl [0] rfl) hP hD hS
  ·
    have hf := wk_iff hc1 hf
    refine lv_iconst (v := 0) hx hb d_M_replace_8 (by decide) ?_
    refine lv_goto (tgt := 13) hx hb d_M_replace_9 (by decide) ?_
    exact blk13 _ hrc36 I A (fun _ => 0) 0 _ _ _ hf (lv_sub hl [0] rfl) hP hD hS

