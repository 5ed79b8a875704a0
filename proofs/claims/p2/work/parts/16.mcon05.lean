set_option maxHeartbeats 8000000 in
set_option maxRecDepth 100000 in
theorem cm_M_compile (l : Launch) (dC : Nat → ClassId) (dI : Nat → Nat → Nat) (h : Nat) (q : Nat → Nat) (g : Nat → ClassId) (sz : Nat) (I : MI) (A : MA) (r : Int32) (I' : MI) (A' : MA) (hf : f_M_compile I A  = some (r, I', A')) : Met l y_M_compile w_M_compile ({ frames := 4, cells := 0, slots := 0, locals := 94 }) (va_Pc [.ref h] (fun U => U.heap.size = sz ∧ va_P (dC, dI) vwCl (mw_W h q g I A) U.heap ∧ va_K (dC, dI) vwCl (mw_T g) U ∧ va_D (fun _ => True) (mw_W h q g I A))) (va_Qv (fun (u : Unit) => u = u) (fun (_ : Unit) t => va_P (dC, dI) vwCl (mw_W h q g I' A') t.heap ∧ va_K (dC, dI) vwCl (mw_T g) t ∧ va_D (va_A (mw_W h q g I A) sz) (mw_W h q g I' A')) (va_A (mw_W h q g I A) sz)) 0 0 (va_A (mw_W h q g I A) sz) := by
  refine Met.ofW (cc := prog_6_method_36_code) (maxL := 4) (ret := none) (by decide) rfl ?_
  intro p e s m args below meth c s₁ B hml hv
  obtain ⟨rfl, hsz, hP, hK, hD0⟩ := hv
  have hx := B.exec
  have hb := B.bytes
  have hr := B.returns
  have hts := atoms_spec (ws := w_M_compile) B.pre
  have hown : s.vm.findClass R_M = some m.cls := findClass_of_methodNamed B.named
  have hlocks := B.notSynchronized
  subst hsz
  have hD := hD0.self (sz := s.heap.size)
  generalize hAe : va_A (mw_W h q g I A) s.heap.size = B9 at hD ⊢
  have hA : ∀ q : Nat, s.heap.size ≤ q → B9 q := fun q h => by rw [← hAe]; exact Or.inr h
  clear hAe
  have hS : va_S B9 s.heap s.heap [] := va_S.rf
  have hl := lv_entry ([.ref h]) (n := 4) (Nat.le_of_ble_eq_true rfl)
  rw [lg_entry_eq]
  generalize (lg_sl ([.ref h]) ++ List.replicate (4 - (lg_sl ([.ref h])).length) Slot.unset).toArray = ls at hl ⊢
  have hl : lv_has ls 4 [(0, .ref h)] := hl
  have blk52 : ∀ (rc : Nat → MI → MA → (Nat → Int32) → Option (Int32 × MI × MA)) (hrc70 : ∀ (I : MI) (A : MA) (X : Nat → Int32) (ls : Array Slot) (H : Heap) (locs : List Loc), rc 70 I A X = some (r, I', A') → lv_has ls 4 [(0, .ref h), (1, .int (X 1)), (2, .int (X 2)), (3, .int (X 3))] → va_P (dC, dI) vwCl (mw_W h q g I A) H → va_D B9 (mw_W h q g I A) → va_S B9 s.heap H locs → W p l e (headSpec w_M_compile ({ frames := 4, cells := 0, slots := 0, locals := 94 })).room s m ([.ref h] : List Value).toArray below meth c H locs 0 0 (MQ below (va_Qv (fun (u : Unit) => u = u) (fun (_ : Unit) t => va_P (dC, dI) vwCl (mw_W h q g I' A') t.heap ∧ va_K (dC, dI) vwCl (mw_T g) t ∧ va_D B9 (mw_W h q g I' A')) B9) ([.ref h] : List Value).toArray s 0 0 B9) (F0 m 70 ls [])) (hrc122 : ∀ (I : MI) (A : MA) (X : Nat → Int32) (ls : Array Slot) (H : Heap) (locs : List Loc), rc 122 I A X = some (r, I', A') → lv_has ls 4 [(0, .ref h), (1, .int (X 1)), (2, .int (X 2)), (3, .int (X 3))] → va_P (dC, dI) vwCl (mw_W h q g I A) H → va_D B9 (mw_W h q g I A) → va_S B9 s.heap H locs → W p l e (headSpec w_M_compile ({ frames := 4, cells := 0, slots := 0, locals := 94 })).room s m ([.ref h] : List Value).toArray below meth c H locs 0 0 (MQ below (va_Qv (fun (u : Unit) => u = u) (fun (_ : Unit) t => va_P (dC, dI) vwCl (mw_W h q g I' A') t.heap ∧ va_K (dC, dI) vwCl (mw_T g) t ∧ va_D B9 (mw_W h q g I' A')) B9) ([.ref h] : List Value).toArray s 0 0 B9) (F0 m 122 ls [])), ∀ (I : MI) (A : MA) (X : Nat → Int32) (s0 : Int32) (ls : Array Slot) (H : Heap) (locs : List Loc), f_M_compile_52 rc I A X s0 = some (r, I', A') → lv_has ls 4 [(0, .ref h), (1, .int (X 1)), (2, .int (X 2))] → va_P (dC, dI) vwCl (mw_W h q g I A) H → va_D B9 (mw_W h q g I A) → va_S B9 s.heap H locs → W p l e (headSpec w_M_compile ({ frames := 4, cells := 0, slots := 0, locals := 94 })).room s m ([.ref h] : List Value).toArray below meth c H locs 0 0 (MQ below (va_Qv (fun (u : Unit) => u = u) (fun (_ : Unit) t => va_P (dC, dI) vwCl (mw_W h q g I' A') t.heap ∧ va_K (dC, dI) vwCl (mw_T g) t ∧ va_D B9 (mw_W h q g I' A')) B9) ([.ref h] : List Value).toArray s 0 0 B9) (F0 m 52 ls [.int s0, .ref h]) := by
    intro rc hrc70 hrc122 I A X s0 ls H locs hf hl hP hD hS
    unfold f_M_compile_52 at hf
    refine va_put (D := (dC, dI)) (ci := 4) (v := .int s0) (ty := .int) (C := R_M) (T := F_M) (N := 38) hx hb hts (fun w h => List.mem_cons_of_mem _ (in_M w h)) t_M tk_M n_M hown hK hP hD hS 0 rfl rfl 14 (by decide) (hts _ (List.mem_cons_of_mem _ lk_138)) (fun _ h9 => h9) rfl (by decide +kernel) rfl rfl (Nat.le_of_ble_eq_true rfl) d_M_compile_52 (fun H locs hP hD hS => ?_)
    obtain ⟨I1, hI1, hf⟩ := wk_letE hf
    have hP : va_P (dC, dI) vwCl (mw_W h q g I1 A) H := by rw [hI1]; exact hP
    have hD : va_D B9 (mw_W h q g I1 A) := by rw [hI1]; exact hD
    clear hI1
    refine lv_iload_n hx hb d_M_compile_55 rfl (lv_at hl 2 rfl) ?_
    refine lv_if_ne (tgt := 60) hx hb d_M_compile_56 (by decide) (fun hc1 => ?_) (fun hc1 => ?_)
    ·
      have hf := wk_iff hc1 hf
      refine lv_aload_n hx hb d_M_compile_60 rfl (lv_at hl 0 rfl) ?_
      refine lv_aload_n hx hb d_M_compile_61 rfl (lv_at hl 0 rfl) ?_
      refine va_get (D := (dC, dI)) (ci := 4) (v := .int (I1 1)) (C := R_M) (T := F_M) (N := 38) hx hb hts (fun w h => List.mem_cons_of_mem _ (in_M w h)) hown hK hP 0 rfl rfl 1 (by decide) (hts _ (List.mem_cons_of_mem _ lk_41)) (fun _ h9 => h9) rfl d_M_compile_62 ?_
      refine va_put (D := (dC, dI)) (ci := 4) (v := .int (I1 1)) (ty := .int) (C := R_M) (T := F_M) (N := 38) hx hb hts (fun w h => List.mem_cons_of_mem _ (in_M w h)) t_M tk_M n_M hown hK hP hD hS 0 rfl rfl 15 (by decide) (hts _ (List.mem_cons_of_mem _ lk_139)) (fun _ h9 => h9) rfl (by decide +kernel) rfl rfl (Nat.le_of_ble_eq_true rfl) d_M_compile_65 (fun H locs hP hD hS => ?_)
      obtain ⟨I2, hI2, hf⟩ := wk_letE hf
      have hP : va_P (dC, dI) vwCl (mw_W h q g I2 A) H := by rw [hI2]; exact hP
      have hD : va_D B9 (mw_W h q g I2 A) := by rw [hI2]; exact hD
      clear hI2
      refine lv_iconst (v := 0) hx hb d_M_compile_68 (by decide) ?_
      refine lv_istore_n (lv' := [(3, .int 0), (0, .ref h), (1, .int (X 1)), (2, .int (X 2))]) hx hb d_M_compile_69 rfl hl (by decide) rfl (fun ls hl => ?_)
      have hl : lv_has ls 4 [(3, .int 0), (0, .ref h), (1, .int (X 1)), (2, .int (X 2))] := hl
      exact hrc70 I2 A (upd X 3 0) _ _ _ hf (lv_sub hl [1, 2, 3, 0] rfl) hP hD hS
    ·
      have hf := wk_ift hc1 hf
      obtain ⟨e1, e2, e3⟩ := wk_inj hf
      subst e1
      subst e2
      subst e3
      exact W.vret hx hb hr (fun t ht hW => ⟨⟨(), rfl, rfl, by rw [ht]; exact hP, va_K.moved hW.alike hK, hD⟩, hS.F ht⟩) hS.2.2 d_M_compile_59
  have blk29 : ∀ (rc : Nat → MI → MA → (Nat → Int32) → Option (Int32 × MI × MA)) (hrc70 : ∀ (I : MI) (A : MA) (X : Nat → Int32) (ls : Array Slot) (H : Heap) (locs : List Loc), rc 70 I A X = some (r, I', A') → lv_has ls 4 [(0, .ref h), (1, .int (X 1)), (2, .int (X 2)), (3, .int (X 3))] → va_P (dC, dI) vwCl (mw_W h q g I A) H → va_D B9 (mw_W h q g I A) → va_S B9 s.heap H locs → W p l e (headSpec w_M_compile ({ frames := 4, cells := 0, slots := 0, locals := 94 })).room s m ([.ref h] : List Value).toArray below meth c H locs 0 0 (MQ below (va_Qv (fun (u : Unit) => u = u) (fun (_ : Unit) t => va_P (dC, dI) vwCl (mw_W h q g I' A') t.heap ∧ va_K (dC, dI) vwCl (mw_T g) t ∧ va_D B9 (mw_W h q g I' A')) B9) ([.ref h] : List Value).toArray s 0 0 B9) (F0 m 70 ls [])) (hrc122 : ∀ (I : MI) (A : MA) (X : Nat → Int32) (ls : Array Slot) (H : Heap) (locs : List Loc), rc 122 I A X = some (r, I', A') → lv_has ls 4 [(0, .ref h), (1, .int (X 1)), (2, .int (X 2)), (3, .int (X 3))] → va_P (dC, dI) vwCl (mw_W h q g I A) H → va_D B9 (mw_W h q g I A) → va_S B9 s.heap H locs → W p l e (headSpec w_M_compile ({ frames := 4, cells := 0, slots := 0, locals := 94 })).room s m ([.ref h] : List Value).toArray below meth c H locs 0 0 (MQ below (va_Qv (fun (u : Unit) => u = u) (fun (_ : Unit) t => va_P (dC, dI) vwCl (mw_W h q g I' A') t.heap ∧ va_K (dC, dI) vwCl (mw_T g) t ∧ va_D B9 (mw_W h q g I' A')) B9) ([.ref h] : List Value).toArray s 0 0 B9) (F0 m 122 ls [])), ∀ (I : MI) (A : MA) (X : Nat → Int32) (s0 : Int32) (ls : Array Slot) (H : Heap) (locs : List Loc), f_M_compile_29 rc I A X s0 = some (r, I', A') → lv_has ls 4 [(0, .ref h), (1, .int (X 1)), (2, .int (X 2))] → va_P (dC, dI) vwCl (mw_W h q g I A) H → va_D B9 (mw_W h q g I A) → va_S B9 s.heap H locs → W p l e (headSpec w_M_compile ({ frames := 4, cells := 0, slots := 0, locals := 94 })).room s m ([.ref h] : List Value).toArray below meth c H locs 0 0 (MQ below (va_Qv (fun (u : Unit) => u = u) (fun (_ : Unit) t => va_P (dC, dI) vwCl (mw_W h q g I' A') t.heap ∧ va_K (dC, dI) vwCl (mw_T g) t ∧ va_D B9 (mw_W h q g I' A')) B9) ([.ref h] : List Value).toArray s 0 0 B9) (F0 m 29 ls [.int s0, .ref h]) := by
    intro rc hrc70 hrc122 I A X s0 ls H locs hf hl hP hD hS
    unfold f_M_compile_29 at hf
    refine va_put (D := (dC, dI)) (ci := 4) (v := .int s0) (ty := .int) (C := R_M) (T := F_M) (N := 38) hx hb hts (fun w h => List.mem_cons_of_mem _ (in_M w h)) t_M tk_M n_M hown hK hP hD hS 0 rfl rfl 0 (by decide) (hts _ (List.mem_cons_of_mem _ lk_60)) (fun _ h9 => h9) rfl (by decide +kernel) rfl rfl (Nat.le_of_ble_eq_true rfl) d_M_compile_29 (fun H locs hP hD hS => ?_)
    obtain ⟨I1, hI1, hf⟩ := wk_letE hf
    have hP : va_P (dC, dI) vwCl (mw_W h q g I1 A) H := by rw [hI1]; exact hP
    have hD : va_D B9 (mw_W h q g I1 A) := by rw [hI1]; exact hD
    clear hI1
    refine lv_aload_n hx hb d_M_compile_32 rfl (lv_at hl 0 rfl) ?_
    refine lv_iload_n hx hb d_M_compile_33 rfl (lv_at hl 2 rfl) ?_
    refine lv_if_eq (tgt := 41) hx hb d_M_compile_34 (by decide) (fun hc1 => ?_) (fun hc1 => ?_)
    ·
      have hf := wk_ift hc1 hf
      refine lv_iload_n hx hb d_M_compile_41 rfl (lv_at hl 1 rfl) ?_
      refine lv_if_ge (tgt := 51) hx hb d_M_compile_42 (by decide) (fun hc2 => ?_) (fun hc2 => ?_)
      ·
        have hf := wk_ift hc2 hf
        refine lv_iload_n hx hb d_M_compile_51 rfl (lv_at hl 1 rfl) ?_
        exact blk52 rc hrc70 hrc122 I1 A X (X 1) _ _ _ hf (lv_sub hl [0, 1, 2] rfl) hP hD hS
      ·
        have hf := wk_iff hc2 hf
        refine lv_iconst (v := (-1)) hx hb d_M_compile_45 (by decide) ?_
        refine lv_iload_n hx hb d_M_compile_46 rfl (lv_at hl 1 rfl) ?_
        refine lv_isub hx hb d_M_compile_47 ?_
        refine lv_goto (tgt := 52) hx hb d_M_compile_48 (by decide) ?_
        exact blk52 rc hrc70 hrc122 I1 A X ((-1) - (X 1)) _ _ _ hf (lv_sub hl [0, 1, 2] rfl) hP hD hS
    ·
      have hf := wk_iff hc1 hf
      refine lv_iconst (v := (-1)) hx hb d_M_compile_37 (by decide) ?_
      refine lv_goto (tgt := 52) hx hb d_M_compile_38 (by decide) ?_
      exact blk52 rc hrc70 hrc122 I1 A X (-1) _ _ _ hf (lv_sub hl [0, 1, 2] rfl) hP hD hS
  have blk18 : ∀ (rc : Nat → MI → MA → (Nat → Int32) → Option (Int32 × MI × MA)) (hrc70 : ∀ (I : MI) (A : MA) (X : Nat → Int32) (ls : Array Slot) (H : Heap) (locs : List Loc), rc 70 I A X = some (r, I', A') → lv_has ls 4 [(0, .ref h), (1, .int (X 1)), (2, .int (X 2)), (3, .int (X 3))] → va_P (dC, dI) vwCl (mw_W h q g I A) H → va_D B9 (mw_W h q g I A) → va_S B9 s.heap H locs → W p l e (headSpec w_M_compile ({ frames := 4, cells := 0, slots := 0, locals := 94 })).room s m ([.ref h] : List Value).toArray below meth c H locs 0 0 (MQ below (va_Qv (fun (u : Unit) => u = u) (fun (_ : Unit) t => va_P (dC, dI) vwCl (mw_W h q g I' A') t.heap ∧ va_K (dC, dI) vwCl (mw_T g) t ∧ va_D B9 (mw_W h q g I' A')) B9) ([.ref h] : List Value).toArray s 0 0 B9) (F0 m 70 ls [])) (hrc122 : ∀ (I : MI) (A : MA) (X : Nat → Int32) (ls : Array Slot) (H : Heap) (locs : List Loc), rc 122 I A X = some (r, I', A') → lv_has ls 4 [(0, .ref h), (1, .int (X 1)), (2, .int (X 2)), (3, .int (X 3))] → va_P (dC, dI) vwCl (mw_W h q g I A) H → va_D B9 (mw_W h q g I A) → va_S B9 s.heap H locs → W p l e (headSpec w_M_compile ({ frames := 4, cells := 0, slots := 0, locals := 94 })).room s m ([.ref h] : List Value).toArray below meth c H locs 0 0 (MQ below (va_Qv (fun (u : Unit) => u = u) (fun (_ : Unit) t => va_P (dC, dI) vwCl (mw_W h q g I' A') t.heap ∧ va_K (dC, dI) vwCl (mw_T g) t ∧ va_D B9 (mw_W h q g I' A')) B9) ([.ref h] : List Value).toArray s 0 0 B9) (F0 m 122 ls [])), ∀ (I : MI) (A : MA) (X : Nat → Int32) (s0 : Int32) (ls : Array Slot) (H : Heap) (locs : List Loc), f_M_compile_18 rc I A X s0 = some (r, I', A') → lv_has ls 4 [(0, .ref h), (1, .int (X 1))] → va_P (dC, dI) vwCl (mw_W h q g I A) H → va_D B9 (mw_W h q g I A) → va_S B9 s.heap H locs → W p l e (headSpec w_M_compile ({ frames := 4, cells := 0, slots := 0, locals := 94 })).room s m ([.ref h] : List Value).toArray below meth c H locs 0 0 (MQ below (va_Qv (fun (u : Unit) => u = u) (fun (_ : Unit) t => va_P (dC, dI) vwCl (mw_W h q g I' A') t.heap ∧ va_K (dC, dI) vwCl (mw_T g) t ∧ va_D B9 (mw_W h q g I' A')) B9) ([.ref h] : List Value).toArray s 0 0 B9) (F0 m 18 ls [.int s0]) := by
    intro rc hrc70 hrc122 I A X s0 ls H locs hf hl hP hD hS
    unfold f_M_compile_18 at hf
    refine lv_istore_n (lv' := [(2, .int s0), (0, .ref h), (1, .int (X 1))]) hx hb d_M_compile_18 rfl hl (by decide) rfl (fun ls hl => ?_)
    have hl : lv_has ls 4 [(2, .int s0), (0, .ref h), (1, .int (X 1))] := hl
    refine lv_aload_n hx hb d_M_compile_19 rfl (lv_at hl 1 rfl) ?_
    refine lv_iload_n hx hb d_M_compile_20 rfl (lv_at hl 0 rfl) ?_
    refine lv_if_eq (tgt := 28) hx hb d_M_compile_21 (by decide) (fun hc1 => ?_) (fun hc1 => ?_)
    ·
      have hf := wk_ift hc1 hf
      refine lv_iconst (v := 1) hx hb d_M_compile_28 (by decide) ?_
      exact blk29 rc hrc70 hrc122 I A (upd X 2 s0) 1 _ _ _ hf (lv_sub hl [1, 2, 0] rfl) hP hD hS
    ·
      have hf := wk_iff hc1 hf
      refine lv_iconst (v := 0) hx hb d_M_compile_24 (by decide) ?_
      refine lv_goto (tgt := 29) hx hb d_M_compile_25 (by decide) ?_
      exact blk29 rc hrc70 hrc122 I A (upd X 2 s0) 0 _ _ _ hf (lv_sub hl [1, 2, 0] rfl) hP hD hS
  have stp70 : ∀ (rc : Nat → MI → MA → (Nat → Int32) → Option (Int32 × MI × MA)) (hrc70 : ∀ (I : MI) (A : MA) (X : Nat → Int32) (ls : Array Slot) (H : Heap) (locs : List Loc), rc 70 I A X = some (r, I', A') → lv_has ls 4 [(0, .ref h), (1, .int (X 1)), (2, .int (X 2)), (3, .int (X 3))] → va_P (dC, dI) vwCl (mw_W h q g I A) H → va_D B9 (mw_W h q g I A) → va_S B9 s.heap H locs → W p l e (headSpec w_M_compile ({ frames := 4, cells := 0, slots := 0, locals := 94 })).room s m ([.ref h] : List Value).toArray below meth c H locs 0 0 (MQ below (va_Qv (fun (u : Unit) => u = u) (fun (_ : Unit) t => va_P (dC, dI) vwCl (mw_W h q g I' A') t.heap ∧ va_K (dC, dI) vwCl (mw_T g) t ∧ va_D B9 (mw_W h q g I' A')) B9) ([.ref h] : List Value).toArray s 0 0 B9) (F0 m 70 ls [])) (hrc122 : ∀ (I : MI) (A : MA) (X : Nat → Int32) (ls : Array Slot) (H : Heap) (locs : List Loc), rc 122 I A X = some (r, I', A') → lv_has ls 4 [(0, .ref h), (1, .int (X 1)), (2, .int (X 2)), (3, .int (X 3))] → va_P (dC, dI) vwCl (mw_W h q g I A) H → va_D B9 (mw_W h q g I A) → va_S B9 s.heap H locs → W p l e (headSpec w_M_compile ({ frames := 4, cells := 0, slots := 0, locals := 94 })).room s m ([.ref h] : List Value).toArray below meth c H locs 0 0 (MQ below (va_Qv (fun (u : Unit) => u = u) (fun (_ : Unit) t => va_P (dC, dI) vwCl (mw_W h q g I' A') t.heap ∧ va_K (dC, dI) vwCl (mw_T g) t ∧ va_D B9 (mw_W h q g I' A')) B9) ([.ref h] : List Value).toArray s 0 0 B9) (F0 m 122 ls [])), ∀ (I : MI) (A : MA) (X : Nat → Int32) (ls : Array Slot) (H : Heap) (locs : List Loc), f_M_compile_70 rc I A X = some (r, I', A') → lv_has ls 4 [(0, .ref h), (1, .int (X 1)), (2, .int (X 2)), (3, .int (X 3))] → va_P (dC, dI) vwCl (mw_W h q g I A) H → va_D B9 (mw_W h q g I A) → va_S B9 s.heap H locs → W p l e (headSpec w_M_compile ({ frames := 4, cells := 0, slots := 0, locals := 94 })).room s m ([.ref h] : List Value).toArray below meth c H locs 0 0 (MQ below (va_Qv (fun (u : Unit) => u = u) (fun (_ : Unit) t => va_P (dC, dI) vwCl (mw_W h q g I' A') t.heap ∧ va_K (dC, dI) vwCl (mw_T g) t ∧ va_D B9 (mw_W h q g I' A')) B9) ([.ref h] : List Value).toArray s 0 0 B9) (F0 m 70 ls []) := by
    intro rc hrc70 hrc122 I A X ls H locs hf hl hP hD hS
    unfold f_M_compile_70 at hf
    refine lv_iload_n hx hb d_M_compile_70 rfl (lv_at hl 3 rfl) ?_
    refine lv_aload_n hx hb d_M_compile_71 rfl (lv_at hl 0 rfl) ?_
    refine va_get (D := (dC, dI)) (ci := 4) (v := .int (I 1)) (C := R_M) (T := F_M) (N := 38) hx hb hts (fun w h => List.mem_cons_of_mem _ (in_M w h)) hown hK hP 0 rfl rfl 1 (by decide) (hts _ (List.mem_cons_of_mem _ lk_41)) (fun _ h9 => h9) rfl d_M_compile_72 ?_
    refine lv_icmp_ge (tgt := 96) hx hb d_M_compile_75 (by decide) (fun hc1 => ?_) (fun hc1 => ?_)
    ·
      have hf := wk_ift hc1 hf
      refine lv_aload_n hx hb d_M_compile_96 rfl (lv_at hl 0 rfl) ?_
      refine lv_iconst (v := 0) hx hb d_M_compile_97 (by decide) ?_
      refine va_put (D := (dC, dI)) (ci := 4) (v := .int 0) (ty := .int) (C := R_M) (T := F_M) (N := 38) hx hb hts (fun w h => List.mem_cons_of_mem _ (in_M w h)) t_M tk_M n_M hown hK hP hD hS 0 rfl rfl 1 (by decide) (hts _ (List.mem_cons_of_mem _ lk_41)) (fun _ h9 => h9) rfl (by decide +kernel) rfl rfl (Nat.le_of_ble_eq_true rfl) d_M_compile_98 (fun H locs hP hD hS => ?_)
      obtain ⟨I1, hI1, hf⟩ := wk_letE hf
      have hP : va_P (dC, dI) vwCl (mw_W h q g I1 A) H := by rw [hI1]; exact hP
      have hD : va_D B9 (mw_W h q g I1 A) := by rw [hI1]; exact hD
      clear hI1
      refine lv_aload_n hx hb d_M_compile_101 rfl (lv_at hl 0 rfl) ?_
      refine lv_iconst (v := 0) hx hb d_M_compile_102 (by decide) ?_
      refine va_put (D := (dC, dI)) (ci := 4) (v := .int 0) (ty := .int) (C := R_M) (T := F_M) (N := 38) hx hb hts (fun w h => List.mem_cons_of_mem _ (in_M w h)) t_M tk_M n_M hown hK hP hD hS 0 rfl rfl 17 (by decide) (hts _ (List.mem_cons_of_mem _ lk_83)) (fun _ h9 => h9) rfl (by decide +kernel) rfl rfl (Nat.le_of_ble_eq_true rfl) d_M_compile_103 (fun H locs hP hD hS => ?_)
      obtain ⟨I2, hI2, hf⟩ := wk_letE hf
      have hP : va_P (dC, dI) vwCl (mw_W h q g I2 A) H := by rw [hI2]; exact hP
      have hD : va_D B9 (mw_W h q g I2 A) := by rw [hI2]; exact hD
      clear hI2
      refine lv_aload_n hx hb d_M_compile_106 rfl (lv_at hl 0 rfl) ?_
      refine lv_iconst (v := 0) hx hb d_M_compile_107 (by decide) ?_
      refine va_put (D := (dC, dI)) (ci := 4) (v := .int 0) (ty := .int) (C := R_M) (T := F_M) (N := 38) hx hb hts (fun w h => List.mem_cons_of_mem _ (in_M w h)) t_M tk_M n_M hown hK hP hD hS 0 rfl rfl 25 (by decide) (hts _ (List.mem_cons_of_mem _ lk_70)) (fun _ h9 => h9) rfl (by decide +kernel) rfl rfl (Nat.le_of_ble_eq_true rfl) d_M_compile_108 (fun H locs hP hD hS => ?_)
      obtain ⟨I3, hI3, hf⟩ := wk_letE hf
      have hP : va_P (dC, dI) vwCl (mw_W h q g I3 A) H := by rw [hI3]; exact hP
      have hD : va_D B9 (mw_W h q g I3 A) := by rw [hI3]; exact hD
      clear hI3
      refine lv_aload_n hx hb d_M_compile_111 rfl (lv_at hl 0 rfl) ?_
      refine lv_iconst (v := 0) hx hb d_M_compile_112 (by decide) ?_
      refine va_put (D := (dC, dI)) (ci := 4) (v := .int 0) (ty := .int) (C := R_M) (T := F_M) (N := 38) hx hb hts (fun w h => List.mem_cons_of_mem _ (in_M w h)) t_M tk_M n_M hown hK hP hD hS 0 rfl rfl 28 (by decide) (hts _ (List.mem_cons_of_mem _ lk_78)) (fun _ h9 => h9) rfl (by decide +kernel) rfl rfl (Nat.le_of_ble_eq_true rfl) d_M_compile_113 (fun H locs hP hD hS => ?_)
      obtain ⟨I4, hI4, hf⟩ := wk_letE hf
      have hP : va_P (dC, dI) vwCl (mw_W h q g I4 A) H := by rw [hI4]; exact hP
      have hD : va_D B9 (mw_W h q g I4 A) := by rw [hI4]; exact hD
      clear hI4
      refine lv_aload_n hx hb d_M_compile_116 rfl (lv_at hl 0 rfl) ?_
      have hPc := hP.sub (ws' := (mw_W h q g I4 A)) [0, 1, 2, 3, 4, 5, 6, 7, 8, 9, 10, 11, 12, 13, 14, 15, 16, 17, 18, 19, 20] rfl
      have hDc := hD.sub (ws' := (mw_W h q g I4 A)) [0, 1, 2, 3, 4, 5, 6, 7, 8, 9, 10, 11, 12, 13, 14, 15, 16, 17, 18, 19, 20] (by decide) rfl
      have hKc := hK.sub (tys' := (mw_T g)) [0, 1, 2, 3, 4, 5, 6, 7, 8, 9, 10, 11, 12, 13, 14, 15, 16, 17, 18, 19] rfl
      have hFc := va_free (wc := (mw_W h q g I4 A)) hD hS hA [0, 1, 2, 3, 4, 5, 6, 7, 8, 9, 10, 11, 12, 13, 14, 15, 16, 17, 18, 19, 20] rfl
      cases hg5 : f_M_openGroup I4 A with
      | none => rw [hg5] at hf; cases hf
      | some z5 =>
        obtain ⟨r5, I5, A5⟩ := z5
        rw [hg5] at hf
        dsimp only [Option.bind_some] at hf
        refine va_callv (va_runV (As := []) (rest := []) ⟨hx, hb, hml, hown, hts⟩ (cm_M_openGroup l dC dI h q g _ I4 A r5 I5 A5 hg5) (cwV 0 hts (gd_v lk_117 lk_118 lk_119 lk_46 lk_116) rfl rfl rfl (by decide +kernel) ⟨Nat.le_of_ble_eq_true rfl, Nat.le_of_ble_eq_true rfl⟩) ⟨fun a U g mk q => by obtain ⟨q0, q1, qP, qK, qD⟩ := q; exact ⟨q0, q1, qP, va_K.moved (u := U) (U := U.calling g mk a) (Vm.Alike.refl U.vm) qK, qD⟩, va_recv (ci := 4) (q0 := 0) hK hP rfl rfl, fun U hU hW => ⟨rfl, by rw [hU], by rw [hU]; exact hPc, va_K.moved hW.alike hKc, hDc.weaken (fun _ _ _ _ => trivial)⟩⟩ rfl rfl hl.1 rfl (lv_room (Nat.le_of_ble_eq_true rfl)) d_M_compile_117 ⟨Nat.le_of_ble_eq_true rfl, Nat.le_of_ble_eq_true rfl⟩) hS (fun q _ h => hFc q h) hFc (fun u t H1 locs ht hvm hw hB hz1 hk1 hS => ?_)
        obtain ⟨hP1, hK1, hD1⟩ := hB
        rw [ht] at hP1
        obtain ⟨hP, hD⟩ := va_join (wr := []) (w1 := (mw_W h q g I5 A5)) hP hD [0, 1, 2, 3, 4, 5, 6, 7, 8, 9, 10, 11, 12, 13, 14, 15, 16, 17, 18, 19, 20] [] rfl rfl (by decide) (by decide) hk1 hFc hP1 hD1
        generalize H1 = H at hP hS ⊢
        have hP : va_P (dC, dI) vwCl (mw_W h q g I5 A5) H := hP
        have hD : va_D B9 (mw_W h q g I5 A5) := hD
        refine lv_iconst (v := 0) hx hb d_M_compile_120 (by decide) ?_
        refine lv_istore_n (lv' := [(3, .int 0), (0, .ref h), (1, .int (X 1)), (2, .int (X 2))]) hx hb d_M_compile_121 rfl hl (by decide) rfl (fun ls hl => ?_)
        have hl : lv_has ls 4 [(3, .int 0), (0, .ref h), (1, .int (X 1)), (2, .int (X 2))] := hl
        exact hrc122 I5 A5 (upd X 3 0) _ _ _ hf (lv_sub hl [1, 2, 3, 0] rfl) hP hD hS
    ·
      have hf := wk_iff hc1 hf
      refine lv_aload_n hx hb d_M_compile_78 rfl (lv_at hl 0 rfl) ?_
      refine va_get (D := (dC, dI)) (ci := 4) (v := .ref (q 16)) (C := R_M) (T := F_M) (N := 38) hx hb hts (fun w h => List.mem_cons_of_mem _ (in_M w h)) hown hK hP 0 rfl rfl 16 (by decide) (hts _ (List.mem_cons_of_mem _ lk_77)) (fun _ h9 => h9) rfl d_M_compile_79 ?_
      refine lv_iload_n hx hb d_M_compile_82 rfl (lv_at hl 3 rfl) ?_
      refine lv_aload_n hx hb d_M_compile_83 rfl (lv_at hl 0 rfl) ?_
      refine va_get (D := (dC, dI)) (ci := 4) (v := .ref (q 2)) (C := R_M) (T := F_M) (N := 38) hx hb hts (fun w h => List.mem_cons_of_mem _ (in_M w h)) hown hK hP 0 rfl rfl 2 (by decide) (hts _ (List.mem_cons_of_mem _ lk_42)) (fun _ h9 => h9) rfl d_M_compile_84 ?_
      refine lv_iload_n hx hb d_M_compile_87 rfl (lv_at hl 3 rfl) ?_
      obtain ⟨hc2, hf⟩ := wk_if hf
      refine va_cald hx hb hK hP 1 0 rfl rfl (wk_inb_ok hc2) d_M_compile_88 ?_
      obtain ⟨hc3, hf⟩ := wk_if hf
      refine va_cast hx hb hK hP hD hS 7 6 rfl rfl (wk_inb_ok hc3) d_M_compile_89 (fun H locs hP hD hS => ?_)
      obtain ⟨A1, hA1, hf⟩ := wk_letE hf
      have hP : va_P (dC, dI) vwCl (mw_W h q g I A1) H := by rw [hA1]; exact hP
      have hD : va_D B9 (mw_W h q g I A1) := by rw [hA1]; exact hD
      clear hA1
      refine lv_iinc (k := 3) (v := ((X 3) + 1)) (lv' := [(3, .int ((X 3) + 1)), (0, .ref h), (1, .int (X 1)), (2, .int (X 2))]) hx hb d_M_compile_90 hl rfl (wk_inc (by decide)) (by decide) rfl (fun ls hl => ?_)
      have hl : lv_has ls 4 [(3, .int ((X 3) + 1)), (0, .ref h), (1, .int (X 1)), (2, .int (X 2))] := hl
      refine lv_goto (tgt := 70) hx hb d_M_compile_93 (by decide) ?_
      exact hrc70 I A1 (upd X 3 ((X 3) + 1)) _ _ _ hf (lv_sub hl [1, 2, 3, 0] rfl) hP hD hS
  have stp122 : ∀ (rc : Nat → MI → MA → (Nat → Int32) → Option (Int32 × MI × MA)) (hrc70 : ∀ (I : MI) (A : MA) (X : Nat → Int32) (ls : Array Slot) (H : Heap) (locs : List Loc), rc 70 I A X = some (r, I', A') → lv_has ls 4 [(0, .ref h), (1, .int (X 1)), (2, .int (X 2)), (3, .int (X 3))] → va_P (dC, dI) vwCl (mw_W h q g I A) H → va_D B9 (mw_W h q g I A) → va_S B9 s.heap H locs → W p l e (headSpec w_M_compile ({ frames := 4, cells := 0, slots := 0, locals := 94 })).room s m ([.ref h] : List Value).toArray below meth c H locs 0 0 (MQ below (va_Qv (fun (u : Unit) => u = u) (fun (_ : Unit) t => va_P (dC, dI) vwCl (mw_W h q g I' A') t.heap ∧ va_K (dC, dI) vwCl (mw_T g) t ∧ va_D B9 (mw_W h q g I' A')) B9) ([.ref h] : List Value).toArray s 0 0 B9) (F0 m 70 ls [])) (hrc122 : ∀ (I : MI) (A : MA) (X : Nat → Int32) (ls : Array Slot) (H : Heap) (locs : List Loc), rc 122 I A X = some (r, I', A') → lv_has ls 4 [(0, .ref h), (1, .int (X 1)), (2, .int (X 2)), (3, .int (X 3))] → va_P (dC, dI) vwCl (mw_W h q g I A) H → va_D B9 (mw_W h q g I A) → va_S B9 s.heap H locs → W p l e (headSpec w_M_compile ({ frames := 4, cells := 0, slots := 0, locals := 94 })).room s m ([.ref h] : List Value).toArray below meth c H locs 0 0 (MQ below (va_Qv (fun (u : Unit) => u = u) (fun (_ : Unit) t => va_P (dC, dI) vwCl (mw_W h q g I' A') t.heap ∧ va_K (dC, dI) vwCl (mw_T g) t ∧ va_D B9 (mw_W h q g I' A')) B9) ([.ref h] : List Value).toArray s 0 0 B9) (F0 m 122 ls [])), ∀ (I : MI) (A : MA) (X : Nat → Int32) (ls : Array Slot) (H : Heap) (locs : List Loc), f_M_compile_122 rc I A X = some (r, I', A') → lv_has ls 4 [(0, .ref h), (1, .int (X 1)), (2, .int (X 2)), (3, .int (X 3))] → va_P (dC, dI) vwCl (mw_W h q g I A) H → va_D B9 (mw_W h q g I A) → va_S B9 s.heap H locs → W p l e (headSpec w_M_compile ({ frames := 4, cells := 0, slots := 0, locals := 94 })).room s m ([.ref h] : List Value).toArray below meth c H locs 0 0 (MQ below (va_Qv (fun (u : Unit) => u = u) (fun (_ : Unit) t => va_P (dC, dI) vwCl (mw_W h q g I' A') t.heap ∧ va_K (dC, dI) vwCl (mw_T g) t ∧ va_D B9 (mw_W h q g I' A')) B9) ([.ref h] : List Value).toArray s 0 0 B9) (F0 m 122 ls []) := by
    intro rc hrc70 hrc122 I A X ls H locs hf hl hP hD hS
    unfold f_M_compile_122 at hf
    refine lv_iload_n hx hb d_M_compile_122 rfl (lv_at hl 3 rfl) ?_
    refine lv_aload_n hx hb d_M_compile_123 rfl (lv_at hl 0 rfl) ?_
    refine va_get (D := (dC, dI)) (ci := 4) (v := .int (I 15)) (C := R_M) (T := F_M) (N := 38) hx hb hts (fun w h => List.mem_cons_of_mem _ (in_M w h)) hown hK hP 0 rfl rfl 15 (by decide) (hts _ (List.mem_cons_of_mem _ lk_139)) (fun _ h9 => h9) rfl d_M_compile_124 ?_
    refine lv_icmp_ge (tgt := 139) hx hb d_M_compile_127 (by decide) (fun hc1 => ?_) (fun hc1 => ?_)
    ·
      have hf := wk_ift hc1 hf
      refine lv_aload_n hx hb d_M_compile_139 rfl (lv_at hl 0 rfl) ?_
      have hPc := hP.sub (ws' := (mw_W h q g I A)) [0, 1, 2, 3, 4, 5, 6, 7, 8, 9, 10, 11, 12, 13, 14, 15, 16, 17, 18, 19, 20] rfl
      have hDc := hD.sub (ws' := (mw_W h q g I A)) [0, 1, 2, 3, 4, 5, 6, 7, 8, 9, 10, 11, 12, 13, 14, 15, 16, 17, 18, 19, 20] (by decide) rfl
      have hKc := hK.sub (tys' := (mw_T g)) [0, 1, 2, 3, 4, 5, 6, 7, 8, 9, 10, 11, 12, 13, 14, 15, 16, 17, 18, 19] rfl
      have hFc := va_free (wc := (mw_W h q g I A)) hD hS hA [0, 1, 2, 3, 4, 5, 6, 7, 8, 9, 10, 11, 12, 13, 14, 15, 16, 17, 18, 19, 20] rfl
      cases hg1 : f_M_endRow I A with
      | none => rw [hg1] at hf; cases hf
      | some z1 =>
        obtain ⟨r1, I1, A1⟩ := z1
        rw [hg1] at hf
        dsimp only [Option.bind_some] at hf
        refine va_callv (va_runV (As := []) (rest := []) ⟨hx, hb, hml, hown, hts⟩ (cm_M_endRow l dC dI h q g _ I A r1 I1 A1 hg1) (cwV 0 hts (gd_v lk_109 lk_110 lk_111 lk_46 lk_108) rfl rfl rfl (by decide +kernel) ⟨Nat.le_of_ble_eq_true rfl, Nat.le_of_ble_eq_true rfl⟩) ⟨fun a U g mk q => by obtain ⟨q0, q1, qP, qK, qD⟩ := q; exact ⟨q0, q1, qP, va_K.moved (u := U) (U := U.calling g mk a) (Vm.Alike.refl U.vm) qK, qD⟩, va_recv (ci := 4) (q0 := 0) hK hP rfl rfl, fun U hU hW => ⟨rfl, by rw [hU], by rw [hU]; exact hPc, va_K.moved hW.alike hKc, hDc.weaken (fun _ _ _ _ => trivial)⟩⟩ rfl rfl hl.1 rfl (lv_room (Nat.le_of_ble_eq_true rfl)) d_M_compile_140 ⟨Nat.le_of_ble_eq_true rfl, Nat.le_of_ble_eq_true rfl⟩) hS (fun q _ h => hFc q h) hFc (fun u t H1 locs ht hvm hw hB hz1 hk1 hS => ?_)
        obtain ⟨hP1, hK1, hD1⟩ := hB
        rw [ht] at hP1
        obtain ⟨hP, hD⟩ := va_join (wr := []) (w1 := (mw_W h q g I1 A1)) hP hD [0, 1, 2, 3, 4, 5, 6, 7, 8, 9, 10, 11, 12, 13, 14, 15, 16, 17, 18, 19, 20] [] rfl rfl (by decide) (by decide) hk1 hFc hP1 hD1
        generalize H1 = H at hP hS ⊢
        have hP : va_P (dC, dI) vwCl (mw_W h q g I1 A1) H := hP
        have hD : va_D B9 (mw_W h q g I1 A1) := hD
        refine lv_aload_n hx hb d_M_compile_143 rfl (lv_at hl 0 rfl) ?_
        refine lv_aload_n hx hb d_M_compile_144 rfl (lv_at hl 0 rfl) ?_
        refine va_get (D := (dC, dI)) (ci := 4) (v := .ref (q 26)) (C := R_M) (T := F_M) (N := 38) hx hb hts (fun w h => List.mem_cons_of_mem _ (in_M w h)) hown hK hP 0 rfl rfl 26 (by decide) (hts _ (List.mem_cons_of_mem _ lk_63)) (fun _ h9 => h9) rfl d_M_compile_145 ?_
        refine lv_aload_n hx hb d_M_compile_148 rfl (lv_at hl 0 rfl) ?_
        refine va_get (D := (dC, dI)) (ci := 4) (v := .ref (q 29)) (C := R_M) (T := F_M) (N := 38) hx hb hts (fun w h => List.mem_cons_of_mem _ (in_M w h)) hown hK hP 0 rfl rfl 29 (by decide) (hts _ (List.mem_cons_of_mem _ lk_103)) (fun _ h9 => h9) rfl d_M_compile_149 ?_
        refine lv_iconst (v := 0) hx hb d_M_compile_152 (by decide) ?_
        obtain ⟨hc2, hf⟩ := wk_if hf
        refine va_iald hx hb hK hP 15 14 rfl rfl (wk_inb_ok hc2) d_M_compile_153 ?_
        obtain ⟨hc3, hf⟩ := wk_if hf
        refine va_iald hx hb hK hP 13 12 rfl rfl (wk_inb_ok hc3) d_M_compile_154 ?_
        refine va_put (D := (dC, dI)) (ci := 4) (v := .int ((A1 26) (((A1 29) (0 : Int32).toNatClampNeg)).toNatClampNeg)) (ty := .int) (C := R_M) (T := F_M) (N := 38) hx hb hts (fun w h => List.mem_cons_of_mem _ (in_M w h)) t_M tk_M n_M hown hK hP hD hS 0 rfl rfl 23 (by decide) (hts _ (List.mem_cons_of_mem _ lk_140)) (fun _ h9 => h9) rfl (by decide +kernel) rfl rfl (Nat.le_of_ble_eq_true rfl) d_M_compile_155 (fun H locs hP hD hS => ?_)
        obtain ⟨I2, hI2, hf⟩ := wk_letE hf
        have hP : va_P (dC, dI) vwCl (mw_W h q g I2 A1) H := by rw [hI2]; exact hP
        have hD : va_D B9 (mw_W h q g I2 A1) := by rw [hI2]; exact hD
        clear hI2
        refine lv_aload_n hx hb d_M_compile_158 rfl (lv_at hl 0 rfl) ?_
        refine lv_aload_n hx hb d_M_compile_159 rfl (lv_at hl 0 rfl) ?_
        refine va_get (D := (dC, dI)) (ci := 4) (v := .ref (q 27)) (C := R_M) (T := F_M) (N := 38) hx hb hts (fun w h => List.mem_cons_of_mem _ (in_M w h)) hown hK hP 0 rfl rfl 27 (by decide) (hts _ (List.mem_cons_of_mem _ lk_62)) (fun _ h9 => h9) rfl d_M_compile_160 ?_
        refine lv_aload_n hx hb d_M_compile_163 rfl (lv_at hl 0 rfl) ?_
        refine va_get (D := (dC, dI)) (ci := 4) (v := .ref (q 29)) (C := R_M) (T := F_M) (N := 38) hx hb hts (fun w h => List.mem_cons_of_mem _ (in_M w h)) hown hK hP 0 rfl rfl 29 (by decide) (hts _ (List.mem_cons_of_mem _ lk_103)) (fun _ h9 => h9) rfl d_M_compile_164 ?_
        refine lv_iconst (v := 0) hx hb d_M_compile_167 (by decide) ?_
        obtain ⟨hc4, hf⟩ := wk_if hf
        refine va_iald hx hb hK hP 15 14 rfl rfl (wk_inb_ok hc4) d_M_compile_168 ?_
        obtain ⟨hc5, hf⟩ := wk_if hf
        refine va_iald hx hb hK hP 14 13 rfl rfl (wk_inb_ok hc5) d_M_compile_169 ?_
        refine va_put (D := (dC, dI)) (ci := 4) (v := .int ((A1 27) (((A1 29) (0 : Int32).toNatClampNeg)).toNatClampNeg)) (ty := .int) (C := R_M) (T := F_M) (N := 38) hx hb hts (fun w h => List.mem_cons_of_mem _ (in_M w h)) t_M tk_M n_M hown hK hP hD hS 0 rfl rfl 24 (by decide) (hts _ (List.mem_cons_of_mem _ lk_141)) (fun _ h9 => h9) rfl (by decide +kernel) rfl rfl (Nat.le_of_ble_eq_true rfl) d_M_compile_170 (fun H locs hP hD hS => ?_)
        obtain ⟨I3, hI3, hf⟩ := wk_letE hf
        have hP : va_P (dC, dI) vwCl (mw_W h q g I3 A1) H := by rw [hI3]; exact hP
        have hD : va_D B9 (mw_W h q g I3 A1) := by rw [hI3]; exact hD
        clear hI3
        refine lv_aload_n hx hb d_M_compile_173 rfl (lv_at hl 0 rfl) ?_
        refine lv_iconst (v := 1) hx hb d_M_compile_174 (by decide) ?_
        refine va_put (D := (dC, dI)) (ci := 4) (v := .int 1) (ty := .boolean) (C := R_M) (T := F_M) (N := 38) hx hb hts (fun w h => List.mem_cons_of_mem _ (in_M w h)) t_M tk_M n_M hown hK hP hD hS 0 rfl rfl 13 (by decide) (hts _ (List.mem_cons_of_mem _ lk_142)) (fun _ h9 => h9) rfl (by decide +kernel) rfl rfl (Nat.le_of_ble_eq_true rfl) d_M_compile_175 (fun H locs hP hD hS => ?_)
        obtain ⟨I4, hI4, hf⟩ := wk_letE hf
        have hP : va_P (dC, dI) vwCl (mw_W h q g I4 A1) H := by rw [hI4]; exact hP
        have hD : va_D B9 (mw_W h q g I4 A1) := by rw [hI4]; exact hD
        clear hI4
        obtain ⟨e1, e2, e3⟩ := wk_inj hf
        subst e1
        subst e2
        subst e3
        exact W.vret hx hb hr (fun t ht hW => ⟨⟨(), rfl, rfl, by rw [ht]; exact hP, va_K.moved hW.alike hK, hD⟩, hS.F ht⟩) hS.2.2 d_M_compile_178
    ·
      have hf := wk_iff hc1 hf
      refine lv_aload_n hx hb d_M_compile_130 rfl (lv_at hl 0 rfl) ?_
      refine lv_iload_n hx hb d_M_compile_131 rfl (lv_at hl 3 rfl) ?_
      have hPc := hP.sub (ws' := (mw_W h q g I A)) [0, 1, 2, 3, 4, 5, 6, 7, 8, 9, 10, 11, 12, 13, 14, 15, 16, 17, 18, 19, 20] rfl
      have hDc := hD.sub (ws' := (mw_W h q g I A)) [0, 1, 2, 3, 4, 5, 6, 7, 8, 9, 10, 11, 12, 13, 14, 15, 16, 17, 18, 19, 20] (by decide) rfl
      have hKc := hK.sub (tys' := (mw_T g)) [0, 1, 2, 3, 4, 5, 6, 7, 8, 9, 10, 11, 12, 13, 14, 15, 16, 17, 18, 19] rfl
      have hFc := va_free (wc := (mw_W h q g I A)) hD hS hA [0, 1, 2, 3, 4, 5, 6, 7, 8, 9, 10, 11, 12, 13, 14, 15, 16, 17, 18, 19, 20] rfl
      cases hg1 : f_M_build I A (X 3) with
      | none => rw [hg1] at hf; cases hf
      | some z1 =>
        obtain ⟨r1, I1, A1⟩ := z1
        rw [hg1] at hf
        dsimp only [Option.bind_some] at hf
        refine va_calli (va_runV (As := [.int (X 3)]) (rest := []) ⟨hx, hb, hml, hown, hts⟩ (cm_M_build l dC dI h q g _ I A (X 3) r1 I1 A1 hg1) (cwV 1 hts (gd_v lk_143 lk_144 lk_145 lk_46 lk_124) rfl rfl rfl (by decide +kernel) ⟨Nat.le_of_ble_eq_true rfl, Nat.le_of_ble_eq_true rfl⟩) ⟨fun a U g mk q => by obtain ⟨q0, q1, qP, qK, qD⟩ := q; exact ⟨q0, q1, qP, va_K.moved (u := U) (U := U.calling g mk a) (Vm.Alike.refl U.vm) qK, qD⟩, va_recv (ci := 4) (q0 := 0) hK hP rfl rfl, fun U hU hW => ⟨rfl, by rw [hU], by rw [hU]; exact hPc, va_K.moved hW.alike hKc, hDc.weaken (fun _ _ _ _ => trivial)⟩⟩ rfl rfl hl.1 rfl (lv_room (Nat.le_of_ble_eq_true rfl)) d_M_compile_132 ⟨Nat.le_of_ble_eq_true rfl, Nat.le_of_ble_eq_true rfl⟩) hS (fun q _ h => hFc q h) hFc (fun r9 u t H1 locs ht hvm hw hB hz1 hk1 hS => ?_)
        obtain ⟨hP1, hK1, hD1⟩ := hB
        rw [ht] at hP1
        rw [hw]
        obtain ⟨hP, hD⟩ := va_join (wr := []) (w1 := (mw_W h q g I1 A1)) hP hD [0, 1, 2, 3, 4, 5, 6, 7, 8, 9, 10, 11, 12, 13, 14, 15, 16, 17, 18, 19, 20] [] rfl rfl (by decide) (by decide) hk1 hFc hP1 hD1
        generalize H1 = H at hP hS ⊢
        have hP : va_P (dC, dI) vwCl (mw_W h q g I1 A1) H := hP
        have hD : va_D B9 (mw_W h q g I1 A1) := hD
        refine lv_istore_n (lv' := [(3, .int r1), (0, .ref h), (1, .int (X 1)), (2, .int (X 2))]) hx hb d_M_compile_135 rfl hl (by decide) rfl (fun ls hl => ?_)
        have hl : lv_has ls 4 [(3, .int r1), (0, .ref h), (1, .int (X 1)), (2, .int (X 2))] := hl
        refine lv_goto (tgt := 122) hx hb d_M_compile_136 (by decide) ?_
        exact hrc122 I1 A1 (upd X 3 r1) _ _ _ hf (lv_sub hl [1, 2, 3, 0] rfl) hP hD hS
  have key : ∀ n : Nat, (∀ (I : MI) (A : MA) (X : Nat → Int32) (ls : Array Slot) (H : Heap) (locs : List Loc), f_M_compile_go n 70 I A X = some (r, I', A') → lv_has ls 4 [(0, .ref h), (1, .int (X 1)), (2, .int (X 2)), (3, .int (X 3))] → va_P (dC, dI) vwCl (mw_W h q g I A) H → va_D B9 (mw_W h q g I A) → va_S B9 s.heap H locs → W p l e (headSpec w_M_compile ({ frames := 4, cells := 0, slots := 0, locals := 94 })).room s m ([.ref h] : List Value).toArray below meth c H locs 0 0 (MQ below (va_Qv (fun (u : Unit) => u = u) (fun (_ : Unit) t => va_P (dC, dI) vwCl (mw_W h q g I' A') t.heap ∧ va_K (dC, dI) vwCl (mw_T g) t ∧ va_D B9 (mw_W h q g I' A')) B9) ([.ref h] : List Value).toArray s 0 0 B9) (F0 m 70 ls [])) ∧ (∀ (I : MI) (A : MA) (X : Nat → Int32) (ls : Array Slot) (H : Heap) (locs : List Loc), f_M_compile_go n 122 I A X = some (r, I', A') → lv_has ls 4 [(0, .ref h), (1, .int (X 1)), (2, .int (X 2)), (3, .int (X 3))] → va_P (dC, dI) vwCl (mw_W h q g I A) H → va_D B9 (mw_W h q g I A) → va_S B9 s.heap H locs → W p l e (headSpec w_M_compile ({ frames := 4, cells := 0, slots := 0, locals := 94 })).room s m ([.ref h] : List Value).toArray below meth c H locs 0 0 (MQ below (va_Qv (fun (u : Unit) => u = u) (fun (_ : Unit) t => va_P (dC, dI) vwCl (mw_W h q g I' A') t.heap ∧ va_K (dC, dI) vwCl (mw_T g) t ∧ va_D B9 (mw_W h q g I' A')) B9) ([.ref h] : List Value).toArray s 0 0 B9) (F0 m 122 ls [])) := by
    intro n
    induction n with
    | zero => exact ⟨fun I A X ls H locs hf => (by cases hf), fun I A X ls H locs hf => (by cases hf)⟩
    | succ n ih =>
      obtain ⟨ih70, ih122⟩ := ih
      exact ⟨stp70 (f_M_compile_go n) ih70 ih122, stp122 (f_M_compile_go n) ih70 ih122⟩
  unfold f_M_compile f_M_compile_e at hf
  have hrc70 := (key wk_FUEL).1
  have hrc122 := (key wk_FUEL).2
  refine lv_aload_n hx hb d_M_compile_0 rfl (lv_at hl 0 rfl) ?_
  have hPc := hP.sub (ws' := (mw_W h q g I A)) [0, 1, 2, 3, 4, 5, 6, 7, 8, 9, 10, 11, 12, 13, 14, 15, 16, 17, 18, 19, 20] rfl
  have hDc := hD.sub (ws' := (mw_W h q g I A)) [0, 1, 2, 3, 4, 5, 6, 7, 8, 9, 10, 11, 12, 13, 14, 15, 16, 17, 18, 19, 20] (by decide) rfl
  have hKc := hK.sub (tys' := (mw_T g)) [0, 1, 2, 3, 4, 5, 6, 7, 8, 9, 10, 11, 12, 13, 14, 15, 16, 17, 18, 19] rfl
  have hFc := va_free (wc := (mw_W h q g I A)) hD hS hA [0, 1, 2, 3, 4, 5, 6, 7, 8, 9, 10, 11, 12, 13, 14, 15, 16, 17, 18, 19, 20] rfl
  cases hg1 : f_M_good I A with
  | none => rw [hg1] at hf; cases hf
  | some z1 =>
    obtain ⟨r1, I1, A1⟩ := z1
    rw [hg1] at hf
    dsimp only [Option.bind_some] at hf
    refine va_calli (va_runV (As := []) (rest := []) ⟨hx, hb, hml, hown, hts⟩ (cm_M_good l dC dI h q g _ I A r1 I1 A1 hg1) (cwV 0 hts (gd_v lk_135 lk_136 lk_137 lk_46 lk_134) rfl rfl rfl (by decide +kernel) ⟨Nat.le_of_ble_eq_true rfl, Nat.le_of_ble_eq_true rfl⟩) ⟨fun a U g mk q => by obtain ⟨q0, q1, qP, qK, qD⟩ := q; exact ⟨q0, q1, qP, va_K.moved (u := U) (U := U.calling g mk a) (Vm.Alike.refl U.vm) qK, qD⟩, va_recv (ci := 4) (q0 := 0) hK hP rfl rfl, fun U hU hW => ⟨rfl, by rw [hU], by rw [hU]; exact hPc, va_K.moved hW.alike hKc, hDc.weaken (fun _ _ _ _ => trivial)⟩⟩ rfl rfl hl.1 rfl (lv_room (Nat.le_of_ble_eq_true rfl)) d_M_compile_1 ⟨Nat.le_of_ble_eq_true rfl, Nat.le_of_ble_eq_true rfl⟩) hS (fun q _ h => hFc q h) hFc (fun r9 u t H1 locs ht hvm hw hB hz1 hk1 hS => ?_)
    obtain ⟨hP1, hK1, hD1⟩ := hB
    rw [ht] at hP1
    rw [hw]
    obtain ⟨hP, hD⟩ := va_join (wr := []) (w1 := (mw_W h q g I1 A1)) hP hD [0, 1, 2, 3, 4, 5, 6, 7, 8, 9, 10, 11, 12, 13, 14, 15, 16, 17, 18, 19, 20] [] rfl rfl (by decide) (by decide) hk1 hFc hP1 hD1
    generalize H1 = H at hP hS ⊢
    have hP : va_P (dC, dI) vwCl (mw_W h q g I1 A1) H := hP
    have hD : va_D B9 (mw_W h q g I1 A1) := hD
    refine lv_istore_n (lv' := [(1, .int r1), (0, .ref h)]) hx hb d_M_compile_4 rfl hl (by decide) rfl (fun ls hl => ?_)
    have hl : lv_has ls 4 [(1, .int r1), (0, .ref h)] := hl
    refine lv_iload_n hx hb d_M_compile_5 rfl (lv_at hl 0 rfl) ?_
    refine lv_aload_n hx hb d_M_compile_6 rfl (lv_at hl 1 rfl) ?_
    refine va_get (D := (dC, dI)) (ci := 4) (v := .int (I1 1)) (C := R_M) (T := F_M) (N := 38) hx hb hts (fun w h => List.mem_cons_of_mem _ (in_M w h)) hown hK hP 0 rfl rfl 1 (by decide) (hts _ (List.mem_cons_of_mem _ lk_41)) (fun _ h9 => h9) rfl d_M_compile_7 ?_
    refine lv_icmp_ne (tgt := 17) hx hb d_M_compile_10 (by decide) (fun hc1 => ?_) (fun hc1 => ?_)
    ·
      have hf := wk_iff hc1 hf
      refine lv_iconst (v := 0) hx hb d_M_compile_17 (by decide) ?_
      exact blk18 _ hrc70 hrc122 I1 A1 (upd (fun _ => 0) 1 r1) 0 _ _ _ hf (lv_sub hl [1, 0] rfl) hP hD hS
    ·
      have hf := wk_ift hc1 hf
      refine lv_iconst (v := 1) hx hb d_M_compile_13 (by decide) ?_
      refine lv_goto (tgt := 18) hx hb d_M_compile_14 (by decide) ?_
      exact blk18 _ hrc70 hrc122 I1 A1 (upd (fun _ => 0) 1 r1) 1 _ _ _ hf (lv_sub hl [1, 0] rfl) hP hD hS

set_option maxHeartbeats 8000000 in
set_option maxRecDepth 100000 in
theorem cm_M_edit (l : Launch) (dC : Nat → ClassId) (dI : Nat → Nat → Nat) (h : Nat) (q : Nat → Nat) (g : Nat → ClassId) (sz : Nat) (I : MI) (A : MA) (k1 : Int32) (r : Int32) (I' : MI) (A' : MA) (hf : f_M_edit I A k1 = some (r, I', A')) : Met l y_M_edit w_M_edit ({ frames := 1, cells := 0, slots := 0, locals := 21 }) (va_Pc [.ref h, .int k1] (fun U => U.heap.size = sz ∧ va_P (dC, dI) vwCl (mw_W h q g I A) U.heap ∧ va_K (dC, dI) vwCl (mw_T g) U ∧ va_D (fun _ => True) (mw_W h q g I A))) (va_Qv (fun (u : Unit) => u = u) (fun (_ : Unit) t => va_P (dC, dI) vwCl (mw_W h q g I' A') t.heap ∧ va_K (dC, dI) vwCl (mw_T g) t ∧ va_D (va_A (mw_W h q g I A) sz) (mw_W h q g I' A')) (va_A (mw_W h q g I A) sz)) 0 0 (va_A (mw_W h q g I A) sz) := by
  refine Met.ofW (cc := prog_6_method_12_code) (maxL := 4) (ret := none) (by decide) rfl ?_
  intro p e s m args below meth c s₁ B hml hv
  obtain ⟨rfl, hsz, hP, hK, hD0⟩ := hv
  have hx := B.exec
  have hb := B.bytes
  have hr := B.returns
  have hts := atoms_spec (ws := w_M_edit) B.pre
  have hown : s.vm.findClass R_M = some m.cls := findClass_of_methodNamed B.named
  have hlocks := B.notSynchronized
  subst hsz
  have hD := hD0.self (sz := s.heap.size)
  generalize hAe : va_A (mw_W h q g I A) s.heap.size = B9 at hD ⊢
  have hA : ∀ q : Nat, s.heap.size ≤ q → B9 q := fun q h => by rw [← hAe]; exact Or.inr h
  clear hAe
  have hS : va_S B9 s.heap s.heap [] := va_S.rf
  have hl := lv_entry ([.ref h, .int k1]) (n := 4) (Nat.le_of_ble_eq_true rfl)
  rw [lg_entry_eq]
  generalize (lg_sl ([.ref h, .int k1]) ++ List.replicate (4 - (lg_sl ([.ref h, .int k1])).length) Slot.unset).toArray = ls at hl ⊢
  have hl : lv_has ls 4 [(0, .ref h), (1, .int k1)] := hl
  have stp17 : ∀ (rc : Nat → MI → MA → (Nat → Int32) → Option (Int32 × MI × MA)) (hrc17 : ∀ (I : MI) (A : MA) (X : Nat → Int32) (ls : Array Slot) (H : Heap) (locs : List Loc), rc 17 I A X = some (r, I', A') → lv_has ls 4 [(0, .ref h), (1, .int (X 1)), (2, .int (X 2)), (3, .int (X 3))] → va_P (dC, dI) vwCl (mw_W h q g I A) H → va_D B9 (mw_W h q g I A) → va_S B9 s.heap H locs → W p l e (headSpec w_M_edit ({ frames := 1, cells := 0, slots := 0, locals := 21 })).room s m ([.ref h, .int k1] : List Value).toArray below meth c H locs 0 0 (MQ below (va_Qv (fun (u : Unit) => u = u) (fun (_ : Unit) t => va_P (dC, dI) vwCl (mw_W h q g I' A') t.heap ∧ va_K (dC, dI) vwCl (mw_T g) t ∧ va_D B9 (mw_W h q g I' A')) B9) ([.ref h, .int k1] : List Value).toArray s 0 0 B9) (F0 m 17 ls [])), ∀ (I : MI) (A : MA) (X : Nat → Int32) (ls : Array Slot) (H : Heap) (locs : List Loc), f_M_edit_17 rc I A X = some (r, I', A') → lv_has ls 4 [(0, .ref h), (1, .int (X 1)), (2, .int (X 2)), (3, .int (X 3))] → va_P (dC, dI) vwCl (mw_W h q g I A) H → va_D B9 (mw_W h q g I A) → va_S B9 s.heap H locs → W p l e (headSpec w_M_edit ({ frames := 1, cells := 0, slots := 0, locals := 21 })).room s m ([.ref h, .int k1] : List Value).toArray below meth c H locs 0 0 (MQ below (va_Qv (fun (u : Unit) => u = u) (fun (_ : Unit) t => va_P (dC, dI) vwCl (mw_W h q g I' A') t.heap ∧ va_K (dC, dI) vwCl (mw_T g) t ∧ va_D B9 (mw_W h q g I' A')) B9) ([.ref h, .int k1] : List Value).toArray s 0 0 B9) (F0 m 17 ls []) := by
    intro rc hrc17 I A X ls H locs hf hl hP hD hS
    unfold f_M_edit_17 at hf
    refine lv_iload_n hx hb d_M_edit_17 rfl (lv_at hl 3 rfl) ?_
    refine lv_aload_n hx hb d_M_edit_18 rfl (lv_at hl 0 rfl) ?_
    refine va_get (D := (dC, dI)) (ci := 4) (v := .int (I 36)) (C := R_M) (T := F_M) (N := 38) hx hb hts (fun w h => List.mem_cons_of_mem _ (in_M w h)) hown hK hP 0 rfl rfl 36 (by decide) (hts _ (List.mem_cons_of_mem _ lk_39)) (fun _ h9 => h9) rfl d_M_edit_19 ?_
    refine lv_icmp_ge (tgt := 49) hx hb d_M_edit_22 (by decide) (fun hc1 => ?_) (fun hc1 => ?_)
    ·
      have hf := wk_ift hc1 hf
      refine lv_aload_n hx hb d_M_edit_49 rfl (lv_at hl 0 rfl) ?_
      refine va_get (D := (dC, dI)) (ci := 4) (v := .ref (q 6)) (C := R_M) (T := F_M) (N := 38) hx hb hts (fun w h => List.mem_cons_of_mem _ (in_M w h)) hown hK hP 0 rfl rfl 6 (by decide) (hts _ (List.mem_cons_of_mem _ lk_55)) (fun _ h9 => h9) rfl d_M_edit_50 ?_
      refine lv_iload_n hx hb d_M_edit_53 rfl (lv_at hl 2 rfl) ?_
      refine lv_aload_n hx hb d_M_edit_54 rfl (lv_at hl 0 rfl) ?_
      refine va_get (D := (dC, dI)) (ci := 4) (v := .int (I 36)) (C := R_M) (T := F_M) (N := 38) hx hb hts (fun w h => List.mem_cons_of_mem _ (in_M w h)) hown hK hP 0 rfl rfl 36 (by decide) (hts _ (List.mem_cons_of_mem _ lk_39)) (fun _ h9 => h9) rfl d_M_edit_55 ?_
      obtain ⟨hc2, hf⟩ := wk_if hf
      refine va_iast hx hb hK hP hD hS 3 2 rfl rfl (wk_inb_ok hc2) d_M_edit_58 (fun H locs hP hD hS => ?_)
      obtain ⟨A1, hA1, hf⟩ := wk_letE hf
      have hP : va_P (dC, dI) vwCl (mw_W h q g I A1) H := by rw [hA1]; exact hP
      have hD : va_D B9 (mw_W h q g I A1) := by rw [hA1]; exact hD
      clear hA1
      refine lv_aload_n hx hb d_M_edit_59 rfl (lv_at hl 0 rfl) ?_
      refine va_get (D := (dC, dI)) (ci := 4) (v := .ref (q 7)) (C := R_M) (T := F_M) (N := 38) hx hb hts (fun w h => List.mem_cons_of_mem _ (in_M w h)) hown hK hP 0 rfl rfl 7 (by decide) (hts _ (List.mem_cons_of_mem _ lk_125)) (fun _ h9 => h9) rfl d_M_edit_60 ?_
      refine lv_iload_n hx hb d_M_edit_63 rfl (lv_at hl 2 rfl) ?_
      refine lv_iload_n hx hb d_M_edit_64 rfl (lv_at hl 1 rfl) ?_
      obtain ⟨hc3, hf⟩ := wk_if hf
      refine va_iast hx hb hK hP hD hS 4 3 rfl rfl (wk_inb_ok hc3) d_M_edit_65 (fun H locs hP hD hS => ?_)
      obtain ⟨A2, hA2, hf⟩ := wk_letE hf
      have hP : va_P (dC, dI) vwCl (mw_W h q g I A2) H := by rw [hA2]; exact hP
      have hD : va_D B9 (mw_W h q g I A2) := by rw [hA2]; exact hD
      clear hA2
      refine lv_aload_n hx hb d_M_edit_66 rfl (lv_at hl 0 rfl) ?_
      refine va_get (D := (dC, dI)) (ci := 4) (v := .ref (q 8)) (C := R_M) (T := F_M) (N := 38) hx hb hts (fun w h => List.mem_cons_of_mem _ (in_M w h)) hown hK hP 0 rfl rfl 8 (by decide) (hts _ (List.mem_cons_of_mem _ lk_148)) (fun _ h9 => h9) rfl d_M_edit_67 ?_
      refine lv_iload_n hx hb d_M_edit_70 rfl (lv_at hl 2 rfl) ?_
      refine lv_aload_n hx hb d_M_edit_71 rfl (lv_at hl 0 rfl) ?_
      refine va_get (D := (dC, dI)) (ci := 4) (v := .int (I 4)) (C := R_M) (T := F_M) (N := 38) hx hb hts (fun w h => List.mem_cons_of_mem _ (in_M w h)) hown hK hP 0 rfl rfl 4 (by decide) (hts _ (List.mem_cons_of_mem _ lk_49)) (fun _ h9 => h9) rfl d_M_edit_72 ?_
      obtain ⟨hc4, hf⟩ := wk_if hf
      refine va_iast hx hb hK hP hD hS 5 4 rfl rfl (wk_inb_ok hc4) d_M_edit_75 (fun H locs hP hD hS => ?_)
      obtain ⟨A3, hA3, hf⟩ := wk_letE hf
      have hP : va_P (dC, dI) vwCl (mw_W h q g I A3) H := by rw [hA3]; exact hP
      have hD : va_D B9 (mw_W h q g I A3) := by rw [hA3]; exact hD
      clear hA3
      refine lv_aload_n hx hb d_M_edit_76 rfl (lv_at hl 0 rfl) ?_
      refine lv_iload_n hx hb d_M_edit_77 rfl (lv_at hl 2 rfl) ?_
      have hPc := hP.sub (ws' := (mw_W h q g I A3)) [0, 1, 2, 3, 4, 5, 6, 7, 8, 9, 10, 11, 12, 13, 14, 15, 16, 17, 18, 19, 20] rfl
      have hDc := hD.sub (ws' := (mw_W h q g I A3)) [0, 1, 2, 3, 4, 5, 6, 7, 8, 9, 10, 11, 12, 13, 14, 15, 16, 17, 18, 19, 20] (by decide) rfl
      have hKc := hK.sub (tys' := (mw_T g)) [0, 1, 2, 3, 4, 5, 6, 7, 8, 9, 10, 11, 12, 13, 14, 15, 16, 17, 18, 19] rfl
      have hFc := va_free (wc := (mw_W h q g I A3)) hD hS hA [0, 1, 2, 3, 4, 5, 6, 7, 8, 9, 10, 11, 12, 13, 14, 15, 16, 17, 18, 19, 20] rfl
      cases hg4 : f_M_come I A3 (X 2) with
      | none => rw [hg4] at hf; cases hf
      | some z4 =>
        obtain ⟨r4, I4, A4⟩ := z4
        rw [hg4] at hf
        dsimp only [Option.bind_some] at hf
        refine va_callv (va_runV (As := [.int (X 2)]) (rest := []) ⟨hx, hb, hml, hown, hts⟩ (cm_M_come l dC dI h q g _ I A3 (X 2) r4 I4 A4 hg4) (cwV 1 hts (gd_v lk_149 lk_150 lk_151 lk_46 lk_130) rfl rfl rfl (by decide +kernel) ⟨Nat.le_of_ble_eq_true rfl, Nat.le_of_ble_eq_true rfl⟩) ⟨fun a U g mk q => by obtain ⟨q0, q1, qP, qK, qD⟩ := q; exact ⟨q0, q1, qP, va_K.moved (u := U) (U := U.calling g mk a) (Vm.Alike.refl U.vm) qK, qD⟩, va_recv (ci := 4) (q0 := 0) hK hP rfl rfl, fun U hU hW => ⟨rfl, by rw [hU], by rw [hU]; exact hPc, va_K.moved hW.alike hKc, hDc.weaken (fun _ _ _ _ => trivial)⟩⟩ rfl rfl hl.1 rfl (lv_room (Nat.le_of_ble_eq_true rfl)) d_M_edit_78 ⟨Nat.le_of_ble_eq_true rfl, Nat.le_of_ble_eq_true rfl⟩) hS (fun q _ h => hFc q h) hFc (fun u t H1 locs ht hvm hw hB hz1 hk1 hS => ?_)
        obtain ⟨hP1, hK1, hD1⟩ := hB
        rw [ht] at hP1
        obtain ⟨hP, hD⟩ := va_join (wr := []) (w1 := (mw_W h q g I4 A4)) hP hD [0, 1, 2, 3, 4, 5, 6, 7, 8, 9, 10, 11, 12, 13, 14, 15, 16, 17, 18, 19, 20] [] rfl rfl (by decide) (by decide) hk1 hFc hP1 hD1
        generalize H1 = H at hP hS ⊢
        have hP : va_P (dC, dI) vwCl (mw_W h q g I4 A4) H := hP
        have hD : va_D B9 (mw_W h q g I4 A4) := hD
        obtain ⟨e1, e2, e3⟩ := wk_inj hf
        subst e1
        subst e2
        subst e3
        exact W.vret hx hb hr (fun t ht hW => ⟨⟨(), rfl, rfl, by rw [ht]; exact hP, va_K.moved hW.alike hK, hD⟩, hS.F ht⟩) hS.2.2 d_M_edit_81
    ·
      have hf := wk_iff hc1 hf
      refine lv_aload_n hx hb d_M_edit_25 rfl (lv_at hl 0 rfl) ?_
      refine va_get (D := (dC, dI)) (ci := 4) (v := .ref (q 5)) (C := R_M) (T := F_M) (N := 38) hx hb hts (fun w h => List.mem_cons_of_mem _ (in_M w h)) hown hK hP 0 rfl rfl 5 (by decide) (hts _ (List.mem_cons_of_mem _ lk_48)) (fun _ h9 => h9) rfl d_M_edit_26 ?_
      refine lv_sipush (v := 160) hx hb d_M_edit_29 (by decide) ?_
      refine lv_iload_n hx hb d_M_edit_32 rfl (lv_at hl 2 rfl) ?_
      refine lv_imul hx hb d_M_edit_33 ?_
      refine lv_iload_n hx hb d_M_edit_34 rfl (lv_at hl 3 rfl) ?_
      refine lv_iadd hx hb d_M_edit_35 ?_
      refine lv_aload_n hx hb d_M_edit_36 rfl (lv_at hl 0 rfl) ?_
      refine va_get (D := (dC, dI)) (ci := 4) (v := .ref (q 37)) (C := R_M) (T := F_M) (N := 38) hx hb hts (fun w h => List.mem_cons_of_mem _ (in_M w h)) hown hK hP 0 rfl rfl 37 (by decide) (hts _ (List.mem_cons_of_mem _ lk_38)) (fun _ h9 => h9) rfl d_M_edit_37 ?_
      refine lv_iload_n hx hb d_M_edit_40 rfl (lv_at hl 3 rfl) ?_
      obtain ⟨hc2, hf⟩ := wk_if hf
      refine va_cald hx hb hK hP 20 19 rfl rfl (wk_inb_ok hc2) d_M_edit_41 ?_
      obtain ⟨hc3, hf⟩ := wk_if hf
      refine va_cast hx hb hK hP hD hS 2 1 rfl rfl (wk_inb_ok hc3) d_M_edit_42 (fun H locs hP hD hS => ?_)
      obtain ⟨A1, hA1, hf⟩ := wk_letE hf
      have hP : va_P (dC, dI) vwCl (mw_W h q g I A1) H := by rw [hA1]; exact hP
      have hD : va_D B9 (mw_W h q g I A1) := by rw [hA1]; exact hD
      clear hA1
      refine lv_iinc (k := 3) (v := ((X 3) + 1)) (lv' := [(3, .int ((X 3) + 1)), (0, .ref h), (1, .int (X 1)), (2, .int (X 2))]) hx hb d_M_edit_43 hl rfl (wk_inc (by decide)) (by decide) rfl (fun ls hl => ?_)
      have hl : lv_has ls 4 [(3, .int ((X 3) + 1)), (0, .ref h), (1, .int (X 1)), (2, .int (X 2))] := hl
      refine lv_goto (tgt := 17) hx hb d_M_edit_46 (by decide) ?_
      exact hrc17 I A1 (upd X 3 ((X 3) + 1)) _ _ _ hf (lv_sub hl [1, 2, 3, 0] rfl) hP hD hS
  have key : ∀ n : Nat, (∀ (I : MI) (A : MA) (X : Nat → Int32) (ls : Array Slot) (H : Heap) (locs : List Loc), f_M_edit_go n 17 I A X = some (r, I', A') → lv_has ls 4 [(0, .ref h), (1, .int (X 1)), (2, .int (X 2)), (3, .int (X 3))] → va_P (dC, dI) vwCl (mw_W h q g I A) H → va_D B9 (mw_W h q g I A) → va_S B9 s.heap H locs → W p l e (headSpec w_M_edit ({ frames := 1, cells := 0, slots := 0, locals := 21 })).room s m ([.ref h, .int k1] : List Value).toArray below meth c H locs 0 0 (MQ below (va_Qv (fun (u : Unit) => u = u) (fun (_ : Unit) t => va_P (dC, dI) vwCl (mw_W h q g I' A') t.heap ∧ va_K (dC, dI) vwCl (mw_T g) t ∧ va_D B9 (mw_W h q g I' A')) B9) ([.ref h, .int k1] : List Value).toArray s 0 0 B9) (F0 m 17 ls [])) := by
    intro n
    induction n with
    | zero => exact fun I A X ls H locs hf => (by cases hf)
    | succ n ih =>
      have ih17 := ih
      exact stp17 (f_M_edit_go n) ih17
  unfold f_M_edit f_M_edit_e at hf
  have hrc17 := key wk_FUEL
  refine lv_aload_n hx hb d_M_edit_0 rfl (lv_at hl 0 rfl) ?_
  refine va_get (D := (dC, dI)) (ci := 4) (v := .int (I 3)) (C := R_M) (T := F_M) (N := 38) hx hb hts (fun w h => List.mem_cons_of_mem _ (in_M w h)) hown hK hP 0 rfl rfl 3 (by decide) (hts _ (List.mem_cons_of_mem _ lk_147)) (fun _ h9 => h9) rfl d_M_edit_1 ?_
  refine lv_istore_n (lv' := [(2, .int (I 3)), (0, .ref h), (1, .int k1)]) hx hb d_M_edit_4 rfl hl (by decide) rfl (fun ls hl => ?_)
  have hl : lv_has ls 4 [(2, .int (I 3)), (0, .ref h), (1, .int k1)] := hl
  refine lv_aload_n hx hb d_M_edit_5 rfl (lv_at hl 1 rfl) ?_
  refine lv_dup hx hb d_M_edit_6 rfl ?_
  refine va_get (D := (dC, dI)) (ci := 4) (v := .int (I 3)) (C := R_M) (T := F_M) (N := 38) hx hb hts (fun w h => List.mem_cons_of_mem _ (in_M w h)) hown hK hP 0 rfl rfl 3 (by decide) (hts _ (List.mem_cons_of_mem _ lk_147)) (fun _ h9 => h9) rfl d_M_edit_7 ?_
  refine lv_iconst (v := 1) hx hb d_M_edit_10 (by decide) ?_
  refine lv_iadd hx hb d_M_edit_11 ?_
  refine va_put (D := (dC, dI)) (ci := 4) (v := .int ((I 3) + 1)) (ty := .int) (C := R_M) (T := F_M) (N := 38) hx hb hts (fun w h => List.mem_cons_of_mem _ (in_M w h)) t_M tk_M n_M hown hK hP hD hS 0 rfl rfl 3 (by decide) (hts _ (List.mem_cons_of_mem _ lk_147)) (fun _ h9 => h9) rfl (by decide +kernel) rfl rfl (Nat.le_of_ble_eq_true rfl) d_M_edit_12 (fun H locs hP hD hS => ?_)
  obtain ⟨I1, hI1, hf⟩ := wk_letE hf
  have hP : va_P (dC, dI) vwCl (mw_W h q g I1 A) H := by rw [hI1]; exact hP
  have hD : va_D B9 (mw_W h q g I1 A) := by rw [hI1]; exact hD
  clear hI1
  refine lv_iconst (v := 0) hx hb d_M_edit_15 (by decide) ?_
  refine lv_istore_n (lv' := [(3, .int 0), (2, .int (I 3)), (0, .ref h), (1, .int k1)]) hx hb d_M_edit_16 rfl hl (by decide) rfl (fun ls hl => ?_)
  have hl : lv_has ls 4 [(3, .int 0), (2, .int (I 3)), (0, .ref h), (1, .int k1)] := hl
  exact hrc17 I1 A (upd (upd (upd (fun _ => 0) 1 k1) 2 (I 3)) 3 0) _ _ _ hf (lv_sub hl [2, 3, 1, 0] rfl) hP hD hS

set_option maxHeartbeats 8000000 in
set_option maxRecDepth 100000 in
theorem cm_M_low (l : Launch) (dC : Nat → ClassId) (dI : Nat → Nat → Nat) (h : Nat) (q : Nat → Nat) (g : Nat → ClassId) (sz : Nat) (I : MI) (A : MA) (r : Int32) (I' : MI) (A' : MA) (hf : f_M_low I A  = some (r, I', A')) : Met l y_M_low w_M_low ({ frames := 0, cells := 0, slots := 0, locals := 0 }) (va_Pc [.ref h] (fun U => U.heap.size = sz ∧ va_P (dC, dI) vwCl (mw_W h q g I A) U.heap ∧ va_K (dC, dI) vwCl (mw_T g) U ∧ va_D (fun _ => True) (mw_W h q g I A))) (va_Qi (fun (r9 : Int32) (_ : Unit) => r9 = r) (fun (_ : Unit) t => va_P (dC, dI) vwCl (mw_W h q g I' A') t.heap ∧ va_K (dC, dI) vwCl (mw_T g) t ∧ va_D (va_A (mw_W h q g I A) sz) (mw_W h q g I' A')) (va_A (mw_W h q g I A) sz)) 0 0 (va_A (mw_W h q g I A) sz) := by
  refine Met.ofW (cc := prog_6_method_13_code) (maxL := 1) (ret := (some .int)) (by decide) rfl ?_
  intro p e s m args below meth c s₁ B hml hv
  obtain ⟨rfl, hsz, hP, hK, hD0⟩ := hv
  have hx := B.exec
  have hb := B.bytes
  have hr := B.returns
  have hts := atoms_spec (ws := w_M_low) B.pre
  have hown : s.vm.findClass R_M = some m.cls := findClass_of_methodNamed B.named
  have hlocks := B.notSynchronized
  subst hsz
  have hD := hD0.self (sz := s.heap.size)
  generalize hAe : va_A (mw_W h q g I A) s.heap.size = B9 at hD ⊢
  have hA : ∀ q : Nat, s.heap.size ≤ q → B9 q := fun q h => by rw [← hAe]; exact Or.inr h
  clear hAe
  have hS : va_S B9 s.heap s.heap [] := va_S.rf
  have hl := lv_entry ([.ref h]) (n := 1) (Nat.le_of_ble_eq_true rfl)
  rw [lg_entry_eq]
  generalize (lg_sl ([.ref h]) ++ List.replicate (1 - (lg_sl ([.ref h])).length) Slot.unset).toArray = ls at hl ⊢
  have hl : lv_has ls 1 [(0, .ref h)] := hl
  have blk29 : ∀ (I : MI) (A : MA) (X : Nat → Int32) (s0 : Int32) (ls : Array Slot) (H : Heap) (locs : List Loc), f_M_low_29 I A X s0 = some (r, I', A') → lv_has ls 1 [(0, .ref h)] → va_P (dC, dI) vwCl (mw_W h q g I A) H → va_D B9 (mw_W h q g I A) → va_S B9 s.heap H locs → W p l e (headSpec w_M_low ({ frames := 0, cells := 0, slots := 0, locals := 0 })).room s m ([.ref h] : List Value).toArray below meth c H locs 0 0 (MQ below (va_Qi (fun (r9 : Int32) (_ : Unit) => r9 = r) (fun (_ : Unit) t => va_P (dC, dI) vwCl (mw_W h q g I' A') t.heap ∧ va_K (dC, dI) vwCl (mw_T g) t ∧ va_D B9 (mw_W h q g I' A')) B9) ([.ref h] : List Value).toArray s 0 0 B9) (F0 m 29 ls [.int s0]) := by
    intro I A X s0 ls H locs hf hl hP hD hS
    unfold f_M_low_29 at hf
    obtain ⟨e1, e2, e3⟩ := wk_inj hf
    subst e1
    subst e2
    subst e3
    exact W.iret (v := s0) hx hb hr (fun t ht hW => ⟨⟨s0, (), rfl, rfl, by rw [ht]; exact hP, va_K.moved hW.alike hK, hD⟩, hS.F ht⟩) hS.2.2 d_M_low_29
  have blk25 : ∀ (I : MI) (A : MA) (X : Nat → Int32) (ls : Array Slot) (H : Heap) (locs : List Loc), f_M_low_25 I A X = some (r, I', A') → lv_has ls 1 [(0, .ref h)] → va_P (dC, dI) vwCl (mw_W h q g I A) H → va_D B9 (mw_W h q g I A) → va_S B9 s.heap H locs → W p l e (headSpec w_M_low ({ frames := 0, cells := 0, slots := 0, locals := 0 })).room s m ([.ref h] : List Value).toArray below meth c H locs 0 0 (MQ below (va_Qi (fun (r9 : Int32) (_ : Unit) => r9 = r) (fun (_ : Unit) t => va_P (dC, dI) vwCl (mw_W h q g I' A') t.heap ∧ va_K (dC, dI) vwCl (mw_T g) t ∧ va_D B9 (mw_W h q g I' A')) B9) ([.ref h] : List Value).toArray s 0 0 B9) (F0 m 25 ls []) := by
    intro I A X ls H locs hf hl hP hD hS
    unfold f_M_low_25 at hf
    refine lv_aload_n hx hb d_M_low_25 rfl (lv_at hl 0 rfl) ?_
    refine va_get (D := (dC, dI)) (ci := 4) (v := .int (I 11)) (C := R_M) (T := F_M) (N := 38) hx hb hts (fun w h => List.mem_cons_of_mem _ (in_M w h)) hown hK hP 0 rfl rfl 11 (by decide) (hts _ (List.mem_cons_of_mem _ lk_126)) (fun _ h9 => h9) rfl d_M_low_26 ?_
    exact blk29 I A X (I 11) _ _ _ hf (lv_sub hl [0] rfl) hP hD hS
  unfold f_M_low at hf
  refine lv_aload_n hx hb d_M_low_0 rfl (lv_at hl 0 rfl) ?_
  refine va_get (D := (dC, dI)) (ci := 4) (v := .int (I 12)) (C := R_M) (T := F_M) (N := 38) hx hb hts (fun w h => List.mem_cons_of_mem _ (in_M w h)) hown hK hP 0 rfl rfl 12 (by decide) (hts _ (List.mem_cons_of_mem _ lk_127)) (fun _ h9 => h9) rfl d_M_low_1 ?_
  refine lv_if_lt (tgt := 25) hx hb d_M_low_4 (by decide) (fun hc1 => ?_) (fun hc1 => ?_)
  ·
    have hf := wk_ift hc1 hf
    exact blk25 I A (fun _ => 0) _ _ _ hf (lv_sub hl [0] rfl) hP hD hS
  ·
    have hf := wk_iff hc1 hf
    refine lv_aload_n hx hb d_M_low_7 rfl (lv_at hl 0 rfl) ?_
    refine va_get (D := (dC, dI)) (ci := 4) (v := .int (I 12)) (C := R_M) (T := F_M) (N := 38) hx hb hts (fun w h => List.mem_cons_of_mem _ (in_M w h)) hown hK hP 0 rfl rfl 12 (by decide) (hts _ (List.mem_cons_of_mem _ lk_127)) (fun _ h9 => h9) rfl d_M_low_8 ?_
    refine lv_aload_n hx hb d_M_low_11 rfl (lv_at hl 0 rfl) ?_
    refine va_get (D := (dC, dI)) (ci := 4) (v := .int (I 11)) (C := R_M) (T := F_M) (N := 38) hx hb hts (fun w h => List.mem_cons_of_mem _ (in_M w h)) hown hK hP 0 rfl rfl 11 (by decide) (hts _ (List.mem_cons_of_mem _ lk_126)) (fun _ h9 => h9) rfl d_M_low_12 ?_
    refine lv_icmp_ge (tgt := 25) hx hb d_M_low_15 (by decide) (fun hc2 => ?_) (fun hc2 => ?_)
    ·
      have hf := wk_ift hc2 hf
      exact blk25 I A (fun _ => 0) _ _ _ hf (lv_sub hl [0] rfl) hP hD hS
    ·
      have hf := wk_iff hc2 hf
      refine lv_aload_n hx hb d_M_low_18 rfl (lv_at hl 0 rfl) ?_
      refine va_get (D := (dC, dI)) (ci := 4) (v := .int (I 12)) (C := R_M) (T := F_M) (N := 38) hx hb hts (fun w h => List.mem_cons_of_mem _ (in_M w h)) hown hK hP 0 rfl rfl 12 (by decide) (hts _ (List.mem_cons_of_mem _ lk_127)) (fun _ h9 => h9) rfl d_M_low_19 ?_
      refine lv_goto (tgt := 29) hx hb d_M_low_22 (by decide) ?_
      exact blk29 I A (fun _ => 0) (I 12) _ _ _ hf (lv_sub hl [0] rfl) hP hD hS

