set_option maxHeartbeats 8000000 in
set_option maxRecDepth 100000 in
theorem cm_A_addNode (l : Launch) (dC : Nat → ClassId) (dI : Nat → Nat → Nat) (h : Nat) (q : Nat → Nat) (g : Nat → ClassId) (sz : Nat) (I : MI) (A : MA) (L : ML) (k1 : Int32) (r : Int32) (I' : MI) (A' : MA) (L' : ML) (hf : f_A_addNode I A L  k1 = some (r, I', A', L')) : Met l y_A_addNode w_A_addNode ({ frames := 0, cells := 0, slots := 0, locals := 0 }) (va_Pc [.ref h, .int k1] (fun U => U.heap.size = sz ∧ va_P (dC, dI) vwCl (aw_W h q g I A L) U.heap ∧ va_K (dC, dI) vwCl (aw_T h q g) U ∧ va_D (fun _ => True) (aw_W h q g I A L))) (va_Qi (fun (r9 : Int32) (_ : Unit) => r9 = r) (fun (_ : Unit) t => va_P (dC, dI) vwCl (aw_W h q g I' A' L') t.heap ∧ va_K (dC, dI) vwCl (aw_T h q g) t ∧ va_D (va_A (aw_W h q g I A L) sz) (aw_W h q g I' A' L')) (va_A (aw_W h q g I A L) sz)) 0 0 (va_A (aw_W h q g I A L) sz) := by
  refine Met.ofW (cc := prog_2_method_2_code) (maxL := 3) (ret := (some .int)) (by decide) rfl ?_
  intro p e s m args below meth c s₁ B hml hv
  obtain ⟨rfl, hsz, hP, hK, hD0⟩ := hv
  have hx := B.exec
  have hb := B.bytes
  have hr := B.returns
  have hts := atoms_spec (ws := w_A_addNode) B.pre
  have hown : s.vm.findClass "DraftTree$Automaton" = some m.cls := findClass_of_methodNamed B.named
  have hlocks := B.notSynchronized
  subst hsz
  have hD := hD0.self (sz := s.heap.size)
  generalize hAe : va_A (aw_W h q g I A L) s.heap.size = B9 at hD ⊢
  have hA : ∀ q : Nat, s.heap.size ≤ q → B9 q := fun q h => by rw [← hAe]; exact Or.inr h
  clear hAe
  have hS : va_S B9 s.heap s.heap [] := va_S.rf
  have hl := lv_entry ([.ref h, .int k1]) (n := 3) (Nat.le_of_ble_eq_true rfl)
  rw [lg_entry_eq]
  generalize (lg_sl ([.ref h, .int k1]) ++ List.replicate (3 - (lg_sl ([.ref h, .int k1])).length) Slot.unset).toArray = ls at hl ⊢
  have hl : lv_has ls 3 [(0, .ref h), (1, .int k1)] := hl
  unfold f_A_addNode at hf
  refine lv_aload_n hx hb d_A_addNode_0 rfl (lv_at hl 0 rfl) ?_
  refine va_get (D := (dC, dI)) (ci := 3) (v := .int (I 5)) (C := R_A) (T := F_A) (N := 10) hx hb hts (fun w h => List.mem_cons_of_mem _ (in_A w h)) hown hK hP 0 rfl rfl 5 (by decide) (hts _ (List.mem_cons_of_mem _ lk_237)) (fun _ h9 => h9) rfl d_A_addNode_1 ?_
  refine lv_istore_n (lv' := [(2, .int (I 5)), (0, .ref h), (1, .int k1)]) hx hb d_A_addNode_4 rfl hl (by decide) rfl (fun ls hl => ?_)
  have hl : lv_has ls 3 [(2, .int (I 5)), (0, .ref h), (1, .int k1)] := hl
  refine lv_aload_n hx hb d_A_addNode_5 rfl (lv_at hl 1 rfl) ?_
  refine va_get (D := (dC, dI)) (ci := 3) (v := .ref (q 0)) (C := R_A) (T := F_A) (N := 10) hx hb hts (fun w h => List.mem_cons_of_mem _ (in_A w h)) hown hK hP 0 rfl rfl 0 (by decide) (hts _ (List.mem_cons_of_mem _ lk_238)) (fun _ h9 => h9) rfl d_A_addNode_6 ?_
  refine lv_iload_n hx hb d_A_addNode_9 rfl (lv_at hl 0 rfl) ?_
  refine lv_iload_n hx hb d_A_addNode_10 rfl (lv_at hl 2 rfl) ?_
  obtain ⟨hc1, hf⟩ := wk_if hf
  refine va_iast hx hb hK hP hD hS 1 0 rfl rfl (wk_inb_ok hc1) d_A_addNode_11 (fun H locs hP hD hS => ?_)
  obtain ⟨A1, hA1, hf⟩ := wk_letE hf
  have hP : va_P (dC, dI) vwCl (aw_W h q g I A1 L) H := by rw [hA1]; exact hP
  have hD : va_D B9 (aw_W h q g I A1 L) := by rw [hA1]; exact hD
  clear hA1
  refine lv_aload_n hx hb d_A_addNode_12 rfl (lv_at hl 1 rfl) ?_
  refine va_get (D := (dC, dI)) (ci := 3) (v := .ref (q 1)) (C := R_A) (T := F_A) (N := 10) hx hb hts (fun w h => List.mem_cons_of_mem _ (in_A w h)) hown hK hP 0 rfl rfl 1 (by decide) (hts _ (List.mem_cons_of_mem _ lk_239)) (fun _ h9 => h9) rfl d_A_addNode_13 ?_
  refine lv_iload_n hx hb d_A_addNode_16 rfl (lv_at hl 0 rfl) ?_
  refine lv_iconst (v := (-1)) hx hb d_A_addNode_17 (by decide) ?_
  obtain ⟨hc2, hf⟩ := wk_if hf
  refine va_iast hx hb hK hP hD hS 2 1 rfl rfl (wk_inb_ok hc2) d_A_addNode_18 (fun H locs hP hD hS => ?_)
  obtain ⟨A2, hA2, hf⟩ := wk_letE hf
  have hP : va_P (dC, dI) vwCl (aw_W h q g I A2 L) H := by rw [hA2]; exact hP
  have hD : va_D B9 (aw_W h q g I A2 L) := by rw [hA2]; exact hD
  clear hA2
  refine lv_aload_n hx hb d_A_addNode_19 rfl (lv_at hl 1 rfl) ?_
  refine va_get (D := (dC, dI)) (ci := 3) (v := .ref (q 2)) (C := R_A) (T := F_A) (N := 10) hx hb hts (fun w h => List.mem_cons_of_mem _ (in_A w h)) hown hK hP 0 rfl rfl 2 (by decide) (hts _ (List.mem_cons_of_mem _ lk_240)) (fun _ h9 => h9) rfl d_A_addNode_20 ?_
  refine lv_iload_n hx hb d_A_addNode_23 rfl (lv_at hl 0 rfl) ?_
  refine lv_iconst (v := (-1)) hx hb d_A_addNode_24 (by decide) ?_
  obtain ⟨hc3, hf⟩ := wk_if hf
  refine va_iast hx hb hK hP hD hS 3 2 rfl rfl (wk_inb_ok hc3) d_A_addNode_25 (fun H locs hP hD hS => ?_)
  obtain ⟨A3, hA3, hf⟩ := wk_letE hf
  have hP : va_P (dC, dI) vwCl (aw_W h q g I A3 L) H := by rw [hA3]; exact hP
  have hD : va_D B9 (aw_W h q g I A3 L) := by rw [hA3]; exact hD
  clear hA3
  refine lv_aload_n hx hb d_A_addNode_26 rfl (lv_at hl 1 rfl) ?_
  refine va_get (D := (dC, dI)) (ci := 3) (v := .ref (q 3)) (C := R_A) (T := F_A) (N := 10) hx hb hts (fun w h => List.mem_cons_of_mem _ (in_A w h)) hown hK hP 0 rfl rfl 3 (by decide) (hts _ (List.mem_cons_of_mem _ lk_241)) (fun _ h9 => h9) rfl d_A_addNode_27 ?_
  refine lv_iload_n hx hb d_A_addNode_30 rfl (lv_at hl 0 rfl) ?_
  refine lv_lconst (v := 0) hx hb d_A_addNode_31 (by decide) ?_
  obtain ⟨hc4, hf⟩ := wk_if hf
  refine va_last hx hb hK hP hD hS 4 3 rfl rfl (wk_inb_ok hc4) d_A_addNode_32 (fun H locs hP hD hS => ?_)
  obtain ⟨L4, hL4, hf⟩ := wk_letE hf
  have hP : va_P (dC, dI) vwCl (aw_W h q g I A3 L4) H := by rw [hL4]; exact hP
  have hD : va_D B9 (aw_W h q g I A3 L4) := by rw [hL4]; exact hD
  clear hL4
  refine lv_aload_n hx hb d_A_addNode_33 rfl (lv_at hl 1 rfl) ?_
  refine va_get (D := (dC, dI)) (ci := 3) (v := .ref (q 4)) (C := R_A) (T := F_A) (N := 10) hx hb hts (fun w h => List.mem_cons_of_mem _ (in_A w h)) hown hK hP 0 rfl rfl 4 (by decide) (hts _ (List.mem_cons_of_mem _ lk_242)) (fun _ h9 => h9) rfl d_A_addNode_34 ?_
  refine lv_iload_n hx hb d_A_addNode_37 rfl (lv_at hl 0 rfl) ?_
  refine lv_lconst (v := 0) hx hb d_A_addNode_38 (by decide) ?_
  obtain ⟨hc5, hf⟩ := wk_if hf
  refine va_last hx hb hK hP hD hS 5 4 rfl rfl (wk_inb_ok hc5) d_A_addNode_39 (fun H locs hP hD hS => ?_)
  obtain ⟨L5, hL5, hf⟩ := wk_letE hf
  have hP : va_P (dC, dI) vwCl (aw_W h q g I A3 L5) H := by rw [hL5]; exact hP
  have hD : va_D B9 (aw_W h q g I A3 L5) := by rw [hL5]; exact hD
  clear hL5
  refine lv_aload_n hx hb d_A_addNode_40 rfl (lv_at hl 1 rfl) ?_
  refine lv_dup hx hb d_A_addNode_41 rfl ?_
  refine va_get (D := (dC, dI)) (ci := 3) (v := .int (I 5)) (C := R_A) (T := F_A) (N := 10) hx hb hts (fun w h => List.mem_cons_of_mem _ (in_A w h)) hown hK hP 0 rfl rfl 5 (by decide) (hts _ (List.mem_cons_of_mem _ lk_237)) (fun _ h9 => h9) rfl d_A_addNode_42 ?_
  refine lv_iconst (v := 1) hx hb d_A_addNode_45 (by decide) ?_
  refine lv_iadd hx hb d_A_addNode_46 ?_
  refine va_put (D := (dC, dI)) (ci := 3) (v := .int ((I 5) + 1)) (ty := .int) (C := R_A) (T := F_A) (N := 10) hx hb hts (fun w h => List.mem_cons_of_mem _ (in_A w h)) t_A tk_A n_A hown hK hP hD hS 0 rfl rfl 5 (by decide) (hts _ (List.mem_cons_of_mem _ lk_237)) (fun _ h9 => h9) rfl (by decide +kernel) rfl rfl (Nat.le_of_ble_eq_true rfl) d_A_addNode_47 (fun H locs hP hD hS => ?_)
  obtain ⟨I6, hI6, hf⟩ := wk_letE hf
  have hP : va_P (dC, dI) vwCl (aw_W h q g I6 A3 L5) H := by rw [hI6]; exact hP
  have hD : va_D B9 (aw_W h q g I6 A3 L5) := by rw [hI6]; exact hD
  clear hI6
  refine lv_iload_n hx hb d_A_addNode_50 rfl (lv_at hl 0 rfl) ?_
  obtain ⟨e0, e1, e2, e3⟩ := wk_inj3 hf
  subst e0
  subst e1
  subst e2
  subst e3
  exact W.iret (v := (I 5)) hx hb hr (fun t ht hW => ⟨⟨(I 5), (), rfl, rfl, by rw [ht]; exact hP, va_K.moved hW.alike hK, hD⟩, hS.F ht⟩) hS.2.2 d_A_addNode_51

set_option maxHeartbeats 8000000 in
set_option maxRecDepth 100000 in
theorem cm_A_asSet (l : Launch) (dC : Nat → ClassId) (dI : Nat → Nat → Nat)  (sz : Nat) (k0 : Int32) (r : Int64) (hf : f_A_asSet  k0 = some r) : Met l y_A_asSet w_A_asSet ({ frames := 0, cells := 0, slots := 0, locals := 0 }) (va_Pc [.int k0] (fun U => U.heap.size = sz ∧ va_P (dC, dI) vwCl [] U.heap ∧ va_K (dC, dI) vwCl [] U ∧ va_D (fun _ => True) [])) (va_Ql (fun (r9 : Int64) (_ : Unit) => r9 = r) (fun (_ : Unit) t => va_P (dC, dI) vwCl [] t.heap ∧ va_K (dC, dI) vwCl [] t ∧ va_D (va_A [] sz) []) (va_A [] sz)) 0 0 (va_A [] sz) := by
  refine Met.ofW (cc := prog_2_method_11_code) (maxL := 1) (ret := (some .long)) (by decide) rfl ?_
  intro p e s m args below meth c s₁ B hml hv
  obtain ⟨rfl, hsz, hP, hK, hD0⟩ := hv
  have hx := B.exec
  have hb := B.bytes
  have hr := B.returns
  have hts := atoms_spec (ws := w_A_asSet) B.pre
  have hown : s.vm.findClass "DraftTree$Automaton" = some m.cls := findClass_of_methodNamed B.named
  have hlocks := B.notSynchronized
  subst hsz
  have hD := hD0.self (sz := s.heap.size)
  generalize hAe : va_A [] s.heap.size = B9 at hD ⊢
  have hA : ∀ q : Nat, s.heap.size ≤ q → B9 q := fun q h => by rw [← hAe]; exact Or.inr h
  clear hAe
  have hS : va_S B9 s.heap s.heap [] := va_S.rf
  have hl := lv_entry ([.int k0]) (n := 1) (Nat.le_of_ble_eq_true rfl)
  rw [lg_entry_eq]
  generalize (lg_sl ([.int k0]) ++ List.replicate (1 - (lg_sl ([.int k0])).length) Slot.unset).toArray = ls at hl ⊢
  have hl : lv_has ls 1 [(0, .int k0)] := hl
  have blk12 : ∀ (X : Nat → Int32) (Y : Nat → Int64) (s0 : Int64) (ls : Array Slot) (H : Heap) (locs : List Loc), f_A_asSet_12 X Y s0 = some r → lv_has ls 1 [(0, .int (X 0))] → va_P (dC, dI) vwCl [] H → va_D B9 [] → va_S B9 s.heap H locs → W p l e (headSpec w_A_asSet ({ frames := 0, cells := 0, slots := 0, locals := 0 })).room s m ([.int k0] : List Value).toArray below meth c H locs 0 0 (MQ below (va_Ql (fun (r9 : Int64) (_ : Unit) => r9 = r) (fun (_ : Unit) t => va_P (dC, dI) vwCl [] t.heap ∧ va_K (dC, dI) vwCl [] t ∧ va_D B9 []) B9) ([.int k0] : List Value).toArray s 0 0 B9) (F0 m 12 ls [.long s0]) := by
    intro X Y s0 ls H locs hf hl hP hD hS
    unfold f_A_asSet_12 at hf
    have e0 := Option.some.inj hf
    subst e0
    exact W.lret (v := s0) hx hb hr (fun t ht hW => ⟨⟨s0, (), rfl, rfl, by rw [ht]; exact hP, va_K.moved hW.alike hK, hD⟩, hS.F ht⟩) hS.2.2 d_A_asSet_12
  unfold f_A_asSet at hf
  refine lv_iload_n hx hb d_A_asSet_0 rfl (lv_at hl 0 rfl) ?_
  refine lv_iconst (v := (-1)) hx hb d_A_asSet_1 (by decide) ?_
  refine lv_icmp_ne (tgt := 9) hx hb d_A_asSet_2 (by decide) (fun hc1 => ?_) (fun hc1 => ?_)
  ·
    have hf := wk_iff hc1 hf
    refine lv_lconst (v := 1) hx hb d_A_asSet_9 (by decide) ?_
    refine lv_iload_n hx hb d_A_asSet_10 rfl (lv_at hl 0 rfl) ?_
    refine lv_lshl hx hb d_A_asSet_11 rfl ?_
    exact blk12 (upd (fun _ => 0) 0 k0) (fun _ => 0) ((1 : Int64) <<< ((k0).toInt64 &&& 63)) _ _ _ hf (lv_sub hl [0] rfl) hP hD hS
  ·
    have hf := wk_ift hc1 hf
    refine lv_lconst (v := 0) hx hb d_A_asSet_5 (by decide) ?_
    refine lv_goto (tgt := 12) hx hb d_A_asSet_6 (by decide) ?_
    exact blk12 (upd (fun _ => 0) 0 k0) (fun _ => 0) 0 _ _ _ hf (lv_sub hl [0] rfl) hP hD hS

set_option maxHeartbeats 8000000 in
set_option maxRecDepth 100000 in
theorem cm_Ji_numberOfTrailingZeros (l : Launch) (dC : Nat → ClassId) (dI : Nat → Nat → Nat)  (sz : Nat) (k0 : Int32) (r : Int32) (hf : f_Ji_numberOfTrailingZeros  k0 = some r) : Met l y_Ji_numberOfTrailingZeros w_Ji_numberOfTrailingZeros ({ frames := 0, cells := 0, slots := 0, locals := 0 }) (va_Pc [.int k0] (fun U => U.heap.size = sz ∧ va_P (dC, dI) vwCl [] U.heap ∧ va_K (dC, dI) vwCl [] U ∧ va_D (fun _ => True) [])) (va_Qi (fun (r9 : Int32) (_ : Unit) => r9 = r) (fun (_ : Unit) t => va_P (dC, dI) vwCl [] t.heap ∧ va_K (dC, dI) vwCl [] t ∧ va_D (va_A [] sz) []) (va_A [] sz)) 0 0 (va_A [] sz) := by
  refine Met.ofW (cc := prog_11_method_48_code) (maxL := 2) (ret := (some .int)) (by decide) rfl ?_
  intro p e s m args below meth c s₁ B hml hv
  obtain ⟨rfl, hsz, hP, hK, hD0⟩ := hv
  have hx := B.exec
  have hb := B.bytes
  have hr := B.returns
  have hts := atoms_spec (ws := w_Ji_numberOfTrailingZeros) B.pre
  have hown : s.vm.findClass "java/lang/Integer" = some m.cls := findClass_of_methodNamed B.named
  have hlocks := B.notSynchronized
  subst hsz
  have hD := hD0.self (sz := s.heap.size)
  generalize hAe : va_A [] s.heap.size = B9 at hD ⊢
  have hA : ∀ q : Nat, s.heap.size ≤ q → B9 q := fun q h => by rw [← hAe]; exact Or.inr h
  clear hAe
  have hS : va_S B9 s.heap s.heap [] := va_S.rf
  have hl := lv_entry ([.int k0]) (n := 2) (Nat.le_of_ble_eq_true rfl)
  rw [lg_entry_eq]
  generalize (lg_sl ([.int k0]) ++ List.replicate (2 - (lg_sl ([.int k0])).length) Slot.unset).toArray = ls at hl ⊢
  have hl : lv_has ls 2 [(0, .int k0)] := hl
  have blk74 : ∀ (X : Nat → Int32) (Y : Nat → Int64) (ls : Array Slot) (H : Heap) (locs : List Loc), f_Ji_numberOfTrailingZeros_74 X Y = some r → lv_has ls 2 [(0, .int (X 0)), (1, .int (X 1))] → va_P (dC, dI) vwCl [] H → va_D B9 [] → va_S B9 s.heap H locs → W p l e (headSpec w_Ji_numberOfTrailingZeros ({ frames := 0, cells := 0, slots := 0, locals := 0 })).room s m ([.int k0] : List Value).toArray below meth c H locs 0 0 (MQ below (va_Qi (fun (r9 : Int32) (_ : Unit) => r9 = r) (fun (_ : Unit) t => va_P (dC, dI) vwCl [] t.heap ∧ va_K (dC, dI) vwCl [] t ∧ va_D B9 []) B9) ([.int k0] : List Value).toArray s 0 0 B9) (F0 m 74 ls []) := by
    intro X Y ls H locs hf hl hP hD hS
    unfold f_Ji_numberOfTrailingZeros_74 at hf
    refine lv_iload_n hx hb d_Ji_numberOfTrailingZeros_74 rfl (lv_at hl 1 rfl) ?_
    refine lv_iload_n hx hb d_Ji_numberOfTrailingZeros_75 rfl (lv_at hl 0 rfl) ?_
    refine lv_iconst (v := 1) hx hb d_Ji_numberOfTrailingZeros_76 (by decide) ?_
    refine lv_iushr hx hb d_Ji_numberOfTrailingZeros_77 rfl ?_
    refine lv_iadd hx hb d_Ji_numberOfTrailingZeros_78 ?_
    have e0 := Option.some.inj hf
    subst e0
    exact W.iret (v := ((X 1) + (((X 0)).toUInt32 >>> (((1 : Int32)).toUInt32 &&& Int32.toUInt32 31)).toInt32)) hx hb hr (fun t ht hW => ⟨⟨((X 1) + (((X 0)).toUInt32 >>> (((1 : Int32)).toUInt32 &&& Int32.toUInt32 31)).toInt32), (), rfl, rfl, by rw [ht]; exact hP, va_K.moved hW.alike hK, hD⟩, hS.F ht⟩) hS.2.2 d_Ji_numberOfTrailingZeros_79
  have blk62 : ∀ (X : Nat → Int32) (Y : Nat → Int64) (ls : Array Slot) (H : Heap) (locs : List Loc), f_Ji_numberOfTrailingZeros_62 X Y = some r → lv_has ls 2 [(0, .int (X 0)), (1, .int (X 1))] → va_P (dC, dI) vwCl [] H → va_D B9 [] → va_S B9 s.heap H locs → W p l e (headSpec w_Ji_numberOfTrailingZeros ({ frames := 0, cells := 0, slots := 0, locals := 0 })).room s m ([.int k0] : List Value).toArray below meth c H locs 0 0 (MQ below (va_Qi (fun (r9 : Int32) (_ : Unit) => r9 = r) (fun (_ : Unit) t => va_P (dC, dI) vwCl [] t.heap ∧ va_K (dC, dI) vwCl [] t ∧ va_D B9 []) B9) ([.int k0] : List Value).toArray s 0 0 B9) (F0 m 62 ls []) := by
    intro X Y ls H locs hf hl hP hD hS
    unfold f_Ji_numberOfTrailingZeros_62 at hf
    refine lv_iload_n hx hb d_Ji_numberOfTrailingZeros_62 rfl (lv_at hl 0 rfl) ?_
    refine lv_iconst (v := 4) hx hb d_Ji_numberOfTrailingZeros_63 (by decide) ?_
    refine lv_icmp_le (tgt := 74) hx hb d_Ji_numberOfTrailingZeros_64 (by decide) (fun hc1 => ?_) (fun hc1 => ?_)
    ·
      have hf := wk_ift hc1 hf
      exact blk74 X Y _ _ _ hf (lv_sub hl [0, 1] rfl) hP hD hS
    ·
      have hf := wk_iff hc1 hf
      refine lv_iinc (k := 1) (v := ((X 1) + 2)) (lv' := [(1, .int ((X 1) + 2)), (0, .int (X 0))]) hx hb d_Ji_numberOfTrailingZeros_67 hl rfl (wk_inc (by decide)) (by decide) rfl (fun ls hl => ?_)
      have hl : lv_has ls 2 [(1, .int ((X 1) + 2)), (0, .int (X 0))] := hl
      refine lv_iload_n hx hb d_Ji_numberOfTrailingZeros_70 rfl (lv_at hl 1 rfl) ?_
      refine lv_iconst (v := 2) hx hb d_Ji_numberOfTrailingZeros_71 (by decide) ?_
      refine lv_iushr hx hb d_Ji_numberOfTrailingZeros_72 rfl ?_
      refine lv_istore_n (lv' := [(0, .int (((X 0)).toUInt32 >>> (((2 : Int32)).toUInt32 &&& Int32.toUInt32 31)).toInt32), (1, .int ((X 1) + 2))]) hx hb d_Ji_numberOfTrailingZeros_73 rfl hl (by decide) rfl (fun ls hl => ?_)
      have hl : lv_has ls 2 [(0, .int (((X 0)).toUInt32 >>> (((2 : Int32)).toUInt32 &&& Int32.toUInt32 31)).toInt32), (1, .int ((X 1) + 2))] := hl
      exact blk74 (upd (upd X 0 (((X 0)).toUInt32 >>> (((2 : Int32)).toUInt32 &&& Int32.toUInt32 31)).toInt32) 1 ((X 1) + 2)) Y _ _ _ hf (lv_sub hl [0, 1] rfl) hP hD hS
  have blk49 : ∀ (X : Nat → Int32) (Y : Nat → Int64) (ls : Array Slot) (H : Heap) (locs : List Loc), f_Ji_numberOfTrailingZeros_49 X Y = some r → lv_has ls 2 [(0, .int (X 0)), (1, .int (X 1))] → va_P (dC, dI) vwCl [] H → va_D B9 [] → va_S B9 s.heap H locs → W p l e (headSpec w_Ji_numberOfTrailingZeros ({ frames := 0, cells := 0, slots := 0, locals := 0 })).room s m ([.int k0] : List Value).toArray below meth c H locs 0 0 (MQ below (va_Qi (fun (r9 : Int32) (_ : Unit) => r9 = r) (fun (_ : Unit) t => va_P (dC, dI) vwCl [] t.heap ∧ va_K (dC, dI) vwCl [] t ∧ va_D B9 []) B9) ([.int k0] : List Value).toArray s 0 0 B9) (F0 m 49 ls []) := by
    intro X Y ls H locs hf hl hP hD hS
    unfold f_Ji_numberOfTrailingZeros_49 at hf
    refine lv_iload_n hx hb d_Ji_numberOfTrailingZeros_49 rfl (lv_at hl 0 rfl) ?_
    refine lv_bipush (v := 16) hx hb d_Ji_numberOfTrailingZeros_50 (by decide) ?_
    refine lv_icmp_le (tgt := 62) hx hb d_Ji_numberOfTrailingZeros_52 (by decide) (fun hc1 => ?_) (fun hc1 => ?_)
    ·
      have hf := wk_ift hc1 hf
      exact blk62 X Y _ _ _ hf (lv_sub hl [0, 1] rfl) hP hD hS
    ·
      have hf := wk_iff hc1 hf
      refine lv_iinc (k := 1) (v := ((X 1) + 4)) (lv' := [(1, .int ((X 1) + 4)), (0, .int (X 0))]) hx hb d_Ji_numberOfTrailingZeros_55 hl rfl (wk_inc (by decide)) (by decide) rfl (fun ls hl => ?_)
      have hl : lv_has ls 2 [(1, .int ((X 1) + 4)), (0, .int (X 0))] := hl
      refine lv_iload_n hx hb d_Ji_numberOfTrailingZeros_58 rfl (lv_at hl 1 rfl) ?_
      refine lv_iconst (v := 4) hx hb d_Ji_numberOfTrailingZeros_59 (by decide) ?_
      refine lv_iushr hx hb d_Ji_numberOfTrailingZeros_60 rfl ?_
      refine lv_istore_n (lv' := [(0, .int (((X 0)).toUInt32 >>> (((4 : Int32)).toUInt32 &&& Int32.toUInt32 31)).toInt32), (1, .int ((X 1) + 4))]) hx hb d_Ji_numberOfTrailingZeros_61 rfl hl (by decide) rfl (fun ls hl => ?_)
      have hl : lv_has ls 2 [(0, .int (((X 0)).toUInt32 >>> (((4 : Int32)).toUInt32 &&& Int32.toUInt32 31)).toInt32), (1, .int ((X 1) + 4))] := hl
      exact blk62 (upd (upd X 0 (((X 0)).toUInt32 >>> (((4 : Int32)).toUInt32 &&& Int32.toUInt32 31)).toInt32) 1 ((X 1) + 4)) Y _ _ _ hf (lv_sub hl [0, 1] rfl) hP hD hS
  have blk34 : ∀ (X : Nat → Int32) (Y : Nat → Int64) (ls : Array Slot) (H : Heap) (locs : List Loc), f_Ji_numberOfTrailingZeros_34 X Y = some r → lv_has ls 2 [(0, .int (X 0)), (1, .int (X 1))] → va_P (dC, dI) vwCl [] H → va_D B9 [] → va_S B9 s.heap H locs → W p l e (headSpec w_Ji_numberOfTrailingZeros ({ frames := 0, cells := 0, slots := 0, locals := 0 })).room s m ([.int k0] : List Value).toArray below meth c H locs 0 0 (MQ below (va_Qi (fun (r9 : Int32) (_ : Unit) => r9 = r) (fun (_ : Unit) t => va_P (dC, dI) vwCl [] t.heap ∧ va_K (dC, dI) vwCl [] t ∧ va_D B9 []) B9) ([.int k0] : List Value).toArray s 0 0 B9) (F0 m 34 ls []) := by
    intro X Y ls H locs hf hl hP hD hS
    unfold f_Ji_numberOfTrailingZeros_34 at hf
    refine lv_iload_n hx hb d_Ji_numberOfTrailingZeros_34 rfl (lv_at hl 0 rfl) ?_
    refine lv_sipush (v := 256) hx hb d_Ji_numberOfTrailingZeros_35 (by decide) ?_
    refine lv_icmp_le (tgt := 49) hx hb d_Ji_numberOfTrailingZeros_38 (by decide) (fun hc1 => ?_) (fun hc1 => ?_)
    ·
      have hf := wk_ift hc1 hf
      exact blk49 X Y _ _ _ hf (lv_sub hl [0, 1] rfl) hP hD hS
    ·
      have hf := wk_iff hc1 hf
      refine lv_iinc (k := 1) (v := ((X 1) + 8)) (lv' := [(1, .int ((X 1) + 8)), (0, .int (X 0))]) hx hb d_Ji_numberOfTrailingZeros_41 hl rfl (wk_inc (by decide)) (by decide) rfl (fun ls hl => ?_)
      have hl : lv_has ls 2 [(1, .int ((X 1) + 8)), (0, .int (X 0))] := hl
      refine lv_iload_n hx hb d_Ji_numberOfTrailingZeros_44 rfl (lv_at hl 1 rfl) ?_
      refine lv_bipush (v := 8) hx hb d_Ji_numberOfTrailingZeros_45 (by decide) ?_
      refine lv_iushr hx hb d_Ji_numberOfTrailingZeros_47 rfl ?_
      refine lv_istore_n (lv' := [(0, .int (((X 0)).toUInt32 >>> (((8 : Int32)).toUInt32 &&& Int32.toUInt32 31)).toInt32), (1, .int ((X 1) + 8))]) hx hb d_Ji_numberOfTrailingZeros_48 rfl hl (by decide) rfl (fun ls hl => ?_)
      have hl : lv_has ls 2 [(0, .int (((X 0)).toUInt32 >>> (((8 : Int32)).toUInt32 &&& Int32.toUInt32 31)).toInt32), (1, .int ((X 1) + 8))] := hl
      exact blk49 (upd (upd X 0 (((X 0)).toUInt32 >>> (((8 : Int32)).toUInt32 &&& Int32.toUInt32 31)).toInt32) 1 ((X 1) + 8)) Y _ _ _ hf (lv_sub hl [0, 1] rfl) hP hD hS
  unfold f_Ji_numberOfTrailingZeros at hf
  refine lv_iload_n hx hb d_Ji_numberOfTrailingZeros_0 rfl (lv_at hl 0 rfl) ?_
  refine lv_iconst (v := (-1)) hx hb d_Ji_numberOfTrailingZeros_1 (by decide) ?_
  refine lv_ixor hx hb d_Ji_numberOfTrailingZeros_2 ?_
  refine lv_iload_n hx hb d_Ji_numberOfTrailingZeros_3 rfl (lv_at hl 0 rfl) ?_
  refine lv_iconst (v := 1) hx hb d_Ji_numberOfTrailingZeros_4 (by decide) ?_
  refine lv_isub hx hb d_Ji_numberOfTrailingZeros_5 ?_
  refine lv_iand hx hb d_Ji_numberOfTrailingZeros_6 ?_
  refine lv_istore_n (lv' := [(0, .int ((k0 ^^^ (-1)) &&& (k0 - 1)))]) hx hb d_Ji_numberOfTrailingZeros_7 rfl hl (by decide) rfl (fun ls hl => ?_)
  have hl : lv_has ls 2 [(0, .int ((k0 ^^^ (-1)) &&& (k0 - 1)))] := hl
  refine lv_iload_n hx hb d_Ji_numberOfTrailingZeros_8 rfl (lv_at hl 0 rfl) ?_
  refine lv_if_gt (tgt := 17) hx hb d_Ji_numberOfTrailingZeros_9 (by decide) (fun hc1 => ?_) (fun hc1 => ?_)
  ·
    have hf := wk_ift hc1 hf
    refine lv_iconst (v := 1) hx hb d_Ji_numberOfTrailingZeros_17 (by decide) ?_
    refine lv_istore_n (lv' := [(1, .int 1), (0, .int ((k0 ^^^ (-1)) &&& (k0 - 1)))]) hx hb d_Ji_numberOfTrailingZeros_18 rfl hl (by decide) rfl (fun ls hl => ?_)
    have hl : lv_has ls 2 [(1, .int 1), (0, .int ((k0 ^^^ (-1)) &&& (k0 - 1)))] := hl
    refine lv_iload_n hx hb d_Ji_numberOfTrailingZeros_19 rfl (lv_at hl 1 rfl) ?_
    refine lv_ldcw (v := 65536) hx hb hown (hts _ (List.mem_cons_of_mem _ lk_245)) d_Ji_numberOfTrailingZeros_20 ?_
    refine lv_icmp_le (tgt := 34) hx hb d_Ji_numberOfTrailingZeros_23 (by decide) (fun hc2 => ?_) (fun hc2 => ?_)
    ·
      have hf := wk_ift hc2 hf
      exact blk34 (upd (upd (fun _ => 0) 0 ((k0 ^^^ (-1)) &&& (k0 - 1))) 1 1) (fun _ => 0) _ _ _ hf (lv_sub hl [1, 0] rfl) hP hD hS
    ·
      have hf := wk_iff hc2 hf
      refine lv_iinc (k := 0) (v := 17) (lv' := [(1, .int 17), (0, .int ((k0 ^^^ (-1)) &&& (k0 - 1)))]) hx hb d_Ji_numberOfTrailingZeros_26 hl rfl (by decide) (by decide) rfl (fun ls hl => ?_)
      have hl : lv_has ls 2 [(1, .int 17), (0, .int ((k0 ^^^ (-1)) &&& (k0 - 1)))] := hl
      refine lv_iload_n hx hb d_Ji_numberOfTrailingZeros_29 rfl (lv_at hl 1 rfl) ?_
      refine lv_bipush (v := 16) hx hb d_Ji_numberOfTrailingZeros_30 (by decide) ?_
      refine lv_iushr hx hb d_Ji_numberOfTrailingZeros_32 rfl ?_
      refine lv_istore_n (lv' := [(0, .int ((((k0 ^^^ (-1)) &&& (k0 - 1))).toUInt32 >>> (((16 : Int32)).toUInt32 &&& Int32.toUInt32 31)).toInt32), (1, .int 17)]) hx hb d_Ji_numberOfTrailingZeros_33 rfl hl (by decide) rfl (fun ls hl => ?_)
      have hl : lv_has ls 2 [(0, .int ((((k0 ^^^ (-1)) &&& (k0 - 1))).toUInt32 >>> (((16 : Int32)).toUInt32 &&& Int32.toUInt32 31)).toInt32), (1, .int 17)] := hl
      exact blk34 (upd (upd (fun _ => 0) 0 ((((k0 ^^^ (-1)) &&& (k0 - 1))).toUInt32 >>> (((16 : Int32)).toUInt32 &&& Int32.toUInt32 31)).toInt32) 1 17) (fun _ => 0) _ _ _ hf (lv_sub hl [0, 1] rfl) hP hD hS
  ·
    have hf := wk_iff hc1 hf
    refine lv_iload_n hx hb d_Ji_numberOfTrailingZeros_12 rfl (lv_at hl 0 rfl) ?_
    refine lv_bipush (v := 32) hx hb d_Ji_numberOfTrailingZeros_13 (by decide) ?_
    refine lv_iand hx hb d_Ji_numberOfTrailingZeros_15 ?_
    have e0 := Option.some.inj hf
    subst e0
    exact W.iret (v := (((k0 ^^^ (-1)) &&& (k0 - 1)) &&& 32)) hx hb hr (fun t ht hW => ⟨⟨(((k0 ^^^ (-1)) &&& (k0 - 1)) &&& 32), (), rfl, rfl, by rw [ht]; exact hP, va_K.moved hW.alike hK, hD⟩, hS.F ht⟩) hS.2.2 d_Ji_numberOfTrailingZeros_16

set_option maxHeartbeats 8000000 in
set_option maxRecDepth 100000 in
theorem cm_Jl_numberOfTrailingZeros (l : Launch) (dC : Nat → ClassId) (dI : Nat → Nat → Nat)  (sz : Nat) (k0 : Int64) (r : Int32) (hf : f_Jl_numberOfTrailingZeros  k0 = some r) : Met l y_Jl_numberOfTrailingZeros w_Jl_numberOfTrailingZeros ({ frames := 1, cells := 0, slots := 0, locals := 21 }) (va_Pc [.long k0] (fun U => U.heap.size = sz ∧ va_P (dC, dI) vwCl [] U.heap ∧ va_K (dC, dI) vwCl [] U ∧ va_D (fun _ => True) [])) (va_Qi (fun (r9 : Int32) (_ : Unit) => r9 = r) (fun (_ : Unit) t => va_P (dC, dI) vwCl [] t.heap ∧ va_K (dC, dI) vwCl [] t ∧ va_D (va_A [] sz) []) (va_A [] sz)) 0 0 (va_A [] sz) := by
  refine Met.ofW (cc := prog_12_method_49_code) (maxL := 3) (ret := (some .int)) (by decide) rfl ?_
  intro p e s m args below meth c s₁ B hml hv
  obtain ⟨rfl, hsz, hP, hK, hD0⟩ := hv
  have hx := B.exec
  have hb := B.bytes
  have hr := B.returns
  have hts := atoms_spec (ws := w_Jl_numberOfTrailingZeros) B.pre
  have hown : s.vm.findClass "java/lang/Long" = some m.cls := findClass_of_methodNamed B.named
  have hlocks := B.notSynchronized
  subst hsz
  have hD := hD0.self (sz := s.heap.size)
  generalize hAe : va_A [] s.heap.size = B9 at hD ⊢
  have hA : ∀ q : Nat, s.heap.size ≤ q → B9 q := fun q h => by rw [← hAe]; exact Or.inr h
  clear hAe
  have hS : va_S B9 s.heap s.heap [] := va_S.rf
  have hl := lv_entry ([.long k0]) (n := 3) (Nat.le_of_ble_eq_true rfl)
  rw [lg_entry_eq]
  generalize (lg_sl ([.long k0]) ++ List.replicate (3 - (lg_sl ([.long k0])).length) Slot.unset).toArray = ls at hl ⊢
  have hl : lv_has ls 3 [(0, .long k0)] := hl
  have blk25 : ∀ (X : Nat → Int32) (Y : Nat → Int64) (s0 : Int32) (ls : Array Slot) (H : Heap) (locs : List Loc), f_Jl_numberOfTrailingZeros_25 X Y s0 = some r → lv_has ls 3 [(0, .long (Y 0)), (2, .int (X 2))] → va_P (dC, dI) vwCl [] H → va_D B9 [] → va_S B9 s.heap H locs → W p l e (headSpec w_Jl_numberOfTrailingZeros ({ frames := 1, cells := 0, slots := 0, locals := 21 })).room s m ([.long k0] : List Value).toArray below meth c H locs 0 0 (MQ below (va_Qi (fun (r9 : Int32) (_ : Unit) => r9 = r) (fun (_ : Unit) t => va_P (dC, dI) vwCl [] t.heap ∧ va_K (dC, dI) vwCl [] t ∧ va_D B9 []) B9) ([.long k0] : List Value).toArray s 0 0 B9) (F0 m 25 ls [.int s0]) := by
    intro X Y s0 ls H locs hf hl hP hD hS
    unfold f_Jl_numberOfTrailingZeros_25 at hf
    have e0 := Option.some.inj hf
    subst e0
    exact W.iret (v := s0) hx hb hr (fun t ht hW => ⟨⟨s0, (), rfl, rfl, by rw [ht]; exact hP, va_K.moved hW.alike hK, hD⟩, hS.F ht⟩) hS.2.2 d_Jl_numberOfTrailingZeros_25
  unfold f_Jl_numberOfTrailingZeros at hf
  refine lv_lload_n hx hb d_Jl_numberOfTrailingZeros_0 rfl (lv_at hl 0 rfl) ?_
  refine lv_l2i hx hb d_Jl_numberOfTrailingZeros_1 rfl ?_
  refine lv_istore_n (lv' := [(2, .int (k0).toInt32), (0, .long k0)]) hx hb d_Jl_numberOfTrailingZeros_2 rfl hl (by decide) rfl (fun ls hl => ?_)
  have hl : lv_has ls 3 [(2, .int (k0).toInt32), (0, .long k0)] := hl
  refine lv_iload_n hx hb d_Jl_numberOfTrailingZeros_3 rfl (lv_at hl 0 rfl) ?_
  refine lv_if_ne (tgt := 21) hx hb d_Jl_numberOfTrailingZeros_4 (by decide) (fun hc1 => ?_) (fun hc1 => ?_)
  ·
    have hf := wk_iff hc1 hf
    refine lv_iload_n hx hb d_Jl_numberOfTrailingZeros_21 rfl (lv_at hl 0 rfl) ?_
    have hPc := hP.sub (ws' := []) [] rfl
    have hDc := hD.sub (ws' := []) [] (by decide) rfl
    have hKc := hK.sub (tys' := []) [] rfl
    have hFc := va_free (wc := []) hD hS hA [] rfl
    cases hg1 : f_Ji_numberOfTrailingZeros (k0).toInt32 with
    | none => rw [hg1] at hf; cases hf
    | some z1 =>
      rw [hg1] at hf
      dsimp only [Option.bind_some] at hf
      refine va_calli (va_runS (As := [.int (k0).toInt32]) (rest := []) ⟨hx, hb, hml, hown, hts⟩ (cm_Ji_numberOfTrailingZeros l dC dI  _  (k0).toInt32 z1  hg1) (va_cwS 1 hts (gd_t lk_247 lk_248 lk_249 lk_246) rfl rfl rfl (by decide +kernel) ⟨Nat.le_of_ble_eq_true rfl, Nat.le_of_ble_eq_true rfl⟩) ⟨fun a U g mk q => by obtain ⟨q0, q1, qP, qK, qD⟩ := q; exact ⟨q0, q1, qP, va_K.moved (u := U) (U := U.calling g mk a) (Vm.Alike.refl U.vm) qK, qD⟩, fun U hU hW => ⟨rfl, by rw [hU], by rw [hU]; exact hPc, va_K.moved hW.alike hKc, hDc.weaken (fun _ _ _ _ => trivial)⟩⟩ rfl rfl hl.1 rfl (lv_room (Nat.le_of_ble_eq_true rfl)) d_Jl_numberOfTrailingZeros_22 ⟨Nat.le_of_ble_eq_true rfl, Nat.le_of_ble_eq_true rfl⟩) hS (fun q _ h => hFc q h) hFc (fun r9 u t H1 locs ht hvm hw hB hz1 hk1 hS => ?_)
      obtain ⟨hP1, hK1, hD1⟩ := hB
      rw [ht] at hP1
      rw [hw]
      obtain ⟨hP, hD⟩ := va_join (wr := (([] : List Nat).map (fun i => ([]).getD i (0, .inr (0, []))))) (w1 := []) hP hD [] [] rfl rfl (by decide) (by decide) hk1 hFc hP1 hD1
      generalize H1 = H at hP hS ⊢
      have hP := hP.sub (ws' := []) [] rfl
      have hD := hD.sub (ws' := []) [] (by decide) rfl
      exact blk25 (upd (fun _ => 0) 2 (k0).toInt32) (vp_updL (fun _ => 0) 0 k0) z1 _ _ _ hf (lv_sub hl [1, 0] rfl) hP hD hS
  ·
    have hf := wk_ift hc1 hf
    refine lv_bipush (v := 32) hx hb d_Jl_numberOfTrailingZeros_7 (by decide) ?_
    refine lv_lload_n hx hb d_Jl_numberOfTrailingZeros_9 rfl (lv_at hl 1 rfl) ?_
    refine lv_bipush (v := 32) hx hb d_Jl_numberOfTrailingZeros_10 (by decide) ?_
    refine lv_lushr hx hb d_Jl_numberOfTrailingZeros_12 rfl ?_
    refine lv_l2i hx hb d_Jl_numberOfTrailingZeros_13 rfl ?_
    have hPc := hP.sub (ws' := []) [] rfl
    have hDc := hD.sub (ws' := []) [] (by decide) rfl
    have hKc := hK.sub (tys' := []) [] rfl
    have hFc := va_free (wc := []) hD hS hA [] rfl
    cases hg1 : f_Ji_numberOfTrailingZeros (((k0).toUInt64 >>> (((32 : Int32)).toInt64.toUInt64 &&& Int64.toUInt64 63)).toInt64).toInt32 with
    | none => rw [hg1] at hf; cases hf
    | some z1 =>
      rw [hg1] at hf
      dsimp only [Option.bind_some] at hf
      refine va_calli (va_runS (As := [.int (((k0).toUInt64 >>> (((32 : Int32)).toInt64.toUInt64 &&& Int64.toUInt64 63)).toInt64).toInt32]) (rest := [.int 32]) ⟨hx, hb, hml, hown, hts⟩ (cm_Ji_numberOfTrailingZeros l dC dI  _  (((k0).toUInt64 >>> (((32 : Int32)).toInt64.toUInt64 &&& Int64.toUInt64 63)).toInt64).toInt32 z1  hg1) (va_cwS 1 hts (gd_t lk_247 lk_248 lk_249 lk_246) rfl rfl rfl (by decide +kernel) ⟨Nat.le_of_ble_eq_true rfl, Nat.le_of_ble_eq_true rfl⟩) ⟨fun a U g mk q => by obtain ⟨q0, q1, qP, qK, qD⟩ := q; exact ⟨q0, q1, qP, va_K.moved (u := U) (U := U.calling g mk a) (Vm.Alike.refl U.vm) qK, qD⟩, fun U hU hW => ⟨rfl, by rw [hU], by rw [hU]; exact hPc, va_K.moved hW.alike hKc, hDc.weaken (fun _ _ _ _ => trivial)⟩⟩ rfl rfl hl.1 rfl (lv_room (Nat.le_of_ble_eq_true rfl)) d_Jl_numberOfTrailingZeros_14 ⟨Nat.le_of_ble_eq_true rfl, Nat.le_of_ble_eq_true rfl⟩) hS (fun q _ h => hFc q h) hFc (fun r9 u t H1 locs ht hvm hw hB hz1 hk1 hS => ?_)
      obtain ⟨hP1, hK1, hD1⟩ := hB
      rw [ht] at hP1
      rw [hw]
      obtain ⟨hP, hD⟩ := va_join (wr := (([] : List Nat).map (fun i => ([]).getD i (0, .inr (0, []))))) (w1 := []) hP hD [] [] rfl rfl (by decide) (by decide) hk1 hFc hP1 hD1
      generalize H1 = H at hP hS ⊢
      have hP := hP.sub (ws' := []) [] rfl
      have hD := hD.sub (ws' := []) [] (by decide) rfl
      refine lv_iadd hx hb d_Jl_numberOfTrailingZeros_17 ?_
      refine lv_goto (tgt := 25) hx hb d_Jl_numberOfTrailingZeros_18 (by decide) ?_
      exact blk25 (upd (fun _ => 0) 2 (k0).toInt32) (vp_updL (fun _ => 0) 0 k0) (32 + z1) _ _ _ hf (lv_sub hl [1, 0] rfl) hP hD hS

set_option maxHeartbeats 8000000 in
set_option maxRecDepth 100000 in
theorem cm_A_takes (l : Launch) (dC : Nat → ClassId) (dI : Nat → Nat → Nat) (h : Nat) (q : Nat → Nat) (g : Nat → ClassId) (sz : Nat) (I : MI) (A : MA) (L : ML) (k1 : Int32) (k2 : Int32) (r : Int32) (I' : MI) (A' : MA) (L' : ML) (hf : f_A_takes I A L  k1 k2 = some (r, I', A', L')) : Met l y_A_takes w_A_takes ({ frames := 0, cells := 0, slots := 0, locals := 0 }) (va_Pc [.ref h, .int k1, .int k2] (fun U => U.heap.size = sz ∧ va_P (dC, dI) vwCl (aw_W h q g I A L) U.heap ∧ va_K (dC, dI) vwCl (aw_T h q g) U ∧ va_D (fun _ => True) (aw_W h q g I A L))) (va_Qi (fun (r9 : Int32) (_ : Unit) => r9 = r) (fun (_ : Unit) t => va_P (dC, dI) vwCl (aw_W h q g I' A' L') t.heap ∧ va_K (dC, dI) vwCl (aw_T h q g) t ∧ va_D (va_A (aw_W h q g I A L) sz) (aw_W h q g I' A' L')) (va_A (aw_W h q g I A L) sz)) 0 0 (va_A (aw_W h q g I A L) sz) := by
  refine Met.ofW (cc := prog_2_method_8_code) (maxL := 5) (ret := (some .boolean)) (by decide) rfl ?_
  intro p e s m args below meth c s₁ B hml hv
  obtain ⟨rfl, hsz, hP, hK, hD0⟩ := hv
  have hx := B.exec
  have hb := B.bytes
  have hr := B.returns
  have hts := atoms_spec (ws := w_A_takes) B.pre
  have hown : s.vm.findClass "DraftTree$Automaton" = some m.cls := findClass_of_methodNamed B.named
  have hlocks := B.notSynchronized
  subst hsz
  have hD := hD0.self (sz := s.heap.size)
  generalize hAe : va_A (aw_W h q g I A L) s.heap.size = B9 at hD ⊢
  have hA : ∀ q : Nat, s.heap.size ≤ q → B9 q := fun q h => by rw [← hAe]; exact Or.inr h
  clear hAe
  have hS : va_S B9 s.heap s.heap [] := va_S.rf
  have hl := lv_entry ([.ref h, .int k1, .int k2]) (n := 5) (Nat.le_of_ble_eq_true rfl)
  rw [lg_entry_eq]
  generalize (lg_sl ([.ref h, .int k1, .int k2]) ++ List.replicate (5 - (lg_sl ([.ref h, .int k1, .int k2])).length) Slot.unset).toArray = ls at hl ⊢
  have hl : lv_has ls 5 [(0, .ref h), (1, .int k1), (2, .int k2)] := hl
  have blk40 : ∀ (I : MI) (A : MA) (L : ML) (X : Nat → Int32) (Y : Nat → Int64) (s0 : Int32) (ls : Array Slot) (H : Heap) (locs : List Loc), f_A_takes_40 I A L X Y s0 = some (r, I', A', L') → lv_has ls 5 [(0, .ref h), (1, .int (X 1)), (2, .int (X 2)), (3, .long (Y 3))] → va_P (dC, dI) vwCl (aw_W h q g I A L) H → va_D B9 (aw_W h q g I A L) → va_S B9 s.heap H locs → W p l e (headSpec w_A_takes ({ frames := 0, cells := 0, slots := 0, locals := 0 })).room s m ([.ref h, .int k1, .int k2] : List Value).toArray below meth c H locs 0 0 (MQ below (va_Qi (fun (r9 : Int32) (_ : Unit) => r9 = r) (fun (_ : Unit) t => va_P (dC, dI) vwCl (aw_W h q g I' A' L') t.heap ∧ va_K (dC, dI) vwCl (aw_T h q g) t ∧ va_D B9 (aw_W h q g I' A' L')) B9) ([.ref h, .int k1, .int k2] : List Value).toArray s 0 0 B9) (F0 m 40 ls [.int s0]) := by
    intro I A L X Y s0 ls H locs hf hl hP hD hS
    unfold f_A_takes_40 at hf
    obtain ⟨hn9, hf⟩ := wk_if hf
    obtain ⟨e0, e1, e2, e3⟩ := wk_inj3 hf
    subst e0
    subst e1
    subst e2
    subst e3
    exact W.zret (v := s0) hx hb hr (congrArg Value.int hn9) (fun t ht hW => ⟨⟨s0, (), rfl, rfl, by rw [ht]; exact hP, va_K.moved hW.alike hK, hD⟩, hS.F ht⟩) hS.2.2 d_A_takes_40
  have blk21 : ∀ (I : MI) (A : MA) (L : ML) (X : Nat → Int32) (Y : Nat → Int64) (s0 : Int64) (ls : Array Slot) (H : Heap) (locs : List Loc), f_A_takes_21 I A L X Y s0 = some (r, I', A', L') → lv_has ls 5 [(0, .ref h), (1, .int (X 1)), (2, .int (X 2))] → va_P (dC, dI) vwCl (aw_W h q g I A L) H → va_D B9 (aw_W h q g I A L) → va_S B9 s.heap H locs → W p l e (headSpec w_A_takes ({ frames := 0, cells := 0, slots := 0, locals := 0 })).room s m ([.ref h, .int k1, .int k2] : List Value).toArray below meth c H locs 0 0 (MQ below (va_Qi (fun (r9 : Int32) (_ : Unit) => r9 = r) (fun (_ : Unit) t => va_P (dC, dI) vwCl (aw_W h q g I' A' L') t.heap ∧ va_K (dC, dI) vwCl (aw_T h q g) t ∧ va_D B9 (aw_W h q g I' A' L')) B9) ([.ref h, .int k1, .int k2] : List Value).toArray s 0 0 B9) (F0 m 21 ls [.long s0]) := by
    intro I A L X Y s0 ls H locs hf hl hP hD hS
    unfold f_A_takes_21 at hf
    refine lv_lstore_n (lv' := [(3, .long s0), (0, .ref h), (1, .int (X 1)), (2, .int (X 2))]) hx hb d_A_takes_21 rfl hl (by decide) rfl (fun ls hl => ?_)
    have hl : lv_has ls 5 [(3, .long s0), (0, .ref h), (1, .int (X 1)), (2, .int (X 2))] := hl
    refine lv_lload_n hx hb d_A_takes_22 rfl (lv_at hl 0 rfl) ?_
    refine lv_iload_n hx hb d_A_takes_23 rfl (lv_at hl 3 rfl) ?_
    refine lv_bipush (v := 63) hx hb d_A_takes_24 (by decide) ?_
    refine lv_iand hx hb d_A_takes_26 ?_
    refine lv_lushr hx hb d_A_takes_27 rfl ?_
    refine lv_lconst (v := 1) hx hb d_A_takes_28 (by decide) ?_
    refine lv_land hx hb d_A_takes_29 ?_
    refine lv_lconst (v := 0) hx hb d_A_takes_30 (by decide) ?_
    refine W.lcmp hx hb d_A_takes_31 ?_
    refine lv_if_eq (tgt := 39) hx hb d_A_takes_32 (by decide) (fun hc1 => ?_) (fun hc1 => ?_)
    ·
      have hf := wk_ift hc1 hf
      refine lv_iconst (v := 0) hx hb d_A_takes_39 (by decide) ?_
      exact blk40 I A L X (vp_updL Y 3 s0) 0 _ _ _ hf (lv_sub hl [1, 2, 3, 0] rfl) hP hD hS
    ·
      have hf := wk_iff hc1 hf
      refine lv_iconst (v := 1) hx hb d_A_takes_35 (by decide) ?_
      refine lv_goto (tgt := 40) hx hb d_A_takes_36 (by decide) ?_
      exact blk40 I A L X (vp_updL Y 3 s0) 1 _ _ _ hf (lv_sub hl [1, 2, 3, 0] rfl) hP hD hS
  unfold f_A_takes at hf
  refine lv_iload_n hx hb d_A_takes_0 rfl (lv_at hl 2 rfl) ?_
  refine lv_bipush (v := 64) hx hb d_A_takes_1 (by decide) ?_
  refine lv_icmp_ge (tgt := 15) hx hb d_A_takes_3 (by decide) (fun hc1 => ?_) (fun hc1 => ?_)
  ·
    have hf := wk_ift hc1 hf
    refine lv_aload_n hx hb d_A_takes_15 rfl (lv_at hl 0 rfl) ?_
    refine va_get (D := (dC, dI)) (ci := 3) (v := .ref (q 4)) (C := R_A) (T := F_A) (N := 10) hx hb hts (fun w h => List.mem_cons_of_mem _ (in_A w h)) hown hK hP 0 rfl rfl 4 (by decide) (hts _ (List.mem_cons_of_mem _ lk_242)) (fun _ h9 => h9) rfl d_A_takes_16 ?_
    refine lv_iload_n hx hb d_A_takes_19 rfl (lv_at hl 1 rfl) ?_
    obtain ⟨hc2, hf⟩ := wk_if hf
    refine va_lald hx hb hK hP 5 4 rfl rfl (wk_inb_ok hc2) d_A_takes_20 ?_
    exact blk21 I A L (upd (upd (fun _ => 0) 1 k1) 2 k2) (fun _ => 0) (L 4 (k1).toNatClampNeg) _ _ _ hf (lv_sub hl [0, 1, 2] rfl) hP hD hS
  ·
    have hf := wk_iff hc1 hf
    refine lv_aload_n hx hb d_A_takes_6 rfl (lv_at hl 0 rfl) ?_
    refine va_get (D := (dC, dI)) (ci := 3) (v := .ref (q 3)) (C := R_A) (T := F_A) (N := 10) hx hb hts (fun w h => List.mem_cons_of_mem _ (in_A w h)) hown hK hP 0 rfl rfl 3 (by decide) (hts _ (List.mem_cons_of_mem _ lk_241)) (fun _ h9 => h9) rfl d_A_takes_7 ?_
    refine lv_iload_n hx hb d_A_takes_10 rfl (lv_at hl 1 rfl) ?_
    obtain ⟨hc2, hf⟩ := wk_if hf
    refine va_lald hx hb hK hP 4 3 rfl rfl (wk_inb_ok hc2) d_A_takes_11 ?_
    refine lv_goto (tgt := 21) hx hb d_A_takes_12 (by decide) ?_
    exact blk21 I A L (upd (upd (fun _ => 0) 1 k1) 2 k2) (fun _ => 0) (L 3 (k1).toNatClampNeg) _ _ _ hf (lv_sub hl [0, 1, 2] rfl) hP hD hS

set_option maxHeartbeats 8000000 in
set_option maxRecDepth 100000 in
theorem cm_A_consume (l : Launch) (dC : Nat → ClassId) (dI : Nat → Nat → Nat) (h : Nat) (q : Nat → Nat) (g : Nat → ClassId) (sz : Nat) (I : MI) (A : MA) (L : ML) (k1 : Int64) (k3 : Int32) (r : Int64) (I' : MI) (A' : MA) (L' : ML) (hf : f_A_consume I A L  k1 k3 = some (r, I', A', L')) : Met l y_A_consume w_A_consume ({ frames := 2, cells := 0, slots := 0, locals := 43 }) (va_Pc [.ref h, .long k1, .int k3] (fun U => U.heap.size = sz ∧ va_P (dC, dI) vwCl (aw_W h q g I A L) U.heap ∧ va_K (dC, dI) vwCl (aw_T h q g) U ∧ va_D (fun _ => True) (aw_W h q g I A L))) (va_Ql (fun (r9 : Int64) (_ : Unit) => r9 = r) (fun (_ : Unit) t => va_P (dC, dI) vwCl (aw_W h q g I' A' L') t.heap ∧ va_K (dC, dI) vwCl (aw_T h q g) t ∧ va_D (va_A (aw_W h q g I A L) sz) (aw_W h q g I' A' L')) (va_A (aw_W h q g I A L) sz)) 0 0 (va_A (aw_W h q g I A L) sz) := by
  refine Met.ofW (cc := prog_2_method_7_code) (maxL := 10) (ret := (some .long)) (by decide) rfl ?_
  intro p e s m args below meth c s₁ B hml hv
  obtain ⟨rfl, hsz, hP, hK, hD0⟩ := hv
  have hx := B.exec
  have hb := B.bytes
  have hr := B.returns
  have hts := atoms_spec (ws := w_A_consume) B.pre
  have hown : s.vm.findClass "DraftTree$Automaton" = some m.cls := findClass_of_methodNamed B.named
  have hlocks := B.notSynchronized
  subst hsz
  have hD := hD0.self (sz := s.heap.size)
  generalize hAe : va_A (aw_W h q g I A L) s.heap.size = B9 at hD ⊢
  have hA : ∀ q : Nat, s.heap.size ≤ q → B9 q := fun q h => by rw [← hAe]; exact Or.inr h
  clear hAe
  have hS : va_S B9 s.heap s.heap [] := va_S.rf
  have hl := lv_entry ([.ref h, .long k1, .int k3]) (n := 10) (Nat.le_of_ble_eq_true rfl)
  rw [lg_entry_eq]
  generalize (lg_sl ([.ref h, .long k1, .int k3]) ++ List.replicate (10 - (lg_sl ([.ref h, .long k1, .int k3])).length) Slot.unset).toArray = ls at hl ⊢
  have hl : lv_has ls 10 [(0, .ref h), (1, .long k1), (3, .int k3)] := hl
  have blk83 : ∀ (rc : Nat → MI → MA → ML → (Nat → Int32) → (Nat → Int64) → Option (Int64 × MI × MA × ML)) (hrc9 : ∀ (I : MI) (A : MA) (L : ML) (X : Nat → Int32) (Y : Nat → Int64) (ls : Array Slot) (H : Heap) (locs : List Loc), rc 9 I A L X Y = some (r, I', A', L') → lv_has ls 10 [(0, .ref h), (1, .long (Y 1)), (3, .int (X 3)), (4, .long (Y 4)), (6, .long (Y 6)), (8, .int (X 8))] → va_P (dC, dI) vwCl (aw_W h q g I A L) H → va_D B9 (aw_W h q g I A L) → va_S B9 s.heap H locs → W p l e (headSpec w_A_consume ({ frames := 2, cells := 0, slots := 0, locals := 43 })).room s m ([.ref h, .long k1, .int k3] : List Value).toArray below meth c H locs 0 0 (MQ below (va_Ql (fun (r9 : Int64) (_ : Unit) => r9 = r) (fun (_ : Unit) t => va_P (dC, dI) vwCl (aw_W h q g I' A' L') t.heap ∧ va_K (dC, dI) vwCl (aw_T h q g) t ∧ va_D B9 (aw_W h q g I' A' L')) B9) ([.ref h, .long k1, .int k3] : List Value).toArray s 0 0 B9) (F0 m 9 ls [])), ∀ (I : MI) (A : MA) (L : ML) (X : Nat → Int32) (Y : Nat → Int64) (ls : Array Slot) (H : Heap) (locs : List Loc), f_A_consume_83 rc I A L X Y = some (r, I', A', L') → lv_has ls 10 [(0, .ref h), (1, .long (Y 1)), (3, .int (X 3)), (4, .long (Y 4)), (6, .long (Y 6)), (8, .int (X 8))] → va_P (dC, dI) vwCl (aw_W h q g I A L) H → va_D B9 (aw_W h q g I A L) → va_S B9 s.heap H locs → W p l e (headSpec w_A_consume ({ frames := 2, cells := 0, slots := 0, locals := 43 })).room s m ([.ref h, .long k1, .int k3] : List Value).toArray below meth c H locs 0 0 (MQ below (va_Ql (fun (r9 : Int64) (_ : Unit) => r9 = r) (fun (_ : Unit) t => va_P (dC, dI) vwCl (aw_W h q g I' A' L') t.heap ∧ va_K (dC, dI) vwCl (aw_T h q g) t ∧ va_D B9 (aw_W h q g I' A' L')) B9) ([.ref h, .long k1, .int k3] : List Value).toArray s 0 0 B9) (F0 m 83 ls []) := by
    intro rc hrc9 I A L X Y ls H locs hf hl hP hD hS
    unfold f_A_consume_83 at hf
    refine lv_lload hx hb d_A_consume_83 (lv_at hl 3 rfl) ?_
    obtain ⟨e0, e1, e2, e3⟩ := wk_inj3 hf
    subst e0
    subst e1
    subst e2
    subst e3
    exact W.lret (v := (Y 4)) hx hb hr (fun t ht hW => ⟨⟨(Y 4), (), rfl, rfl, by rw [ht]; exact hP, va_K.moved hW.alike hK, hD⟩, hS.F ht⟩) hS.2.2 d_A_consume_85
  have blk77 : ∀ (rc : Nat → MI → MA → ML → (Nat → Int32) → (Nat → Int64) → Option (Int64 × MI × MA × ML)) (hrc9 : ∀ (I : MI) (A : MA) (L : ML) (X : Nat → Int32) (Y : Nat → Int64) (ls : Array Slot) (H : Heap) (locs : List Loc), rc 9 I A L X Y = some (r, I', A', L') → lv_has ls 10 [(0, .ref h), (1, .long (Y 1)), (3, .int (X 3)), (4, .long (Y 4)), (6, .long (Y 6)), (8, .int (X 8))] → va_P (dC, dI) vwCl (aw_W h q g I A L) H → va_D B9 (aw_W h q g I A L) → va_S B9 s.heap H locs → W p l e (headSpec w_A_consume ({ frames := 2, cells := 0, slots := 0, locals := 43 })).room s m ([.ref h, .long k1, .int k3] : List Value).toArray below meth c H locs 0 0 (MQ below (va_Ql (fun (r9 : Int64) (_ : Unit) => r9 = r) (fun (_ : Unit) t => va_P (dC, dI) vwCl (aw_W h q g I' A' L') t.heap ∧ va_K (dC, dI) vwCl (aw_T h q g) t ∧ va_D B9 (aw_W h q g I' A' L')) B9) ([.ref h, .long k1, .int k3] : List Value).toArray s 0 0 B9) (F0 m 9 ls [])), ∀ (I : MI) (A : MA) (L : ML) (X : Nat → Int32) (Y : Nat → Int64) (ls : Array Slot) (H : Heap) (locs : List Loc), f_A_consume_77 rc I A L X Y = some (r, I', A', L') → lv_has ls 10 [(0, .ref h), (1, .long (Y 1)), (3, .int (X 3)), (4, .long (Y 4)), (6, .long (Y 6)), (8, .int (X 8)), (9, .int (X 9))] → va_P (dC, dI) vwCl (aw_W h q g I A L) H → va_D B9 (aw_W h q g I A L) → va_S B9 s.heap H locs → W p l e (headSpec w_A_consume ({ frames := 2, cells := 0, slots := 0, locals := 43 })).room s m ([.ref h, .long k1, .int k3] : List Value).toArray below meth c H locs 0 0 (MQ below (va_Ql (fun (r9 : Int64) (_ : Unit) => r9 = r) (fun (_ : Unit) t => va_P (dC, dI) vwCl (aw_W h q g I' A' L') t.heap ∧ va_K (dC, dI) vwCl (aw_T h q g) t ∧ va_D B9 (aw_W h q g I' A' L')) B9) ([.ref h, .long k1, .int k3] : List Value).toArray s 0 0 B9) (F0 m 77 ls []) := by
    intro rc hrc9 I A L X Y ls H locs hf hl hP hD hS
    unfold f_A_consume_77 at hf
    refine lv_iinc (k := 5) (v := ((X 8) + 1)) (lv' := [(8, .int ((X 8) + 1)), (0, .ref h), (1, .long (Y 1)), (3, .int (X 3)), (4, .long (Y 4)), (6, .long (Y 6)), (9, .int (X 9))]) hx hb d_A_consume_77 hl rfl (wk_inc (by decide)) (by decide) rfl (fun ls hl => ?_)
    have hl : lv_has ls 10 [(8, .int ((X 8) + 1)), (0, .ref h), (1, .long (Y 1)), (3, .int (X 3)), (4, .long (Y 4)), (6, .long (Y 6)), (9, .int (X 9))] := hl
    refine lv_goto (tgt := 9) hx hb d_A_consume_80 (by decide) ?_
    exact hrc9 I A L (upd X 8 ((X 8) + 1)) Y _ _ _ hf (lv_sub hl [1, 2, 3, 4, 5, 0] rfl) hP hD hS
  have stp9 : ∀ (rc : Nat → MI → MA → ML → (Nat → Int32) → (Nat → Int64) → Option (Int64 × MI × MA × ML)) (hrc9 : ∀ (I : MI) (A : MA) (L : ML) (X : Nat → Int32) (Y : Nat → Int64) (ls : Array Slot) (H : Heap) (locs : List Loc), rc 9 I A L X Y = some (r, I', A', L') → lv_has ls 10 [(0, .ref h), (1, .long (Y 1)), (3, .int (X 3)), (4, .long (Y 4)), (6, .long (Y 6)), (8, .int (X 8))] → va_P (dC, dI) vwCl (aw_W h q g I A L) H → va_D B9 (aw_W h q g I A L) → va_S B9 s.heap H locs → W p l e (headSpec w_A_consume ({ frames := 2, cells := 0, slots := 0, locals := 43 })).room s m ([.ref h, .long k1, .int k3] : List Value).toArray below meth c H locs 0 0 (MQ below (va_Ql (fun (r9 : Int64) (_ : Unit) => r9 = r) (fun (_ : Unit) t => va_P (dC, dI) vwCl (aw_W h q g I' A' L') t.heap ∧ va_K (dC, dI) vwCl (aw_T h q g) t ∧ va_D B9 (aw_W h q g I' A' L')) B9) ([.ref h, .long k1, .int k3] : List Value).toArray s 0 0 B9) (F0 m 9 ls [])), ∀ (I : MI) (A : MA) (L : ML) (X : Nat → Int32) (Y : Nat → Int64) (ls : Array Slot) (H : Heap) (locs : List Loc), f_A_consume_9 rc I A L X Y = some (r, I', A', L') → lv_has ls 10 [(0, .ref h), (1, .long (Y 1)), (3, .int (X 3)), (4, .long (Y 4)), (6, .long (Y 6)), (8, .int (X 8))] → va_P (dC, dI) vwCl (aw_W h q g I A L) H → va_D B9 (aw_W h q g I A L) → va_S B9 s.heap H locs → W p l e (headSpec w_A_consume ({ frames := 2, cells := 0, slots := 0, locals := 43 })).room s m ([.ref h, .long k1, .int k3] : List Value).toArray below meth c H locs 0 0 (MQ below (va_Ql (fun (r9 : Int64) (_ : Unit) => r9 = r) (fun (_ : Unit) t => va_P (dC, dI) vwCl (aw_W h q g I' A' L') t.heap ∧ va_K (dC, dI) vwCl (aw_T h q g) t ∧ va_D B9 (aw_W h q g I' A' L')) B9) ([.ref h, .long k1, .int k3] : List Value).toArray s 0 0 B9) (F0 m 9 ls []) := by
    intro rc hrc9 I A L X Y ls H locs hf hl hP hD hS
    unfold f_A_consume_9 at hf
    refine lv_iload hx hb d_A_consume_9 (lv_at hl 5 rfl) ?_
    refine lv_aload_n hx hb d_A_consume_11 rfl (lv_at hl 0 rfl) ?_
    refine va_get (D := (dC, dI)) (ci := 3) (v := .int (I 5)) (C := R_A) (T := F_A) (N := 10) hx hb hts (fun w h => List.mem_cons_of_mem _ (in_A w h)) hown hK hP 0 rfl rfl 5 (by decide) (hts _ (List.mem_cons_of_mem _ lk_237)) (fun _ h9 => h9) rfl d_A_consume_12 ?_
    refine lv_icmp_ge (tgt := 83) hx hb d_A_consume_15 (by decide) (fun hc1 => ?_) (fun hc1 => ?_)
    ·
      have hf := wk_ift hc1 hf
      exact blk83 rc hrc9 I A L X Y _ _ _ hf (lv_sub hl [0, 1, 2, 3, 4, 5] rfl) hP hD hS
    ·
      have hf := wk_iff hc1 hf
      refine lv_lload hx hb d_A_consume_18 (lv_at hl 4 rfl) ?_
      refine lv_lconst (v := 0) hx hb d_A_consume_20 (by decide) ?_
      refine W.lcmp hx hb d_A_consume_21 ?_
      refine lv_if_eq (tgt := 83) hx hb d_A_consume_22 (by decide) (fun hc2 => ?_) (fun hc2 => ?_)
      ·
        have hf := wk_ift hc2 hf
        exact blk83 rc hrc9 I A L X Y _ _ _ hf (lv_sub hl [0, 1, 2, 3, 4, 5] rfl) hP hD hS
      ·
        have hf := wk_iff hc2 hf
        refine lv_lload hx hb d_A_consume_25 (lv_at hl 4 rfl) ?_
        have hPc := hP.sub (ws' := []) [] rfl
        have hDc := hD.sub (ws' := []) [] (by decide) rfl
        have hKc := hK.sub (tys' := []) [] rfl
        have hFc := va_free (wc := []) hD hS hA [] rfl
        cases hg1 : f_Jl_numberOfTrailingZeros (Y 6) with
        | none => rw [hg1] at hf; cases hf
        | some z1 =>
          rw [hg1] at hf
          dsimp only [Option.bind_some] at hf
          refine va_calli (va_runS (As := [.long (Y 6)]) (rest := []) ⟨hx, hb, hml, hown, hts⟩ (cm_Jl_numberOfTrailingZeros l dC dI  _  (Y 6) z1  hg1) (va_cwS 1 hts (gd_t lk_251 lk_252 lk_253 lk_250) rfl rfl rfl (by decide +kernel) ⟨Nat.le_of_ble_eq_true rfl, Nat.le_of_ble_eq_true rfl⟩) ⟨fun a U g mk q => by obtain ⟨q0, q1, qP, qK, qD⟩ := q; exact ⟨q0, q1, qP, va_K.moved (u := U) (U := U.calling g mk a) (Vm.Alike.refl U.vm) qK, qD⟩, fun U hU hW => ⟨rfl, by rw [hU], by rw [hU]; exact hPc, va_K.moved hW.alike hKc, hDc.weaken (fun _ _ _ _ => trivial)⟩⟩ rfl rfl hl.1 rfl (lv_room (Nat.le_of_ble_eq_true rfl)) d_A_consume_27 ⟨Nat.le_of_ble_eq_true rfl, Nat.le_of_ble_eq_true rfl⟩) hS (fun q _ h => hFc q h) hFc (fun r9 u t H1 locs ht hvm hw hB hz1 hk1 hS => ?_)
          obtain ⟨hP1, hK1, hD1⟩ := hB
          rw [ht] at hP1
          rw [hw]
          obtain ⟨hP, hD⟩ := va_join (wr := (([0, 1, 2, 3, 4, 5] : List Nat).map (fun i => ((aw_W h q g I A L)).getD i (0, .inr (0, []))))) (w1 := []) hP hD [] [0, 1, 2, 3, 4, 5] rfl rfl (by decide) (by decide) hk1 hFc hP1 hD1
          generalize H1 = H at hP hS ⊢
          have hP := hP.sub (ws' := (aw_W h q g I A L)) [0, 1, 2, 3, 4, 5] rfl
          have hD := hD.sub (ws' := (aw_W h q g I A L)) [0, 1, 2, 3, 4, 5] (by decide) rfl
          refine lv_istore (lv' := [(9, .int z1), (0, .ref h), (1, .long (Y 1)), (3, .int (X 3)), (4, .long (Y 4)), (6, .long (Y 6)), (8, .int (X 8))]) hx hb d_A_consume_30 hl (by decide) rfl (fun ls hl => ?_)
          have hl : lv_has ls 10 [(9, .int z1), (0, .ref h), (1, .long (Y 1)), (3, .int (X 3)), (4, .long (Y 4)), (6, .long (Y 6)), (8, .int (X 8))] := hl
          refine lv_lload hx hb d_A_consume_32 (lv_at hl 5 rfl) ?_
          refine lv_lload hx hb d_A_consume_34 (lv_at hl 5 rfl) ?_
          refine lv_lconst (v := 1) hx hb d_A_consume_36 (by decide) ?_
          refine lv_lsub hx hb d_A_consume_37 ?_
          refine lv_land hx hb d_A_consume_38 ?_
          refine lv_lstore (lv' := [(6, .long ((Y 6) &&& ((Y 6) - 1))), (9, .int z1), (0, .ref h), (1, .long (Y 1)), (3, .int (X 3)), (4, .long (Y 4)), (8, .int (X 8))]) hx hb d_A_consume_39 hl (by decide) rfl (fun ls hl => ?_)
          have hl : lv_has ls 10 [(6, .long ((Y 6) &&& ((Y 6) - 1))), (9, .int z1), (0, .ref h), (1, .long (Y 1)), (3, .int (X 3)), (4, .long (Y 4)), (8, .int (X 8))] := hl
          refine lv_aload_n hx hb d_A_consume_41 rfl (lv_at hl 2 rfl) ?_
          refine va_get (D := (dC, dI)) (ci := 3) (v := .ref (q 0)) (C := R_A) (T := F_A) (N := 10) hx hb hts (fun w h => List.mem_cons_of_mem _ (in_A w h)) hown hK hP 0 rfl rfl 0 (by decide) (hts _ (List.mem_cons_of_mem _ lk_238)) (fun _ h9 => h9) rfl d_A_consume_42 ?_
          refine lv_iload hx hb d_A_consume_45 (lv_at hl 1 rfl) ?_
          obtain ⟨hc3, hf⟩ := wk_if hf
          refine va_iald hx hb hK hP 1 0 rfl rfl (wk_inb_ok hc3) d_A_consume_47 ?_
          refine lv_iconst (v := 1) hx hb d_A_consume_48 (by decide) ?_
          refine lv_icmp_ne (tgt := 77) hx hb d_A_consume_49 (by decide) (fun hc4 => ?_) (fun hc4 => ?_)
          ·
            have hf := wk_iff hc4 hf
            exact blk77 rc hrc9 I A L (upd X 9 z1) (vp_updL Y 6 ((Y 6) &&& ((Y 6) - 1))) _ _ _ hf (lv_sub hl [2, 3, 4, 5, 0, 6, 1] rfl) hP hD hS
          ·
            have hf := wk_ift hc4 hf
            refine lv_aload_n hx hb d_A_consume_52 rfl (lv_at hl 2 rfl) ?_
            refine lv_iload hx hb d_A_consume_53 (lv_at hl 1 rfl) ?_
            refine lv_iload_n hx hb d_A_consume_55 rfl (lv_at hl 4 rfl) ?_
            have hPc := hP.sub (ws' := (aw_W h q g I A L)) [0, 1, 2, 3, 4, 5] rfl
            have hDc := hD.sub (ws' := (aw_W h q g I A L)) [0, 1, 2, 3, 4, 5] (by decide) rfl
            have hKc := hK.sub (tys' := (aw_T h q g)) [0, 1, 2, 3, 4] rfl
            have hFc := va_free (wc := (aw_W h q g I A L)) hD hS hA [0, 1, 2, 3, 4, 5] rfl
            cases hg2 : f_A_takes I A L z1 (X 3) with
            | none => rw [hg2] at hf; cases hf
            | some z2 =>
              obtain ⟨r2, I2, A2, L2⟩ := z2
              rw [hg2] at hf
              dsimp only [Option.bind_some] at hf
              refine va_calli (va_runV (As := [.int z1, .int (X 3)]) (rest := []) ⟨hx, hb, hml, hown, hts⟩ (cm_A_takes l dC dI h q g _  I A L z1 (X 3) r2 I2 A2 L2 hg2) (cwV 2 hts (gd_v lk_255 lk_256 lk_257 lk_258 lk_254) rfl rfl rfl (by decide +kernel) ⟨Nat.le_of_ble_eq_true rfl, Nat.le_of_ble_eq_true rfl⟩) ⟨fun a U g mk q => by obtain ⟨q0, q1, qP, qK, qD⟩ := q; exact ⟨q0, q1, qP, va_K.moved (u := U) (U := U.calling g mk a) (Vm.Alike.refl U.vm) qK, qD⟩, va_recv (ci := 3) (q0 := 0) hK hP rfl rfl, fun U hU hW => ⟨rfl, by rw [hU], by rw [hU]; exact hPc, va_K.moved hW.alike hKc, hDc.weaken (fun _ _ _ _ => trivial)⟩⟩ rfl rfl hl.1 rfl (lv_room (Nat.le_of_ble_eq_true rfl)) d_A_consume_56 ⟨Nat.le_of_ble_eq_true rfl, Nat.le_of_ble_eq_true rfl⟩) hS (fun q _ h => hFc q h) hFc (fun r9 u t H1 locs ht hvm hw hB hz1 hk1 hS => ?_)
              obtain ⟨hP1, hK1, hD1⟩ := hB
              rw [ht] at hP1
              rw [hw]
              obtain ⟨hP, hD⟩ := va_join (wr := (([] : List Nat).map (fun i => ((aw_W h q g I A L)).getD i (0, .inr (0, []))))) (w1 := (aw_W h q g I2 A2 L2)) hP hD [0, 1, 2, 3, 4, 5] [] rfl rfl (by decide) (by decide) hk1 hFc hP1 hD1
              generalize H1 = H at hP hS ⊢
              have hP := hP.sub (ws' := (aw_W h q g I2 A2 L2)) [0, 1, 2, 3, 4, 5] rfl
              have hD := hD.sub (ws' := (aw_W h q g I2 A2 L2)) [0, 1, 2, 3, 4, 5] (by decide) rfl
              refine lv_if_eq (tgt := 77) hx hb d_A_consume_59 (by decide) (fun hc5 => ?_) (fun hc5 => ?_)
              ·
                have hf := wk_ift hc5 hf
                exact blk77 rc hrc9 I2 A2 L2 (upd X 9 z1) (vp_updL Y 6 ((Y 6) &&& ((Y 6) - 1))) _ _ _ hf (lv_sub hl [2, 3, 4, 5, 0, 6, 1] rfl) hP hD hS
              ·
                have hf := wk_iff hc5 hf
                refine lv_lload hx hb d_A_consume_62 (lv_at hl 5 rfl) ?_
                refine lv_aload_n hx hb d_A_consume_64 rfl (lv_at hl 2 rfl) ?_
                refine va_get (D := (dC, dI)) (ci := 3) (v := .ref (q 1)) (C := R_A) (T := F_A) (N := 10) hx hb hts (fun w h => List.mem_cons_of_mem _ (in_A w h)) hown hK hP 0 rfl rfl 1 (by decide) (hts _ (List.mem_cons_of_mem _ lk_239)) (fun _ h9 => h9) rfl d_A_consume_65 ?_
                refine lv_iload hx hb d_A_consume_68 (lv_at hl 1 rfl) ?_
                obtain ⟨hc6, hf⟩ := wk_if hf
                refine va_iald hx hb hK hP 2 1 rfl rfl (wk_inb_ok hc6) d_A_consume_70 ?_
                have hPc := hP.sub (ws' := []) [] rfl
                have hDc := hD.sub (ws' := []) [] (by decide) rfl
                have hKc := hK.sub (tys' := []) [] rfl
                have hFc := va_free (wc := []) hD hS hA [] rfl
                cases hg3 : f_A_asSet (A2 1 (z1).toNatClampNeg) with
                | none => rw [hg3] at hf; cases hf
                | some z3 =>
                  rw [hg3] at hf
                  dsimp only [Option.bind_some] at hf
                  refine va_calll (va_runS (As := [.int (A2 1 (z1).toNatClampNeg)]) (rest := [.long (Y 4)]) ⟨hx, hb, hml, hown, hts⟩ (cm_A_asSet l dC dI  _  (A2 1 (z1).toNatClampNeg) z3  hg3) (va_cwS 1 hts (gd_t lk_259 lk_260 lk_258 lk_244) rfl rfl rfl (by decide +kernel) ⟨Nat.le_of_ble_eq_true rfl, Nat.le_of_ble_eq_true rfl⟩) ⟨fun a U g mk q => by obtain ⟨q0, q1, qP, qK, qD⟩ := q; exact ⟨q0, q1, qP, va_K.moved (u := U) (U := U.calling g mk a) (Vm.Alike.refl U.vm) qK, qD⟩, fun U hU hW => ⟨rfl, by rw [hU], by rw [hU]; exact hPc, va_K.moved hW.alike hKc, hDc.weaken (fun _ _ _ _ => trivial)⟩⟩ rfl rfl hl.1 rfl (lv_room (Nat.le_of_ble_eq_true rfl)) d_A_consume_71 ⟨Nat.le_of_ble_eq_true rfl, Nat.le_of_ble_eq_true rfl⟩) hS (fun q _ h => hFc q h) hFc (fun r9 u t H1 locs ht hvm hw hB hz1 hk1 hS => ?_)
                  obtain ⟨hP1, hK1, hD1⟩ := hB
                  rw [ht] at hP1
                  rw [hw]
                  obtain ⟨hP, hD⟩ := va_join (wr := (([0, 1, 2, 3, 4, 5] : List Nat).map (fun i => ((aw_W h q g I2 A2 L2)).getD i (0, .inr (0, []))))) (w1 := []) hP hD [] [0, 1, 2, 3, 4, 5] rfl rfl (by decide) (by decide) hk1 hFc hP1 hD1
                  generalize H1 = H at hP hS ⊢
                  have hP := hP.sub (ws' := (aw_W h q g I2 A2 L2)) [0, 1, 2, 3, 4, 5] rfl
                  have hD := hD.sub (ws' := (aw_W h q g I2 A2 L2)) [0, 1, 2, 3, 4, 5] (by decide) rfl
                  refine lv_lor hx hb d_A_consume_74 ?_
                  refine lv_lstore (lv' := [(4, .long ((Y 4) ||| z3)), (6, .long ((Y 6) &&& ((Y 6) - 1))), (9, .int z1), (0, .ref h), (1, .long (Y 1)), (3, .int (X 3)), (8, .int (X 8))]) hx hb d_A_consume_75 hl (by decide) rfl (fun ls hl => ?_)
                  have hl : lv_has ls 10 [(4, .long ((Y 4) ||| z3)), (6, .long ((Y 6) &&& ((Y 6) - 1))), (9, .int z1), (0, .ref h), (1, .long (Y 1)), (3, .int (X 3)), (8, .int (X 8))] := hl
                  exact blk77 rc hrc9 I2 A2 L2 (upd X 9 z1) (vp_updL (vp_updL Y 4 ((Y 4) ||| z3)) 6 ((Y 6) &&& ((Y 6) - 1))) _ _ _ hf (lv_sub hl [3, 4, 5, 0, 1, 6, 2] rfl) hP hD hS
  have key : ∀ n : Nat, (∀ (I : MI) (A : MA) (L : ML) (X : Nat → Int32) (Y : Nat → Int64) (ls : Array Slot) (H : Heap) (locs : List Loc), f_A_consume_go n 9 I A L X Y = some (r, I', A', L') → lv_has ls 10 [(0, .ref h), (1, .long (Y 1)), (3, .int (X 3)), (4, .long (Y 4)), (6, .long (Y 6)), (8, .int (X 8))] → va_P (dC, dI) vwCl (aw_W h q g I A L) H → va_D B9 (aw_W h q g I A L) → va_S B9 s.heap H locs → W p l e (headSpec w_A_consume ({ frames := 2, cells := 0, slots := 0, locals := 43 })).room s m ([.ref h, .long k1, .int k3] : List Value).toArray below meth c H locs 0 0 (MQ below (va_Ql (fun (r9 : Int64) (_ : Unit) => r9 = r) (fun (_ : Unit) t => va_P (dC, dI) vwCl (aw_W h q g I' A' L') t.heap ∧ va_K (dC, dI) vwCl (aw_T h q g) t ∧ va_D B9 (aw_W h q g I' A' L')) B9) ([.ref h, .long k1, .int k3] : List Value).toArray s 0 0 B9) (F0 m 9 ls [])) := by
    intro n
    induction n with
    | zero => exact fun I A L X Y ls H locs hf => (by cases hf)
    | succ n ih =>
      have ih9 := ih
      exact stp9 (f_A_consume_go n) ih9
  unfold f_A_consume f_A_consume_e at hf
  have hrc9 := key wk_FUEL
  refine lv_lconst (v := 0) hx hb d_A_consume_0 (by decide) ?_
  refine lv_lstore (lv' := [(4, .long 0), (0, .ref h), (1, .long k1), (3, .int k3)]) hx hb d_A_consume_1 hl (by decide) rfl (fun ls hl => ?_)
  have hl : lv_has ls 10 [(4, .long 0), (0, .ref h), (1, .long k1), (3, .int k3)] := hl
  refine lv_lload_n hx hb d_A_consume_3 rfl (lv_at hl 2 rfl) ?_
  refine lv_lstore (lv' := [(6, .long k1), (4, .long 0), (0, .ref h), (1, .long k1), (3, .int k3)]) hx hb d_A_consume_4 hl (by decide) rfl (fun ls hl => ?_)
  have hl : lv_has ls 10 [(6, .long k1), (4, .long 0), (0, .ref h), (1, .long k1), (3, .int k3)] := hl
  refine lv_iconst (v := 0) hx hb d_A_consume_6 (by decide) ?_
  refine lv_istore (lv' := [(8, .int 0), (6, .long k1), (4, .long 0), (0, .ref h), (1, .long k1), (3, .int k3)]) hx hb d_A_consume_7 hl (by decide) rfl (fun ls hl => ?_)
  have hl : lv_has ls 10 [(8, .int 0), (6, .long k1), (4, .long 0), (0, .ref h), (1, .long k1), (3, .int k3)] := hl
  exact hrc9 I A L (upd (upd (fun _ => 0) 3 k3) 8 0) (vp_updL (vp_updL (vp_updL (fun _ => 0) 1 k1) 4 0) 6 k1) _ _ _ hf (lv_sub hl [3, 4, 5, 2, 1, 0] rfl) hP hD hS

