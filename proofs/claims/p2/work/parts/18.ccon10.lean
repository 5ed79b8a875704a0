set_option maxHeartbeats 8000000 in
set_option maxRecDepth 100000 in
theorem cm_D_length (l : Launch) (dC : Nat → ClassId) (dI : Nat → Nat → Nat) (h : Nat) (q : Nat → Nat) (g : Nat → ClassId) (hp : Nat) (qp : Nat → Nat) (gp : Nat → ClassId) (tq : Nat) (tg : ClassId) (tn : Nat) (tx : Nat → Int32) (sz : Nat) (I : MI) (A : MA) (M : MI) (MB : MA) (L : ML) (r : Int32) (I' : MI) (A' : MA) (M' : MI) (MB' : MA) (L' : ML) (hf : f_D_length tn tx I A M MB L  = some (r, I', A', M', MB', L')) : Met l y_D_length w_D_length ({ frames := 0, cells := 0, slots := 0, locals := 0 }) (va_Pc [.ref h] (fun U => U.heap.size = sz ∧ va_P (dC, dI) vwCl (dw_W h q g hp qp gp tq tg tn tx I A M MB L) U.heap ∧ va_K (dC, dI) vwCl (dw_T h q g hp qp gp tq tg tn tx) U ∧ va_D (fun _ => True) (dw_W h q g hp qp gp tq tg tn tx I A M MB L))) (va_Qi (fun (r9 : Int32) (_ : Unit) => r9 = r) (fun (_ : Unit) t => va_P (dC, dI) vwCl (dw_W h q g hp qp gp tq tg tn tx I' A' M' MB' L') t.heap ∧ va_K (dC, dI) vwCl (dw_T h q g hp qp gp tq tg tn tx) t ∧ va_D (va_A (dw_W h q g hp qp gp tq tg tn tx I A M MB L) sz) (dw_W h q g hp qp gp tq tg tn tx I' A' M' MB' L')) (va_A (dw_W h q g hp qp gp tq tg tn tx I A M MB L) sz)) 0 0 (va_A (dw_W h q g hp qp gp tq tg tn tx I A M MB L) sz) := by
  refine Met.ofW (cc := prog_1_method_14_code) (maxL := 1) (ret := (some .int)) (by decide) rfl ?_
  intro p e s m args below meth c s₁ B hml hv
  obtain ⟨rfl, hsz, hP, hK, hD0⟩ := hv
  have hx := B.exec
  have hb := B.bytes
  have hr := B.returns
  have hts := atoms_spec (ws := w_D_length) B.pre
  have hown : s.vm.findClass "DraftTree" = some m.cls := findClass_of_methodNamed B.named
  have hlocks := B.notSynchronized
  subst hsz
  have hD := hD0.self (sz := s.heap.size)
  generalize hAe : va_A (dw_W h q g hp qp gp tq tg tn tx I A M MB L) s.heap.size = B9 at hD ⊢
  have hA : ∀ q : Nat, s.heap.size ≤ q → B9 q := fun q h => by rw [← hAe]; exact Or.inr h
  clear hAe
  have hS : va_S B9 s.heap s.heap [] := va_S.rf
  have hl := lv_entry ([.ref h]) (n := 1) (Nat.le_of_ble_eq_true rfl)
  rw [lg_entry_eq]
  generalize (lg_sl ([.ref h]) ++ List.replicate (1 - (lg_sl ([.ref h])).length) Slot.unset).toArray = ls at hl ⊢
  have hl : lv_has ls 1 [(0, .ref h)] := hl
  unfold f_D_length at hf
  refine lv_aload_n hx hb d_D_length_0 rfl (lv_at hl 0 rfl) ?_
  refine va_get (D := (dC, dI)) (ci := 0) (v := .ref tq) (C := R_D) (T := F_D) (N := 14) hx hb hts (fun w h => List.mem_cons_of_mem _ (in_D w h)) hown hK hP 0 rfl rfl 5 (by decide) (hts _ (List.mem_cons_of_mem _ lk_241)) (fun _ h9 => h9) rfl d_D_length_1 ?_
  refine va_alen (v := (Int32.ofNat tn)) hx hb hK hP 10 8 rfl rfl rfl d_D_length_4 ?_
  obtain ⟨e0, e1, e2, e3, e4, e5⟩ := wk_inj5 hf
  subst e0
  subst e1
  subst e2
  subst e3
  subst e4
  subst e5
  exact W.iret (v := (Int32.ofNat tn)) hx hb hr (fun t ht hW => ⟨⟨(Int32.ofNat tn), (), rfl, rfl, by rw [ht]; exact hP, va_K.moved hW.alike hK, hD⟩, hS.F ht⟩) hS.2.2 d_D_length_5

set_option maxHeartbeats 8000000 in
set_option maxRecDepth 100000 in
theorem cm_D_lineBegin (l : Launch) (dC : Nat → ClassId) (dI : Nat → Nat → Nat) (h : Nat) (q : Nat → Nat) (g : Nat → ClassId) (hp : Nat) (qp : Nat → Nat) (gp : Nat → ClassId) (tq : Nat) (tg : ClassId) (tn : Nat) (tx : Nat → Int32) (sz : Nat) (I : MI) (A : MA) (M : MI) (MB : MA) (L : ML) (k1 : Int32) (r : Int32) (I' : MI) (A' : MA) (M' : MI) (MB' : MA) (L' : ML) (hf : f_D_lineBegin tn tx I A M MB L  k1 = some (0, r, I', A', M', MB', L')) : Met l y_D_lineBegin w_D_lineBegin ({ frames := 0, cells := 0, slots := 0, locals := 0 }) (va_Pc [.ref h, .int k1] (fun U => U.heap.size = sz ∧ va_P (dC, dI) vwCl (dw_W h q g hp qp gp tq tg tn tx I A M MB L) U.heap ∧ va_K (dC, dI) vwCl (dw_T h q g hp qp gp tq tg tn tx) U ∧ va_D (fun _ => True) (dw_W h q g hp qp gp tq tg tn tx I A M MB L))) (va_Qi (fun (r9 : Int32) (_ : Unit) => r9 = r) (fun (_ : Unit) t => va_P (dC, dI) vwCl (dw_W h q g hp qp gp tq tg tn tx I' A' M' MB' L') t.heap ∧ va_K (dC, dI) vwCl (dw_T h q g hp qp gp tq tg tn tx) t ∧ va_D (va_A (dw_W h q g hp qp gp tq tg tn tx I A M MB L) sz) (dw_W h q g hp qp gp tq tg tn tx I' A' M' MB' L')) (va_A (dw_W h q g hp qp gp tq tg tn tx I A M MB L) sz)) 0 0 (va_A (dw_W h q g hp qp gp tq tg tn tx I A M MB L) sz) := by
  refine Met.ofW (cc := prog_1_method_30_code) (maxL := 4) (ret := (some .int)) (by decide) rfl ?_
  intro p e s m args below meth c s₁ B hml hv
  obtain ⟨rfl, hsz, hP, hK, hD0⟩ := hv
  have hx := B.exec
  have hb := B.bytes
  have hr := B.returns
  have hts := atoms_spec (ws := w_D_lineBegin) B.pre
  have hown : s.vm.findClass "DraftTree" = some m.cls := findClass_of_methodNamed B.named
  have hlocks := B.notSynchronized
  subst hsz
  have hD := hD0.self (sz := s.heap.size)
  generalize hAe : va_A (dw_W h q g hp qp gp tq tg tn tx I A M MB L) s.heap.size = B9 at hD ⊢
  have hA : ∀ q : Nat, s.heap.size ≤ q → B9 q := fun q h => by rw [← hAe]; exact Or.inr h
  clear hAe
  have hS : va_S B9 s.heap s.heap [] := va_S.rf
  have hl := lv_entry ([.ref h, .int k1]) (n := 4) (Nat.le_of_ble_eq_true rfl)
  rw [lg_entry_eq]
  generalize (lg_sl ([.ref h, .int k1]) ++ List.replicate (4 - (lg_sl ([.ref h, .int k1])).length) Slot.unset).toArray = ls at hl ⊢
  have hl : lv_has ls 4 [(0, .ref h), (1, .int k1)] := hl
  have blk42 : ∀ (rc : Nat → MI → MA → MI → MA → ML → (Nat → Int32) → (Nat → Int64) → Option (Nat × Int32 × MI × MA × MI × MA × ML)) (hrc10 : ∀ (I : MI) (A : MA) (M : MI) (MB : MA) (L : ML) (X : Nat → Int32) (Y : Nat → Int64) (ls : Array Slot) (H : Heap) (locs : List Loc), rc 10 I A M MB L X Y = some (0, r, I', A', M', MB', L') → lv_has ls 4 [(0, .ref h), (1, .int (X 1)), (2, .int (X 2)), (3, .int (X 3))] → va_P (dC, dI) vwCl (dw_W h q g hp qp gp tq tg tn tx I A M MB L) H → va_D B9 (dw_W h q g hp qp gp tq tg tn tx I A M MB L) → va_S B9 s.heap H locs → W p l e (headSpec w_D_lineBegin ({ frames := 0, cells := 0, slots := 0, locals := 0 })).room s m ([.ref h, .int k1] : List Value).toArray below meth c H locs 0 0 (MQ below (va_Qi (fun (r9 : Int32) (_ : Unit) => r9 = r) (fun (_ : Unit) t => va_P (dC, dI) vwCl (dw_W h q g hp qp gp tq tg tn tx I' A' M' MB' L') t.heap ∧ va_K (dC, dI) vwCl (dw_T h q g hp qp gp tq tg tn tx) t ∧ va_D B9 (dw_W h q g hp qp gp tq tg tn tx I' A' M' MB' L')) B9) ([.ref h, .int k1] : List Value).toArray s 0 0 B9) (F0 m 10 ls [])), ∀ (I : MI) (A : MA) (M : MI) (MB : MA) (L : ML) (X : Nat → Int32) (Y : Nat → Int64) (ls : Array Slot) (H : Heap) (locs : List Loc), f_D_lineBegin_42 tn tx rc I A M MB L X Y = some (0, r, I', A', M', MB', L') → lv_has ls 4 [(0, .ref h), (1, .int (X 1)), (2, .int (X 2)), (3, .int (X 3))] → va_P (dC, dI) vwCl (dw_W h q g hp qp gp tq tg tn tx I A M MB L) H → va_D B9 (dw_W h q g hp qp gp tq tg tn tx I A M MB L) → va_S B9 s.heap H locs → W p l e (headSpec w_D_lineBegin ({ frames := 0, cells := 0, slots := 0, locals := 0 })).room s m ([.ref h, .int k1] : List Value).toArray below meth c H locs 0 0 (MQ below (va_Qi (fun (r9 : Int32) (_ : Unit) => r9 = r) (fun (_ : Unit) t => va_P (dC, dI) vwCl (dw_W h q g hp qp gp tq tg tn tx I' A' M' MB' L') t.heap ∧ va_K (dC, dI) vwCl (dw_T h q g hp qp gp tq tg tn tx) t ∧ va_D B9 (dw_W h q g hp qp gp tq tg tn tx I' A' M' MB' L')) B9) ([.ref h, .int k1] : List Value).toArray s 0 0 B9) (F0 m 42 ls []) := by
    intro rc hrc10 I A M MB L X Y ls H locs hf hl hP hD hS
    unfold f_D_lineBegin_42 at hf
    refine lv_iinc (k := 3) (v := ((X 3) + 1)) (lv' := [(3, .int ((X 3) + 1)), (0, .ref h), (1, .int (X 1)), (2, .int (X 2))]) hx hb d_D_lineBegin_42 hl rfl (wk_inc (by decide)) (by decide) rfl (fun ls hl => ?_)
    have hl : lv_has ls 4 [(3, .int ((X 3) + 1)), (0, .ref h), (1, .int (X 1)), (2, .int (X 2))] := hl
    refine lv_goto (tgt := 10) hx hb d_D_lineBegin_45 (by decide) ?_
    exact hrc10 I A M MB L (upd X 3 ((X 3) + 1)) Y _ _ _ hf (lv_sub hl [1, 2, 3, 0] rfl) hP hD hS
  have stp10 : ∀ (rc : Nat → MI → MA → MI → MA → ML → (Nat → Int32) → (Nat → Int64) → Option (Nat × Int32 × MI × MA × MI × MA × ML)) (hrc10 : ∀ (I : MI) (A : MA) (M : MI) (MB : MA) (L : ML) (X : Nat → Int32) (Y : Nat → Int64) (ls : Array Slot) (H : Heap) (locs : List Loc), rc 10 I A M MB L X Y = some (0, r, I', A', M', MB', L') → lv_has ls 4 [(0, .ref h), (1, .int (X 1)), (2, .int (X 2)), (3, .int (X 3))] → va_P (dC, dI) vwCl (dw_W h q g hp qp gp tq tg tn tx I A M MB L) H → va_D B9 (dw_W h q g hp qp gp tq tg tn tx I A M MB L) → va_S B9 s.heap H locs → W p l e (headSpec w_D_lineBegin ({ frames := 0, cells := 0, slots := 0, locals := 0 })).room s m ([.ref h, .int k1] : List Value).toArray below meth c H locs 0 0 (MQ below (va_Qi (fun (r9 : Int32) (_ : Unit) => r9 = r) (fun (_ : Unit) t => va_P (dC, dI) vwCl (dw_W h q g hp qp gp tq tg tn tx I' A' M' MB' L') t.heap ∧ va_K (dC, dI) vwCl (dw_T h q g hp qp gp tq tg tn tx) t ∧ va_D B9 (dw_W h q g hp qp gp tq tg tn tx I' A' M' MB' L')) B9) ([.ref h, .int k1] : List Value).toArray s 0 0 B9) (F0 m 10 ls [])), ∀ (I : MI) (A : MA) (M : MI) (MB : MA) (L : ML) (X : Nat → Int32) (Y : Nat → Int64) (ls : Array Slot) (H : Heap) (locs : List Loc), f_D_lineBegin_10 tn tx rc I A M MB L X Y = some (0, r, I', A', M', MB', L') → lv_has ls 4 [(0, .ref h), (1, .int (X 1)), (2, .int (X 2)), (3, .int (X 3))] → va_P (dC, dI) vwCl (dw_W h q g hp qp gp tq tg tn tx I A M MB L) H → va_D B9 (dw_W h q g hp qp gp tq tg tn tx I A M MB L) → va_S B9 s.heap H locs → W p l e (headSpec w_D_lineBegin ({ frames := 0, cells := 0, slots := 0, locals := 0 })).room s m ([.ref h, .int k1] : List Value).toArray below meth c H locs 0 0 (MQ below (va_Qi (fun (r9 : Int32) (_ : Unit) => r9 = r) (fun (_ : Unit) t => va_P (dC, dI) vwCl (dw_W h q g hp qp gp tq tg tn tx I' A' M' MB' L') t.heap ∧ va_K (dC, dI) vwCl (dw_T h q g hp qp gp tq tg tn tx) t ∧ va_D B9 (dw_W h q g hp qp gp tq tg tn tx I' A' M' MB' L')) B9) ([.ref h, .int k1] : List Value).toArray s 0 0 B9) (F0 m 10 ls []) := by
    intro rc hrc10 I A M MB L X Y ls H locs hf hl hP hD hS
    unfold f_D_lineBegin_10 at hf
    refine lv_iload_n hx hb d_D_lineBegin_10 rfl (lv_at hl 3 rfl) ?_
    refine lv_aload_n hx hb d_D_lineBegin_11 rfl (lv_at hl 0 rfl) ?_
    refine va_get (D := (dC, dI)) (ci := 0) (v := .ref tq) (C := R_D) (T := F_D) (N := 14) hx hb hts (fun w h => List.mem_cons_of_mem _ (in_D w h)) hown hK hP 0 rfl rfl 5 (by decide) (hts _ (List.mem_cons_of_mem _ lk_241)) (fun _ h9 => h9) rfl d_D_lineBegin_12 ?_
    refine va_alen (v := (Int32.ofNat tn)) hx hb hK hP 10 8 rfl rfl rfl d_D_lineBegin_15 ?_
    refine lv_icmp_ge (tgt := 48) hx hb d_D_lineBegin_16 (by decide) (fun hc1 => ?_) (fun hc1 => ?_)
    ·
      have hf := wk_ift hc1 hf
      exact (wk_tag (by decide) hf).elim
    ·
      have hf := wk_iff hc1 hf
      refine lv_aload_n hx hb d_D_lineBegin_19 rfl (lv_at hl 0 rfl) ?_
      refine va_get (D := (dC, dI)) (ci := 0) (v := .ref tq) (C := R_D) (T := F_D) (N := 14) hx hb hts (fun w h => List.mem_cons_of_mem _ (in_D w h)) hown hK hP 0 rfl rfl 5 (by decide) (hts _ (List.mem_cons_of_mem _ lk_241)) (fun _ h9 => h9) rfl d_D_lineBegin_20 ?_
      refine lv_iload_n hx hb d_D_lineBegin_23 rfl (lv_at hl 3 rfl) ?_
      obtain ⟨hc2, hf⟩ := wk_if hf
      refine va_cald hx hb hK hP 10 8 rfl rfl (wk_inb_ok hc2) d_D_lineBegin_24 ?_
      refine lv_bipush (v := 10) hx hb d_D_lineBegin_25 (by decide) ?_
      refine lv_icmp_ne (tgt := 42) hx hb d_D_lineBegin_27 (by decide) (fun hc3 => ?_) (fun hc3 => ?_)
      ·
        have hf := wk_iff hc3 hf
        exact blk42 rc hrc10 I A M MB L X Y _ _ _ hf (lv_sub hl [0, 1, 2, 3] rfl) hP hD hS
      ·
        have hf := wk_ift hc3 hf
        refine lv_iinc (k := 2) (v := ((X 2) + 1)) (lv' := [(2, .int ((X 2) + 1)), (0, .ref h), (1, .int (X 1)), (3, .int (X 3))]) hx hb d_D_lineBegin_30 hl rfl (wk_inc (by decide)) (by decide) rfl (fun ls hl => ?_)
        have hl : lv_has ls 4 [(2, .int ((X 2) + 1)), (0, .ref h), (1, .int (X 1)), (3, .int (X 3))] := hl
        refine lv_iload_n hx hb d_D_lineBegin_33 rfl (lv_at hl 0 rfl) ?_
        refine lv_iload_n hx hb d_D_lineBegin_34 rfl (lv_at hl 2 rfl) ?_
        refine lv_icmp_ne (tgt := 42) hx hb d_D_lineBegin_35 (by decide) (fun hc4 => ?_) (fun hc4 => ?_)
        ·
          have hf := wk_iff hc4 hf
          exact blk42 rc hrc10 I A M MB L (upd X 2 ((X 2) + 1)) Y _ _ _ hf (lv_sub hl [1, 2, 0, 3] rfl) hP hD hS
        ·
          have hf := wk_ift hc4 hf
          refine lv_iload_n hx hb d_D_lineBegin_38 rfl (lv_at hl 3 rfl) ?_
          refine lv_iconst (v := 1) hx hb d_D_lineBegin_39 (by decide) ?_
          refine lv_iadd hx hb d_D_lineBegin_40 ?_
          obtain ⟨e0, e1, e2, e3, e4, e5, e6⟩ := wk_inj6 hf
          subst e1
          subst e2
          subst e3
          subst e4
          subst e5
          subst e6
          exact W.iret (v := ((X 3) + 1)) hx hb hr (fun t ht hW => ⟨⟨((X 3) + 1), (), rfl, rfl, by rw [ht]; exact hP, va_K.moved hW.alike hK, hD⟩, hS.F ht⟩) hS.2.2 d_D_lineBegin_41
  have key : ∀ n : Nat, (∀ (I : MI) (A : MA) (M : MI) (MB : MA) (L : ML) (X : Nat → Int32) (Y : Nat → Int64) (ls : Array Slot) (H : Heap) (locs : List Loc), f_D_lineBegin_go tn tx n 10 I A M MB L X Y = some (0, r, I', A', M', MB', L') → lv_has ls 4 [(0, .ref h), (1, .int (X 1)), (2, .int (X 2)), (3, .int (X 3))] → va_P (dC, dI) vwCl (dw_W h q g hp qp gp tq tg tn tx I A M MB L) H → va_D B9 (dw_W h q g hp qp gp tq tg tn tx I A M MB L) → va_S B9 s.heap H locs → W p l e (headSpec w_D_lineBegin ({ frames := 0, cells := 0, slots := 0, locals := 0 })).room s m ([.ref h, .int k1] : List Value).toArray below meth c H locs 0 0 (MQ below (va_Qi (fun (r9 : Int32) (_ : Unit) => r9 = r) (fun (_ : Unit) t => va_P (dC, dI) vwCl (dw_W h q g hp qp gp tq tg tn tx I' A' M' MB' L') t.heap ∧ va_K (dC, dI) vwCl (dw_T h q g hp qp gp tq tg tn tx) t ∧ va_D B9 (dw_W h q g hp qp gp tq tg tn tx I' A' M' MB' L')) B9) ([.ref h, .int k1] : List Value).toArray s 0 0 B9) (F0 m 10 ls [])) := by
    intro n
    induction n with
    | zero => exact fun I A M MB L X Y ls H locs hf => (by cases hf)
    | succ n ih =>
      have ih10 := ih
      exact stp10 (f_D_lineBegin_go tn tx n) ih10
  unfold f_D_lineBegin f_D_lineBegin_e at hf
  have hrc10 := key wk_FUEL
  refine lv_iload_n hx hb d_D_lineBegin_0 rfl (lv_at hl 1 rfl) ?_
  refine lv_if_ne (tgt := 6) hx hb d_D_lineBegin_1 (by decide) (fun hc1 => ?_) (fun hc1 => ?_)
  ·
    have hf := wk_iff hc1 hf
    refine lv_iconst (v := 0) hx hb d_D_lineBegin_6 (by decide) ?_
    refine lv_istore_n (lv' := [(2, .int 0), (0, .ref h), (1, .int k1)]) hx hb d_D_lineBegin_7 rfl hl (by decide) rfl (fun ls hl => ?_)
    have hl : lv_has ls 4 [(2, .int 0), (0, .ref h), (1, .int k1)] := hl
    refine lv_iconst (v := 0) hx hb d_D_lineBegin_8 (by decide) ?_
    refine lv_istore_n (lv' := [(3, .int 0), (2, .int 0), (0, .ref h), (1, .int k1)]) hx hb d_D_lineBegin_9 rfl hl (by decide) rfl (fun ls hl => ?_)
    have hl : lv_has ls 4 [(3, .int 0), (2, .int 0), (0, .ref h), (1, .int k1)] := hl
    exact hrc10 I A M MB L (upd (upd (upd (fun _ => 0) 1 k1) 2 0) 3 0) (fun _ => 0) _ _ _ hf (lv_sub hl [2, 3, 1, 0] rfl) hP hD hS
  ·
    have hf := wk_ift hc1 hf
    refine lv_iconst (v := 0) hx hb d_D_lineBegin_4 (by decide) ?_
    obtain ⟨e0, e1, e2, e3, e4, e5, e6⟩ := wk_inj6 hf
    subst e1
    subst e2
    subst e3
    subst e4
    subst e5
    subst e6
    exact W.iret (v := 0) hx hb hr (fun t ht hW => ⟨⟨0, (), rfl, rfl, by rw [ht]; exact hP, va_K.moved hW.alike hK, hD⟩, hS.F ht⟩) hS.2.2 d_D_lineBegin_5
set_option maxHeartbeats 8000000 in
set_option maxRecDepth 100000 in
theorem ct_D_lineBegin_2 (l : Launch) (hfl : l.flags = flags0) (dC : Nat → ClassId) (dI : Nat → Nat → Nat) (h : Nat) (q : Nat → Nat) (g : Nat → ClassId) (hp : Nat) (qp : Nat → Nat) (gp : Nat → ClassId) (tq : Nat) (tg : ClassId) (tn : Nat) (tx : Nat → Int32) (sz : Nat) (I : MI) (A : MA) (M : MI) (MB : MA) (L : ML) (k1 : Int32) (r : Int32) (I' : MI) (A' : MA) (M' : MI) (MB' : MA) (L' : ML) (hf : f_D_lineBegin tn tx I A M MB L  k1 = some (2, r, I', A', M', MB', L')) : th_Met l y_D_lineBegin w_D_lineBegin ({ frames := 6, cells := 1, slots := 6, locals := 81 }) (va_Pc [.ref h, .int k1] (fun U => U.heap.size = sz ∧ va_P (dC, dI) vwCl (dw_W h q g hp qp gp tq tg tn tx I A M MB L) U.heap ∧ va_K (dC, dI) vwCl (dw_T h q g hp qp gp tq tg tn tx) U ∧ va_D (fun _ => True) (dw_W h q g hp qp gp tq tg tn tx I A M MB L) ∧ th_ZA (va_A (dw_W h q g hp qp gp tq tg tn tx I A M MB L) sz) U)) (th_Qw "java/lang/IndexOutOfBoundsException" (fun t => va_P (dC, dI) vwCl (dw_W h q g hp qp gp tq tg tn tx I' A' M' MB' L') t.heap ∧ va_K (dC, dI) vwCl (dw_T h q g hp qp gp tq tg tn tx) t ∧ va_D (va_A (dw_W h q g hp qp gp tq tg tn tx I A M MB L) sz) (dw_W h q g hp qp gp tq tg tn tx I' A' M' MB' L')) (va_A (dw_W h q g hp qp gp tq tg tn tx I A M MB L) sz)) 1 6 (va_A (dw_W h q g hp qp gp tq tg tn tx I A M MB L) sz) := by
  refine th_Met.ofW (cc := prog_1_method_30_code) (maxL := 4) (ret := (some .int)) (by decide) rfl ?_
  intro p e s m args below meth c s₁ B hml hnh hv
  obtain ⟨rfl, hsz, hP, hK, hD0, hZ⟩ := hv
  have hx := B.exec
  have hb := B.bytes
  have hr := B.returns
  have hts := atoms_spec (ws := w_D_lineBegin) B.pre
  have hown : s.vm.findClass "DraftTree" = some m.cls := findClass_of_methodNamed B.named
  have hlocks := B.notSynchronized
  have htr := Launch.traces_off hfl B.admits
  subst hsz
  have hD := hD0.self (sz := s.heap.size)
  generalize hAe : va_A (dw_W h q g hp qp gp tq tg tn tx I A M MB L) s.heap.size = B9 at hD hZ ⊢
  have hA : ∀ q : Nat, s.heap.size ≤ q → B9 q := fun q h => by rw [← hAe]; exact Or.inr h
  clear hAe
  have hS : va_S B9 s.heap s.heap [] := va_S.rf
  have hl := lv_entry ([.ref h, .int k1]) (n := 4) (Nat.le_of_ble_eq_true rfl)
  rw [lg_entry_eq]
  generalize (lg_sl ([.ref h, .int k1]) ++ List.replicate (4 - (lg_sl ([.ref h, .int k1])).length) Slot.unset).toArray = ls at hl ⊢
  have hl : lv_has ls 4 [(0, .ref h), (1, .int k1)] := hl
  have blk42 : ∀ (rc : Nat → MI → MA → MI → MA → ML → (Nat → Int32) → (Nat → Int64) → Option (Nat × Int32 × MI × MA × MI × MA × ML)) (hrc10 : ∀ (I : MI) (A : MA) (M : MI) (MB : MA) (L : ML) (X : Nat → Int32) (Y : Nat → Int64) (ls : Array Slot) (H : Heap) (locs : List Loc), rc 10 I A M MB L X Y = some (2, r, I', A', M', MB', L') → lv_has ls 4 [(0, .ref h), (1, .int (X 1)), (2, .int (X 2)), (3, .int (X 3))] → va_P (dC, dI) vwCl (dw_W h q g hp qp gp tq tg tn tx I A M MB L) H → va_D B9 (dw_W h q g hp qp gp tq tg tn tx I A M MB L) → va_S B9 s.heap H locs → W p l e (headSpec w_D_lineBegin ({ frames := 6, cells := 1, slots := 6, locals := 81 })).room s m ([.ref h, .int k1] : List Value).toArray below meth c H locs 0 0 (th_Q below (th_Qw "java/lang/IndexOutOfBoundsException" (fun t => va_P (dC, dI) vwCl (dw_W h q g hp qp gp tq tg tn tx I' A' M' MB' L') t.heap ∧ va_K (dC, dI) vwCl (dw_T h q g hp qp gp tq tg tn tx) t ∧ va_D B9 (dw_W h q g hp qp gp tq tg tn tx I' A' M' MB' L')) B9) ([.ref h, .int k1] : List Value).toArray s 1 6 B9) (F0 m 10 ls [])), ∀ (I : MI) (A : MA) (M : MI) (MB : MA) (L : ML) (X : Nat → Int32) (Y : Nat → Int64) (ls : Array Slot) (H : Heap) (locs : List Loc), f_D_lineBegin_42 tn tx rc I A M MB L X Y = some (2, r, I', A', M', MB', L') → lv_has ls 4 [(0, .ref h), (1, .int (X 1)), (2, .int (X 2)), (3, .int (X 3))] → va_P (dC, dI) vwCl (dw_W h q g hp qp gp tq tg tn tx I A M MB L) H → va_D B9 (dw_W h q g hp qp gp tq tg tn tx I A M MB L) → va_S B9 s.heap H locs → W p l e (headSpec w_D_lineBegin ({ frames := 6, cells := 1, slots := 6, locals := 81 })).room s m ([.ref h, .int k1] : List Value).toArray below meth c H locs 0 0 (th_Q below (th_Qw "java/lang/IndexOutOfBoundsException" (fun t => va_P (dC, dI) vwCl (dw_W h q g hp qp gp tq tg tn tx I' A' M' MB' L') t.heap ∧ va_K (dC, dI) vwCl (dw_T h q g hp qp gp tq tg tn tx) t ∧ va_D B9 (dw_W h q g hp qp gp tq tg tn tx I' A' M' MB' L')) B9) ([.ref h, .int k1] : List Value).toArray s 1 6 B9) (F0 m 42 ls []) := by
    intro rc hrc10 I A M MB L X Y ls H locs hf hl hP hD hS
    unfold f_D_lineBegin_42 at hf
    refine lv_iinc (k := 3) (v := ((X 3) + 1)) (lv' := [(3, .int ((X 3) + 1)), (0, .ref h), (1, .int (X 1)), (2, .int (X 2))]) hx hb d_D_lineBegin_42 hl rfl (wk_inc (by decide)) (by decide) rfl (fun ls hl => ?_)
    have hl : lv_has ls 4 [(3, .int ((X 3) + 1)), (0, .ref h), (1, .int (X 1)), (2, .int (X 2))] := hl
    refine lv_goto (tgt := 10) hx hb d_D_lineBegin_45 (by decide) ?_
    exact hrc10 I A M MB L (upd X 3 ((X 3) + 1)) Y _ _ _ hf (lv_sub hl [1, 2, 3, 0] rfl) hP hD hS
  have stp10 : ∀ (rc : Nat → MI → MA → MI → MA → ML → (Nat → Int32) → (Nat → Int64) → Option (Nat × Int32 × MI × MA × MI × MA × ML)) (hrc10 : ∀ (I : MI) (A : MA) (M : MI) (MB : MA) (L : ML) (X : Nat → Int32) (Y : Nat → Int64) (ls : Array Slot) (H : Heap) (locs : List Loc), rc 10 I A M MB L X Y = some (2, r, I', A', M', MB', L') → lv_has ls 4 [(0, .ref h), (1, .int (X 1)), (2, .int (X 2)), (3, .int (X 3))] → va_P (dC, dI) vwCl (dw_W h q g hp qp gp tq tg tn tx I A M MB L) H → va_D B9 (dw_W h q g hp qp gp tq tg tn tx I A M MB L) → va_S B9 s.heap H locs → W p l e (headSpec w_D_lineBegin ({ frames := 6, cells := 1, slots := 6, locals := 81 })).room s m ([.ref h, .int k1] : List Value).toArray below meth c H locs 0 0 (th_Q below (th_Qw "java/lang/IndexOutOfBoundsException" (fun t => va_P (dC, dI) vwCl (dw_W h q g hp qp gp tq tg tn tx I' A' M' MB' L') t.heap ∧ va_K (dC, dI) vwCl (dw_T h q g hp qp gp tq tg tn tx) t ∧ va_D B9 (dw_W h q g hp qp gp tq tg tn tx I' A' M' MB' L')) B9) ([.ref h, .int k1] : List Value).toArray s 1 6 B9) (F0 m 10 ls [])), ∀ (I : MI) (A : MA) (M : MI) (MB : MA) (L : ML) (X : Nat → Int32) (Y : Nat → Int64) (ls : Array Slot) (H : Heap) (locs : List Loc), f_D_lineBegin_10 tn tx rc I A M MB L X Y = some (2, r, I', A', M', MB', L') → lv_has ls 4 [(0, .ref h), (1, .int (X 1)), (2, .int (X 2)), (3, .int (X 3))] → va_P (dC, dI) vwCl (dw_W h q g hp qp gp tq tg tn tx I A M MB L) H → va_D B9 (dw_W h q g hp qp gp tq tg tn tx I A M MB L) → va_S B9 s.heap H locs → W p l e (headSpec w_D_lineBegin ({ frames := 6, cells := 1, slots := 6, locals := 81 })).room s m ([.ref h, .int k1] : List Value).toArray below meth c H locs 0 0 (th_Q below (th_Qw "java/lang/IndexOutOfBoundsException" (fun t => va_P (dC, dI) vwCl (dw_W h q g hp qp gp tq tg tn tx I' A' M' MB' L') t.heap ∧ va_K (dC, dI) vwCl (dw_T h q g hp qp gp tq tg tn tx) t ∧ va_D B9 (dw_W h q g hp qp gp tq tg tn tx I' A' M' MB' L')) B9) ([.ref h, .int k1] : List Value).toArray s 1 6 B9) (F0 m 10 ls []) := by
    intro rc hrc10 I A M MB L X Y ls H locs hf hl hP hD hS
    unfold f_D_lineBegin_10 at hf
    refine lv_iload_n hx hb d_D_lineBegin_10 rfl (lv_at hl 3 rfl) ?_
    refine lv_aload_n hx hb d_D_lineBegin_11 rfl (lv_at hl 0 rfl) ?_
    refine va_get (D := (dC, dI)) (ci := 0) (v := .ref tq) (C := R_D) (T := F_D) (N := 14) hx hb hts (fun w h => List.mem_cons_of_mem _ (in_D w h)) hown hK hP 0 rfl rfl 5 (by decide) (hts _ (List.mem_cons_of_mem _ lk_241)) (fun _ h9 => h9) rfl d_D_lineBegin_12 ?_
    refine va_alen (v := (Int32.ofNat tn)) hx hb hK hP 10 8 rfl rfl rfl d_D_lineBegin_15 ?_
    refine lv_icmp_ge (tgt := 48) hx hb d_D_lineBegin_16 (by decide) (fun hc1 => ?_) (fun hc1 => ?_)
    ·
      have hf := wk_ift hc1 hf
      obtain ⟨e0, e1, e2, e3, e4, e5, e6⟩ := wk_inj6 hf
      subst e1
      subst e2
      subst e3
      subst e4
      subst e5
      subst e6
      exact th_newG hx hb htr hown (by decide) (by decide) (wk_thr hts hZ hS lk_242 lk_243 (fun _ a9 b9 => oa_0 a9 b9)) hnh (by rw [hl.1, hml]) hS (Nat.le_of_ble_eq_true rfl) (Nat.le_of_ble_eq_true rfl) (Nat.le_of_ble_eq_true rfl) (Nat.le_of_ble_eq_true rfl) (Nat.le_of_ble_eq_true rfl) (Nat.le_of_ble_eq_true rfl) hlocks (fun t hal hk => ⟨hP.kept (fun k q hq => hk _ (hP k q hq).lt), va_K.moved hal hK, hD⟩) d_D_lineBegin_48 d_D_lineBegin_51 d_D_lineBegin_52 d_D_lineBegin_55
    ·
      have hf := wk_iff hc1 hf
      refine lv_aload_n hx hb d_D_lineBegin_19 rfl (lv_at hl 0 rfl) ?_
      refine va_get (D := (dC, dI)) (ci := 0) (v := .ref tq) (C := R_D) (T := F_D) (N := 14) hx hb hts (fun w h => List.mem_cons_of_mem _ (in_D w h)) hown hK hP 0 rfl rfl 5 (by decide) (hts _ (List.mem_cons_of_mem _ lk_241)) (fun _ h9 => h9) rfl d_D_lineBegin_20 ?_
      refine lv_iload_n hx hb d_D_lineBegin_23 rfl (lv_at hl 3 rfl) ?_
      obtain ⟨hc2, hf⟩ := wk_if hf
      refine va_cald hx hb hK hP 10 8 rfl rfl (wk_inb_ok hc2) d_D_lineBegin_24 ?_
      refine lv_bipush (v := 10) hx hb d_D_lineBegin_25 (by decide) ?_
      refine lv_icmp_ne (tgt := 42) hx hb d_D_lineBegin_27 (by decide) (fun hc3 => ?_) (fun hc3 => ?_)
      ·
        have hf := wk_iff hc3 hf
        exact blk42 rc hrc10 I A M MB L X Y _ _ _ hf (lv_sub hl [0, 1, 2, 3] rfl) hP hD hS
      ·
        have hf := wk_ift hc3 hf
        refine lv_iinc (k := 2) (v := ((X 2) + 1)) (lv' := [(2, .int ((X 2) + 1)), (0, .ref h), (1, .int (X 1)), (3, .int (X 3))]) hx hb d_D_lineBegin_30 hl rfl (wk_inc (by decide)) (by decide) rfl (fun ls hl => ?_)
        have hl : lv_has ls 4 [(2, .int ((X 2) + 1)), (0, .ref h), (1, .int (X 1)), (3, .int (X 3))] := hl
        refine lv_iload_n hx hb d_D_lineBegin_33 rfl (lv_at hl 0 rfl) ?_
        refine lv_iload_n hx hb d_D_lineBegin_34 rfl (lv_at hl 2 rfl) ?_
        refine lv_icmp_ne (tgt := 42) hx hb d_D_lineBegin_35 (by decide) (fun hc4 => ?_) (fun hc4 => ?_)
        ·
          have hf := wk_iff hc4 hf
          exact blk42 rc hrc10 I A M MB L (upd X 2 ((X 2) + 1)) Y _ _ _ hf (lv_sub hl [1, 2, 0, 3] rfl) hP hD hS
        ·
          have hf := wk_ift hc4 hf
          refine lv_iload_n hx hb d_D_lineBegin_38 rfl (lv_at hl 3 rfl) ?_
          refine lv_iconst (v := 1) hx hb d_D_lineBegin_39 (by decide) ?_
          refine lv_iadd hx hb d_D_lineBegin_40 ?_
          exact (wk_tag (by decide) hf).elim
  have key : ∀ n : Nat, (∀ (I : MI) (A : MA) (M : MI) (MB : MA) (L : ML) (X : Nat → Int32) (Y : Nat → Int64) (ls : Array Slot) (H : Heap) (locs : List Loc), f_D_lineBegin_go tn tx n 10 I A M MB L X Y = some (2, r, I', A', M', MB', L') → lv_has ls 4 [(0, .ref h), (1, .int (X 1)), (2, .int (X 2)), (3, .int (X 3))] → va_P (dC, dI) vwCl (dw_W h q g hp qp gp tq tg tn tx I A M MB L) H → va_D B9 (dw_W h q g hp qp gp tq tg tn tx I A M MB L) → va_S B9 s.heap H locs → W p l e (headSpec w_D_lineBegin ({ frames := 6, cells := 1, slots := 6, locals := 81 })).room s m ([.ref h, .int k1] : List Value).toArray below meth c H locs 0 0 (th_Q below (th_Qw "java/lang/IndexOutOfBoundsException" (fun t => va_P (dC, dI) vwCl (dw_W h q g hp qp gp tq tg tn tx I' A' M' MB' L') t.heap ∧ va_K (dC, dI) vwCl (dw_T h q g hp qp gp tq tg tn tx) t ∧ va_D B9 (dw_W h q g hp qp gp tq tg tn tx I' A' M' MB' L')) B9) ([.ref h, .int k1] : List Value).toArray s 1 6 B9) (F0 m 10 ls [])) := by
    intro n
    induction n with
    | zero => exact fun I A M MB L X Y ls H locs hf => (by cases hf)
    | succ n ih =>
      have ih10 := ih
      exact stp10 (f_D_lineBegin_go tn tx n) ih10
  unfold f_D_lineBegin f_D_lineBegin_e at hf
  have hrc10 := key wk_FUEL
  refine lv_iload_n hx hb d_D_lineBegin_0 rfl (lv_at hl 1 rfl) ?_
  refine lv_if_ne (tgt := 6) hx hb d_D_lineBegin_1 (by decide) (fun hc1 => ?_) (fun hc1 => ?_)
  ·
    have hf := wk_iff hc1 hf
    refine lv_iconst (v := 0) hx hb d_D_lineBegin_6 (by decide) ?_
    refine lv_istore_n (lv' := [(2, .int 0), (0, .ref h), (1, .int k1)]) hx hb d_D_lineBegin_7 rfl hl (by decide) rfl (fun ls hl => ?_)
    have hl : lv_has ls 4 [(2, .int 0), (0, .ref h), (1, .int k1)] := hl
    refine lv_iconst (v := 0) hx hb d_D_lineBegin_8 (by decide) ?_
    refine lv_istore_n (lv' := [(3, .int 0), (2, .int 0), (0, .ref h), (1, .int k1)]) hx hb d_D_lineBegin_9 rfl hl (by decide) rfl (fun ls hl => ?_)
    have hl : lv_has ls 4 [(3, .int 0), (2, .int 0), (0, .ref h), (1, .int k1)] := hl
    exact hrc10 I A M MB L (upd (upd (upd (fun _ => 0) 1 k1) 2 0) 3 0) (fun _ => 0) _ _ _ hf (lv_sub hl [2, 3, 1, 0] rfl) hP hD hS
  ·
    have hf := wk_ift hc1 hf
    refine lv_iconst (v := 0) hx hb d_D_lineBegin_4 (by decide) ?_
    exact (wk_tag (by decide) hf).elim

set_option maxHeartbeats 8000000 in
set_option maxRecDepth 100000 in
theorem cm_D_lineSize (l : Launch) (dC : Nat → ClassId) (dI : Nat → Nat → Nat) (h : Nat) (q : Nat → Nat) (g : Nat → ClassId) (hp : Nat) (qp : Nat → Nat) (gp : Nat → ClassId) (tq : Nat) (tg : ClassId) (tn : Nat) (tx : Nat → Int32) (sz : Nat) (I : MI) (A : MA) (M : MI) (MB : MA) (L : ML) (k1 : Int32) (r : Int32) (I' : MI) (A' : MA) (M' : MI) (MB' : MA) (L' : ML) (hf : f_D_lineSize tn tx I A M MB L  k1 = some (r, I', A', M', MB', L')) : Met l y_D_lineSize w_D_lineSize ({ frames := 0, cells := 0, slots := 0, locals := 0 }) (va_Pc [.ref h, .int k1] (fun U => U.heap.size = sz ∧ va_P (dC, dI) vwCl (dw_W h q g hp qp gp tq tg tn tx I A M MB L) U.heap ∧ va_K (dC, dI) vwCl (dw_T h q g hp qp gp tq tg tn tx) U ∧ va_D (fun _ => True) (dw_W h q g hp qp gp tq tg tn tx I A M MB L))) (va_Qi (fun (r9 : Int32) (_ : Unit) => r9 = r) (fun (_ : Unit) t => va_P (dC, dI) vwCl (dw_W h q g hp qp gp tq tg tn tx I' A' M' MB' L') t.heap ∧ va_K (dC, dI) vwCl (dw_T h q g hp qp gp tq tg tn tx) t ∧ va_D (va_A (dw_W h q g hp qp gp tq tg tn tx I A M MB L) sz) (dw_W h q g hp qp gp tq tg tn tx I' A' M' MB' L')) (va_A (dw_W h q g hp qp gp tq tg tn tx I A M MB L) sz)) 0 0 (va_A (dw_W h q g hp qp gp tq tg tn tx I A M MB L) sz) := by
  refine Met.ofW (cc := prog_1_method_31_code) (maxL := 4) (ret := (some .int)) (by decide) rfl ?_
  intro p e s m args below meth c s₁ B hml hv
  obtain ⟨rfl, hsz, hP, hK, hD0⟩ := hv
  have hx := B.exec
  have hb := B.bytes
  have hr := B.returns
  have hts := atoms_spec (ws := w_D_lineSize) B.pre
  have hown : s.vm.findClass "DraftTree" = some m.cls := findClass_of_methodNamed B.named
  have hlocks := B.notSynchronized
  subst hsz
  have hD := hD0.self (sz := s.heap.size)
  generalize hAe : va_A (dw_W h q g hp qp gp tq tg tn tx I A M MB L) s.heap.size = B9 at hD ⊢
  have hA : ∀ q : Nat, s.heap.size ≤ q → B9 q := fun q h => by rw [← hAe]; exact Or.inr h
  clear hAe
  have hS : va_S B9 s.heap s.heap [] := va_S.rf
  have hl := lv_entry ([.ref h, .int k1]) (n := 4) (Nat.le_of_ble_eq_true rfl)
  rw [lg_entry_eq]
  generalize (lg_sl ([.ref h, .int k1]) ++ List.replicate (4 - (lg_sl ([.ref h, .int k1])).length) Slot.unset).toArray = ls at hl ⊢
  have hl : lv_has ls 4 [(0, .ref h), (1, .int k1)] := hl
  have blk33 : ∀ (rc : Nat → MI → MA → MI → MA → ML → (Nat → Int32) → (Nat → Int64) → Option (Int32 × MI × MA × MI × MA × ML)) (hrc4 : ∀ (I : MI) (A : MA) (M : MI) (MB : MA) (L : ML) (X : Nat → Int32) (Y : Nat → Int64) (ls : Array Slot) (H : Heap) (locs : List Loc), rc 4 I A M MB L X Y = some (r, I', A', M', MB', L') → lv_has ls 4 [(0, .ref h), (1, .int (X 1)), (2, .int (X 2)), (3, .int (X 3))] → va_P (dC, dI) vwCl (dw_W h q g hp qp gp tq tg tn tx I A M MB L) H → va_D B9 (dw_W h q g hp qp gp tq tg tn tx I A M MB L) → va_S B9 s.heap H locs → W p l e (headSpec w_D_lineSize ({ frames := 0, cells := 0, slots := 0, locals := 0 })).room s m ([.ref h, .int k1] : List Value).toArray below meth c H locs 0 0 (MQ below (va_Qi (fun (r9 : Int32) (_ : Unit) => r9 = r) (fun (_ : Unit) t => va_P (dC, dI) vwCl (dw_W h q g hp qp gp tq tg tn tx I' A' M' MB' L') t.heap ∧ va_K (dC, dI) vwCl (dw_T h q g hp qp gp tq tg tn tx) t ∧ va_D B9 (dw_W h q g hp qp gp tq tg tn tx I' A' M' MB' L')) B9) ([.ref h, .int k1] : List Value).toArray s 0 0 B9) (F0 m 4 ls [])), ∀ (I : MI) (A : MA) (M : MI) (MB : MA) (L : ML) (X : Nat → Int32) (Y : Nat → Int64) (ls : Array Slot) (H : Heap) (locs : List Loc), f_D_lineSize_33 tn tx rc I A M MB L X Y = some (r, I', A', M', MB', L') → lv_has ls 4 [(0, .ref h), (1, .int (X 1)), (2, .int (X 2)), (3, .int (X 3))] → va_P (dC, dI) vwCl (dw_W h q g hp qp gp tq tg tn tx I A M MB L) H → va_D B9 (dw_W h q g hp qp gp tq tg tn tx I A M MB L) → va_S B9 s.heap H locs → W p l e (headSpec w_D_lineSize ({ frames := 0, cells := 0, slots := 0, locals := 0 })).room s m ([.ref h, .int k1] : List Value).toArray below meth c H locs 0 0 (MQ below (va_Qi (fun (r9 : Int32) (_ : Unit) => r9 = r) (fun (_ : Unit) t => va_P (dC, dI) vwCl (dw_W h q g hp qp gp tq tg tn tx I' A' M' MB' L') t.heap ∧ va_K (dC, dI) vwCl (dw_T h q g hp qp gp tq tg tn tx) t ∧ va_D B9 (dw_W h q g hp qp gp tq tg tn tx I' A' M' MB' L')) B9) ([.ref h, .int k1] : List Value).toArray s 0 0 B9) (F0 m 33 ls []) := by
    intro rc hrc4 I A M MB L X Y ls H locs hf hl hP hD hS
    unfold f_D_lineSize_33 at hf
    refine lv_iload_n hx hb d_D_lineSize_33 rfl (lv_at hl 2 rfl) ?_
    obtain ⟨e0, e1, e2, e3, e4, e5⟩ := wk_inj5 hf
    subst e0
    subst e1
    subst e2
    subst e3
    subst e4
    subst e5
    exact W.iret (v := (X 2)) hx hb hr (fun t ht hW => ⟨⟨(X 2), (), rfl, rfl, by rw [ht]; exact hP, va_K.moved hW.alike hK, hD⟩, hS.F ht⟩) hS.2.2 d_D_lineSize_34
  have stp4 : ∀ (rc : Nat → MI → MA → MI → MA → ML → (Nat → Int32) → (Nat → Int64) → Option (Int32 × MI × MA × MI × MA × ML)) (hrc4 : ∀ (I : MI) (A : MA) (M : MI) (MB : MA) (L : ML) (X : Nat → Int32) (Y : Nat → Int64) (ls : Array Slot) (H : Heap) (locs : List Loc), rc 4 I A M MB L X Y = some (r, I', A', M', MB', L') → lv_has ls 4 [(0, .ref h), (1, .int (X 1)), (2, .int (X 2)), (3, .int (X 3))] → va_P (dC, dI) vwCl (dw_W h q g hp qp gp tq tg tn tx I A M MB L) H → va_D B9 (dw_W h q g hp qp gp tq tg tn tx I A M MB L) → va_S B9 s.heap H locs → W p l e (headSpec w_D_lineSize ({ frames := 0, cells := 0, slots := 0, locals := 0 })).room s m ([.ref h, .int k1] : List Value).toArray below meth c H locs 0 0 (MQ below (va_Qi (fun (r9 : Int32) (_ : Unit) => r9 = r) (fun (_ : Unit) t => va_P (dC, dI) vwCl (dw_W h q g hp qp gp tq tg tn tx I' A' M' MB' L') t.heap ∧ va_K (dC, dI) vwCl (dw_T h q g hp qp gp tq tg tn tx) t ∧ va_D B9 (dw_W h q g hp qp gp tq tg tn tx I' A' M' MB' L')) B9) ([.ref h, .int k1] : List Value).toArray s 0 0 B9) (F0 m 4 ls [])), ∀ (I : MI) (A : MA) (M : MI) (MB : MA) (L : ML) (X : Nat → Int32) (Y : Nat → Int64) (ls : Array Slot) (H : Heap) (locs : List Loc), f_D_lineSize_4 tn tx rc I A M MB L X Y = some (r, I', A', M', MB', L') → lv_has ls 4 [(0, .ref h), (1, .int (X 1)), (2, .int (X 2)), (3, .int (X 3))] → va_P (dC, dI) vwCl (dw_W h q g hp qp gp tq tg tn tx I A M MB L) H → va_D B9 (dw_W h q g hp qp gp tq tg tn tx I A M MB L) → va_S B9 s.heap H locs → W p l e (headSpec w_D_lineSize ({ frames := 0, cells := 0, slots := 0, locals := 0 })).room s m ([.ref h, .int k1] : List Value).toArray below meth c H locs 0 0 (MQ below (va_Qi (fun (r9 : Int32) (_ : Unit) => r9 = r) (fun (_ : Unit) t => va_P (dC, dI) vwCl (dw_W h q g hp qp gp tq tg tn tx I' A' M' MB' L') t.heap ∧ va_K (dC, dI) vwCl (dw_T h q g hp qp gp tq tg tn tx) t ∧ va_D B9 (dw_W h q g hp qp gp tq tg tn tx I' A' M' MB' L')) B9) ([.ref h, .int k1] : List Value).toArray s 0 0 B9) (F0 m 4 ls []) := by
    intro rc hrc4 I A M MB L X Y ls H locs hf hl hP hD hS
    unfold f_D_lineSize_4 at hf
    refine lv_iload_n hx hb d_D_lineSize_4 rfl (lv_at hl 3 rfl) ?_
    refine lv_aload_n hx hb d_D_lineSize_5 rfl (lv_at hl 0 rfl) ?_
    refine va_get (D := (dC, dI)) (ci := 0) (v := .ref tq) (C := R_D) (T := F_D) (N := 14) hx hb hts (fun w h => List.mem_cons_of_mem _ (in_D w h)) hown hK hP 0 rfl rfl 5 (by decide) (hts _ (List.mem_cons_of_mem _ lk_241)) (fun _ h9 => h9) rfl d_D_lineSize_6 ?_
    refine va_alen (v := (Int32.ofNat tn)) hx hb hK hP 10 8 rfl rfl rfl d_D_lineSize_9 ?_
    refine lv_icmp_ge (tgt := 33) hx hb d_D_lineSize_10 (by decide) (fun hc1 => ?_) (fun hc1 => ?_)
    ·
      have hf := wk_ift hc1 hf
      exact blk33 rc hrc4 I A M MB L X Y _ _ _ hf (lv_sub hl [0, 1, 2, 3] rfl) hP hD hS
    ·
      have hf := wk_iff hc1 hf
      refine lv_aload_n hx hb d_D_lineSize_13 rfl (lv_at hl 0 rfl) ?_
      refine va_get (D := (dC, dI)) (ci := 0) (v := .ref tq) (C := R_D) (T := F_D) (N := 14) hx hb hts (fun w h => List.mem_cons_of_mem _ (in_D w h)) hown hK hP 0 rfl rfl 5 (by decide) (hts _ (List.mem_cons_of_mem _ lk_241)) (fun _ h9 => h9) rfl d_D_lineSize_14 ?_
      refine lv_iload_n hx hb d_D_lineSize_17 rfl (lv_at hl 3 rfl) ?_
      obtain ⟨hc2, hf⟩ := wk_if hf
      refine va_cald hx hb hK hP 10 8 rfl rfl (wk_inb_ok hc2) d_D_lineSize_18 ?_
      refine lv_bipush (v := 10) hx hb d_D_lineSize_19 (by decide) ?_
      refine lv_icmp_eq (tgt := 33) hx hb d_D_lineSize_21 (by decide) (fun hc3 => ?_) (fun hc3 => ?_)
      ·
        have hf := wk_ift hc3 hf
        exact blk33 rc hrc4 I A M MB L X Y _ _ _ hf (lv_sub hl [0, 1, 2, 3] rfl) hP hD hS
      ·
        have hf := wk_iff hc3 hf
        refine lv_iinc (k := 2) (v := ((X 2) + 1)) (lv' := [(2, .int ((X 2) + 1)), (0, .ref h), (1, .int (X 1)), (3, .int (X 3))]) hx hb d_D_lineSize_24 hl rfl (wk_inc (by decide)) (by decide) rfl (fun ls hl => ?_)
        have hl : lv_has ls 4 [(2, .int ((X 2) + 1)), (0, .ref h), (1, .int (X 1)), (3, .int (X 3))] := hl
        refine lv_iinc (k := 3) (v := ((X 3) + 1)) (lv' := [(3, .int ((X 3) + 1)), (2, .int ((X 2) + 1)), (0, .ref h), (1, .int (X 1))]) hx hb d_D_lineSize_27 hl rfl (wk_inc (by decide)) (by decide) rfl (fun ls hl => ?_)
        have hl : lv_has ls 4 [(3, .int ((X 3) + 1)), (2, .int ((X 2) + 1)), (0, .ref h), (1, .int (X 1))] := hl
        refine lv_goto (tgt := 4) hx hb d_D_lineSize_30 (by decide) ?_
        exact hrc4 I A M MB L (upd (upd X 2 ((X 2) + 1)) 3 ((X 3) + 1)) Y _ _ _ hf (lv_sub hl [2, 3, 1, 0] rfl) hP hD hS
  have key : ∀ n : Nat, (∀ (I : MI) (A : MA) (M : MI) (MB : MA) (L : ML) (X : Nat → Int32) (Y : Nat → Int64) (ls : Array Slot) (H : Heap) (locs : List Loc), f_D_lineSize_go tn tx n 4 I A M MB L X Y = some (r, I', A', M', MB', L') → lv_has ls 4 [(0, .ref h), (1, .int (X 1)), (2, .int (X 2)), (3, .int (X 3))] → va_P (dC, dI) vwCl (dw_W h q g hp qp gp tq tg tn tx I A M MB L) H → va_D B9 (dw_W h q g hp qp gp tq tg tn tx I A M MB L) → va_S B9 s.heap H locs → W p l e (headSpec w_D_lineSize ({ frames := 0, cells := 0, slots := 0, locals := 0 })).room s m ([.ref h, .int k1] : List Value).toArray below meth c H locs 0 0 (MQ below (va_Qi (fun (r9 : Int32) (_ : Unit) => r9 = r) (fun (_ : Unit) t => va_P (dC, dI) vwCl (dw_W h q g hp qp gp tq tg tn tx I' A' M' MB' L') t.heap ∧ va_K (dC, dI) vwCl (dw_T h q g hp qp gp tq tg tn tx) t ∧ va_D B9 (dw_W h q g hp qp gp tq tg tn tx I' A' M' MB' L')) B9) ([.ref h, .int k1] : List Value).toArray s 0 0 B9) (F0 m 4 ls [])) := by
    intro n
    induction n with
    | zero => exact fun I A M MB L X Y ls H locs hf => (by cases hf)
    | succ n ih =>
      have ih4 := ih
      exact stp4 (f_D_lineSize_go tn tx n) ih4
  unfold f_D_lineSize f_D_lineSize_e at hf
  have hrc4 := key wk_FUEL
  refine lv_iconst (v := 0) hx hb d_D_lineSize_0 (by decide) ?_
  refine lv_istore_n (lv' := [(2, .int 0), (0, .ref h), (1, .int k1)]) hx hb d_D_lineSize_1 rfl hl (by decide) rfl (fun ls hl => ?_)
  have hl : lv_has ls 4 [(2, .int 0), (0, .ref h), (1, .int k1)] := hl
  refine lv_iload_n hx hb d_D_lineSize_2 rfl (lv_at hl 2 rfl) ?_
  refine lv_istore_n (lv' := [(3, .int k1), (2, .int 0), (0, .ref h), (1, .int k1)]) hx hb d_D_lineSize_3 rfl hl (by decide) rfl (fun ls hl => ?_)
  have hl : lv_has ls 4 [(3, .int k1), (2, .int 0), (0, .ref h), (1, .int k1)] := hl
  exact hrc4 I A M MB L (upd (upd (upd (fun _ => 0) 1 k1) 2 0) 3 k1) (fun _ => 0) _ _ _ hf (lv_sub hl [2, 3, 1, 0] rfl) hP hD hS

set_option maxHeartbeats 8000000 in
set_option maxRecDepth 100000 in
theorem cm_D_line (l : Launch) (dC : Nat → ClassId) (dI : Nat → Nat → Nat) (h : Nat) (q : Nat → Nat) (g : Nat → ClassId) (hp : Nat) (qp : Nat → Nat) (gp : Nat → ClassId) (tq : Nat) (tg : ClassId) (tn : Nat) (tx : Nat → Int32) (sz : Nat) (I : MI) (A : MA) (M : MI) (MB : MA) (L : ML) (k1 : Int32) (k2 : Int32) (r : Int32) (I' : MI) (A' : MA) (M' : MI) (MB' : MA) (L' : ML) (hf : f_D_line tn tx I A M MB L  k1 k2 = some (0, r, I', A', M', MB', L')) : Met l y_D_line w_D_line ({ frames := 1, cells := 0, slots := 0, locals := 23 }) (va_Pc [.ref h, .int k1, .int k2] (fun U => U.heap.size = sz ∧ va_P (dC, dI) vwCl (dw_W h q g hp qp gp tq tg tn tx I A M MB L) U.heap ∧ va_K (dC, dI) vwCl (dw_T h q g hp qp gp tq tg tn tx) U ∧ va_D (fun _ => True) (dw_W h q g hp qp gp tq tg tn tx I A M MB L))) (va_Qi (fun (r9 : Int32) (_ : Unit) => r9 = r) (fun (_ : Unit) t => va_P (dC, dI) vwCl (dw_W h q g hp qp gp tq tg tn tx I' A' M' MB' L') t.heap ∧ va_K (dC, dI) vwCl (dw_T h q g hp qp gp tq tg tn tx) t ∧ va_D (va_A (dw_W h q g hp qp gp tq tg tn tx I A M MB L) sz) (dw_W h q g hp qp gp tq tg tn tx I' A' M' MB' L')) (va_A (dw_W h q g hp qp gp tq tg tn tx I A M MB L) sz)) 0 0 (va_A (dw_W h q g hp qp gp tq tg tn tx I A M MB L) sz) := by
  refine Met.ofW (cc := prog_1_method_16_code) (maxL := 3) (ret := (some .int)) (by decide) rfl ?_
  intro p e s m args below meth c s₁ B hml hv
  obtain ⟨rfl, hsz, hP, hK, hD0⟩ := hv
  have hx := B.exec
  have hb := B.bytes
  have hr := B.returns
  have hts := atoms_spec (ws := w_D_line) B.pre
  have hown : s.vm.findClass "DraftTree" = some m.cls := findClass_of_methodNamed B.named
  have hlocks := B.notSynchronized
  subst hsz
  have hD := hD0.self (sz := s.heap.size)
  generalize hAe : va_A (dw_W h q g hp qp gp tq tg tn tx I A M MB L) s.heap.size = B9 at hD ⊢
  have hA : ∀ q : Nat, s.heap.size ≤ q → B9 q := fun q h => by rw [← hAe]; exact Or.inr h
  clear hAe
  have hS : va_S B9 s.heap s.heap [] := va_S.rf
  have hl := lv_entry ([.ref h, .int k1, .int k2]) (n := 3) (Nat.le_of_ble_eq_true rfl)
  rw [lg_entry_eq]
  generalize (lg_sl ([.ref h, .int k1, .int k2]) ++ List.replicate (3 - (lg_sl ([.ref h, .int k1, .int k2])).length) Slot.unset).toArray = ls at hl ⊢
  have hl : lv_has ls 3 [(0, .ref h), (1, .int k1), (2, .int k2)] := hl
  unfold f_D_line at hf
  refine lv_iload_n hx hb d_D_line_0 rfl (lv_at hl 1 rfl) ?_
  by_cases hc1 : k1 = 0
  ·
    have hf := wk_ift hc1 hf
    refine wk_top (w := .int 0) (congrArg _ hc1) ?_
    refine lv_tableIn (off := 31) (tgt := 32) hx hb d_D_line_1 (by decide) (by decide) (by decide) (by decide) ?_
    refine lv_aload_n hx hb d_D_line_32 rfl (lv_at hl 0 rfl) ?_
    refine lv_aload_n hx hb d_D_line_33 rfl (lv_at hl 0 rfl) ?_
    refine va_get (D := (dC, dI)) (ci := 0) (v := .ref tq) (C := R_D) (T := F_D) (N := 14) hx hb hts (fun w h => List.mem_cons_of_mem _ (in_D w h)) hown hK hP 0 rfl rfl 5 (by decide) (hts _ (List.mem_cons_of_mem _ lk_241)) (fun _ h9 => h9) rfl d_D_line_34 ?_
    refine va_alen (v := (Int32.ofNat tn)) hx hb hK hP 10 8 rfl rfl rfl d_D_line_37 ?_
    have hPc := hP.sub (ws' := (dw_W h q g hp qp gp tq tg tn tx I A M MB L)) [0, 1, 2, 3, 4, 5, 6, 7, 8, 9, 10] rfl
    have hDc := hD.sub (ws' := (dw_W h q g hp qp gp tq tg tn tx I A M MB L)) [0, 1, 2, 3, 4, 5, 6, 7, 8, 9, 10] (by decide) rfl
    have hKc := hK.sub (tys' := (dw_T h q g hp qp gp tq tg tn tx)) [0, 1, 2, 3, 4, 5, 6, 7, 8] rfl
    have hFc := va_free (wc := (dw_W h q g hp qp gp tq tg tn tx I A M MB L)) hD hS hA [0, 1, 2, 3, 4, 5, 6, 7, 8, 9, 10] rfl
    cases hg1 : f_D_breaksBefore tn tx I A M MB L (Int32.ofNat tn) with
    | none => rw [hg1] at hf; cases hf
    | some z1 =>
      obtain ⟨r1, I1, A1, M1, MB1, L1⟩ := z1
      rw [hg1] at hf
      dsimp only [Option.bind_some] at hf
      refine va_calli (va_runV (As := [.int (Int32.ofNat tn)]) (rest := []) ⟨hx, hb, hml, hown, hts⟩ (cm_D_breaksBefore l dC dI h q g hp qp gp tq tg tn tx _  I A M MB L (Int32.ofNat tn) r1 I1 A1 M1 MB1 L1 hg1) (cwV 1 hts (gd_v lk_470 lk_471 lk_472 lk_444 lk_245) rfl rfl rfl (by decide +kernel) ⟨Nat.le_of_ble_eq_true rfl, Nat.le_of_ble_eq_true rfl⟩) ⟨fun a U g mk q => by obtain ⟨q0, q1, qP, qK, qD⟩ := q; exact ⟨q0, q1, qP, va_K.moved (u := U) (U := U.calling g mk a) (Vm.Alike.refl U.vm) qK, qD⟩, va_recv (ci := 0) (q0 := 0) hK hP rfl rfl, fun U hU hW => ⟨rfl, by rw [hU], by rw [hU]; exact hPc, va_K.moved hW.alike hKc, hDc.weaken (fun _ _ _ _ => trivial)⟩⟩ rfl rfl hl.1 rfl (lv_room (Nat.le_of_ble_eq_true rfl)) d_D_line_38 ⟨Nat.le_of_ble_eq_true rfl, Nat.le_of_ble_eq_true rfl⟩) hS (fun q _ h => hFc q h) hFc (fun r9 u t H1 locs ht hvm hw hB hz1 hk1 hS => ?_)
      obtain ⟨hP1, hK1, hD1⟩ := hB
      rw [ht] at hP1
      rw [hw]
      obtain ⟨hP, hD⟩ := va_join (wr := (([] : List Nat).map (fun i => ((dw_W h q g hp qp gp tq tg tn tx I A M MB L)).getD i (0, .inr (0, []))))) (w1 := (dw_W h q g hp qp gp tq tg tn tx I1 A1 M1 MB1 L1)) hP hD [0, 1, 2, 3, 4, 5, 6, 7, 8, 9, 10] [] rfl rfl (by decide) (by decide) hk1 hFc hP1 hD1
      generalize H1 = H at hP hS ⊢
      have hP := hP.sub (ws' := (dw_W h q g hp qp gp tq tg tn tx I1 A1 M1 MB1 L1)) [0, 1, 2, 3, 4, 5, 6, 7, 8, 9, 10] rfl
      have hD := hD.sub (ws' := (dw_W h q g hp qp gp tq tg tn tx I1 A1 M1 MB1 L1)) [0, 1, 2, 3, 4, 5, 6, 7, 8, 9, 10] (by decide) rfl
      refine lv_iconst (v := 1) hx hb d_D_line_41 (by decide) ?_
      refine lv_iadd hx hb d_D_line_42 ?_
      obtain ⟨e0, e1, e2, e3, e4, e5, e6⟩ := wk_inj6 hf
      subst e1
      subst e2
      subst e3
      subst e4
      subst e5
      subst e6
      exact W.iret (v := (r1 + 1)) hx hb hr (fun t ht hW => ⟨⟨(r1 + 1), (), rfl, rfl, by rw [ht]; exact hP, va_K.moved hW.alike hK, hD⟩, hS.F ht⟩) hS.2.2 d_D_line_43
  ·
    have hf := wk_iff hc1 hf
    by_cases hc2 : k1 = 1
    ·
      have hf := wk_ift hc2 hf
      refine wk_top (w := .int 1) (congrArg _ hc2) ?_
      refine lv_tableIn (off := 43) (tgt := 44) hx hb d_D_line_1 (by decide) (by decide) (by decide) (by decide) ?_
      refine lv_aload_n hx hb d_D_line_44 rfl (lv_at hl 0 rfl) ?_
      refine lv_iload_n hx hb d_D_line_45 rfl (lv_at hl 2 rfl) ?_
      have hPc := hP.sub (ws' := (dw_W h q g hp qp gp tq tg tn tx I A M MB L)) [0, 1, 2, 3, 4, 5, 6, 7, 8, 9, 10] rfl
      have hDc := hD.sub (ws' := (dw_W h q g hp qp gp tq tg tn tx I A M MB L)) [0, 1, 2, 3, 4, 5, 6, 7, 8, 9, 10] (by decide) rfl
      have hKc := hK.sub (tys' := (dw_T h q g hp qp gp tq tg tn tx)) [0, 1, 2, 3, 4, 5, 6, 7, 8] rfl
      have hFc := va_free (wc := (dw_W h q g hp qp gp tq tg tn tx I A M MB L)) hD hS hA [0, 1, 2, 3, 4, 5, 6, 7, 8, 9, 10] rfl
      cases hg1 : f_D_requirePlace tn tx I A M MB L k2 with
      | none => rw [hg1] at hf; cases hf
      | some z1 =>
        obtain ⟨tg1, r1, I1, A1, M1, MB1, L1⟩ := z1
        rw [hg1] at hf
        dsimp only [Option.bind_some] at hf
        by_cases ht1 : tg1 = 0
        ·
          have hf := wk_ift ht1 hf
          rw [ht1] at hg1
          refine va_callv (va_runV (As := [.int k2]) (rest := []) ⟨hx, hb, hml, hown, hts⟩ (cm_D_requirePlace l dC dI h q g hp qp gp tq tg tn tx _  I A M MB L k2 r1 I1 A1 M1 MB1 L1 hg1) (cwV 1 hts (gd_v lk_441 lk_442 lk_443 lk_444 lk_440) rfl rfl rfl (by decide +kernel) ⟨Nat.le_of_ble_eq_true rfl, Nat.le_of_ble_eq_true rfl⟩) ⟨fun a U g mk q => by obtain ⟨q0, q1, qP, qK, qD⟩ := q; exact ⟨q0, q1, qP, va_K.moved (u := U) (U := U.calling g mk a) (Vm.Alike.refl U.vm) qK, qD⟩, va_recv (ci := 0) (q0 := 0) hK hP rfl rfl, fun U hU hW => ⟨rfl, by rw [hU], by rw [hU]; exact hPc, va_K.moved hW.alike hKc, hDc.weaken (fun _ _ _ _ => trivial)⟩⟩ rfl rfl hl.1 rfl (lv_room (Nat.le_of_ble_eq_true rfl)) d_D_line_46 ⟨Nat.le_of_ble_eq_true rfl, Nat.le_of_ble_eq_true rfl⟩) hS (fun q _ h => hFc q h) hFc (fun u t H1 locs ht hvm hw hB hz1 hk1 hS => ?_)
          obtain ⟨hP1, hK1, hD1⟩ := hB
          rw [ht] at hP1
          obtain ⟨hP, hD⟩ := va_join (wr := (([] : List Nat).map (fun i => ((dw_W h q g hp qp gp tq tg tn tx I A M MB L)).getD i (0, .inr (0, []))))) (w1 := (dw_W h q g hp qp gp tq tg tn tx I1 A1 M1 MB1 L1)) hP hD [0, 1, 2, 3, 4, 5, 6, 7, 8, 9, 10] [] rfl rfl (by decide) (by decide) hk1 hFc hP1 hD1
          generalize H1 = H at hP hS ⊢
          have hP := hP.sub (ws' := (dw_W h q g hp qp gp tq tg tn tx I1 A1 M1 MB1 L1)) [0, 1, 2, 3, 4, 5, 6, 7, 8, 9, 10] rfl
          have hD := hD.sub (ws' := (dw_W h q g hp qp gp tq tg tn tx I1 A1 M1 MB1 L1)) [0, 1, 2, 3, 4, 5, 6, 7, 8, 9, 10] (by decide) rfl
          refine lv_aload_n hx hb d_D_line_49 rfl (lv_at hl 0 rfl) ?_
          refine lv_iload_n hx hb d_D_line_50 rfl (lv_at hl 2 rfl) ?_
          have hPc := hP.sub (ws' := (dw_W h q g hp qp gp tq tg tn tx I1 A1 M1 MB1 L1)) [0, 1, 2, 3, 4, 5, 6, 7, 8, 9, 10] rfl
          have hDc := hD.sub (ws' := (dw_W h q g hp qp gp tq tg tn tx I1 A1 M1 MB1 L1)) [0, 1, 2, 3, 4, 5, 6, 7, 8, 9, 10] (by decide) rfl
          have hKc := hK.sub (tys' := (dw_T h q g hp qp gp tq tg tn tx)) [0, 1, 2, 3, 4, 5, 6, 7, 8] rfl
          have hFc := va_free (wc := (dw_W h q g hp qp gp tq tg tn tx I1 A1 M1 MB1 L1)) hD hS hA [0, 1, 2, 3, 4, 5, 6, 7, 8, 9, 10] rfl
          cases hg2 : f_D_breaksBefore tn tx I1 A1 M1 MB1 L1 k2 with
          | none => rw [hg2] at hf; cases hf
          | some z2 =>
            obtain ⟨r2, I2, A2, M2, MB2, L2⟩ := z2
            rw [hg2] at hf
            dsimp only [Option.bind_some] at hf
            refine va_calli (va_runV (As := [.int k2]) (rest := []) ⟨hx, hb, hml, hown, hts⟩ (cm_D_breaksBefore l dC dI h q g hp qp gp tq tg tn tx _  I1 A1 M1 MB1 L1 k2 r2 I2 A2 M2 MB2 L2 hg2) (cwV 1 hts (gd_v lk_470 lk_471 lk_472 lk_444 lk_245) rfl rfl rfl (by decide +kernel) ⟨Nat.le_of_ble_eq_true rfl, Nat.le_of_ble_eq_true rfl⟩) ⟨fun a U g mk q => by obtain ⟨q0, q1, qP, qK, qD⟩ := q; exact ⟨q0, q1, qP, va_K.moved (u := U) (U := U.calling g mk a) (Vm.Alike.refl U.vm) qK, qD⟩, va_recv (ci := 0) (q0 := 0) hK hP rfl rfl, fun U hU hW => ⟨rfl, by rw [hU], by rw [hU]; exact hPc, va_K.moved hW.alike hKc, hDc.weaken (fun _ _ _ _ => trivial)⟩⟩ rfl rfl hl.1 rfl (lv_room (Nat.le_of_ble_eq_true rfl)) d_D_line_51 ⟨Nat.le_of_ble_eq_true rfl, Nat.le_of_ble_eq_true rfl⟩) hS (fun q _ h => hFc q h) hFc (fun r9 u t H1 locs ht hvm hw hB hz1 hk1 hS => ?_)
            obtain ⟨hP1, hK1, hD1⟩ := hB
            rw [ht] at hP1
            rw [hw]
            obtain ⟨hP, hD⟩ := va_join (wr := (([] : List Nat).map (fun i => ((dw_W h q g hp qp gp tq tg tn tx I1 A1 M1 MB1 L1)).getD i (0, .inr (0, []))))) (w1 := (dw_W h q g hp qp gp tq tg tn tx I2 A2 M2 MB2 L2)) hP hD [0, 1, 2, 3, 4, 5, 6, 7, 8, 9, 10] [] rfl rfl (by decide) (by decide) hk1 hFc hP1 hD1
            generalize H1 = H at hP hS ⊢
            have hP := hP.sub (ws' := (dw_W h q g hp qp gp tq tg tn tx I2 A2 M2 MB2 L2)) [0, 1, 2, 3, 4, 5, 6, 7, 8, 9, 10] rfl
            have hD := hD.sub (ws' := (dw_W h q g hp qp gp tq tg tn tx I2 A2 M2 MB2 L2)) [0, 1, 2, 3, 4, 5, 6, 7, 8, 9, 10] (by decide) rfl
            obtain ⟨e0, e1, e2, e3, e4, e5, e6⟩ := wk_inj6 hf
            subst e1
            subst e2
            subst e3
            subst e4
            subst e5
            subst e6
            exact W.iret (v := r2) hx hb hr (fun t ht hW => ⟨⟨r2, (), rfl, rfl, by rw [ht]; exact hP, va_K.moved hW.alike hK, hD⟩, hS.F ht⟩) hS.2.2 d_D_line_54
        ·
          have hf := wk_iff ht1 hf
          by_cases hq1_2 : tg1 = 2
          ·
            have hf := wk_ift hq1_2 hf
            exact (wk_tag (by decide) hf).elim
          ·
            have hf := wk_iff hq1_2 hf
            cases hf
    ·
      have hf := wk_iff hc2 hf
      by_cases hc3 : k1 = 2
      ·
        have hf := wk_ift hc3 hf
        refine wk_top (w := .int 2) (congrArg _ hc3) ?_
        refine lv_tableIn (off := 54) (tgt := 55) hx hb d_D_line_1 (by decide) (by decide) (by decide) (by decide) ?_
        refine lv_aload_n hx hb d_D_line_55 rfl (lv_at hl 0 rfl) ?_
        refine lv_iload_n hx hb d_D_line_56 rfl (lv_at hl 2 rfl) ?_
        have hPc := hP.sub (ws' := (dw_W h q g hp qp gp tq tg tn tx I A M MB L)) [0, 1, 2, 3, 4, 5, 6, 7, 8, 9, 10] rfl
        have hDc := hD.sub (ws' := (dw_W h q g hp qp gp tq tg tn tx I A M MB L)) [0, 1, 2, 3, 4, 5, 6, 7, 8, 9, 10] (by decide) rfl
        have hKc := hK.sub (tys' := (dw_T h q g hp qp gp tq tg tn tx)) [0, 1, 2, 3, 4, 5, 6, 7, 8] rfl
        have hFc := va_free (wc := (dw_W h q g hp qp gp tq tg tn tx I A M MB L)) hD hS hA [0, 1, 2, 3, 4, 5, 6, 7, 8, 9, 10] rfl
        cases hg1 : f_D_lineBegin tn tx I A M MB L k2 with
        | none => rw [hg1] at hf; cases hf
        | some z1 =>
          obtain ⟨tg1, r1, I1, A1, M1, MB1, L1⟩ := z1
          rw [hg1] at hf
          dsimp only [Option.bind_some] at hf
          by_cases ht1 : tg1 = 0
          ·
            have hf := wk_ift ht1 hf
            rw [ht1] at hg1
            refine va_calli (va_runV (As := [.int k2]) (rest := []) ⟨hx, hb, hml, hown, hts⟩ (cm_D_lineBegin l dC dI h q g hp qp gp tq tg tn tx _  I A M MB L k2 r1 I1 A1 M1 MB1 L1 hg1) (cwV 1 hts (gd_v lk_474 lk_475 lk_476 lk_444 lk_473) rfl rfl rfl (by decide +kernel) ⟨Nat.le_of_ble_eq_true rfl, Nat.le_of_ble_eq_true rfl⟩) ⟨fun a U g mk q => by obtain ⟨q0, q1, qP, qK, qD⟩ := q; exact ⟨q0, q1, qP, va_K.moved (u := U) (U := U.calling g mk a) (Vm.Alike.refl U.vm) qK, qD⟩, va_recv (ci := 0) (q0 := 0) hK hP rfl rfl, fun U hU hW => ⟨rfl, by rw [hU], by rw [hU]; exact hPc, va_K.moved hW.alike hKc, hDc.weaken (fun _ _ _ _ => trivial)⟩⟩ rfl rfl hl.1 rfl (lv_room (Nat.le_of_ble_eq_true rfl)) d_D_line_57 ⟨Nat.le_of_ble_eq_true rfl, Nat.le_of_ble_eq_true rfl⟩) hS (fun q _ h => hFc q h) hFc (fun r9 u t H1 locs ht hvm hw hB hz1 hk1 hS => ?_)
            obtain ⟨hP1, hK1, hD1⟩ := hB
            rw [ht] at hP1
            rw [hw]
            obtain ⟨hP, hD⟩ := va_join (wr := (([] : List Nat).map (fun i => ((dw_W h q g hp qp gp tq tg tn tx I A M MB L)).getD i (0, .inr (0, []))))) (w1 := (dw_W h q g hp qp gp tq tg tn tx I1 A1 M1 MB1 L1)) hP hD [0, 1, 2, 3, 4, 5, 6, 7, 8, 9, 10] [] rfl rfl (by decide) (by decide) hk1 hFc hP1 hD1
            generalize H1 = H at hP hS ⊢
            have hP := hP.sub (ws' := (dw_W h q g hp qp gp tq tg tn tx I1 A1 M1 MB1 L1)) [0, 1, 2, 3, 4, 5, 6, 7, 8, 9, 10] rfl
            have hD := hD.sub (ws' := (dw_W h q g hp qp gp tq tg tn tx I1 A1 M1 MB1 L1)) [0, 1, 2, 3, 4, 5, 6, 7, 8, 9, 10] (by decide) rfl
            obtain ⟨e0, e1, e2, e3, e4, e5, e6⟩ := wk_inj6 hf
            subst e1
            subst e2
            subst e3
            subst e4
            subst e5
            subst e6
            exact W.iret (v := r1) hx hb hr (fun t ht hW => ⟨⟨r1, (), rfl, rfl, by rw [ht]; exact hP, va_K.moved hW.alike hK, hD⟩, hS.F ht⟩) hS.2.2 d_D_line_60
          ·
            have hf := wk_iff ht1 hf
            by_cases hq1_2 : tg1 = 2
            ·
              have hf := wk_ift hq1_2 hf
              exact (wk_tag (by decide) hf).elim
            ·
              have hf := wk_iff hq1_2 hf
              cases hf
      ·
        have hf := wk_iff hc3 hf
        by_cases hc4 : k1 = 3
        ·
          have hf := wk_ift hc4 hf
          refine wk_top (w := .int 3) (congrArg _ hc4) ?_
          refine lv_tableIn (off := 60) (tgt := 61) hx hb d_D_line_1 (by decide) (by decide) (by decide) (by decide) ?_
          refine lv_aload_n hx hb d_D_line_61 rfl (lv_at hl 0 rfl) ?_
          refine lv_aload_n hx hb d_D_line_62 rfl (lv_at hl 0 rfl) ?_
          refine lv_iload_n hx hb d_D_line_63 rfl (lv_at hl 2 rfl) ?_
          have hPc := hP.sub (ws' := (dw_W h q g hp qp gp tq tg tn tx I A M MB L)) [0, 1, 2, 3, 4, 5, 6, 7, 8, 9, 10] rfl
          have hDc := hD.sub (ws' := (dw_W h q g hp qp gp tq tg tn tx I A M MB L)) [0, 1, 2, 3, 4, 5, 6, 7, 8, 9, 10] (by decide) rfl
          have hKc := hK.sub (tys' := (dw_T h q g hp qp gp tq tg tn tx)) [0, 1, 2, 3, 4, 5, 6, 7, 8] rfl
          have hFc := va_free (wc := (dw_W h q g hp qp gp tq tg tn tx I A M MB L)) hD hS hA [0, 1, 2, 3, 4, 5, 6, 7, 8, 9, 10] rfl
          cases hg1 : f_D_lineBegin tn tx I A M MB L k2 with
          | none => rw [hg1] at hf; cases hf
          | some z1 =>
            obtain ⟨tg1, r1, I1, A1, M1, MB1, L1⟩ := z1
            rw [hg1] at hf
            dsimp only [Option.bind_some] at hf
            by_cases ht1 : tg1 = 0
            ·
              have hf := wk_ift ht1 hf
              rw [ht1] at hg1
              refine va_calli (va_runV (As := [.int k2]) (rest := [.ref h]) ⟨hx, hb, hml, hown, hts⟩ (cm_D_lineBegin l dC dI h q g hp qp gp tq tg tn tx _  I A M MB L k2 r1 I1 A1 M1 MB1 L1 hg1) (cwV 1 hts (gd_v lk_474 lk_475 lk_476 lk_444 lk_473) rfl rfl rfl (by decide +kernel) ⟨Nat.le_of_ble_eq_true rfl, Nat.le_of_ble_eq_true rfl⟩) ⟨fun a U g mk q => by obtain ⟨q0, q1, qP, qK, qD⟩ := q; exact ⟨q0, q1, qP, va_K.moved (u := U) (U := U.calling g mk a) (Vm.Alike.refl U.vm) qK, qD⟩, va_recv (ci := 0) (q0 := 0) hK hP rfl rfl, fun U hU hW => ⟨rfl, by rw [hU], by rw [hU]; exact hPc, va_K.moved hW.alike hKc, hDc.weaken (fun _ _ _ _ => trivial)⟩⟩ rfl rfl hl.1 rfl (lv_room (Nat.le_of_ble_eq_true rfl)) d_D_line_64 ⟨Nat.le_of_ble_eq_true rfl, Nat.le_of_ble_eq_true rfl⟩) hS (fun q _ h => hFc q h) hFc (fun r9 u t H1 locs ht hvm hw hB hz1 hk1 hS => ?_)
              obtain ⟨hP1, hK1, hD1⟩ := hB
              rw [ht] at hP1
              rw [hw]
              obtain ⟨hP, hD⟩ := va_join (wr := (([] : List Nat).map (fun i => ((dw_W h q g hp qp gp tq tg tn tx I A M MB L)).getD i (0, .inr (0, []))))) (w1 := (dw_W h q g hp qp gp tq tg tn tx I1 A1 M1 MB1 L1)) hP hD [0, 1, 2, 3, 4, 5, 6, 7, 8, 9, 10] [] rfl rfl (by decide) (by decide) hk1 hFc hP1 hD1
              generalize H1 = H at hP hS ⊢
              have hP := hP.sub (ws' := (dw_W h q g hp qp gp tq tg tn tx I1 A1 M1 MB1 L1)) [0, 1, 2, 3, 4, 5, 6, 7, 8, 9, 10] rfl
              have hD := hD.sub (ws' := (dw_W h q g hp qp gp tq tg tn tx I1 A1 M1 MB1 L1)) [0, 1, 2, 3, 4, 5, 6, 7, 8, 9, 10] (by decide) rfl
              have hPc := hP.sub (ws' := (dw_W h q g hp qp gp tq tg tn tx I1 A1 M1 MB1 L1)) [0, 1, 2, 3, 4, 5, 6, 7, 8, 9, 10] rfl
              have hDc := hD.sub (ws' := (dw_W h q g hp qp gp tq tg tn tx I1 A1 M1 MB1 L1)) [0, 1, 2, 3, 4, 5, 6, 7, 8, 9, 10] (by decide) rfl
              have hKc := hK.sub (tys' := (dw_T h q g hp qp gp tq tg tn tx)) [0, 1, 2, 3, 4, 5, 6, 7, 8] rfl
              have hFc := va_free (wc := (dw_W h q g hp qp gp tq tg tn tx I1 A1 M1 MB1 L1)) hD hS hA [0, 1, 2, 3, 4, 5, 6, 7, 8, 9, 10] rfl
              cases hg2 : f_D_lineSize tn tx I1 A1 M1 MB1 L1 r1 with
              | none => rw [hg2] at hf; cases hf
              | some z2 =>
                obtain ⟨r2, I2, A2, M2, MB2, L2⟩ := z2
                rw [hg2] at hf
                dsimp only [Option.bind_some] at hf
                refine va_calli (va_runV (As := [.int r1]) (rest := []) ⟨hx, hb, hml, hown, hts⟩ (cm_D_lineSize l dC dI h q g hp qp gp tq tg tn tx _  I1 A1 M1 MB1 L1 r1 r2 I2 A2 M2 MB2 L2 hg2) (cwV 1 hts (gd_v lk_478 lk_479 lk_480 lk_444 lk_477) rfl rfl rfl (by decide +kernel) ⟨Nat.le_of_ble_eq_true rfl, Nat.le_of_ble_eq_true rfl⟩) ⟨fun a U g mk q => by obtain ⟨q0, q1, qP, qK, qD⟩ := q; exact ⟨q0, q1, qP, va_K.moved (u := U) (U := U.calling g mk a) (Vm.Alike.refl U.vm) qK, qD⟩, va_recv (ci := 0) (q0 := 0) hK hP rfl rfl, fun U hU hW => ⟨rfl, by rw [hU], by rw [hU]; exact hPc, va_K.moved hW.alike hKc, hDc.weaken (fun _ _ _ _ => trivial)⟩⟩ rfl rfl hl.1 rfl (lv_room (Nat.le_of_ble_eq_true rfl)) d_D_line_67 ⟨Nat.le_of_ble_eq_true rfl, Nat.le_of_ble_eq_true rfl⟩) hS (fun q _ h => hFc q h) hFc (fun r9 u t H1 locs ht hvm hw hB hz1 hk1 hS => ?_)
                obtain ⟨hP1, hK1, hD1⟩ := hB
                rw [ht] at hP1
                rw [hw]
                obtain ⟨hP, hD⟩ := va_join (wr := (([] : List Nat).map (fun i => ((dw_W h q g hp qp gp tq tg tn tx I1 A1 M1 MB1 L1)).getD i (0, .inr (0, []))))) (w1 := (dw_W h q g hp qp gp tq tg tn tx I2 A2 M2 MB2 L2)) hP hD [0, 1, 2, 3, 4, 5, 6, 7, 8, 9, 10] [] rfl rfl (by decide) (by decide) hk1 hFc hP1 hD1
                generalize H1 = H at hP hS ⊢
                have hP := hP.sub (ws' := (dw_W h q g hp qp gp tq tg tn tx I2 A2 M2 MB2 L2)) [0, 1, 2, 3, 4, 5, 6, 7, 8, 9, 10] rfl
                have hD := hD.sub (ws' := (dw_W h q g hp qp gp tq tg tn tx I2 A2 M2 MB2 L2)) [0, 1, 2, 3, 4, 5, 6, 7, 8, 9, 10] (by decide) rfl
                obtain ⟨e0, e1, e2, e3, e4, e5, e6⟩ := wk_inj6 hf
                subst e1
                subst e2
                subst e3
                subst e4
                subst e5
                subst e6
                exact W.iret (v := r2) hx hb hr (fun t ht hW => ⟨⟨r2, (), rfl, rfl, by rw [ht]; exact hP, va_K.moved hW.alike hK, hD⟩, hS.F ht⟩) hS.2.2 d_D_line_70
            ·
              have hf := wk_iff ht1 hf
              by_cases hq1_2 : tg1 = 2
              ·
                have hf := wk_ift hq1_2 hf
                exact (wk_tag (by decide) hf).elim
              ·
                have hf := wk_iff hq1_2 hf
                cases hf
        ·
          have hf := wk_iff hc4 hf
          have nhc1 : ¬ (k1).toInt = 0 := fun z => hc1 ((wk_eq 0 (by decide)).mpr z)
          have nhc2 : ¬ (k1).toInt = 1 := fun z => hc2 ((wk_eq 1 (by decide)).mpr z)
          have nhc3 : ¬ (k1).toInt = 2 := fun z => hc3 ((wk_eq 2 (by decide)).mpr z)
          have nhc4 : ¬ (k1).toInt = 3 := fun z => hc4 ((wk_eq 3 (by decide)).mpr z)
          refine lv_tableOut (tgt := 71) hx hb d_D_line_1 (by omega) (by decide) ?_
          exact (wk_tag (by decide) hf).elim
set_option maxHeartbeats 8000000 in
set_option maxRecDepth 100000 in
theorem ct_D_line_2 (l : Launch) (hfl : l.flags = flags0) (dC : Nat → ClassId) (dI : Nat → Nat → Nat) (h : Nat) (q : Nat → Nat) (g : Nat → ClassId) (hp : Nat) (qp : Nat → Nat) (gp : Nat → ClassId) (tq : Nat) (tg : ClassId) (tn : Nat) (tx : Nat → Int32) (sz : Nat) (I : MI) (A : MA) (M : MI) (MB : MA) (L : ML) (k1 : Int32) (k2 : Int32) (r : Int32) (I' : MI) (A' : MA) (M' : MI) (MB' : MA) (L' : ML) (hf : f_D_line tn tx I A M MB L  k1 k2 = some (2, r, I', A', M', MB', L')) : th_Met l y_D_line w_D_line ({ frames := 7, cells := 1, slots := 6, locals := 104 }) (va_Pc [.ref h, .int k1, .int k2] (fun U => U.heap.size = sz ∧ va_P (dC, dI) vwCl (dw_W h q g hp qp gp tq tg tn tx I A M MB L) U.heap ∧ va_K (dC, dI) vwCl (dw_T h q g hp qp gp tq tg tn tx) U ∧ va_D (fun _ => True) (dw_W h q g hp qp gp tq tg tn tx I A M MB L) ∧ th_ZA (va_A (dw_W h q g hp qp gp tq tg tn tx I A M MB L) sz) U)) (th_Qw "java/lang/IndexOutOfBoundsException" (fun t => va_P (dC, dI) vwCl (dw_W h q g hp qp gp tq tg tn tx I' A' M' MB' L') t.heap ∧ va_K (dC, dI) vwCl (dw_T h q g hp qp gp tq tg tn tx) t ∧ va_D (va_A (dw_W h q g hp qp gp tq tg tn tx I A M MB L) sz) (dw_W h q g hp qp gp tq tg tn tx I' A' M' MB' L')) (va_A (dw_W h q g hp qp gp tq tg tn tx I A M MB L) sz)) 1 6 (va_A (dw_W h q g hp qp gp tq tg tn tx I A M MB L) sz) := by
  refine th_Met.ofW (cc := prog_1_method_16_code) (maxL := 3) (ret := (some .int)) (by decide) rfl ?_
  intro p e s m args below meth c s₁ B hml hnh hv
  obtain ⟨rfl, hsz, hP, hK, hD0, hZ⟩ := hv
  have hx := B.exec
  have hb := B.bytes
  have hr := B.returns
  have hts := atoms_spec (ws := w_D_line) B.pre
  have hown : s.vm.findClass "DraftTree" = some m.cls := findClass_of_methodNamed B.named
  have hlocks := B.notSynchronized
  have htr := Launch.traces_off hfl B.admits
  subst hsz
  have hD := hD0.self (sz := s.heap.size)
  generalize hAe : va_A (dw_W h q g hp qp gp tq tg tn tx I A M MB L) s.heap.size = B9 at hD hZ ⊢
  have hA : ∀ q : Nat, s.heap.size ≤ q → B9 q := fun q h => by rw [← hAe]; exact Or.inr h
  clear hAe
  have hS : va_S B9 s.heap s.heap [] := va_S.rf
  have hl := lv_entry ([.ref h, .int k1, .int k2]) (n := 3) (Nat.le_of_ble_eq_true rfl)
  rw [lg_entry_eq]
  generalize (lg_sl ([.ref h, .int k1, .int k2]) ++ List.replicate (3 - (lg_sl ([.ref h, .int k1, .int k2])).length) Slot.unset).toArray = ls at hl ⊢
  have hl : lv_has ls 3 [(0, .ref h), (1, .int k1), (2, .int k2)] := hl
  unfold f_D_line at hf
  refine lv_iload_n hx hb d_D_line_0 rfl (lv_at hl 1 rfl) ?_
  by_cases hc1 : k1 = 0
  ·
    have hf := wk_ift hc1 hf
    refine wk_top (w := .int 0) (congrArg _ hc1) ?_
    refine lv_tableIn (off := 31) (tgt := 32) hx hb d_D_line_1 (by decide) (by decide) (by decide) (by decide) ?_
    refine lv_aload_n hx hb d_D_line_32 rfl (lv_at hl 0 rfl) ?_
    refine lv_aload_n hx hb d_D_line_33 rfl (lv_at hl 0 rfl) ?_
    refine va_get (D := (dC, dI)) (ci := 0) (v := .ref tq) (C := R_D) (T := F_D) (N := 14) hx hb hts (fun w h => List.mem_cons_of_mem _ (in_D w h)) hown hK hP 0 rfl rfl 5 (by decide) (hts _ (List.mem_cons_of_mem _ lk_241)) (fun _ h9 => h9) rfl d_D_line_34 ?_
    refine va_alen (v := (Int32.ofNat tn)) hx hb hK hP 10 8 rfl rfl rfl d_D_line_37 ?_
    have hPc := hP.sub (ws' := (dw_W h q g hp qp gp tq tg tn tx I A M MB L)) [0, 1, 2, 3, 4, 5, 6, 7, 8, 9, 10] rfl
    have hDc := hD.sub (ws' := (dw_W h q g hp qp gp tq tg tn tx I A M MB L)) [0, 1, 2, 3, 4, 5, 6, 7, 8, 9, 10] (by decide) rfl
    have hKc := hK.sub (tys' := (dw_T h q g hp qp gp tq tg tn tx)) [0, 1, 2, 3, 4, 5, 6, 7, 8] rfl
    have hFc := va_free (wc := (dw_W h q g hp qp gp tq tg tn tx I A M MB L)) hD hS hA [0, 1, 2, 3, 4, 5, 6, 7, 8, 9, 10] rfl
    cases hg1 : f_D_breaksBefore tn tx I A M MB L (Int32.ofNat tn) with
    | none => rw [hg1] at hf; cases hf
    | some z1 =>
      obtain ⟨r1, I1, A1, M1, MB1, L1⟩ := z1
      rw [hg1] at hf
      dsimp only [Option.bind_some] at hf
      refine va_calli (va_runV (As := [.int (Int32.ofNat tn)]) (rest := []) ⟨hx, hb, hml, hown, hts⟩ (cm_D_breaksBefore l dC dI h q g hp qp gp tq tg tn tx _  I A M MB L (Int32.ofNat tn) r1 I1 A1 M1 MB1 L1 hg1) (cwV 1 hts (gd_v lk_470 lk_471 lk_472 lk_444 lk_245) rfl rfl rfl (by decide +kernel) ⟨Nat.le_of_ble_eq_true rfl, Nat.le_of_ble_eq_true rfl⟩) ⟨fun a U g mk q => by obtain ⟨q0, q1, qP, qK, qD⟩ := q; exact ⟨q0, q1, qP, va_K.moved (u := U) (U := U.calling g mk a) (Vm.Alike.refl U.vm) qK, qD⟩, va_recv (ci := 0) (q0 := 0) hK hP rfl rfl, fun U hU hW => ⟨rfl, by rw [hU], by rw [hU]; exact hPc, va_K.moved hW.alike hKc, hDc.weaken (fun _ _ _ _ => trivial)⟩⟩ rfl rfl hl.1 rfl (lv_room (Nat.le_of_ble_eq_true rfl)) d_D_line_38 ⟨Nat.le_of_ble_eq_true rfl, Nat.le_of_ble_eq_true rfl⟩) hS (fun q _ h => hFc q h) hFc (fun r9 u t H1 locs ht hvm hw hB hz1 hk1 hS => ?_)
      obtain ⟨hP1, hK1, hD1⟩ := hB
      rw [ht] at hP1
      rw [hw]
      obtain ⟨hP, hD⟩ := va_join (wr := (([] : List Nat).map (fun i => ((dw_W h q g hp qp gp tq tg tn tx I A M MB L)).getD i (0, .inr (0, []))))) (w1 := (dw_W h q g hp qp gp tq tg tn tx I1 A1 M1 MB1 L1)) hP hD [0, 1, 2, 3, 4, 5, 6, 7, 8, 9, 10] [] rfl rfl (by decide) (by decide) hk1 hFc hP1 hD1
      generalize H1 = H at hP hS ⊢
      have hP := hP.sub (ws' := (dw_W h q g hp qp gp tq tg tn tx I1 A1 M1 MB1 L1)) [0, 1, 2, 3, 4, 5, 6, 7, 8, 9, 10] rfl
      have hD := hD.sub (ws' := (dw_W h q g hp qp gp tq tg tn tx I1 A1 M1 MB1 L1)) [0, 1, 2, 3, 4, 5, 6, 7, 8, 9, 10] (by decide) rfl
      refine lv_iconst (v := 1) hx hb d_D_line_41 (by decide) ?_
      refine lv_iadd hx hb d_D_line_42 ?_
      exact (wk_tag (by decide) hf).elim
  ·
    have hf := wk_iff hc1 hf
    by_cases hc2 : k1 = 1
    ·
      have hf := wk_ift hc2 hf
      refine wk_top (w := .int 1) (congrArg _ hc2) ?_
      refine lv_tableIn (off := 43) (tgt := 44) hx hb d_D_line_1 (by decide) (by decide) (by decide) (by decide) ?_
      refine lv_aload_n hx hb d_D_line_44 rfl (lv_at hl 0 rfl) ?_
      refine lv_iload_n hx hb d_D_line_45 rfl (lv_at hl 2 rfl) ?_
      have hPc := hP.sub (ws' := (dw_W h q g hp qp gp tq tg tn tx I A M MB L)) [0, 1, 2, 3, 4, 5, 6, 7, 8, 9, 10] rfl
      have hDc := hD.sub (ws' := (dw_W h q g hp qp gp tq tg tn tx I A M MB L)) [0, 1, 2, 3, 4, 5, 6, 7, 8, 9, 10] (by decide) rfl
      have hKc := hK.sub (tys' := (dw_T h q g hp qp gp tq tg tn tx)) [0, 1, 2, 3, 4, 5, 6, 7, 8] rfl
      have hFc := va_free (wc := (dw_W h q g hp qp gp tq tg tn tx I A M MB L)) hD hS hA [0, 1, 2, 3, 4, 5, 6, 7, 8, 9, 10] rfl
      cases hg1 : f_D_requirePlace tn tx I A M MB L k2 with
      | none => rw [hg1] at hf; cases hf
      | some z1 =>
        obtain ⟨tg1, r1, I1, A1, M1, MB1, L1⟩ := z1
        rw [hg1] at hf
        dsimp only [Option.bind_some] at hf
        by_cases ht1 : tg1 = 0
        ·
          have hf := wk_ift ht1 hf
          rw [ht1] at hg1
          refine va_callv (va_runV (As := [.int k2]) (rest := []) ⟨hx, hb, hml, hown, hts⟩ (cm_D_requirePlace l dC dI h q g hp qp gp tq tg tn tx _  I A M MB L k2 r1 I1 A1 M1 MB1 L1 hg1) (cwV 1 hts (gd_v lk_441 lk_442 lk_443 lk_444 lk_440) rfl rfl rfl (by decide +kernel) ⟨Nat.le_of_ble_eq_true rfl, Nat.le_of_ble_eq_true rfl⟩) ⟨fun a U g mk q => by obtain ⟨q0, q1, qP, qK, qD⟩ := q; exact ⟨q0, q1, qP, va_K.moved (u := U) (U := U.calling g mk a) (Vm.Alike.refl U.vm) qK, qD⟩, va_recv (ci := 0) (q0 := 0) hK hP rfl rfl, fun U hU hW => ⟨rfl, by rw [hU], by rw [hU]; exact hPc, va_K.moved hW.alike hKc, hDc.weaken (fun _ _ _ _ => trivial)⟩⟩ rfl rfl hl.1 rfl (lv_room (Nat.le_of_ble_eq_true rfl)) d_D_line_46 ⟨Nat.le_of_ble_eq_true rfl, Nat.le_of_ble_eq_true rfl⟩) hS (fun q _ h => hFc q h) hFc (fun u t H1 locs ht hvm hw hB hz1 hk1 hS => ?_)
          obtain ⟨hP1, hK1, hD1⟩ := hB
          rw [ht] at hP1
          obtain ⟨hP, hD⟩ := va_join (wr := (([] : List Nat).map (fun i => ((dw_W h q g hp qp gp tq tg tn tx I A M MB L)).getD i (0, .inr (0, []))))) (w1 := (dw_W h q g hp qp gp tq tg tn tx I1 A1 M1 MB1 L1)) hP hD [0, 1, 2, 3, 4, 5, 6, 7, 8, 9, 10] [] rfl rfl (by decide) (by decide) hk1 hFc hP1 hD1
          generalize H1 = H at hP hS ⊢
          have hP := hP.sub (ws' := (dw_W h q g hp qp gp tq tg tn tx I1 A1 M1 MB1 L1)) [0, 1, 2, 3, 4, 5, 6, 7, 8, 9, 10] rfl
          have hD := hD.sub (ws' := (dw_W h q g hp qp gp tq tg tn tx I1 A1 M1 MB1 L1)) [0, 1, 2, 3, 4, 5, 6, 7, 8, 9, 10] (by decide) rfl
          refine lv_aload_n hx hb d_D_line_49 rfl (lv_at hl 0 rfl) ?_
          refine lv_iload_n hx hb d_D_line_50 rfl (lv_at hl 2 rfl) ?_
          have hPc := hP.sub (ws' := (dw_W h q g hp qp gp tq tg tn tx I1 A1 M1 MB1 L1)) [0, 1, 2, 3, 4, 5, 6, 7, 8, 9, 10] rfl
          have hDc := hD.sub (ws' := (dw_W h q g hp qp gp tq tg tn tx I1 A1 M1 MB1 L1)) [0, 1, 2, 3, 4, 5, 6, 7, 8, 9, 10] (by decide) rfl
          have hKc := hK.sub (tys' := (dw_T h q g hp qp gp tq tg tn tx)) [0, 1, 2, 3, 4, 5, 6, 7, 8] rfl
          have hFc := va_free (wc := (dw_W h q g hp qp gp tq tg tn tx I1 A1 M1 MB1 L1)) hD hS hA [0, 1, 2, 3, 4, 5, 6, 7, 8, 9, 10] rfl
          cases hg2 : f_D_breaksBefore tn tx I1 A1 M1 MB1 L1 k2 with
          | none => rw [hg2] at hf; cases hf
          | some z2 =>
            obtain ⟨r2, I2, A2, M2, MB2, L2⟩ := z2
            rw [hg2] at hf
            dsimp only [Option.bind_some] at hf
            refine va_calli (va_runV (As := [.int k2]) (rest := []) ⟨hx, hb, hml, hown, hts⟩ (cm_D_breaksBefore l dC dI h q g hp qp gp tq tg tn tx _  I1 A1 M1 MB1 L1 k2 r2 I2 A2 M2 MB2 L2 hg2) (cwV 1 hts (gd_v lk_470 lk_471 lk_472 lk_444 lk_245) rfl rfl rfl (by decide +kernel) ⟨Nat.le_of_ble_eq_true rfl, Nat.le_of_ble_eq_true rfl⟩) ⟨fun a U g mk q => by obtain ⟨q0, q1, qP, qK, qD⟩ := q; exact ⟨q0, q1, qP, va_K.moved (u := U) (U := U.calling g mk a) (Vm.Alike.refl U.vm) qK, qD⟩, va_recv (ci := 0) (q0 := 0) hK hP rfl rfl, fun U hU hW => ⟨rfl, by rw [hU], by rw [hU]; exact hPc, va_K.moved hW.alike hKc, hDc.weaken (fun _ _ _ _ => trivial)⟩⟩ rfl rfl hl.1 rfl (lv_room (Nat.le_of_ble_eq_true rfl)) d_D_line_51 ⟨Nat.le_of_ble_eq_true rfl, Nat.le_of_ble_eq_true rfl⟩) hS (fun q _ h => hFc q h) hFc (fun r9 u t H1 locs ht hvm hw hB hz1 hk1 hS => ?_)
            obtain ⟨hP1, hK1, hD1⟩ := hB
            rw [ht] at hP1
            rw [hw]
            obtain ⟨hP, hD⟩ := va_join (wr := (([] : List Nat).map (fun i => ((dw_W h q g hp qp gp tq tg tn tx I1 A1 M1 MB1 L1)).getD i (0, .inr (0, []))))) (w1 := (dw_W h q g hp qp gp tq tg tn tx I2 A2 M2 MB2 L2)) hP hD [0, 1, 2, 3, 4, 5, 6, 7, 8, 9, 10] [] rfl rfl (by decide) (by decide) hk1 hFc hP1 hD1
            generalize H1 = H at hP hS ⊢
            have hP := hP.sub (ws' := (dw_W h q g hp qp gp tq tg tn tx I2 A2 M2 MB2 L2)) [0, 1, 2, 3, 4, 5, 6, 7, 8, 9, 10] rfl
            have hD := hD.sub (ws' := (dw_W h q g hp qp gp tq tg tn tx I2 A2 M2 MB2 L2)) [0, 1, 2, 3, 4, 5, 6, 7, 8, 9, 10] (by decide) rfl
            exact (wk_tag (by decide) hf).elim
        ·
          have hf := wk_iff ht1 hf
          by_cases hq1_2 : tg1 = 2
          ·
            have hf := wk_ift hq1_2 hf
            rw [hq1_2] at hg1
            obtain ⟨e0, e1, e2, e3, e4, e5, e6⟩ := wk_inj6 hf
            subst e1
            subst e2
            subst e3
            subst e4
            subst e5
            subst e6
            refine th_passG (A1 := va_A (dw_W h q g hp qp gp tq tg tn tx I A M MB L) _) (th_runV (As := [.int k2]) (rest := []) ⟨hx, hb, hml, hown, hts⟩ (ct_D_requirePlace_2 l hfl dC dI h q g hp qp gp tq tg tn tx _  I A M MB L k2 r1 I1 A1 M1 MB1 L1 hg1) (cwV 1 hts (gd_v lk_441 lk_442 lk_443 lk_444 lk_440) rfl rfl rfl (by decide +kernel) ⟨Nat.le_of_ble_eq_true rfl, Nat.le_of_ble_eq_true rfl⟩) ⟨fun a U g mk q => by obtain ⟨q0, q1, qP, qK, qD, qZ⟩ := q; exact ⟨q0, q1, qP, va_K.moved (u := U) (U := U.calling g mk a) (Vm.Alike.refl U.vm) qK, qD, th_ZA.calling qZ⟩, va_recv (ci := 0) (q0 := 0) hK hP rfl rfl, fun U hU hW => ⟨rfl, by rw [hU], by rw [hU]; exact hPc, va_K.moved hW.alike hKc, hDc.weaken (fun _ _ _ _ => trivial), th_ZA.to hZ hS hU hW hFc⟩⟩ rfl rfl hl.1 rfl (lv_room (Nat.le_of_ble_eq_true rfl)) d_D_line_46 ⟨Nat.le_of_ble_eq_true rfl, Nat.le_of_ble_eq_true rfl⟩) hnh hlocks hS hFc (Nat.le_of_ble_eq_true rfl) (Nat.le_of_ble_eq_true rfl) (fun t hal hb1 hz1 hk1 u hu hau => ?_)
            obtain ⟨hP1, hK1, hD1⟩ := hb1
            obtain ⟨hP, hD⟩ := va_join (wr := (([] : List Nat).map (fun i => ((dw_W h q g hp qp gp tq tg tn tx I A M MB L)).getD i (0, .inr (0, []))))) (w1 := (dw_W h q g hp qp gp tq tg tn tx I1 A1 M1 MB1 L1)) hP hD [0, 1, 2, 3, 4, 5, 6, 7, 8, 9, 10] [] rfl rfl (by decide) (by decide) hk1 hFc hP1 hD1
            exact ⟨by rw [hu]; exact hP.sub (ws' := (dw_W h q g hp qp gp tq tg tn tx I1 A1 M1 MB1 L1)) [0, 1, 2, 3, 4, 5, 6, 7, 8, 9, 10] rfl, va_K.moved hau hK, hD.sub (ws' := (dw_W h q g hp qp gp tq tg tn tx I1 A1 M1 MB1 L1)) [0, 1, 2, 3, 4, 5, 6, 7, 8, 9, 10] (by decide) rfl⟩
          ·
            have hf := wk_iff hq1_2 hf
            cases hf
    ·
      have hf := wk_iff hc2 hf
      by_cases hc3 : k1 = 2
      ·
        have hf := wk_ift hc3 hf
        refine wk_top (w := .int 2) (congrArg _ hc3) ?_
        refine lv_tableIn (off := 54) (tgt := 55) hx hb d_D_line_1 (by decide) (by decide) (by decide) (by decide) ?_
        refine lv_aload_n hx hb d_D_line_55 rfl (lv_at hl 0 rfl) ?_
        refine lv_iload_n hx hb d_D_line_56 rfl (lv_at hl 2 rfl) ?_
        have hPc := hP.sub (ws' := (dw_W h q g hp qp gp tq tg tn tx I A M MB L)) [0, 1, 2, 3, 4, 5, 6, 7, 8, 9, 10] rfl
        have hDc := hD.sub (ws' := (dw_W h q g hp qp gp tq tg tn tx I A M MB L)) [0, 1, 2, 3, 4, 5, 6, 7, 8, 9, 10] (by decide) rfl
        have hKc := hK.sub (tys' := (dw_T h q g hp qp gp tq tg tn tx)) [0, 1, 2, 3, 4, 5, 6, 7, 8] rfl
        have hFc := va_free (wc := (dw_W h q g hp qp gp tq tg tn tx I A M MB L)) hD hS hA [0, 1, 2, 3, 4, 5, 6, 7, 8, 9, 10] rfl
        cases hg1 : f_D_lineBegin tn tx I A M MB L k2 with
        | none => rw [hg1] at hf; cases hf
        | some z1 =>
          obtain ⟨tg1, r1, I1, A1, M1, MB1, L1⟩ := z1
          rw [hg1] at hf
          dsimp only [Option.bind_some] at hf
          by_cases ht1 : tg1 = 0
          ·
            have hf := wk_ift ht1 hf
            rw [ht1] at hg1
            refine va_calli (va_runV (As := [.int k2]) (rest := []) ⟨hx, hb, hml, hown, hts⟩ (cm_D_lineBegin l dC dI h q g hp qp gp tq tg tn tx _  I A M MB L k2 r1 I1 A1 M1 MB1 L1 hg1) (cwV 1 hts (gd_v lk_474 lk_475 lk_476 lk_444 lk_473) rfl rfl rfl (by decide +kernel) ⟨Nat.le_of_ble_eq_true rfl, Nat.le_of_ble_eq_true rfl⟩) ⟨fun a U g mk q => by obtain ⟨q0, q1, qP, qK, qD⟩ := q; exact ⟨q0, q1, qP, va_K.moved (u := U) (U := U.calling g mk a) (Vm.Alike.refl U.vm) qK, qD⟩, va_recv (ci := 0) (q0 := 0) hK hP rfl rfl, fun U hU hW => ⟨rfl, by rw [hU], by rw [hU]; exact hPc, va_K.moved hW.alike hKc, hDc.weaken (fun _ _ _ _ => trivial)⟩⟩ rfl rfl hl.1 rfl (lv_room (Nat.le_of_ble_eq_true rfl)) d_D_line_57 ⟨Nat.le_of_ble_eq_true rfl, Nat.le_of_ble_eq_true rfl⟩) hS (fun q _ h => hFc q h) hFc (fun r9 u t H1 locs ht hvm hw hB hz1 hk1 hS => ?_)
            obtain ⟨hP1, hK1, hD1⟩ := hB
            rw [ht] at hP1
            rw [hw]
            obtain ⟨hP, hD⟩ := va_join (wr := (([] : List Nat).map (fun i => ((dw_W h q g hp qp gp tq tg tn tx I A M MB L)).getD i (0, .inr (0, []))))) (w1 := (dw_W h q g hp qp gp tq tg tn tx I1 A1 M1 MB1 L1)) hP hD [0, 1, 2, 3, 4, 5, 6, 7, 8, 9, 10] [] rfl rfl (by decide) (by decide) hk1 hFc hP1 hD1
            generalize H1 = H at hP hS ⊢
            have hP := hP.sub (ws' := (dw_W h q g hp qp gp tq tg tn tx I1 A1 M1 MB1 L1)) [0, 1, 2, 3, 4, 5, 6, 7, 8, 9, 10] rfl
            have hD := hD.sub (ws' := (dw_W h q g hp qp gp tq tg tn tx I1 A1 M1 MB1 L1)) [0, 1, 2, 3, 4, 5, 6, 7, 8, 9, 10] (by decide) rfl
            exact (wk_tag (by decide) hf).elim
          ·
            have hf := wk_iff ht1 hf
            by_cases hq1_2 : tg1 = 2
            ·
              have hf := wk_ift hq1_2 hf
              rw [hq1_2] at hg1
              obtain ⟨e0, e1, e2, e3, e4, e5, e6⟩ := wk_inj6 hf
              subst e1
              subst e2
              subst e3
              subst e4
              subst e5
              subst e6
              refine th_passG (A1 := va_A (dw_W h q g hp qp gp tq tg tn tx I A M MB L) _) (th_runV (As := [.int k2]) (rest := []) ⟨hx, hb, hml, hown, hts⟩ (ct_D_lineBegin_2 l hfl dC dI h q g hp qp gp tq tg tn tx _  I A M MB L k2 r1 I1 A1 M1 MB1 L1 hg1) (cwV 1 hts (gd_v lk_474 lk_475 lk_476 lk_444 lk_473) rfl rfl rfl (by decide +kernel) ⟨Nat.le_of_ble_eq_true rfl, Nat.le_of_ble_eq_true rfl⟩) ⟨fun a U g mk q => by obtain ⟨q0, q1, qP, qK, qD, qZ⟩ := q; exact ⟨q0, q1, qP, va_K.moved (u := U) (U := U.calling g mk a) (Vm.Alike.refl U.vm) qK, qD, th_ZA.calling qZ⟩, va_recv (ci := 0) (q0 := 0) hK hP rfl rfl, fun U hU hW => ⟨rfl, by rw [hU], by rw [hU]; exact hPc, va_K.moved hW.alike hKc, hDc.weaken (fun _ _ _ _ => trivial), th_ZA.to hZ hS hU hW hFc⟩⟩ rfl rfl hl.1 rfl (lv_room (Nat.le_of_ble_eq_true rfl)) d_D_line_57 ⟨Nat.le_of_ble_eq_true rfl, Nat.le_of_ble_eq_true rfl⟩) hnh hlocks hS hFc (Nat.le_of_ble_eq_true rfl) (Nat.le_of_ble_eq_true rfl) (fun t hal hb1 hz1 hk1 u hu hau => ?_)
              obtain ⟨hP1, hK1, hD1⟩ := hb1
              obtain ⟨hP, hD⟩ := va_join (wr := (([] : List Nat).map (fun i => ((dw_W h q g hp qp gp tq tg tn tx I A M MB L)).getD i (0, .inr (0, []))))) (w1 := (dw_W h q g hp qp gp tq tg tn tx I1 A1 M1 MB1 L1)) hP hD [0, 1, 2, 3, 4, 5, 6, 7, 8, 9, 10] [] rfl rfl (by decide) (by decide) hk1 hFc hP1 hD1
              exact ⟨by rw [hu]; exact hP.sub (ws' := (dw_W h q g hp qp gp tq tg tn tx I1 A1 M1 MB1 L1)) [0, 1, 2, 3, 4, 5, 6, 7, 8, 9, 10] rfl, va_K.moved hau hK, hD.sub (ws' := (dw_W h q g hp qp gp tq tg tn tx I1 A1 M1 MB1 L1)) [0, 1, 2, 3, 4, 5, 6, 7, 8, 9, 10] (by decide) rfl⟩
            ·
              have hf := wk_iff hq1_2 hf
              cases hf
      ·
        have hf := wk_iff hc3 hf
        by_cases hc4 : k1 = 3
        ·
          have hf := wk_ift hc4 hf
          refine wk_top (w := .int 3) (congrArg _ hc4) ?_
          refine lv_tableIn (off := 60) (tgt := 61) hx hb d_D_line_1 (by decide) (by decide) (by decide) (by decide) ?_
          refine lv_aload_n hx hb d_D_line_61 rfl (lv_at hl 0 rfl) ?_
          refine lv_aload_n hx hb d_D_line_62 rfl (lv_at hl 0 rfl) ?_
          refine lv_iload_n hx hb d_D_line_63 rfl (lv_at hl 2 rfl) ?_
          have hPc := hP.sub (ws' := (dw_W h q g hp qp gp tq tg tn tx I A M MB L)) [0, 1, 2, 3, 4, 5, 6, 7, 8, 9, 10] rfl
          have hDc := hD.sub (ws' := (dw_W h q g hp qp gp tq tg tn tx I A M MB L)) [0, 1, 2, 3, 4, 5, 6, 7, 8, 9, 10] (by decide) rfl
          have hKc := hK.sub (tys' := (dw_T h q g hp qp gp tq tg tn tx)) [0, 1, 2, 3, 4, 5, 6, 7, 8] rfl
          have hFc := va_free (wc := (dw_W h q g hp qp gp tq tg tn tx I A M MB L)) hD hS hA [0, 1, 2, 3, 4, 5, 6, 7, 8, 9, 10] rfl
          cases hg1 : f_D_lineBegin tn tx I A M MB L k2 with
          | none => rw [hg1] at hf; cases hf
          | some z1 =>
            obtain ⟨tg1, r1, I1, A1, M1, MB1, L1⟩ := z1
            rw [hg1] at hf
            dsimp only [Option.bind_some] at hf
            by_cases ht1 : tg1 = 0
            ·
              have hf := wk_ift ht1 hf
              rw [ht1] at hg1
              refine va_calli (va_runV (As := [.int k2]) (rest := [.ref h]) ⟨hx, hb, hml, hown, hts⟩ (cm_D_lineBegin l dC dI h q g hp qp gp tq tg tn tx _  I A M MB L k2 r1 I1 A1 M1 MB1 L1 hg1) (cwV 1 hts (gd_v lk_474 lk_475 lk_476 lk_444 lk_473) rfl rfl rfl (by decide +kernel) ⟨Nat.le_of_ble_eq_true rfl, Nat.le_of_ble_eq_true rfl⟩) ⟨fun a U g mk q => by obtain ⟨q0, q1, qP, qK, qD⟩ := q; exact ⟨q0, q1, qP, va_K.moved (u := U) (U := U.calling g mk a) (Vm.Alike.refl U.vm) qK, qD⟩, va_recv (ci := 0) (q0 := 0) hK hP rfl rfl, fun U hU hW => ⟨rfl, by rw [hU], by rw [hU]; exact hPc, va_K.moved hW.alike hKc, hDc.weaken (fun _ _ _ _ => trivial)⟩⟩ rfl rfl hl.1 rfl (lv_room (Nat.le_of_ble_eq_true rfl)) d_D_line_64 ⟨Nat.le_of_ble_eq_true rfl, Nat.le_of_ble_eq_true rfl⟩) hS (fun q _ h => hFc q h) hFc (fun r9 u t H1 locs ht hvm hw hB hz1 hk1 hS => ?_)
              obtain ⟨hP1, hK1, hD1⟩ := hB
              rw [ht] at hP1
              rw [hw]
              obtain ⟨hP, hD⟩ := va_join (wr := (([] : List Nat).map (fun i => ((dw_W h q g hp qp gp tq tg tn tx I A M MB L)).getD i (0, .inr (0, []))))) (w1 := (dw_W h q g hp qp gp tq tg tn tx I1 A1 M1 MB1 L1)) hP hD [0, 1, 2, 3, 4, 5, 6, 7, 8, 9, 10] [] rfl rfl (by decide) (by decide) hk1 hFc hP1 hD1
              generalize H1 = H at hP hS ⊢
              have hP := hP.sub (ws' := (dw_W h q g hp qp gp tq tg tn tx I1 A1 M1 MB1 L1)) [0, 1, 2, 3, 4, 5, 6, 7, 8, 9, 10] rfl
              have hD := hD.sub (ws' := (dw_W h q g hp qp gp tq tg tn tx I1 A1 M1 MB1 L1)) [0, 1, 2, 3, 4, 5, 6, 7, 8, 9, 10] (by decide) rfl
              have hPc := hP.sub (ws' := (dw_W h q g hp qp gp tq tg tn tx I1 A1 M1 MB1 L1)) [0, 1, 2, 3, 4, 5, 6, 7, 8, 9, 10] rfl
              have hDc := hD.sub (ws' := (dw_W h q g hp qp gp tq tg tn tx I1 A1 M1 MB1 L1)) [0, 1, 2, 3, 4, 5, 6, 7, 8, 9, 10] (by decide) rfl
              have hKc := hK.sub (tys' := (dw_T h q g hp qp gp tq tg tn tx)) [0, 1, 2, 3, 4, 5, 6, 7, 8] rfl
              have hFc := va_free (wc := (dw_W h q g hp qp gp tq tg tn tx I1 A1 M1 MB1 L1)) hD hS hA [0, 1, 2, 3, 4, 5, 6, 7, 8, 9, 10] rfl
              cases hg2 : f_D_lineSize tn tx I1 A1 M1 MB1 L1 r1 with
              | none => rw [hg2] at hf; cases hf
              | some z2 =>
                obtain ⟨r2, I2, A2, M2, MB2, L2⟩ := z2
                rw [hg2] at hf
                dsimp only [Option.bind_some] at hf
                refine va_calli (va_runV (As := [.int r1]) (rest := []) ⟨hx, hb, hml, hown, hts⟩ (cm_D_lineSize l dC dI h q g hp qp gp tq tg tn tx _  I1 A1 M1 MB1 L1 r1 r2 I2 A2 M2 MB2 L2 hg2) (cwV 1 hts (gd_v lk_478 lk_479 lk_480 lk_444 lk_477) rfl rfl rfl (by decide +kernel) ⟨Nat.le_of_ble_eq_true rfl, Nat.le_of_ble_eq_true rfl⟩) ⟨fun a U g mk q => by obtain ⟨q0, q1, qP, qK, qD⟩ := q; exact ⟨q0, q1, qP, va_K.moved (u := U) (U := U.calling g mk a) (Vm.Alike.refl U.vm) qK, qD⟩, va_recv (ci := 0) (q0 := 0) hK hP rfl rfl, fun U hU hW => ⟨rfl, by rw [hU], by rw [hU]; exact hPc, va_K.moved hW.alike hKc, hDc.weaken (fun _ _ _ _ => trivial)⟩⟩ rfl rfl hl.1 rfl (lv_room (Nat.le_of_ble_eq_true rfl)) d_D_line_67 ⟨Nat.le_of_ble_eq_true rfl, Nat.le_of_ble_eq_true rfl⟩) hS (fun q _ h => hFc q h) hFc (fun r9 u t H1 locs ht hvm hw hB hz1 hk1 hS => ?_)
                obtain ⟨hP1, hK1, hD1⟩ := hB
                rw [ht] at hP1
                rw [hw]
                obtain ⟨hP, hD⟩ := va_join (wr := (([] : List Nat).map (fun i => ((dw_W h q g hp qp gp tq tg tn tx I1 A1 M1 MB1 L1)).getD i (0, .inr (0, []))))) (w1 := (dw_W h q g hp qp gp tq tg tn tx I2 A2 M2 MB2 L2)) hP hD [0, 1, 2, 3, 4, 5, 6, 7, 8, 9, 10] [] rfl rfl (by decide) (by decide) hk1 hFc hP1 hD1
                generalize H1 = H at hP hS ⊢
                have hP := hP.sub (ws' := (dw_W h q g hp qp gp tq tg tn tx I2 A2 M2 MB2 L2)) [0, 1, 2, 3, 4, 5, 6, 7, 8, 9, 10] rfl
                have hD := hD.sub (ws' := (dw_W h q g hp qp gp tq tg tn tx I2 A2 M2 MB2 L2)) [0, 1, 2, 3, 4, 5, 6, 7, 8, 9, 10] (by decide) rfl
                exact (wk_tag (by decide) hf).elim
            ·
              have hf := wk_iff ht1 hf
              by_cases hq1_2 : tg1 = 2
              ·
                have hf := wk_ift hq1_2 hf
                rw [hq1_2] at hg1
                obtain ⟨e0, e1, e2, e3, e4, e5, e6⟩ := wk_inj6 hf
                subst e1
                subst e2
                subst e3
                subst e4
                subst e5
                subst e6
                refine th_passG (A1 := va_A (dw_W h q g hp qp gp tq tg tn tx I A M MB L) _) (th_runV (As := [.int k2]) (rest := [.ref h]) ⟨hx, hb, hml, hown, hts⟩ (ct_D_lineBegin_2 l hfl dC dI h q g hp qp gp tq tg tn tx _  I A M MB L k2 r1 I1 A1 M1 MB1 L1 hg1) (cwV 1 hts (gd_v lk_474 lk_475 lk_476 lk_444 lk_473) rfl rfl rfl (by decide +kernel) ⟨Nat.le_of_ble_eq_true rfl, Nat.le_of_ble_eq_true rfl⟩) ⟨fun a U g mk q => by obtain ⟨q0, q1, qP, qK, qD, qZ⟩ := q; exact ⟨q0, q1, qP, va_K.moved (u := U) (U := U.calling g mk a) (Vm.Alike.refl U.vm) qK, qD, th_ZA.calling qZ⟩, va_recv (ci := 0) (q0 := 0) hK hP rfl rfl, fun U hU hW => ⟨rfl, by rw [hU], by rw [hU]; exact hPc, va_K.moved hW.alike hKc, hDc.weaken (fun _ _ _ _ => trivial), th_ZA.to hZ hS hU hW hFc⟩⟩ rfl rfl hl.1 rfl (lv_room (Nat.le_of_ble_eq_true rfl)) d_D_line_64 ⟨Nat.le_of_ble_eq_true rfl, Nat.le_of_ble_eq_true rfl⟩) hnh hlocks hS hFc (Nat.le_of_ble_eq_true rfl) (Nat.le_of_ble_eq_true rfl) (fun t hal hb1 hz1 hk1 u hu hau => ?_)
                obtain ⟨hP1, hK1, hD1⟩ := hb1
                obtain ⟨hP, hD⟩ := va_join (wr := (([] : List Nat).map (fun i => ((dw_W h q g hp qp gp tq tg tn tx I A M MB L)).getD i (0, .inr (0, []))))) (w1 := (dw_W h q g hp qp gp tq tg tn tx I1 A1 M1 MB1 L1)) hP hD [0, 1, 2, 3, 4, 5, 6, 7, 8, 9, 10] [] rfl rfl (by decide) (by decide) hk1 hFc hP1 hD1
                exact ⟨by rw [hu]; exact hP.sub (ws' := (dw_W h q g hp qp gp tq tg tn tx I1 A1 M1 MB1 L1)) [0, 1, 2, 3, 4, 5, 6, 7, 8, 9, 10] rfl, va_K.moved hau hK, hD.sub (ws' := (dw_W h q g hp qp gp tq tg tn tx I1 A1 M1 MB1 L1)) [0, 1, 2, 3, 4, 5, 6, 7, 8, 9, 10] (by decide) rfl⟩
              ·
                have hf := wk_iff hq1_2 hf
                cases hf
        ·
          have hf := wk_iff hc4 hf
          have nhc1 : ¬ (k1).toInt = 0 := fun z => hc1 ((wk_eq 0 (by decide)).mpr z)
          have nhc2 : ¬ (k1).toInt = 1 := fun z => hc2 ((wk_eq 1 (by decide)).mpr z)
          have nhc3 : ¬ (k1).toInt = 2 := fun z => hc3 ((wk_eq 2 (by decide)).mpr z)
          have nhc4 : ¬ (k1).toInt = 3 := fun z => hc4 ((wk_eq 3 (by decide)).mpr z)
          refine lv_tableOut (tgt := 71) hx hb d_D_line_1 (by omega) (by decide) ?_
          exact (wk_tag (by decide) hf).elim
set_option maxHeartbeats 8000000 in
set_option maxRecDepth 100000 in
theorem ct_D_line_3 (l : Launch) (hfl : l.flags = flags0) (dC : Nat → ClassId) (dI : Nat → Nat → Nat) (h : Nat) (q : Nat → Nat) (g : Nat → ClassId) (hp : Nat) (qp : Nat → Nat) (gp : Nat → ClassId) (tq : Nat) (tg : ClassId) (tn : Nat) (tx : Nat → Int32) (sz : Nat) (I : MI) (A : MA) (M : MI) (MB : MA) (L : ML) (k1 : Int32) (k2 : Int32) (r : Int32) (I' : MI) (A' : MA) (M' : MI) (MB' : MA) (L' : ML) (hf : f_D_line tn tx I A M MB L  k1 k2 = some (3, r, I', A', M', MB', L')) : th_Met l y_D_line w_D_line ({ frames := 7, cells := 1, slots := 6, locals := 104 }) (va_Pc [.ref h, .int k1, .int k2] (fun U => U.heap.size = sz ∧ va_P (dC, dI) vwCl (dw_W h q g hp qp gp tq tg tn tx I A M MB L) U.heap ∧ va_K (dC, dI) vwCl (dw_T h q g hp qp gp tq tg tn tx) U ∧ va_D (fun _ => True) (dw_W h q g hp qp gp tq tg tn tx I A M MB L) ∧ th_ZA (va_A (dw_W h q g hp qp gp tq tg tn tx I A M MB L) sz) U)) (th_Qw "java/lang/IllegalArgumentException" (fun t => va_P (dC, dI) vwCl (dw_W h q g hp qp gp tq tg tn tx I' A' M' MB' L') t.heap ∧ va_K (dC, dI) vwCl (dw_T h q g hp qp gp tq tg tn tx) t ∧ va_D (va_A (dw_W h q g hp qp gp tq tg tn tx I A M MB L) sz) (dw_W h q g hp qp gp tq tg tn tx I' A' M' MB' L')) (va_A (dw_W h q g hp qp gp tq tg tn tx I A M MB L) sz)) 1 6 (va_A (dw_W h q g hp qp gp tq tg tn tx I A M MB L) sz) := by
  refine th_Met.ofW (cc := prog_1_method_16_code) (maxL := 3) (ret := (some .int)) (by decide) rfl ?_
  intro p e s m args below meth c s₁ B hml hnh hv
  obtain ⟨rfl, hsz, hP, hK, hD0, hZ⟩ := hv
  have hx := B.exec
  have hb := B.bytes
  have hr := B.returns
  have hts := atoms_spec (ws := w_D_line) B.pre
  have hown : s.vm.findClass "DraftTree" = some m.cls := findClass_of_methodNamed B.named
  have hlocks := B.notSynchronized
  have htr := Launch.traces_off hfl B.admits
  subst hsz
  have hD := hD0.self (sz := s.heap.size)
  generalize hAe : va_A (dw_W h q g hp qp gp tq tg tn tx I A M MB L) s.heap.size = B9 at hD hZ ⊢
  have hA : ∀ q : Nat, s.heap.size ≤ q → B9 q := fun q h => by rw [← hAe]; exact Or.inr h
  clear hAe
  have hS : va_S B9 s.heap s.heap [] := va_S.rf
  have hl := lv_entry ([.ref h, .int k1, .int k2]) (n := 3) (Nat.le_of_ble_eq_true rfl)
  rw [lg_entry_eq]
  generalize (lg_sl ([.ref h, .int k1, .int k2]) ++ List.replicate (3 - (lg_sl ([.ref h, .int k1, .int k2])).length) Slot.unset).toArray = ls at hl ⊢
  have hl : lv_has ls 3 [(0, .ref h), (1, .int k1), (2, .int k2)] := hl
  unfold f_D_line at hf
  refine lv_iload_n hx hb d_D_line_0 rfl (lv_at hl 1 rfl) ?_
  by_cases hc1 : k1 = 0
  ·
    have hf := wk_ift hc1 hf
    refine wk_top (w := .int 0) (congrArg _ hc1) ?_
    refine lv_tableIn (off := 31) (tgt := 32) hx hb d_D_line_1 (by decide) (by decide) (by decide) (by decide) ?_
    refine lv_aload_n hx hb d_D_line_32 rfl (lv_at hl 0 rfl) ?_
    refine lv_aload_n hx hb d_D_line_33 rfl (lv_at hl 0 rfl) ?_
    refine va_get (D := (dC, dI)) (ci := 0) (v := .ref tq) (C := R_D) (T := F_D) (N := 14) hx hb hts (fun w h => List.mem_cons_of_mem _ (in_D w h)) hown hK hP 0 rfl rfl 5 (by decide) (hts _ (List.mem_cons_of_mem _ lk_241)) (fun _ h9 => h9) rfl d_D_line_34 ?_
    refine va_alen (v := (Int32.ofNat tn)) hx hb hK hP 10 8 rfl rfl rfl d_D_line_37 ?_
    have hPc := hP.sub (ws' := (dw_W h q g hp qp gp tq tg tn tx I A M MB L)) [0, 1, 2, 3, 4, 5, 6, 7, 8, 9, 10] rfl
    have hDc := hD.sub (ws' := (dw_W h q g hp qp gp tq tg tn tx I A M MB L)) [0, 1, 2, 3, 4, 5, 6, 7, 8, 9, 10] (by decide) rfl
    have hKc := hK.sub (tys' := (dw_T h q g hp qp gp tq tg tn tx)) [0, 1, 2, 3, 4, 5, 6, 7, 8] rfl
    have hFc := va_free (wc := (dw_W h q g hp qp gp tq tg tn tx I A M MB L)) hD hS hA [0, 1, 2, 3, 4, 5, 6, 7, 8, 9, 10] rfl
    cases hg1 : f_D_breaksBefore tn tx I A M MB L (Int32.ofNat tn) with
    | none => rw [hg1] at hf; cases hf
    | some z1 =>
      obtain ⟨r1, I1, A1, M1, MB1, L1⟩ := z1
      rw [hg1] at hf
      dsimp only [Option.bind_some] at hf
      refine va_calli (va_runV (As := [.int (Int32.ofNat tn)]) (rest := []) ⟨hx, hb, hml, hown, hts⟩ (cm_D_breaksBefore l dC dI h q g hp qp gp tq tg tn tx _  I A M MB L (Int32.ofNat tn) r1 I1 A1 M1 MB1 L1 hg1) (cwV 1 hts (gd_v lk_470 lk_471 lk_472 lk_444 lk_245) rfl rfl rfl (by decide +kernel) ⟨Nat.le_of_ble_eq_true rfl, Nat.le_of_ble_eq_true rfl⟩) ⟨fun a U g mk q => by obtain ⟨q0, q1, qP, qK, qD⟩ := q; exact ⟨q0, q1, qP, va_K.moved (u := U) (U := U.calling g mk a) (Vm.Alike.refl U.vm) qK, qD⟩, va_recv (ci := 0) (q0 := 0) hK hP rfl rfl, fun U hU hW => ⟨rfl, by rw [hU], by rw [hU]; exact hPc, va_K.moved hW.alike hKc, hDc.weaken (fun _ _ _ _ => trivial)⟩⟩ rfl rfl hl.1 rfl (lv_room (Nat.le_of_ble_eq_true rfl)) d_D_line_38 ⟨Nat.le_of_ble_eq_true rfl, Nat.le_of_ble_eq_true rfl⟩) hS (fun q _ h => hFc q h) hFc (fun r9 u t H1 locs ht hvm hw hB hz1 hk1 hS => ?_)
      obtain ⟨hP1, hK1, hD1⟩ := hB
      rw [ht] at hP1
      rw [hw]
      obtain ⟨hP, hD⟩ := va_join (wr := (([] : List Nat).map (fun i => ((dw_W h q g hp qp gp tq tg tn tx I A M MB L)).getD i (0, .inr (0, []))))) (w1 := (dw_W h q g hp qp gp tq tg tn tx I1 A1 M1 MB1 L1)) hP hD [0, 1, 2, 3, 4, 5, 6, 7, 8, 9, 10] [] rfl rfl (by decide) (by decide) hk1 hFc hP1 hD1
      generalize H1 = H at hP hS ⊢
      have hP := hP.sub (ws' := (dw_W h q g hp qp gp tq tg tn tx I1 A1 M1 MB1 L1)) [0, 1, 2, 3, 4, 5, 6, 7, 8, 9, 10] rfl
      have hD := hD.sub (ws' := (dw_W h q g hp qp gp tq tg tn tx I1 A1 M1 MB1 L1)) [0, 1, 2, 3, 4, 5, 6, 7, 8, 9, 10] (by decide) rfl
      refine lv_iconst (v := 1) hx hb d_D_line_41 (by decide) ?_
      refine lv_iadd hx hb d_D_line_42 ?_
      exact (wk_tag (by decide) hf).elim
  ·
    have hf := wk_iff hc1 hf
    by_cases hc2 : k1 = 1
    ·
      have hf := wk_ift hc2 hf
      refine wk_top (w := .int 1) (congrArg _ hc2) ?_
      refine lv_tableIn (off := 43) (tgt := 44) hx hb d_D_line_1 (by decide) (by decide) (by decide) (by decide) ?_
      refine lv_aload_n hx hb d_D_line_44 rfl (lv_at hl 0 rfl) ?_
      refine lv_iload_n hx hb d_D_line_45 rfl (lv_at hl 2 rfl) ?_
      have hPc := hP.sub (ws' := (dw_W h q g hp qp gp tq tg tn tx I A M MB L)) [0, 1, 2, 3, 4, 5, 6, 7, 8, 9, 10] rfl
      have hDc := hD.sub (ws' := (dw_W h q g hp qp gp tq tg tn tx I A M MB L)) [0, 1, 2, 3, 4, 5, 6, 7, 8, 9, 10] (by decide) rfl
      have hKc := hK.sub (tys' := (dw_T h q g hp qp gp tq tg tn tx)) [0, 1, 2, 3, 4, 5, 6, 7, 8] rfl
      have hFc := va_free (wc := (dw_W h q g hp qp gp tq tg tn tx I A M MB L)) hD hS hA [0, 1, 2, 3, 4, 5, 6, 7, 8, 9, 10] rfl
      cases hg1 : f_D_requirePlace tn tx I A M MB L k2 with
      | none => rw [hg1] at hf; cases hf
      | some z1 =>
        obtain ⟨tg1, r1, I1, A1, M1, MB1, L1⟩ := z1
        rw [hg1] at hf
        dsimp only [Option.bind_some] at hf
        by_cases ht1 : tg1 = 0
        ·
          have hf := wk_ift ht1 hf
          rw [ht1] at hg1
          refine va_callv (va_runV (As := [.int k2]) (rest := []) ⟨hx, hb, hml, hown, hts⟩ (cm_D_requirePlace l dC dI h q g hp qp gp tq tg tn tx _  I A M MB L k2 r1 I1 A1 M1 MB1 L1 hg1) (cwV 1 hts (gd_v lk_441 lk_442 lk_443 lk_444 lk_440) rfl rfl rfl (by decide +kernel) ⟨Nat.le_of_ble_eq_true rfl, Nat.le_of_ble_eq_true rfl⟩) ⟨fun a U g mk q => by obtain ⟨q0, q1, qP, qK, qD⟩ := q; exact ⟨q0, q1, qP, va_K.moved (u := U) (U := U.calling g mk a) (Vm.Alike.refl U.vm) qK, qD⟩, va_recv (ci := 0) (q0 := 0) hK hP rfl rfl, fun U hU hW => ⟨rfl, by rw [hU], by rw [hU]; exact hPc, va_K.moved hW.alike hKc, hDc.weaken (fun _ _ _ _ => trivial)⟩⟩ rfl rfl hl.1 rfl (lv_room (Nat.le_of_ble_eq_true rfl)) d_D_line_46 ⟨Nat.le_of_ble_eq_true rfl, Nat.le_of_ble_eq_true rfl⟩) hS (fun q _ h => hFc q h) hFc (fun u t H1 locs ht hvm hw hB hz1 hk1 hS => ?_)
          obtain ⟨hP1, hK1, hD1⟩ := hB
          rw [ht] at hP1
          obtain ⟨hP, hD⟩ := va_join (wr := (([] : List Nat).map (fun i => ((dw_W h q g hp qp gp tq tg tn tx I A M MB L)).getD i (0, .inr (0, []))))) (w1 := (dw_W h q g hp qp gp tq tg tn tx I1 A1 M1 MB1 L1)) hP hD [0, 1, 2, 3, 4, 5, 6, 7, 8, 9, 10] [] rfl rfl (by decide) (by decide) hk1 hFc hP1 hD1
          generalize H1 = H at hP hS ⊢
          have hP := hP.sub (ws' := (dw_W h q g hp qp gp tq tg tn tx I1 A1 M1 MB1 L1)) [0, 1, 2, 3, 4, 5, 6, 7, 8, 9, 10] rfl
          have hD := hD.sub (ws' := (dw_W h q g hp qp gp tq tg tn tx I1 A1 M1 MB1 L1)) [0, 1, 2, 3, 4, 5, 6, 7, 8, 9, 10] (by decide) rfl
          refine lv_aload_n hx hb d_D_line_49 rfl (lv_at hl 0 rfl) ?_
          refine lv_iload_n hx hb d_D_line_50 rfl (lv_at hl 2 rfl) ?_
          have hPc := hP.sub (ws' := (dw_W h q g hp qp gp tq tg tn tx I1 A1 M1 MB1 L1)) [0, 1, 2, 3, 4, 5, 6, 7, 8, 9, 10] rfl
          have hDc := hD.sub (ws' := (dw_W h q g hp qp gp tq tg tn tx I1 A1 M1 MB1 L1)) [0, 1, 2, 3, 4, 5, 6, 7, 8, 9, 10] (by decide) rfl
          have hKc := hK.sub (tys' := (dw_T h q g hp qp gp tq tg tn tx)) [0, 1, 2, 3, 4, 5, 6, 7, 8] rfl
          have hFc := va_free (wc := (dw_W h q g hp qp gp tq tg tn tx I1 A1 M1 MB1 L1)) hD hS hA [0, 1, 2, 3, 4, 5, 6, 7, 8, 9, 10] rfl
          cases hg2 : f_D_breaksBefore tn tx I1 A1 M1 MB1 L1 k2 with
          | none => rw [hg2] at hf; cases hf
          | some z2 =>
            obtain ⟨r2, I2, A2, M2, MB2, L2⟩ := z2
            rw [hg2] at hf
            dsimp only [Option.bind_some] at hf
            refine va_calli (va_runV (As := [.int k2]) (rest := []) ⟨hx, hb, hml, hown, hts⟩ (cm_D_breaksBefore l dC dI h q g hp qp gp tq tg tn tx _  I1 A1 M1 MB1 L1 k2 r2 I2 A2 M2 MB2 L2 hg2) (cwV 1 hts (gd_v lk_470 lk_471 lk_472 lk_444 lk_245) rfl rfl rfl (by decide +kernel) ⟨Nat.le_of_ble_eq_true rfl, Nat.le_of_ble_eq_true rfl⟩) ⟨fun a U g mk q => by obtain ⟨q0, q1, qP, qK, qD⟩ := q; exact ⟨q0, q1, qP, va_K.moved (u := U) (U := U.calling g mk a) (Vm.Alike.refl U.vm) qK, qD⟩, va_recv (ci := 0) (q0 := 0) hK hP rfl rfl, fun U hU hW => ⟨rfl, by rw [hU], by rw [hU]; exact hPc, va_K.moved hW.alike hKc, hDc.weaken (fun _ _ _ _ => trivial)⟩⟩ rfl rfl hl.1 rfl (lv_room (Nat.le_of_ble_eq_true rfl)) d_D_line_51 ⟨Nat.le_of_ble_eq_true rfl, Nat.le_of_ble_eq_true rfl⟩) hS (fun q _ h => hFc q h) hFc (fun r9 u t H1 locs ht hvm hw hB hz1 hk1 hS => ?_)
            obtain ⟨hP1, hK1, hD1⟩ := hB
            rw [ht] at hP1
            rw [hw]
            obtain ⟨hP, hD⟩ := va_join (wr := (([] : List Nat).map (fun i => ((dw_W h q g hp qp gp tq tg tn tx I1 A1 M1 MB1 L1)).getD i (0, .inr (0, []))))) (w1 := (dw_W h q g hp qp gp tq tg tn tx I2 A2 M2 MB2 L2)) hP hD [0, 1, 2, 3, 4, 5, 6, 7, 8, 9, 10] [] rfl rfl (by decide) (by decide) hk1 hFc hP1 hD1
            generalize H1 = H at hP hS ⊢
            have hP := hP.sub (ws' := (dw_W h q g hp qp gp tq tg tn tx I2 A2 M2 MB2 L2)) [0, 1, 2, 3, 4, 5, 6, 7, 8, 9, 10] rfl
            have hD := hD.sub (ws' := (dw_W h q g hp qp gp tq tg tn tx I2 A2 M2 MB2 L2)) [0, 1, 2, 3, 4, 5, 6, 7, 8, 9, 10] (by decide) rfl
            exact (wk_tag (by decide) hf).elim
        ·
          have hf := wk_iff ht1 hf
          by_cases hq1_2 : tg1 = 2
          ·
            have hf := wk_ift hq1_2 hf
            exact (wk_tag (by decide) hf).elim
          ·
            have hf := wk_iff hq1_2 hf
            cases hf
    ·
      have hf := wk_iff hc2 hf
      by_cases hc3 : k1 = 2
      ·
        have hf := wk_ift hc3 hf
        refine wk_top (w := .int 2) (congrArg _ hc3) ?_
        refine lv_tableIn (off := 54) (tgt := 55) hx hb d_D_line_1 (by decide) (by decide) (by decide) (by decide) ?_
        refine lv_aload_n hx hb d_D_line_55 rfl (lv_at hl 0 rfl) ?_
        refine lv_iload_n hx hb d_D_line_56 rfl (lv_at hl 2 rfl) ?_
        have hPc := hP.sub (ws' := (dw_W h q g hp qp gp tq tg tn tx I A M MB L)) [0, 1, 2, 3, 4, 5, 6, 7, 8, 9, 10] rfl
        have hDc := hD.sub (ws' := (dw_W h q g hp qp gp tq tg tn tx I A M MB L)) [0, 1, 2, 3, 4, 5, 6, 7, 8, 9, 10] (by decide) rfl
        have hKc := hK.sub (tys' := (dw_T h q g hp qp gp tq tg tn tx)) [0, 1, 2, 3, 4, 5, 6, 7, 8] rfl
        have hFc := va_free (wc := (dw_W h q g hp qp gp tq tg tn tx I A M MB L)) hD hS hA [0, 1, 2, 3, 4, 5, 6, 7, 8, 9, 10] rfl
        cases hg1 : f_D_lineBegin tn tx I A M MB L k2 with
        | none => rw [hg1] at hf; cases hf
        | some z1 =>
          obtain ⟨tg1, r1, I1, A1, M1, MB1, L1⟩ := z1
          rw [hg1] at hf
          dsimp only [Option.bind_some] at hf
          by_cases ht1 : tg1 = 0
          ·
            have hf := wk_ift ht1 hf
            rw [ht1] at hg1
            refine va_calli (va_runV (As := [.int k2]) (rest := []) ⟨hx, hb, hml, hown, hts⟩ (cm_D_lineBegin l dC dI h q g hp qp gp tq tg tn tx _  I A M MB L k2 r1 I1 A1 M1 MB1 L1 hg1) (cwV 1 hts (gd_v lk_474 lk_475 lk_476 lk_444 lk_473) rfl rfl rfl (by decide +kernel) ⟨Nat.le_of_ble_eq_true rfl, Nat.le_of_ble_eq_true rfl⟩) ⟨fun a U g mk q => by obtain ⟨q0, q1, qP, qK, qD⟩ := q; exact ⟨q0, q1, qP, va_K.moved (u := U) (U := U.calling g mk a) (Vm.Alike.refl U.vm) qK, qD⟩, va_recv (ci := 0) (q0 := 0) hK hP rfl rfl, fun U hU hW => ⟨rfl, by rw [hU], by rw [hU]; exact hPc, va_K.moved hW.alike hKc, hDc.weaken (fun _ _ _ _ => trivial)⟩⟩ rfl rfl hl.1 rfl (lv_room (Nat.le_of_ble_eq_true rfl)) d_D_line_57 ⟨Nat.le_of_ble_eq_true rfl, Nat.le_of_ble_eq_true rfl⟩) hS (fun q _ h => hFc q h) hFc (fun r9 u t H1 locs ht hvm hw hB hz1 hk1 hS => ?_)
            obtain ⟨hP1, hK1, hD1⟩ := hB
            rw [ht] at hP1
            rw [hw]
            obtain ⟨hP, hD⟩ := va_join (wr := (([] : List Nat).map (fun i => ((dw_W h q g hp qp gp tq tg tn tx I A M MB L)).getD i (0, .inr (0, []))))) (w1 := (dw_W h q g hp qp gp tq tg tn tx I1 A1 M1 MB1 L1)) hP hD [0, 1, 2, 3, 4, 5, 6, 7, 8, 9, 10] [] rfl rfl (by decide) (by decide) hk1 hFc hP1 hD1
            generalize H1 = H at hP hS ⊢
            have hP := hP.sub (ws' := (dw_W h q g hp qp gp tq tg tn tx I1 A1 M1 MB1 L1)) [0, 1, 2, 3, 4, 5, 6, 7, 8, 9, 10] rfl
            have hD := hD.sub (ws' := (dw_W h q g hp qp gp tq tg tn tx I1 A1 M1 MB1 L1)) [0, 1, 2, 3, 4, 5, 6, 7, 8, 9, 10] (by decide) rfl
            exact (wk_tag (by decide) hf).elim
          ·
            have hf := wk_iff ht1 hf
            by_cases hq1_2 : tg1 = 2
            ·
              have hf := wk_ift hq1_2 hf
              exact (wk_tag (by decide) hf).elim
            ·
              have hf := wk_iff hq1_2 hf
              cases hf
      ·
        have hf := wk_iff hc3 hf
        by_cases hc4 : k1 = 3
        ·
          have hf := wk_ift hc4 hf
          refine wk_top (w := .int 3) (congrArg _ hc4) ?_
          refine lv_tableIn (off := 60) (tgt := 61) hx hb d_D_line_1 (by decide) (by decide) (by decide) (by decide) ?_
          refine lv_aload_n hx hb d_D_line_61 rfl (lv_at hl 0 rfl) ?_
          refine lv_aload_n hx hb d_D_line_62 rfl (lv_at hl 0 rfl) ?_
          refine lv_iload_n hx hb d_D_line_63 rfl (lv_at hl 2 rfl) ?_
          have hPc := hP.sub (ws' := (dw_W h q g hp qp gp tq tg tn tx I A M MB L)) [0, 1, 2, 3, 4, 5, 6, 7, 8, 9, 10] rfl
          have hDc := hD.sub (ws' := (dw_W h q g hp qp gp tq tg tn tx I A M MB L)) [0, 1, 2, 3, 4, 5, 6, 7, 8, 9, 10] (by decide) rfl
          have hKc := hK.sub (tys' := (dw_T h q g hp qp gp tq tg tn tx)) [0, 1, 2, 3, 4, 5, 6, 7, 8] rfl
          have hFc := va_free (wc := (dw_W h q g hp qp gp tq tg tn tx I A M MB L)) hD hS hA [0, 1, 2, 3, 4, 5, 6, 7, 8, 9, 10] rfl
          cases hg1 : f_D_lineBegin tn tx I A M MB L k2 with
          | none => rw [hg1] at hf; cases hf
          | some z1 =>
            obtain ⟨tg1, r1, I1, A1, M1, MB1, L1⟩ := z1
            rw [hg1] at hf
            dsimp only [Option.bind_some] at hf
            by_cases ht1 : tg1 = 0
            ·
              have hf := wk_ift ht1 hf
              rw [ht1] at hg1
              refine va_calli (va_runV (As := [.int k2]) (rest := [.ref h]) ⟨hx, hb, hml, hown, hts⟩ (cm_D_lineBegin l dC dI h q g hp qp gp tq tg tn tx _  I A M MB L k2 r1 I1 A1 M1 MB1 L1 hg1) (cwV 1 hts (gd_v lk_474 lk_475 lk_476 lk_444 lk_473) rfl rfl rfl (by decide +kernel) ⟨Nat.le_of_ble_eq_true rfl, Nat.le_of_ble_eq_true rfl⟩) ⟨fun a U g mk q => by obtain ⟨q0, q1, qP, qK, qD⟩ := q; exact ⟨q0, q1, qP, va_K.moved (u := U) (U := U.calling g mk a) (Vm.Alike.refl U.vm) qK, qD⟩, va_recv (ci := 0) (q0 := 0) hK hP rfl rfl, fun U hU hW => ⟨rfl, by rw [hU], by rw [hU]; exact hPc, va_K.moved hW.alike hKc, hDc.weaken (fun _ _ _ _ => trivial)⟩⟩ rfl rfl hl.1 rfl (lv_room (Nat.le_of_ble_eq_true rfl)) d_D_line_64 ⟨Nat.le_of_ble_eq_true rfl, Nat.le_of_ble_eq_true rfl⟩) hS (fun q _ h => hFc q h) hFc (fun r9 u t H1 locs ht hvm hw hB hz1 hk1 hS => ?_)
              obtain ⟨hP1, hK1, hD1⟩ := hB
              rw [ht] at hP1
              rw [hw]
              obtain ⟨hP, hD⟩ := va_join (wr := (([] : List Nat).map (fun i => ((dw_W h q g hp qp gp tq tg tn tx I A M MB L)).getD i (0, .inr (0, []))))) (w1 := (dw_W h q g hp qp gp tq tg tn tx I1 A1 M1 MB1 L1)) hP hD [0, 1, 2, 3, 4, 5, 6, 7, 8, 9, 10] [] rfl rfl (by decide) (by decide) hk1 hFc hP1 hD1
              generalize H1 = H at hP hS ⊢
              have hP := hP.sub (ws' := (dw_W h q g hp qp gp tq tg tn tx I1 A1 M1 MB1 L1)) [0, 1, 2, 3, 4, 5, 6, 7, 8, 9, 10] rfl
              have hD := hD.sub (ws' := (dw_W h q g hp qp gp tq tg tn tx I1 A1 M1 MB1 L1)) [0, 1, 2, 3, 4, 5, 6, 7, 8, 9, 10] (by decide) rfl
              have hPc := hP.sub (ws' := (dw_W h q g hp qp gp tq tg tn tx I1 A1 M1 MB1 L1)) [0, 1, 2, 3, 4, 5, 6, 7, 8, 9, 10] rfl
              have hDc := hD.sub (ws' := (dw_W h q g hp qp gp tq tg tn tx I1 A1 M1 MB1 L1)) [0, 1, 2, 3, 4, 5, 6, 7, 8, 9, 10] (by decide) rfl
              have hKc := hK.sub (tys' := (dw_T h q g hp qp gp tq tg tn tx)) [0, 1, 2, 3, 4, 5, 6, 7, 8] rfl
              have hFc := va_free (wc := (dw_W h q g hp qp gp tq tg tn tx I1 A1 M1 MB1 L1)) hD hS hA [0, 1, 2, 3, 4, 5, 6, 7, 8, 9, 10] rfl
              cases hg2 : f_D_lineSize tn tx I1 A1 M1 MB1 L1 r1 with
              | none => rw [hg2] at hf; cases hf
              | some z2 =>
                obtain ⟨r2, I2, A2, M2, MB2, L2⟩ := z2
                rw [hg2] at hf
                dsimp only [Option.bind_some] at hf
                refine va_calli (va_runV (As := [.int r1]) (rest := []) ⟨hx, hb, hml, hown, hts⟩ (cm_D_lineSize l dC dI h q g hp qp gp tq tg tn tx _  I1 A1 M1 MB1 L1 r1 r2 I2 A2 M2 MB2 L2 hg2) (cwV 1 hts (gd_v lk_478 lk_479 lk_480 lk_444 lk_477) rfl rfl rfl (by decide +kernel) ⟨Nat.le_of_ble_eq_true rfl, Nat.le_of_ble_eq_true rfl⟩) ⟨fun a U g mk q => by obtain ⟨q0, q1, qP, qK, qD⟩ := q; exact ⟨q0, q1, qP, va_K.moved (u := U) (U := U.calling g mk a) (Vm.Alike.refl U.vm) qK, qD⟩, va_recv (ci := 0) (q0 := 0) hK hP rfl rfl, fun U hU hW => ⟨rfl, by rw [hU], by rw [hU]; exact hPc, va_K.moved hW.alike hKc, hDc.weaken (fun _ _ _ _ => trivial)⟩⟩ rfl rfl hl.1 rfl (lv_room (Nat.le_of_ble_eq_true rfl)) d_D_line_67 ⟨Nat.le_of_ble_eq_true rfl, Nat.le_of_ble_eq_true rfl⟩) hS (fun q _ h => hFc q h) hFc (fun r9 u t H1 locs ht hvm hw hB hz1 hk1 hS => ?_)
                obtain ⟨hP1, hK1, hD1⟩ := hB
                rw [ht] at hP1
                rw [hw]
                obtain ⟨hP, hD⟩ := va_join (wr := (([] : List Nat).map (fun i => ((dw_W h q g hp qp gp tq tg tn tx I1 A1 M1 MB1 L1)).getD i (0, .inr (0, []))))) (w1 := (dw_W h q g hp qp gp tq tg tn tx I2 A2 M2 MB2 L2)) hP hD [0, 1, 2, 3, 4, 5, 6, 7, 8, 9, 10] [] rfl rfl (by decide) (by decide) hk1 hFc hP1 hD1
                generalize H1 = H at hP hS ⊢
                have hP := hP.sub (ws' := (dw_W h q g hp qp gp tq tg tn tx I2 A2 M2 MB2 L2)) [0, 1, 2, 3, 4, 5, 6, 7, 8, 9, 10] rfl
                have hD := hD.sub (ws' := (dw_W h q g hp qp gp tq tg tn tx I2 A2 M2 MB2 L2)) [0, 1, 2, 3, 4, 5, 6, 7, 8, 9, 10] (by decide) rfl
                exact (wk_tag (by decide) hf).elim
            ·
              have hf := wk_iff ht1 hf
              by_cases hq1_2 : tg1 = 2
              ·
                have hf := wk_ift hq1_2 hf
                exact (wk_tag (by decide) hf).elim
              ·
                have hf := wk_iff hq1_2 hf
                cases hf
        ·
          have hf := wk_iff hc4 hf
          have nhc1 : ¬ (k1).toInt = 0 := fun z => hc1 ((wk_eq 0 (by decide)).mpr z)
          have nhc2 : ¬ (k1).toInt = 1 := fun z => hc2 ((wk_eq 1 (by decide)).mpr z)
          have nhc3 : ¬ (k1).toInt = 2 := fun z => hc3 ((wk_eq 2 (by decide)).mpr z)
          have nhc4 : ¬ (k1).toInt = 3 := fun z => hc4 ((wk_eq 3 (by decide)).mpr z)
          refine lv_tableOut (tgt := 71) hx hb d_D_line_1 (by omega) (by decide) ?_
          obtain ⟨e0, e1, e2, e3, e4, e5, e6⟩ := wk_inj6 hf
          subst e1
          subst e2
          subst e3
          subst e4
          subst e5
          subst e6
          exact th_newG hx hb htr hown (by decide) (by decide) (wk_thr hts hZ hS lk_431 lk_432 (fun _ a9 b9 => oa_1 a9 b9)) hnh (by rw [hl.1, hml]) hS (Nat.le_of_ble_eq_true rfl) (Nat.le_of_ble_eq_true rfl) (Nat.le_of_ble_eq_true rfl) (Nat.le_of_ble_eq_true rfl) (Nat.le_of_ble_eq_true rfl) (Nat.le_of_ble_eq_true rfl) hlocks (fun t hal hk => ⟨hP.kept (fun k q hq => hk _ (hP k q hq).lt), va_K.moved hal hK, hD⟩) d_D_line_71 d_D_line_74 d_D_line_75 d_D_line_78

