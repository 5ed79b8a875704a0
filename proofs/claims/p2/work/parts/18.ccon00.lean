set_option maxHeartbeats 8000000 in
set_option maxRecDepth 100000 in
theorem cm_D_at (l : Launch) (dC : Nat → ClassId) (dI : Nat → Nat → Nat) (h : Nat) (q : Nat → Nat) (g : Nat → ClassId) (hp : Nat) (qp : Nat → Nat) (gp : Nat → ClassId) (tq : Nat) (tg : ClassId) (tn : Nat) (tx : Nat → Int32) (sz : Nat) (I : MI) (A : MA) (M : MI) (MB : MA) (L : ML) (k1 : Int32) (r : Int32) (I' : MI) (A' : MA) (M' : MI) (MB' : MA) (L' : ML) (hf : f_D_at tn tx I A M MB L  k1 = some (0, r, I', A', M', MB', L')) : Met l y_D_at w_D_at ({ frames := 0, cells := 0, slots := 0, locals := 0 }) (va_Pc [.ref h, .int k1] (fun U => U.heap.size = sz ∧ va_P (dC, dI) vwCl (dw_W h q g hp qp gp tq tg tn tx I A M MB L) U.heap ∧ va_K (dC, dI) vwCl (dw_T h q g hp qp gp tq tg tn tx) U ∧ va_D (fun _ => True) (dw_W h q g hp qp gp tq tg tn tx I A M MB L))) (va_Qi (fun (r9 : Int32) (_ : Unit) => r9 = r) (fun (_ : Unit) t => va_P (dC, dI) vwCl (dw_W h q g hp qp gp tq tg tn tx I' A' M' MB' L') t.heap ∧ va_K (dC, dI) vwCl (dw_T h q g hp qp gp tq tg tn tx) t ∧ va_D (va_A (dw_W h q g hp qp gp tq tg tn tx I A M MB L) sz) (dw_W h q g hp qp gp tq tg tn tx I' A' M' MB' L')) (va_A (dw_W h q g hp qp gp tq tg tn tx I A M MB L) sz)) 0 0 (va_A (dw_W h q g hp qp gp tq tg tn tx I A M MB L) sz) := by
  refine Met.ofW (cc := prog_1_method_15_code) (maxL := 2) (ret := (some .char)) (by decide) rfl ?_
  intro p e s m args below meth c s₁ B hml hv
  obtain ⟨rfl, hsz, hP, hK, hD0⟩ := hv
  have hx := B.exec
  have hb := B.bytes
  have hr := B.returns
  have hts := atoms_spec (ws := w_D_at) B.pre
  have hown : s.vm.findClass "DraftTree" = some m.cls := findClass_of_methodNamed B.named
  have hlocks := B.notSynchronized
  subst hsz
  have hD := hD0.self (sz := s.heap.size)
  generalize hAe : va_A (dw_W h q g hp qp gp tq tg tn tx I A M MB L) s.heap.size = B9 at hD ⊢
  have hA : ∀ q : Nat, s.heap.size ≤ q → B9 q := fun q h => by rw [← hAe]; exact Or.inr h
  clear hAe
  have hS : va_S B9 s.heap s.heap [] := va_S.rf
  have hl := lv_entry ([.ref h, .int k1]) (n := 2) (Nat.le_of_ble_eq_true rfl)
  rw [lg_entry_eq]
  generalize (lg_sl ([.ref h, .int k1]) ++ List.replicate (2 - (lg_sl ([.ref h, .int k1])).length) Slot.unset).toArray = ls at hl ⊢
  have hl : lv_has ls 2 [(0, .ref h), (1, .int k1)] := hl
  have blk13 : ∀ (I : MI) (A : MA) (M : MI) (MB : MA) (L : ML) (X : Nat → Int32) (Y : Nat → Int64) (ls : Array Slot) (H : Heap) (locs : List Loc), f_D_at_13 tn tx I A M MB L X Y = some (0, r, I', A', M', MB', L') → lv_has ls 2 [(0, .ref h), (1, .int (X 1))] → va_P (dC, dI) vwCl (dw_W h q g hp qp gp tq tg tn tx I A M MB L) H → va_D B9 (dw_W h q g hp qp gp tq tg tn tx I A M MB L) → va_S B9 s.heap H locs → W p l e (headSpec w_D_at ({ frames := 0, cells := 0, slots := 0, locals := 0 })).room s m ([.ref h, .int k1] : List Value).toArray below meth c H locs 0 0 (MQ below (va_Qi (fun (r9 : Int32) (_ : Unit) => r9 = r) (fun (_ : Unit) t => va_P (dC, dI) vwCl (dw_W h q g hp qp gp tq tg tn tx I' A' M' MB' L') t.heap ∧ va_K (dC, dI) vwCl (dw_T h q g hp qp gp tq tg tn tx) t ∧ va_D B9 (dw_W h q g hp qp gp tq tg tn tx I' A' M' MB' L')) B9) ([.ref h, .int k1] : List Value).toArray s 0 0 B9) (F0 m 13 ls []) := by
    intro I A M MB L X Y ls H locs hf hl hP hD hS
    unfold f_D_at_13 at hf
    exact (wk_tag (by decide) hf).elim
  unfold f_D_at at hf
  refine lv_iload_n hx hb d_D_at_0 rfl (lv_at hl 1 rfl) ?_
  refine lv_if_lt (tgt := 13) hx hb d_D_at_1 (by decide) (fun hc1 => ?_) (fun hc1 => ?_)
  ·
    have hf := wk_ift hc1 hf
    exact blk13 I A M MB L (upd (fun _ => 0) 1 k1) (fun _ => 0) _ _ _ hf (lv_sub hl [0, 1] rfl) hP hD hS
  ·
    have hf := wk_iff hc1 hf
    refine lv_iload_n hx hb d_D_at_4 rfl (lv_at hl 1 rfl) ?_
    refine lv_aload_n hx hb d_D_at_5 rfl (lv_at hl 0 rfl) ?_
    refine va_get (D := (dC, dI)) (ci := 0) (v := .ref tq) (C := R_D) (T := F_D) (N := 14) hx hb hts (fun w h => List.mem_cons_of_mem _ (in_D w h)) hown hK hP 0 rfl rfl 5 (by decide) (hts _ (List.mem_cons_of_mem _ lk_241)) (fun _ h9 => h9) rfl d_D_at_6 ?_
    refine va_alen (v := (Int32.ofNat tn)) hx hb hK hP 10 8 rfl rfl rfl d_D_at_9 ?_
    refine lv_icmp_lt (tgt := 21) hx hb d_D_at_10 (by decide) (fun hc2 => ?_) (fun hc2 => ?_)
    ·
      have hf := wk_ift hc2 hf
      refine lv_aload_n hx hb d_D_at_21 rfl (lv_at hl 0 rfl) ?_
      refine va_get (D := (dC, dI)) (ci := 0) (v := .ref tq) (C := R_D) (T := F_D) (N := 14) hx hb hts (fun w h => List.mem_cons_of_mem _ (in_D w h)) hown hK hP 0 rfl rfl 5 (by decide) (hts _ (List.mem_cons_of_mem _ lk_241)) (fun _ h9 => h9) rfl d_D_at_22 ?_
      refine lv_iload_n hx hb d_D_at_25 rfl (lv_at hl 1 rfl) ?_
      obtain ⟨hc3, hf⟩ := wk_if hf
      refine va_cald hx hb hK hP 10 8 rfl rfl (wk_inb_ok hc3) d_D_at_26 ?_
      obtain ⟨hn9, hf⟩ := wk_if hf
      obtain ⟨e0, e1, e2, e3, e4, e5, e6⟩ := wk_inj6 hf
      subst e1
      subst e2
      subst e3
      subst e4
      subst e5
      subst e6
      exact W.zret (v := (tx (k1).toNatClampNeg)) hx hb hr (congrArg Value.int hn9) (fun t ht hW => ⟨⟨(tx (k1).toNatClampNeg), (), rfl, rfl, by rw [ht]; exact hP, va_K.moved hW.alike hK, hD⟩, hS.F ht⟩) hS.2.2 d_D_at_27
    ·
      have hf := wk_iff hc2 hf
      exact blk13 I A M MB L (upd (fun _ => 0) 1 k1) (fun _ => 0) _ _ _ hf (lv_sub hl [0, 1] rfl) hP hD hS
set_option maxHeartbeats 8000000 in
set_option maxRecDepth 100000 in
theorem ct_D_at_2 (l : Launch) (hfl : l.flags = flags0) (dC : Nat → ClassId) (dI : Nat → Nat → Nat) (h : Nat) (q : Nat → Nat) (g : Nat → ClassId) (hp : Nat) (qp : Nat → Nat) (gp : Nat → ClassId) (tq : Nat) (tg : ClassId) (tn : Nat) (tx : Nat → Int32) (sz : Nat) (I : MI) (A : MA) (M : MI) (MB : MA) (L : ML) (k1 : Int32) (r : Int32) (I' : MI) (A' : MA) (M' : MI) (MB' : MA) (L' : ML) (hf : f_D_at tn tx I A M MB L  k1 = some (2, r, I', A', M', MB', L')) : th_Met l y_D_at w_D_at ({ frames := 6, cells := 1, slots := 6, locals := 81 }) (va_Pc [.ref h, .int k1] (fun U => U.heap.size = sz ∧ va_P (dC, dI) vwCl (dw_W h q g hp qp gp tq tg tn tx I A M MB L) U.heap ∧ va_K (dC, dI) vwCl (dw_T h q g hp qp gp tq tg tn tx) U ∧ va_D (fun _ => True) (dw_W h q g hp qp gp tq tg tn tx I A M MB L) ∧ th_ZA (va_A (dw_W h q g hp qp gp tq tg tn tx I A M MB L) sz) U)) (th_Qw "java/lang/IndexOutOfBoundsException" (fun t => va_P (dC, dI) vwCl (dw_W h q g hp qp gp tq tg tn tx I' A' M' MB' L') t.heap ∧ va_K (dC, dI) vwCl (dw_T h q g hp qp gp tq tg tn tx) t ∧ va_D (va_A (dw_W h q g hp qp gp tq tg tn tx I A M MB L) sz) (dw_W h q g hp qp gp tq tg tn tx I' A' M' MB' L')) (va_A (dw_W h q g hp qp gp tq tg tn tx I A M MB L) sz)) 1 6 (va_A (dw_W h q g hp qp gp tq tg tn tx I A M MB L) sz) := by
  refine th_Met.ofW (cc := prog_1_method_15_code) (maxL := 2) (ret := (some .char)) (by decide) rfl ?_
  intro p e s m args below meth c s₁ B hml hnh hv
  obtain ⟨rfl, hsz, hP, hK, hD0, hZ⟩ := hv
  have hx := B.exec
  have hb := B.bytes
  have hr := B.returns
  have hts := atoms_spec (ws := w_D_at) B.pre
  have hown : s.vm.findClass "DraftTree" = some m.cls := findClass_of_methodNamed B.named
  have hlocks := B.notSynchronized
  have htr := Launch.traces_off hfl B.admits
  subst hsz
  have hD := hD0.self (sz := s.heap.size)
  generalize hAe : va_A (dw_W h q g hp qp gp tq tg tn tx I A M MB L) s.heap.size = B9 at hD hZ ⊢
  have hA : ∀ q : Nat, s.heap.size ≤ q → B9 q := fun q h => by rw [← hAe]; exact Or.inr h
  clear hAe
  have hS : va_S B9 s.heap s.heap [] := va_S.rf
  have hl := lv_entry ([.ref h, .int k1]) (n := 2) (Nat.le_of_ble_eq_true rfl)
  rw [lg_entry_eq]
  generalize (lg_sl ([.ref h, .int k1]) ++ List.replicate (2 - (lg_sl ([.ref h, .int k1])).length) Slot.unset).toArray = ls at hl ⊢
  have hl : lv_has ls 2 [(0, .ref h), (1, .int k1)] := hl
  have blk13 : ∀ (I : MI) (A : MA) (M : MI) (MB : MA) (L : ML) (X : Nat → Int32) (Y : Nat → Int64) (ls : Array Slot) (H : Heap) (locs : List Loc), f_D_at_13 tn tx I A M MB L X Y = some (2, r, I', A', M', MB', L') → lv_has ls 2 [(0, .ref h), (1, .int (X 1))] → va_P (dC, dI) vwCl (dw_W h q g hp qp gp tq tg tn tx I A M MB L) H → va_D B9 (dw_W h q g hp qp gp tq tg tn tx I A M MB L) → va_S B9 s.heap H locs → W p l e (headSpec w_D_at ({ frames := 6, cells := 1, slots := 6, locals := 81 })).room s m ([.ref h, .int k1] : List Value).toArray below meth c H locs 0 0 (th_Q below (th_Qw "java/lang/IndexOutOfBoundsException" (fun t => va_P (dC, dI) vwCl (dw_W h q g hp qp gp tq tg tn tx I' A' M' MB' L') t.heap ∧ va_K (dC, dI) vwCl (dw_T h q g hp qp gp tq tg tn tx) t ∧ va_D B9 (dw_W h q g hp qp gp tq tg tn tx I' A' M' MB' L')) B9) ([.ref h, .int k1] : List Value).toArray s 1 6 B9) (F0 m 13 ls []) := by
    intro I A M MB L X Y ls H locs hf hl hP hD hS
    unfold f_D_at_13 at hf
    obtain ⟨e0, e1, e2, e3, e4, e5, e6⟩ := wk_inj6 hf
    subst e1
    subst e2
    subst e3
    subst e4
    subst e5
    subst e6
    exact th_newG hx hb htr hown (by decide) (by decide) (wk_thr hts hZ hS lk_242 lk_243 (fun _ a9 b9 => oa_0 a9 b9)) hnh (by rw [hl.1, hml]) hS (Nat.le_of_ble_eq_true rfl) (Nat.le_of_ble_eq_true rfl) (Nat.le_of_ble_eq_true rfl) (Nat.le_of_ble_eq_true rfl) (Nat.le_of_ble_eq_true rfl) (Nat.le_of_ble_eq_true rfl) hlocks (fun t hal hk => ⟨hP.kept (fun k q hq => hk _ (hP k q hq).lt), va_K.moved hal hK, hD⟩) d_D_at_13 d_D_at_16 d_D_at_17 d_D_at_20
  unfold f_D_at at hf
  refine lv_iload_n hx hb d_D_at_0 rfl (lv_at hl 1 rfl) ?_
  refine lv_if_lt (tgt := 13) hx hb d_D_at_1 (by decide) (fun hc1 => ?_) (fun hc1 => ?_)
  ·
    have hf := wk_ift hc1 hf
    exact blk13 I A M MB L (upd (fun _ => 0) 1 k1) (fun _ => 0) _ _ _ hf (lv_sub hl [0, 1] rfl) hP hD hS
  ·
    have hf := wk_iff hc1 hf
    refine lv_iload_n hx hb d_D_at_4 rfl (lv_at hl 1 rfl) ?_
    refine lv_aload_n hx hb d_D_at_5 rfl (lv_at hl 0 rfl) ?_
    refine va_get (D := (dC, dI)) (ci := 0) (v := .ref tq) (C := R_D) (T := F_D) (N := 14) hx hb hts (fun w h => List.mem_cons_of_mem _ (in_D w h)) hown hK hP 0 rfl rfl 5 (by decide) (hts _ (List.mem_cons_of_mem _ lk_241)) (fun _ h9 => h9) rfl d_D_at_6 ?_
    refine va_alen (v := (Int32.ofNat tn)) hx hb hK hP 10 8 rfl rfl rfl d_D_at_9 ?_
    refine lv_icmp_lt (tgt := 21) hx hb d_D_at_10 (by decide) (fun hc2 => ?_) (fun hc2 => ?_)
    ·
      have hf := wk_ift hc2 hf
      refine lv_aload_n hx hb d_D_at_21 rfl (lv_at hl 0 rfl) ?_
      refine va_get (D := (dC, dI)) (ci := 0) (v := .ref tq) (C := R_D) (T := F_D) (N := 14) hx hb hts (fun w h => List.mem_cons_of_mem _ (in_D w h)) hown hK hP 0 rfl rfl 5 (by decide) (hts _ (List.mem_cons_of_mem _ lk_241)) (fun _ h9 => h9) rfl d_D_at_22 ?_
      refine lv_iload_n hx hb d_D_at_25 rfl (lv_at hl 1 rfl) ?_
      obtain ⟨hc3, hf⟩ := wk_if hf
      refine va_cald hx hb hK hP 10 8 rfl rfl (wk_inb_ok hc3) d_D_at_26 ?_
      obtain ⟨hn9, hf⟩ := wk_if hf
      exact (wk_tag (by decide) hf).elim
    ·
      have hf := wk_iff hc2 hf
      exact blk13 I A M MB L (upd (fun _ => 0) 1 k1) (fun _ => 0) _ _ _ hf (lv_sub hl [0, 1] rfl) hP hD hS

set_option maxHeartbeats 8000000 in
set_option maxRecDepth 100000 in
theorem cm_D_breaksBefore (l : Launch) (dC : Nat → ClassId) (dI : Nat → Nat → Nat) (h : Nat) (q : Nat → Nat) (g : Nat → ClassId) (hp : Nat) (qp : Nat → Nat) (gp : Nat → ClassId) (tq : Nat) (tg : ClassId) (tn : Nat) (tx : Nat → Int32) (sz : Nat) (I : MI) (A : MA) (M : MI) (MB : MA) (L : ML) (k1 : Int32) (r : Int32) (I' : MI) (A' : MA) (M' : MI) (MB' : MA) (L' : ML) (hf : f_D_breaksBefore tn tx I A M MB L  k1 = some (r, I', A', M', MB', L')) : Met l y_D_breaksBefore w_D_breaksBefore ({ frames := 0, cells := 0, slots := 0, locals := 0 }) (va_Pc [.ref h, .int k1] (fun U => U.heap.size = sz ∧ va_P (dC, dI) vwCl (dw_W h q g hp qp gp tq tg tn tx I A M MB L) U.heap ∧ va_K (dC, dI) vwCl (dw_T h q g hp qp gp tq tg tn tx) U ∧ va_D (fun _ => True) (dw_W h q g hp qp gp tq tg tn tx I A M MB L))) (va_Qi (fun (r9 : Int32) (_ : Unit) => r9 = r) (fun (_ : Unit) t => va_P (dC, dI) vwCl (dw_W h q g hp qp gp tq tg tn tx I' A' M' MB' L') t.heap ∧ va_K (dC, dI) vwCl (dw_T h q g hp qp gp tq tg tn tx) t ∧ va_D (va_A (dw_W h q g hp qp gp tq tg tn tx I A M MB L) sz) (dw_W h q g hp qp gp tq tg tn tx I' A' M' MB' L')) (va_A (dw_W h q g hp qp gp tq tg tn tx I A M MB L) sz)) 0 0 (va_A (dw_W h q g hp qp gp tq tg tn tx I A M MB L) sz) := by
  refine Met.ofW (cc := prog_1_method_29_code) (maxL := 4) (ret := (some .int)) (by decide) rfl ?_
  intro p e s m args below meth c s₁ B hml hv
  obtain ⟨rfl, hsz, hP, hK, hD0⟩ := hv
  have hx := B.exec
  have hb := B.bytes
  have hr := B.returns
  have hts := atoms_spec (ws := w_D_breaksBefore) B.pre
  have hown : s.vm.findClass "DraftTree" = some m.cls := findClass_of_methodNamed B.named
  have hlocks := B.notSynchronized
  subst hsz
  have hD := hD0.self (sz := s.heap.size)
  generalize hAe : va_A (dw_W h q g hp qp gp tq tg tn tx I A M MB L) s.heap.size = B9 at hD ⊢
  have hA : ∀ q : Nat, s.heap.size ≤ q → B9 q := fun q h => by rw [← hAe]; exact Or.inr h
  clear hAe
  have hS : va_S B9 s.heap s.heap [] := va_S.rf
  have hl := lv_entry ([.ref h, .int k1]) (n := 4) (Nat.le_of_ble_eq_true rfl)
  rw [lg_entry_eq]
  generalize (lg_sl ([.ref h, .int k1]) ++ List.replicate (4 - (lg_sl ([.ref h, .int k1])).length) Slot.unset).toArray = ls at hl ⊢
  have hl : lv_has ls 4 [(0, .ref h), (1, .int k1)] := hl
  have blk23 : ∀ (rc : Nat → MI → MA → MI → MA → ML → (Nat → Int32) → (Nat → Int64) → Option (Int32 × MI × MA × MI × MA × ML)) (hrc4 : ∀ (I : MI) (A : MA) (M : MI) (MB : MA) (L : ML) (X : Nat → Int32) (Y : Nat → Int64) (ls : Array Slot) (H : Heap) (locs : List Loc), rc 4 I A M MB L X Y = some (r, I', A', M', MB', L') → lv_has ls 4 [(0, .ref h), (1, .int (X 1)), (2, .int (X 2)), (3, .int (X 3))] → va_P (dC, dI) vwCl (dw_W h q g hp qp gp tq tg tn tx I A M MB L) H → va_D B9 (dw_W h q g hp qp gp tq tg tn tx I A M MB L) → va_S B9 s.heap H locs → W p l e (headSpec w_D_breaksBefore ({ frames := 0, cells := 0, slots := 0, locals := 0 })).room s m ([.ref h, .int k1] : List Value).toArray below meth c H locs 0 0 (MQ below (va_Qi (fun (r9 : Int32) (_ : Unit) => r9 = r) (fun (_ : Unit) t => va_P (dC, dI) vwCl (dw_W h q g hp qp gp tq tg tn tx I' A' M' MB' L') t.heap ∧ va_K (dC, dI) vwCl (dw_T h q g hp qp gp tq tg tn tx) t ∧ va_D B9 (dw_W h q g hp qp gp tq tg tn tx I' A' M' MB' L')) B9) ([.ref h, .int k1] : List Value).toArray s 0 0 B9) (F0 m 4 ls [])), ∀ (I : MI) (A : MA) (M : MI) (MB : MA) (L : ML) (X : Nat → Int32) (Y : Nat → Int64) (ls : Array Slot) (H : Heap) (locs : List Loc), f_D_breaksBefore_23 tn tx rc I A M MB L X Y = some (r, I', A', M', MB', L') → lv_has ls 4 [(0, .ref h), (1, .int (X 1)), (2, .int (X 2)), (3, .int (X 3))] → va_P (dC, dI) vwCl (dw_W h q g hp qp gp tq tg tn tx I A M MB L) H → va_D B9 (dw_W h q g hp qp gp tq tg tn tx I A M MB L) → va_S B9 s.heap H locs → W p l e (headSpec w_D_breaksBefore ({ frames := 0, cells := 0, slots := 0, locals := 0 })).room s m ([.ref h, .int k1] : List Value).toArray below meth c H locs 0 0 (MQ below (va_Qi (fun (r9 : Int32) (_ : Unit) => r9 = r) (fun (_ : Unit) t => va_P (dC, dI) vwCl (dw_W h q g hp qp gp tq tg tn tx I' A' M' MB' L') t.heap ∧ va_K (dC, dI) vwCl (dw_T h q g hp qp gp tq tg tn tx) t ∧ va_D B9 (dw_W h q g hp qp gp tq tg tn tx I' A' M' MB' L')) B9) ([.ref h, .int k1] : List Value).toArray s 0 0 B9) (F0 m 23 ls []) := by
    intro rc hrc4 I A M MB L X Y ls H locs hf hl hP hD hS
    unfold f_D_breaksBefore_23 at hf
    refine lv_iinc (k := 3) (v := ((X 3) + 1)) (lv' := [(3, .int ((X 3) + 1)), (0, .ref h), (1, .int (X 1)), (2, .int (X 2))]) hx hb d_D_breaksBefore_23 hl rfl (wk_inc (by decide)) (by decide) rfl (fun ls hl => ?_)
    have hl : lv_has ls 4 [(3, .int ((X 3) + 1)), (0, .ref h), (1, .int (X 1)), (2, .int (X 2))] := hl
    refine lv_goto (tgt := 4) hx hb d_D_breaksBefore_26 (by decide) ?_
    exact hrc4 I A M MB L (upd X 3 ((X 3) + 1)) Y _ _ _ hf (lv_sub hl [1, 2, 3, 0] rfl) hP hD hS
  have stp4 : ∀ (rc : Nat → MI → MA → MI → MA → ML → (Nat → Int32) → (Nat → Int64) → Option (Int32 × MI × MA × MI × MA × ML)) (hrc4 : ∀ (I : MI) (A : MA) (M : MI) (MB : MA) (L : ML) (X : Nat → Int32) (Y : Nat → Int64) (ls : Array Slot) (H : Heap) (locs : List Loc), rc 4 I A M MB L X Y = some (r, I', A', M', MB', L') → lv_has ls 4 [(0, .ref h), (1, .int (X 1)), (2, .int (X 2)), (3, .int (X 3))] → va_P (dC, dI) vwCl (dw_W h q g hp qp gp tq tg tn tx I A M MB L) H → va_D B9 (dw_W h q g hp qp gp tq tg tn tx I A M MB L) → va_S B9 s.heap H locs → W p l e (headSpec w_D_breaksBefore ({ frames := 0, cells := 0, slots := 0, locals := 0 })).room s m ([.ref h, .int k1] : List Value).toArray below meth c H locs 0 0 (MQ below (va_Qi (fun (r9 : Int32) (_ : Unit) => r9 = r) (fun (_ : Unit) t => va_P (dC, dI) vwCl (dw_W h q g hp qp gp tq tg tn tx I' A' M' MB' L') t.heap ∧ va_K (dC, dI) vwCl (dw_T h q g hp qp gp tq tg tn tx) t ∧ va_D B9 (dw_W h q g hp qp gp tq tg tn tx I' A' M' MB' L')) B9) ([.ref h, .int k1] : List Value).toArray s 0 0 B9) (F0 m 4 ls [])), ∀ (I : MI) (A : MA) (M : MI) (MB : MA) (L : ML) (X : Nat → Int32) (Y : Nat → Int64) (ls : Array Slot) (H : Heap) (locs : List Loc), f_D_breaksBefore_4 tn tx rc I A M MB L X Y = some (r, I', A', M', MB', L') → lv_has ls 4 [(0, .ref h), (1, .int (X 1)), (2, .int (X 2)), (3, .int (X 3))] → va_P (dC, dI) vwCl (dw_W h q g hp qp gp tq tg tn tx I A M MB L) H → va_D B9 (dw_W h q g hp qp gp tq tg tn tx I A M MB L) → va_S B9 s.heap H locs → W p l e (headSpec w_D_breaksBefore ({ frames := 0, cells := 0, slots := 0, locals := 0 })).room s m ([.ref h, .int k1] : List Value).toArray below meth c H locs 0 0 (MQ below (va_Qi (fun (r9 : Int32) (_ : Unit) => r9 = r) (fun (_ : Unit) t => va_P (dC, dI) vwCl (dw_W h q g hp qp gp tq tg tn tx I' A' M' MB' L') t.heap ∧ va_K (dC, dI) vwCl (dw_T h q g hp qp gp tq tg tn tx) t ∧ va_D B9 (dw_W h q g hp qp gp tq tg tn tx I' A' M' MB' L')) B9) ([.ref h, .int k1] : List Value).toArray s 0 0 B9) (F0 m 4 ls []) := by
    intro rc hrc4 I A M MB L X Y ls H locs hf hl hP hD hS
    unfold f_D_breaksBefore_4 at hf
    refine lv_iload_n hx hb d_D_breaksBefore_4 rfl (lv_at hl 3 rfl) ?_
    refine lv_iload_n hx hb d_D_breaksBefore_5 rfl (lv_at hl 1 rfl) ?_
    refine lv_icmp_ge (tgt := 29) hx hb d_D_breaksBefore_6 (by decide) (fun hc1 => ?_) (fun hc1 => ?_)
    ·
      have hf := wk_ift hc1 hf
      refine lv_iload_n hx hb d_D_breaksBefore_29 rfl (lv_at hl 2 rfl) ?_
      obtain ⟨e0, e1, e2, e3, e4, e5⟩ := wk_inj5 hf
      subst e0
      subst e1
      subst e2
      subst e3
      subst e4
      subst e5
      exact W.iret (v := (X 2)) hx hb hr (fun t ht hW => ⟨⟨(X 2), (), rfl, rfl, by rw [ht]; exact hP, va_K.moved hW.alike hK, hD⟩, hS.F ht⟩) hS.2.2 d_D_breaksBefore_30
    ·
      have hf := wk_iff hc1 hf
      refine lv_aload_n hx hb d_D_breaksBefore_9 rfl (lv_at hl 0 rfl) ?_
      refine va_get (D := (dC, dI)) (ci := 0) (v := .ref tq) (C := R_D) (T := F_D) (N := 14) hx hb hts (fun w h => List.mem_cons_of_mem _ (in_D w h)) hown hK hP 0 rfl rfl 5 (by decide) (hts _ (List.mem_cons_of_mem _ lk_241)) (fun _ h9 => h9) rfl d_D_breaksBefore_10 ?_
      refine lv_iload_n hx hb d_D_breaksBefore_13 rfl (lv_at hl 3 rfl) ?_
      obtain ⟨hc2, hf⟩ := wk_if hf
      refine va_cald hx hb hK hP 10 8 rfl rfl (wk_inb_ok hc2) d_D_breaksBefore_14 ?_
      refine lv_bipush (v := 10) hx hb d_D_breaksBefore_15 (by decide) ?_
      refine lv_icmp_ne (tgt := 23) hx hb d_D_breaksBefore_17 (by decide) (fun hc3 => ?_) (fun hc3 => ?_)
      ·
        have hf := wk_iff hc3 hf
        exact blk23 rc hrc4 I A M MB L X Y _ _ _ hf (lv_sub hl [0, 1, 2, 3] rfl) hP hD hS
      ·
        have hf := wk_ift hc3 hf
        refine lv_iinc (k := 2) (v := ((X 2) + 1)) (lv' := [(2, .int ((X 2) + 1)), (0, .ref h), (1, .int (X 1)), (3, .int (X 3))]) hx hb d_D_breaksBefore_20 hl rfl (wk_inc (by decide)) (by decide) rfl (fun ls hl => ?_)
        have hl : lv_has ls 4 [(2, .int ((X 2) + 1)), (0, .ref h), (1, .int (X 1)), (3, .int (X 3))] := hl
        exact blk23 rc hrc4 I A M MB L (upd X 2 ((X 2) + 1)) Y _ _ _ hf (lv_sub hl [1, 2, 0, 3] rfl) hP hD hS
  have key : ∀ n : Nat, (∀ (I : MI) (A : MA) (M : MI) (MB : MA) (L : ML) (X : Nat → Int32) (Y : Nat → Int64) (ls : Array Slot) (H : Heap) (locs : List Loc), f_D_breaksBefore_go tn tx n 4 I A M MB L X Y = some (r, I', A', M', MB', L') → lv_has ls 4 [(0, .ref h), (1, .int (X 1)), (2, .int (X 2)), (3, .int (X 3))] → va_P (dC, dI) vwCl (dw_W h q g hp qp gp tq tg tn tx I A M MB L) H → va_D B9 (dw_W h q g hp qp gp tq tg tn tx I A M MB L) → va_S B9 s.heap H locs → W p l e (headSpec w_D_breaksBefore ({ frames := 0, cells := 0, slots := 0, locals := 0 })).room s m ([.ref h, .int k1] : List Value).toArray below meth c H locs 0 0 (MQ below (va_Qi (fun (r9 : Int32) (_ : Unit) => r9 = r) (fun (_ : Unit) t => va_P (dC, dI) vwCl (dw_W h q g hp qp gp tq tg tn tx I' A' M' MB' L') t.heap ∧ va_K (dC, dI) vwCl (dw_T h q g hp qp gp tq tg tn tx) t ∧ va_D B9 (dw_W h q g hp qp gp tq tg tn tx I' A' M' MB' L')) B9) ([.ref h, .int k1] : List Value).toArray s 0 0 B9) (F0 m 4 ls [])) := by
    intro n
    induction n with
    | zero => exact fun I A M MB L X Y ls H locs hf => (by cases hf)
    | succ n ih =>
      have ih4 := ih
      exact stp4 (f_D_breaksBefore_go tn tx n) ih4
  unfold f_D_breaksBefore f_D_breaksBefore_e at hf
  have hrc4 := key wk_FUEL
  refine lv_iconst (v := 0) hx hb d_D_breaksBefore_0 (by decide) ?_
  refine lv_istore_n (lv' := [(2, .int 0), (0, .ref h), (1, .int k1)]) hx hb d_D_breaksBefore_1 rfl hl (by decide) rfl (fun ls hl => ?_)
  have hl : lv_has ls 4 [(2, .int 0), (0, .ref h), (1, .int k1)] := hl
  refine lv_iconst (v := 0) hx hb d_D_breaksBefore_2 (by decide) ?_
  refine lv_istore_n (lv' := [(3, .int 0), (2, .int 0), (0, .ref h), (1, .int k1)]) hx hb d_D_breaksBefore_3 rfl hl (by decide) rfl (fun ls hl => ?_)
  have hl : lv_has ls 4 [(3, .int 0), (2, .int 0), (0, .ref h), (1, .int k1)] := hl
  exact hrc4 I A M MB L (upd (upd (upd (fun _ => 0) 1 k1) 2 0) 3 0) (fun _ => 0) _ _ _ hf (lv_sub hl [2, 3, 1, 0] rfl) hP hD hS

set_option maxHeartbeats 8000000 in
set_option maxRecDepth 100000 in
theorem cm_Ji_numberOfTrailingZeros (l : Launch) (dC : Nat → ClassId) (dI : Nat → Nat → Nat)  (sz : Nat) (k0 : Int32) (r : Int32) (hf : f_Ji_numberOfTrailingZeros  k0 = some r) : Met l y_Ji_numberOfTrailingZeros w_Ji_numberOfTrailingZeros ({ frames := 0, cells := 0, slots := 0, locals := 0 }) (va_Pc [.int k0] (fun U => U.heap.size = sz ∧ va_P (dC, dI) vwCl [] U.heap ∧ va_K (dC, dI) vwCl [] U ∧ va_D (fun _ => True) [])) (va_Qi (fun (r9 : Int32) (_ : Unit) => r9 = r) (fun (_ : Unit) t => va_P (dC, dI) vwCl [] t.heap ∧ va_K (dC, dI) vwCl [] t ∧ va_D (va_A [] sz) []) (va_A [] sz)) 0 0 (va_A [] sz) := by
  refine Met.ofW (cc := prog_11_method_48_code) (maxL := 2) (ret := (some .int)) (by decide) rfl ?_
  intro p e s m args below meth c s₁ B hml hv
  obtain ⟨rfl, hsz, hP, hK, hD0⟩ := hv
  have hx := B.exec
  have hb := B.bytes
  have hr := B.returns
  have hts := atoms_spec (ws := w_Ji_numberOfTrailingZeros) B.pre
  have hown : s.vm.findClass "java/lang/Integer" = some m.cls := findClass_of_methodNamed B.named
  have hlocks := B.notSynchronized
  subst hsz
  have hD := hD0.self (sz := s.heap.size)
  generalize hAe : va_A [] s.heap.size = B9 at hD ⊢
  have hA : ∀ q : Nat, s.heap.size ≤ q → B9 q := fun q h => by rw [← hAe]; exact Or.inr h
  clear hAe
  have hS : va_S B9 s.heap s.heap [] := va_S.rf
  have hl := lv_entry ([.int k0]) (n := 2) (Nat.le_of_ble_eq_true rfl)
  rw [lg_entry_eq]
  generalize (lg_sl ([.int k0]) ++ List.replicate (2 - (lg_sl ([.int k0])).length) Slot.unset).toArray = ls at hl ⊢
  have hl : lv_has ls 2 [(0, .int k0)] := hl
  have blk74 : ∀ (X : Nat → Int32) (Y : Nat → Int64) (ls : Array Slot) (H : Heap) (locs : List Loc), f_Ji_numberOfTrailingZeros_74 X Y = some r → lv_has ls 2 [(0, .int (X 0)), (1, .int (X 1))] → va_P (dC, dI) vwCl [] H → va_D B9 [] → va_S B9 s.heap H locs → W p l e (headSpec w_Ji_numberOfTrailingZeros ({ frames := 0, cells := 0, slots := 0, locals := 0 })).room s m ([.int k0] : List Value).toArray below meth c H locs 0 0 (MQ below (va_Qi (fun (r9 : Int32) (_ : Unit) => r9 = r) (fun (_ : Unit) t => va_P (dC, dI) vwCl [] t.heap ∧ va_K (dC, dI) vwCl [] t ∧ va_D B9 []) B9) ([.int k0] : List Value).toArray s 0 0 B9) (F0 m 74 ls []) := by
    intro X Y ls H locs hf hl hP hD hS
    unfold f_Ji_numberOfTrailingZeros_74 at hf
    refine lv_iload_n hx hb d_Ji_numberOfTrailingZeros_74 rfl (lv_at hl 1 rfl) ?_
    refine lv_iload_n hx hb d_Ji_numberOfTrailingZeros_75 rfl (lv_at hl 0 rfl) ?_
    refine lv_iconst (v := 1) hx hb d_Ji_numberOfTrailingZeros_76 (by decide) ?_
    refine lv_iushr hx hb d_Ji_numberOfTrailingZeros_77 rfl ?_
    refine lv_iadd hx hb d_Ji_numberOfTrailingZeros_78 ?_
    have e0 := Option.some.inj hf
    subst e0
    exact W.iret (v := ((X 1) + (((X 0)).toUInt32 >>> (((1 : Int32)).toUInt32 &&& Int32.toUInt32 31)).toInt32)) hx hb hr (fun t ht hW => ⟨⟨((X 1) + (((X 0)).toUInt32 >>> (((1 : Int32)).toUInt32 &&& Int32.toUInt32 31)).toInt32), (), rfl, rfl, by rw [ht]; exact hP, va_K.moved hW.alike hK, hD⟩, hS.F ht⟩) hS.2.2 d_Ji_numberOfTrailingZeros_79
  have blk62 : ∀ (X : Nat → Int32) (Y : Nat → Int64) (ls : Array Slot) (H : Heap) (locs : List Loc), f_Ji_numberOfTrailingZeros_62 X Y = some r → lv_has ls 2 [(0, .int (X 0)), (1, .int (X 1))] → va_P (dC, dI) vwCl [] H → va_D B9 [] → va_S B9 s.heap H locs → W p l e (headSpec w_Ji_numberOfTrailingZeros ({ frames := 0, cells := 0, slots := 0, locals := 0 })).room s m ([.int k0] : List Value).toArray below meth c H locs 0 0 (MQ below (va_Qi (fun (r9 : Int32) (_ : Unit) => r9 = r) (fun (_ : Unit) t => va_P (dC, dI) vwCl [] t.heap ∧ va_K (dC, dI) vwCl [] t ∧ va_D B9 []) B9) ([.int k0] : List Value).toArray s 0 0 B9) (F0 m 62 ls []) := by
    intro X Y ls H locs hf hl hP hD hS
    unfold f_Ji_numberOfTrailingZeros_62 at hf
    refine lv_iload_n hx hb d_Ji_numberOfTrailingZeros_62 rfl (lv_at hl 0 rfl) ?_
    refine lv_iconst (v := 4) hx hb d_Ji_numberOfTrailingZeros_63 (by decide) ?_
    refine lv_icmp_le (tgt := 74) hx hb d_Ji_numberOfTrailingZeros_64 (by decide) (fun hc1 => ?_) (fun hc1 => ?_)
    ·
      have hf := wk_ift hc1 hf
      exact blk74 X Y _ _ _ hf (lv_sub hl [0, 1] rfl) hP hD hS
    ·
      have hf := wk_iff hc1 hf
      refine lv_iinc (k := 1) (v := ((X 1) + 2)) (lv' := [(1, .int ((X 1) + 2)), (0, .int (X 0))]) hx hb d_Ji_numberOfTrailingZeros_67 hl rfl (wk_inc (by decide)) (by decide) rfl (fun ls hl => ?_)
      have hl : lv_has ls 2 [(1, .int ((X 1) + 2)), (0, .int (X 0))] := hl
      refine lv_iload_n hx hb d_Ji_numberOfTrailingZeros_70 rfl (lv_at hl 1 rfl) ?_
      refine lv_iconst (v := 2) hx hb d_Ji_numberOfTrailingZeros_71 (by decide) ?_
      refine lv_iushr hx hb d_Ji_numberOfTrailingZeros_72 rfl ?_
      refine lv_istore_n (lv' := [(0, .int (((X 0)).toUInt32 >>> (((2 : Int32)).toUInt32 &&& Int32.toUInt32 31)).toInt32), (1, .int ((X 1) + 2))]) hx hb d_Ji_numberOfTrailingZeros_73 rfl hl (by decide) rfl (fun ls hl => ?_)
      have hl : lv_has ls 2 [(0, .int (((X 0)).toUInt32 >>> (((2 : Int32)).toUInt32 &&& Int32.toUInt32 31)).toInt32), (1, .int ((X 1) + 2))] := hl
      exact blk74 (upd (upd X 0 (((X 0)).toUInt32 >>> (((2 : Int32)).toUInt32 &&& Int32.toUInt32 31)).toInt32) 1 ((X 1) + 2)) Y _ _ _ hf (lv_sub hl [0, 1] rfl) hP hD hS
  have blk49 : ∀ (X : Nat → Int32) (Y : Nat → Int64) (ls : Array Slot) (H : Heap) (locs : List Loc), f_Ji_numberOfTrailingZeros_49 X Y = some r → lv_has ls 2 [(0, .int (X 0)), (1, .int (X 1))] → va_P (dC, dI) vwCl [] H → va_D B9 [] → va_S B9 s.heap H locs → W p l e (headSpec w_Ji_numberOfTrailingZeros ({ frames := 0, cells := 0, slots := 0, locals := 0 })).room s m ([.int k0] : List Value).toArray below meth c H locs 0 0 (MQ below (va_Qi (fun (r9 : Int32) (_ : Unit) => r9 = r) (fun (_ : Unit) t => va_P (dC, dI) vwCl [] t.heap ∧ va_K (dC, dI) vwCl [] t ∧ va_D B9 []) B9) ([.int k0] : List Value).toArray s 0 0 B9) (F0 m 49 ls []) := by
    intro X Y ls H locs hf hl hP hD hS
    unfold f_Ji_numberOfTrailingZeros_49 at hf
    refine lv_iload_n hx hb d_Ji_numberOfTrailingZeros_49 rfl (lv_at hl 0 rfl) ?_
    refine lv_bipush (v := 16) hx hb d_Ji_numberOfTrailingZeros_50 (by decide) ?_
    refine lv_icmp_le (tgt := 62) hx hb d_Ji_numberOfTrailingZeros_52 (by decide) (fun hc1 => ?_) (fun hc1 => ?_)
    ·
      have hf := wk_ift hc1 hf
      exact blk62 X Y _ _ _ hf (lv_sub hl [0, 1] rfl) hP hD hS
    ·
      have hf := wk_iff hc1 hf
      refine lv_iinc (k := 1) (v := ((X 1) + 4)) (lv' := [(1, .int ((X 1) + 4)), (0, .int (X 0))]) hx hb d_Ji_numberOfTrailingZeros_55 hl rfl (wk_inc (by decide)) (by decide) rfl (fun ls hl => ?_)
      have hl : lv_has ls 2 [(1, .int ((X 1) + 4)), (0, .int (X 0))] := hl
      refine lv_iload_n hx hb d_Ji_numberOfTrailingZeros_58 rfl (lv_at hl 1 rfl) ?_
      refine lv_iconst (v := 4) hx hb d_Ji_numberOfTrailingZeros_59 (by decide) ?_
      refine lv_iushr hx hb d_Ji_numberOfTrailingZeros_60 rfl ?_
      refine lv_istore_n (lv' := [(0, .int (((X 0)).toUInt32 >>> (((4 : Int32)).toUInt32 &&& Int32.toUInt32 31)).toInt32), (1, .int ((X 1) + 4))]) hx hb d_Ji_numberOfTrailingZeros_61 rfl hl (by decide) rfl (fun ls hl => ?_)
      have hl : lv_has ls 2 [(0, .int (((X 0)).toUInt32 >>> (((4 : Int32)).toUInt32 &&& Int32.toUInt32 31)).toInt32), (1, .int ((X 1) + 4))] := hl
      exact blk62 (upd (upd X 0 (((X 0)).toUInt32 >>> (((4 : Int32)).toUInt32 &&& Int32.toUInt32 31)).toInt32) 1 ((X 1) + 4)) Y _ _ _ hf (lv_sub hl [0, 1] rfl) hP hD hS
  have blk34 : ∀ (X : Nat → Int32) (Y : Nat → Int64) (ls : Array Slot) (H : Heap) (locs : List Loc), f_Ji_numberOfTrailingZeros_34 X Y = some r → lv_has ls 2 [(0, .int (X 0)), (1, .int (X 1))] → va_P (dC, dI) vwCl [] H → va_D B9 [] → va_S B9 s.heap H locs → W p l e (headSpec w_Ji_numberOfTrailingZeros ({ frames := 0, cells := 0, slots := 0, locals := 0 })).room s m ([.int k0] : List Value).toArray below meth c H locs 0 0 (MQ below (va_Qi (fun (r9 : Int32) (_ : Unit) => r9 = r) (fun (_ : Unit) t => va_P (dC, dI) vwCl [] t.heap ∧ va_K (dC, dI) vwCl [] t ∧ va_D B9 []) B9) ([.int k0] : List Value).toArray s 0 0 B9) (F0 m 34 ls []) := by
    intro X Y ls H locs hf hl hP hD hS
    unfold f_Ji_numberOfTrailingZeros_34 at hf
    refine lv_iload_n hx hb d_Ji_numberOfTrailingZeros_34 rfl (lv_at hl 0 rfl) ?_
    refine lv_sipush (v := 256) hx hb d_Ji_numberOfTrailingZeros_35 (by decide) ?_
    refine lv_icmp_le (tgt := 49) hx hb d_Ji_numberOfTrailingZeros_38 (by decide) (fun hc1 => ?_) (fun hc1 => ?_)
    ·
      have hf := wk_ift hc1 hf
      exact blk49 X Y _ _ _ hf (lv_sub hl [0, 1] rfl) hP hD hS
    ·
      have hf := wk_iff hc1 hf
      refine lv_iinc (k := 1) (v := ((X 1) + 8)) (lv' := [(1, .int ((X 1) + 8)), (0, .int (X 0))]) hx hb d_Ji_numberOfTrailingZeros_41 hl rfl (wk_inc (by decide)) (by decide) rfl (fun ls hl => ?_)
      have hl : lv_has ls 2 [(1, .int ((X 1) + 8)), (0, .int (X 0))] := hl
      refine lv_iload_n hx hb d_Ji_numberOfTrailingZeros_44 rfl (lv_at hl 1 rfl) ?_
      refine lv_bipush (v := 8) hx hb d_Ji_numberOfTrailingZeros_45 (by decide) ?_
      refine lv_iushr hx hb d_Ji_numberOfTrailingZeros_47 rfl ?_
      refine lv_istore_n (lv' := [(0, .int (((X 0)).toUInt32 >>> (((8 : Int32)).toUInt32 &&& Int32.toUInt32 31)).toInt32), (1, .int ((X 1) + 8))]) hx hb d_Ji_numberOfTrailingZeros_48 rfl hl (by decide) rfl (fun ls hl => ?_)
      have hl : lv_has ls 2 [(0, .int (((X 0)).toUInt32 >>> (((8 : Int32)).toUInt32 &&& Int32.toUInt32 31)).toInt32), (1, .int ((X 1) + 8))] := hl
      exact blk49 (upd (upd X 0 (((X 0)).toUInt32 >>> (((8 : Int32)).toUInt32 &&& Int32.toUInt32 31)).toInt32) 1 ((X 1) + 8)) Y _ _ _ hf (lv_sub hl [0, 1] rfl) hP hD hS
  unfold f_Ji_numberOfTrailingZeros at hf
  refine lv_iload_n hx hb d_Ji_numberOfTrailingZeros_0 rfl (lv_at hl 0 rfl) ?_
  refine lv_iconst (v := (-1)) hx hb d_Ji_numberOfTrailingZeros_1 (by decide) ?_
  refine lv_ixor hx hb d_Ji_numberOfTrailingZeros_2 ?_
  refine lv_iload_n hx hb d_Ji_numberOfTrailingZeros_3 rfl (lv_at hl 0 rfl) ?_
  refine lv_iconst (v := 1) hx hb d_Ji_numberOfTrailingZeros_4 (by decide) ?_
  refine lv_isub hx hb d_Ji_numberOfTrailingZeros_5 ?_
  refine lv_iand hx hb d_Ji_numberOfTrailingZeros_6 ?_
  refine lv_istore_n (lv' := [(0, .int ((k0 ^^^ (-1)) &&& (k0 - 1)))]) hx hb d_Ji_numberOfTrailingZeros_7 rfl hl (by decide) rfl (fun ls hl => ?_)
  have hl : lv_has ls 2 [(0, .int ((k0 ^^^ (-1)) &&& (k0 - 1)))] := hl
  refine lv_iload_n hx hb d_Ji_numberOfTrailingZeros_8 rfl (lv_at hl 0 rfl) ?_
  refine lv_if_gt (tgt := 17) hx hb d_Ji_numberOfTrailingZeros_9 (by decide) (fun hc1 => ?_) (fun hc1 => ?_)
  ·
    have hf := wk_ift hc1 hf
    refine lv_iconst (v := 1) hx hb d_Ji_numberOfTrailingZeros_17 (by decide) ?_
    refine lv_istore_n (lv' := [(1, .int 1), (0, .int ((k0 ^^^ (-1)) &&& (k0 - 1)))]) hx hb d_Ji_numberOfTrailingZeros_18 rfl hl (by decide) rfl (fun ls hl => ?_)
    have hl : lv_has ls 2 [(1, .int 1), (0, .int ((k0 ^^^ (-1)) &&& (k0 - 1)))] := hl
    refine lv_iload_n hx hb d_Ji_numberOfTrailingZeros_19 rfl (lv_at hl 1 rfl) ?_
    refine lv_ldcw (v := 65536) hx hb hown (hts _ (List.mem_cons_of_mem _ lk_259)) d_Ji_numberOfTrailingZeros_20 ?_
    refine lv_icmp_le (tgt := 34) hx hb d_Ji_numberOfTrailingZeros_23 (by decide) (fun hc2 => ?_) (fun hc2 => ?_)
    ·
      have hf := wk_ift hc2 hf
      exact blk34 (upd (upd (fun _ => 0) 0 ((k0 ^^^ (-1)) &&& (k0 - 1))) 1 1) (fun _ => 0) _ _ _ hf (lv_sub hl [1, 0] rfl) hP hD hS
    ·
      have hf := wk_iff hc2 hf
      refine lv_iinc (k := 0) (v := 17) (lv' := [(1, .int 17), (0, .int ((k0 ^^^ (-1)) &&& (k0 - 1)))]) hx hb d_Ji_numberOfTrailingZeros_26 hl rfl (by decide) (by decide) rfl (fun ls hl => ?_)
      have hl : lv_has ls 2 [(1, .int 17), (0, .int ((k0 ^^^ (-1)) &&& (k0 - 1)))] := hl
      refine lv_iload_n hx hb d_Ji_numberOfTrailingZeros_29 rfl (lv_at hl 1 rfl) ?_
      refine lv_bipush (v := 16) hx hb d_Ji_numberOfTrailingZeros_30 (by decide) ?_
      refine lv_iushr hx hb d_Ji_numberOfTrailingZeros_32 rfl ?_
      refine lv_istore_n (lv' := [(0, .int ((((k0 ^^^ (-1)) &&& (k0 - 1))).toUInt32 >>> (((16 : Int32)).toUInt32 &&& Int32.toUInt32 31)).toInt32), (1, .int 17)]) hx hb d_Ji_numberOfTrailingZeros_33 rfl hl (by decide) rfl (fun ls hl => ?_)
      have hl : lv_has ls 2 [(0, .int ((((k0 ^^^ (-1)) &&& (k0 - 1))).toUInt32 >>> (((16 : Int32)).toUInt32 &&& Int32.toUInt32 31)).toInt32), (1, .int 17)] := hl
      exact blk34 (upd (upd (fun _ => 0) 0 ((((k0 ^^^ (-1)) &&& (k0 - 1))).toUInt32 >>> (((16 : Int32)).toUInt32 &&& Int32.toUInt32 31)).toInt32) 1 17) (fun _ => 0) _ _ _ hf (lv_sub hl [0, 1] rfl) hP hD hS
  ·
    have hf := wk_iff hc1 hf
    refine lv_iload_n hx hb d_Ji_numberOfTrailingZeros_12 rfl (lv_at hl 0 rfl) ?_
    refine lv_bipush (v := 32) hx hb d_Ji_numberOfTrailingZeros_13 (by decide) ?_
    refine lv_iand hx hb d_Ji_numberOfTrailingZeros_15 ?_
    have e0 := Option.some.inj hf
    subst e0
    exact W.iret (v := (((k0 ^^^ (-1)) &&& (k0 - 1)) &&& 32)) hx hb hr (fun t ht hW => ⟨⟨(((k0 ^^^ (-1)) &&& (k0 - 1)) &&& 32), (), rfl, rfl, by rw [ht]; exact hP, va_K.moved hW.alike hK, hD⟩, hS.F ht⟩) hS.2.2 d_Ji_numberOfTrailingZeros_16

set_option maxHeartbeats 8000000 in
set_option maxRecDepth 100000 in
theorem cm_Jl_numberOfTrailingZeros (l : Launch) (dC : Nat → ClassId) (dI : Nat → Nat → Nat)  (sz : Nat) (k0 : Int64) (r : Int32) (hf : f_Jl_numberOfTrailingZeros  k0 = some r) : Met l y_Jl_numberOfTrailingZeros w_Jl_numberOfTrailingZeros ({ frames := 1, cells := 0, slots := 0, locals := 21 }) (va_Pc [.long k0] (fun U => U.heap.size = sz ∧ va_P (dC, dI) vwCl [] U.heap ∧ va_K (dC, dI) vwCl [] U ∧ va_D (fun _ => True) [])) (va_Qi (fun (r9 : Int32) (_ : Unit) => r9 = r) (fun (_ : Unit) t => va_P (dC, dI) vwCl [] t.heap ∧ va_K (dC, dI) vwCl [] t ∧ va_D (va_A [] sz) []) (va_A [] sz)) 0 0 (va_A [] sz) := by
  refine Met.ofW (cc := prog_12_method_49_code) (maxL := 3) (ret := (some .int)) (by decide) rfl ?_
  intro p e s m args below meth c s₁ B hml hv
  obtain ⟨rfl, hsz, hP, hK, hD0⟩ := hv
  have hx := B.exec
  have hb := B.bytes
  have hr := B.returns
  have hts := atoms_spec (ws := w_Jl_numberOfTrailingZeros) B.pre
  have hown : s.vm.findClass "java/lang/Long" = some m.cls := findClass_of_methodNamed B.named
  have hlocks := B.notSynchronized
  subst hsz
  have hD := hD0.self (sz := s.heap.size)
  generalize hAe : va_A [] s.heap.size = B9 at hD ⊢
  have hA : ∀ q : Nat, s.heap.size ≤ q → B9 q := fun q h => by rw [← hAe]; exact Or.inr h
  clear hAe
  have hS : va_S B9 s.heap s.heap [] := va_S.rf
  have hl := lv_entry ([.long k0]) (n := 3) (Nat.le_of_ble_eq_true rfl)
  rw [lg_entry_eq]
  generalize (lg_sl ([.long k0]) ++ List.replicate (3 - (lg_sl ([.long k0])).length) Slot.unset).toArray = ls at hl ⊢
  have hl : lv_has ls 3 [(0, .long k0)] := hl
  have blk25 : ∀ (X : Nat → Int32) (Y : Nat → Int64) (s0 : Int32) (ls : Array Slot) (H : Heap) (locs : List Loc), f_Jl_numberOfTrailingZeros_25 X Y s0 = some r → lv_has ls 3 [(0, .long (Y 0)), (2, .int (X 2))] → va_P (dC, dI) vwCl [] H → va_D B9 [] → va_S B9 s.heap H locs → W p l e (headSpec w_Jl_numberOfTrailingZeros ({ frames := 1, cells := 0, slots := 0, locals := 21 })).room s m ([.long k0] : List Value).toArray below meth c H locs 0 0 (MQ below (va_Qi (fun (r9 : Int32) (_ : Unit) => r9 = r) (fun (_ : Unit) t => va_P (dC, dI) vwCl [] t.heap ∧ va_K (dC, dI) vwCl [] t ∧ va_D B9 []) B9) ([.long k0] : List Value).toArray s 0 0 B9) (F0 m 25 ls [.int s0]) := by
    intro X Y s0 ls H locs hf hl hP hD hS
    unfold f_Jl_numberOfTrailingZeros_25 at hf
    have e0 := Option.some.inj hf
    subst e0
    exact W.iret (v := s0) hx hb hr (fun t ht hW => ⟨⟨s0, (), rfl, rfl, by rw [ht]; exact hP, va_K.moved hW.alike hK, hD⟩, hS.F ht⟩) hS.2.2 d_Jl_numberOfTrailingZeros_25
  unfold f_Jl_numberOfTrailingZeros at hf
  refine lv_lload_n hx hb d_Jl_numberOfTrailingZeros_0 rfl (lv_at hl 0 rfl) ?_
  refine lv_l2i hx hb d_Jl_numberOfTrailingZeros_1 rfl ?_
  refine lv_istore_n (lv' := [(2, .int (k0).toInt32), (0, .long k0)]) hx hb d_Jl_numberOfTrailingZeros_2 rfl hl (by decide) rfl (fun ls hl => ?_)
  have hl : lv_has ls 3 [(2, .int (k0).toInt32), (0, .long k0)] := hl
  refine lv_iload_n hx hb d_Jl_numberOfTrailingZeros_3 rfl (lv_at hl 0 rfl) ?_
  refine lv_if_ne (tgt := 21) hx hb d_Jl_numberOfTrailingZeros_4 (by decide) (fun hc1 => ?_) (fun hc1 => ?_)
  ·
    have hf := wk_iff hc1 hf
    refine lv_iload_n hx hb d_Jl_numberOfTrailingZeros_21 rfl (lv_at hl 0 rfl) ?_
    have hPc := hP.sub (ws' := []) [] rfl
    have hDc := hD.sub (ws' := []) [] (by decide) rfl
    have hKc := hK.sub (tys' := []) [] rfl
    have hFc := va_free (wc := []) hD hS hA [] rfl
    cases hg1 : f_Ji_numberOfTrailingZeros (k0).toInt32 with
    | none => rw [hg1] at hf; cases hf
    | some z1 =>
      rw [hg1] at hf
      dsimp only [Option.bind_some] at hf
      refine va_calli (va_runS (As := [.int (k0).toInt32]) (rest := []) ⟨hx, hb, hml, hown, hts⟩ (cm_Ji_numberOfTrailingZeros l dC dI  _  (k0).toInt32 z1  hg1) (va_cwS 1 hts (gd_t lk_261 lk_262 lk_263 lk_260) rfl rfl rfl (by decide +kernel) ⟨Nat.le_of_ble_eq_true rfl, Nat.le_of_ble_eq_true rfl⟩) ⟨fun a U g mk q => by obtain ⟨q0, q1, qP, qK, qD⟩ := q; exact ⟨q0, q1, qP, va_K.moved (u := U) (U := U.calling g mk a) (Vm.Alike.refl U.vm) qK, qD⟩, fun U hU hW => ⟨rfl, by rw [hU], by rw [hU]; exact hPc, va_K.moved hW.alike hKc, hDc.weaken (fun _ _ _ _ => trivial)⟩⟩ rfl rfl hl.1 rfl (lv_room (Nat.le_of_ble_eq_true rfl)) d_Jl_numberOfTrailingZeros_22 ⟨Nat.le_of_ble_eq_true rfl, Nat.le_of_ble_eq_true rfl⟩) hS (fun q _ h => hFc q h) hFc (fun r9 u t H1 locs ht hvm hw hB hz1 hk1 hS => ?_)
      obtain ⟨hP1, hK1, hD1⟩ := hB
      rw [ht] at hP1
      rw [hw]
      obtain ⟨hP, hD⟩ := va_join (wr := (([] : List Nat).map (fun i => ([]).getD i (0, .inr (0, []))))) (w1 := []) hP hD [] [] rfl rfl (by decide) (by decide) hk1 hFc hP1 hD1
      generalize H1 = H at hP hS ⊢
      have hP := hP.sub (ws' := []) [] rfl
      have hD := hD.sub (ws' := []) [] (by decide) rfl
      exact blk25 (upd (fun _ => 0) 2 (k0).toInt32) (vp_updL (fun _ => 0) 0 k0) z1 _ _ _ hf (lv_sub hl [1, 0] rfl) hP hD hS
  ·
    have hf := wk_ift hc1 hf
    refine lv_bipush (v := 32) hx hb d_Jl_numberOfTrailingZeros_7 (by decide) ?_
    refine lv_lload_n hx hb d_Jl_numberOfTrailingZeros_9 rfl (lv_at hl 1 rfl) ?_
    refine lv_bipush (v := 32) hx hb d_Jl_numberOfTrailingZeros_10 (by decide) ?_
    refine lv_lushr hx hb d_Jl_numberOfTrailingZeros_12 rfl ?_
    refine lv_l2i hx hb d_Jl_numberOfTrailingZeros_13 rfl ?_
    have hPc := hP.sub (ws' := []) [] rfl
    have hDc := hD.sub (ws' := []) [] (by decide) rfl
    have hKc := hK.sub (tys' := []) [] rfl
    have hFc := va_free (wc := []) hD hS hA [] rfl
    cases hg1 : f_Ji_numberOfTrailingZeros (((k0).toUInt64 >>> (((32 : Int32)).toInt64.toUInt64 &&& Int64.toUInt64 63)).toInt64).toInt32 with
    | none => rw [hg1] at hf; cases hf
    | some z1 =>
      rw [hg1] at hf
      dsimp only [Option.bind_some] at hf
      refine va_calli (va_runS (As := [.int (((k0).toUInt64 >>> (((32 : Int32)).toInt64.toUInt64 &&& Int64.toUInt64 63)).toInt64).toInt32]) (rest := [.int 32]) ⟨hx, hb, hml, hown, hts⟩ (cm_Ji_numberOfTrailingZeros l dC dI  _  (((k0).toUInt64 >>> (((32 : Int32)).toInt64.toUInt64 &&& Int64.toUInt64 63)).toInt64).toInt32 z1  hg1) (va_cwS 1 hts (gd_t lk_261 lk_262 lk_263 lk_260) rfl rfl rfl (by decide +kernel) ⟨Nat.le_of_ble_eq_true rfl, Nat.le_of_ble_eq_true rfl⟩) ⟨fun a U g mk q => by obtain ⟨q0, q1, qP, qK, qD⟩ := q; exact ⟨q0, q1, qP, va_K.moved (u := U) (U := U.calling g mk a) (Vm.Alike.refl U.vm) qK, qD⟩, fun U hU hW => ⟨rfl, by rw [hU], by rw [hU]; exact hPc, va_K.moved hW.alike hKc, hDc.weaken (fun _ _ _ _ => trivial)⟩⟩ rfl rfl hl.1 rfl (lv_room (Nat.le_of_ble_eq_true rfl)) d_Jl_numberOfTrailingZeros_14 ⟨Nat.le_of_ble_eq_true rfl, Nat.le_of_ble_eq_true rfl⟩) hS (fun q _ h => hFc q h) hFc (fun r9 u t H1 locs ht hvm hw hB hz1 hk1 hS => ?_)
      obtain ⟨hP1, hK1, hD1⟩ := hB
      rw [ht] at hP1
      rw [hw]
      obtain ⟨hP, hD⟩ := va_join (wr := (([] : List Nat).map (fun i => ([]).getD i (0, .inr (0, []))))) (w1 := []) hP hD [] [] rfl rfl (by decide) (by decide) hk1 hFc hP1 hD1
      generalize H1 = H at hP hS ⊢
      have hP := hP.sub (ws' := []) [] rfl
      have hD := hD.sub (ws' := []) [] (by decide) rfl
      refine lv_iadd hx hb d_Jl_numberOfTrailingZeros_17 ?_
      refine lv_goto (tgt := 25) hx hb d_Jl_numberOfTrailingZeros_18 (by decide) ?_
      exact blk25 (upd (fun _ => 0) 2 (k0).toInt32) (vp_updL (fun _ => 0) 0 k0) (32 + z1) _ _ _ hf (lv_sub hl [1, 0] rfl) hP hD hS

set_option maxHeartbeats 8000000 in
set_option maxRecDepth 100000 in
theorem cm_A_asSet (l : Launch) (dC : Nat → ClassId) (dI : Nat → Nat → Nat)  (sz : Nat) (k0 : Int32) (r : Int64) (hf : f_A_asSet  k0 = some r) : Met l y_A_asSet w_A_asSet ({ frames := 0, cells := 0, slots := 0, locals := 0 }) (va_Pc [.int k0] (fun U => U.heap.size = sz ∧ va_P (dC, dI) vwCl [] U.heap ∧ va_K (dC, dI) vwCl [] U ∧ va_D (fun _ => True) [])) (va_Ql (fun (r9 : Int64) (_ : Unit) => r9 = r) (fun (_ : Unit) t => va_P (dC, dI) vwCl [] t.heap ∧ va_K (dC, dI) vwCl [] t ∧ va_D (va_A [] sz) []) (va_A [] sz)) 0 0 (va_A [] sz) := by
  refine Met.ofW (cc := prog_2_method_11_code) (maxL := 1) (ret := (some .long)) (by decide) rfl ?_
  intro p e s m args below meth c s₁ B hml hv
  obtain ⟨rfl, hsz, hP, hK, hD0⟩ := hv
  have hx := B.exec
  have hb := B.bytes
  have hr := B.returns
  have hts := atoms_spec (ws := w_A_asSet) B.pre
  have hown : s.vm.findClass "DraftTree$Automaton" = some m.cls := findClass_of_methodNamed B.named
  have hlocks := B.notSynchronized
  subst hsz
  have hD := hD0.self (sz := s.heap.size)
  generalize hAe : va_A [] s.heap.size = B9 at hD ⊢
  have hA : ∀ q : Nat, s.heap.size ≤ q → B9 q := fun q h => by rw [← hAe]; exact Or.inr h
  clear hAe
  have hS : va_S B9 s.heap s.heap [] := va_S.rf
  have hl := lv_entry ([.int k0]) (n := 1) (Nat.le_of_ble_eq_true rfl)
  rw [lg_entry_eq]
  generalize (lg_sl ([.int k0]) ++ List.replicate (1 - (lg_sl ([.int k0])).length) Slot.unset).toArray = ls at hl ⊢
  have hl : lv_has ls 1 [(0, .int k0)] := hl
  have blk12 : ∀ (X : Nat → Int32) (Y : Nat → Int64) (s0 : Int64) (ls : Array Slot) (H : Heap) (locs : List Loc), f_A_asSet_12 X Y s0 = some r → lv_has ls 1 [(0, .int (X 0))] → va_P (dC, dI) vwCl [] H → va_D B9 [] → va_S B9 s.heap H locs → W p l e (headSpec w_A_asSet ({ frames := 0, cells := 0, slots := 0, locals := 0 })).room s m ([.int k0] : List Value).toArray below meth c H locs 0 0 (MQ below (va_Ql (fun (r9 : Int64) (_ : Unit) => r9 = r) (fun (_ : Unit) t => va_P (dC, dI) vwCl [] t.heap ∧ va_K (dC, dI) vwCl [] t ∧ va_D B9 []) B9) ([.int k0] : List Value).toArray s 0 0 B9) (F0 m 12 ls [.long s0]) := by
    intro X Y s0 ls H locs hf hl hP hD hS
    unfold f_A_asSet_12 at hf
    have e0 := Option.some.inj hf
    subst e0
    exact W.lret (v := s0) hx hb hr (fun t ht hW => ⟨⟨s0, (), rfl, rfl, by rw [ht]; exact hP, va_K.moved hW.alike hK, hD⟩, hS.F ht⟩) hS.2.2 d_A_asSet_12
  unfold f_A_asSet at hf
  refine lv_iload_n hx hb d_A_asSet_0 rfl (lv_at hl 0 rfl) ?_
  refine lv_iconst (v := (-1)) hx hb d_A_asSet_1 (by decide) ?_
  refine lv_icmp_ne (tgt := 9) hx hb d_A_asSet_2 (by decide) (fun hc1 => ?_) (fun hc1 => ?_)
  ·
    have hf := wk_iff hc1 hf
    refine lv_lconst (v := 1) hx hb d_A_asSet_9 (by decide) ?_
    refine lv_iload_n hx hb d_A_asSet_10 rfl (lv_at hl 0 rfl) ?_
    refine lv_lshl hx hb d_A_asSet_11 rfl ?_
    exact blk12 (upd (fun _ => 0) 0 k0) (fun _ => 0) ((1 : Int64) <<< ((k0).toInt64 &&& 63)) _ _ _ hf (lv_sub hl [0] rfl) hP hD hS
  ·
    have hf := wk_ift hc1 hf
    refine lv_lconst (v := 0) hx hb d_A_asSet_5 (by decide) ?_
    refine lv_goto (tgt := 12) hx hb d_A_asSet_6 (by decide) ?_
    exact blk12 (upd (fun _ => 0) 0 k0) (fun _ => 0) 0 _ _ _ hf (lv_sub hl [0] rfl) hP hD hS

set_option maxHeartbeats 8000000 in
set_option maxRecDepth 100000 in
theorem cm_A_waysOut (l : Launch) (dC : Nat → ClassId) (dI : Nat → Nat → Nat) (h : Nat) (q : Nat → Nat) (g : Nat → ClassId) (sz : Nat) (I : MI) (A : MA) (L : ML) (k1 : Int32) (k2 : Int32) (k3 : Int32) (r : Int64) (I' : MI) (A' : MA) (L' : ML) (hf : f_A_waysOut I A L  k1 k2 k3 = some (r, I', A', L')) : Met l y_A_waysOut w_A_waysOut ({ frames := 1, cells := 0, slots := 0, locals := 20 }) (va_Pc [.ref h, .int k1, .int k2, .int k3] (fun U => U.heap.size = sz ∧ va_P (dC, dI) vwCl (aw_W h q g I A L) U.heap ∧ va_K (dC, dI) vwCl (aw_T h q g) U ∧ va_D (fun _ => True) (aw_W h q g I A L))) (va_Ql (fun (r9 : Int64) (_ : Unit) => r9 = r) (fun (_ : Unit) t => va_P (dC, dI) vwCl (aw_W h q g I' A' L') t.heap ∧ va_K (dC, dI) vwCl (aw_T h q g) t ∧ va_D (va_A (aw_W h q g I A L) sz) (aw_W h q g I' A' L')) (va_A (aw_W h q g I A L) sz)) 0 0 (va_A (aw_W h q g I A L) sz) := by
  refine Met.ofW (cc := prog_2_method_10_code) (maxL := 4) (ret := (some .long)) (by decide) rfl ?_
  intro p e s m args below meth c s₁ B hml hv
  obtain ⟨rfl, hsz, hP, hK, hD0⟩ := hv
  have hx := B.exec
  have hb := B.bytes
  have hr := B.returns
  have hts := atoms_spec (ws := w_A_waysOut) B.pre
  have hown : s.vm.findClass "DraftTree$Automaton" = some m.cls := findClass_of_methodNamed B.named
  have hlocks := B.notSynchronized
  subst hsz
  have hD := hD0.self (sz := s.heap.size)
  generalize hAe : va_A (aw_W h q g I A L) s.heap.size = B9 at hD ⊢
  have hA : ∀ q : Nat, s.heap.size ≤ q → B9 q := fun q h => by rw [← hAe]; exact Or.inr h
  clear hAe
  have hS : va_S B9 s.heap s.heap [] := va_S.rf
  have hl := lv_entry ([.ref h, .int k1, .int k2, .int k3]) (n := 4) (Nat.le_of_ble_eq_true rfl)
  rw [lg_entry_eq]
  generalize (lg_sl ([.ref h, .int k1, .int k2, .int k3]) ++ List.replicate (4 - (lg_sl ([.ref h, .int k1, .int k2, .int k3])).length) Slot.unset).toArray = ls at hl ⊢
  have hl : lv_has ls 4 [(0, .ref h), (1, .int k1), (2, .int k2), (3, .int k3)] := hl
  have blk73 : ∀ (I : MI) (A : MA) (L : ML) (X : Nat → Int32) (Y : Nat → Int64) (s0 : Int64) (ls : Array Slot) (H : Heap) (locs : List Loc), f_A_waysOut_73 I A L X Y s0 = some (r, I', A', L') → lv_has ls 4 [(0, .ref h), (1, .int (X 1)), (2, .int (X 2)), (3, .int (X 3))] → va_P (dC, dI) vwCl (aw_W h q g I A L) H → va_D B9 (aw_W h q g I A L) → va_S B9 s.heap H locs → W p l e (headSpec w_A_waysOut ({ frames := 1, cells := 0, slots := 0, locals := 20 })).room s m ([.ref h, .int k1, .int k2, .int k3] : List Value).toArray below meth c H locs 0 0 (MQ below (va_Ql (fun (r9 : Int64) (_ : Unit) => r9 = r) (fun (_ : Unit) t => va_P (dC, dI) vwCl (aw_W h q g I' A' L') t.heap ∧ va_K (dC, dI) vwCl (aw_T h q g) t ∧ va_D B9 (aw_W h q g I' A' L')) B9) ([.ref h, .int k1, .int k2, .int k3] : List Value).toArray s 0 0 B9) (F0 m 73 ls [.long s0]) := by
    intro I A L X Y s0 ls H locs hf hl hP hD hS
    unfold f_A_waysOut_73 at hf
    obtain ⟨e0, e1, e2, e3⟩ := wk_inj3 hf
    subst e0
    subst e1
    subst e2
    subst e3
    exact W.lret (v := s0) hx hb hr (fun t ht hW => ⟨⟨s0, (), rfl, rfl, by rw [ht]; exact hP, va_K.moved hW.alike hK, hD⟩, hS.F ht⟩) hS.2.2 d_A_waysOut_73
  have blk91 : ∀ (I : MI) (A : MA) (L : ML) (X : Nat → Int32) (Y : Nat → Int64) (s0 : Int64) (ls : Array Slot) (H : Heap) (locs : List Loc), f_A_waysOut_91 I A L X Y s0 = some (r, I', A', L') → lv_has ls 4 [(0, .ref h), (1, .int (X 1)), (2, .int (X 2)), (3, .int (X 3))] → va_P (dC, dI) vwCl (aw_W h q g I A L) H → va_D B9 (aw_W h q g I A L) → va_S B9 s.heap H locs → W p l e (headSpec w_A_waysOut ({ frames := 1, cells := 0, slots := 0, locals := 20 })).room s m ([.ref h, .int k1, .int k2, .int k3] : List Value).toArray below meth c H locs 0 0 (MQ below (va_Ql (fun (r9 : Int64) (_ : Unit) => r9 = r) (fun (_ : Unit) t => va_P (dC, dI) vwCl (aw_W h q g I' A' L') t.heap ∧ va_K (dC, dI) vwCl (aw_T h q g) t ∧ va_D B9 (aw_W h q g I' A' L')) B9) ([.ref h, .int k1, .int k2, .int k3] : List Value).toArray s 0 0 B9) (F0 m 91 ls [.long s0]) := by
    intro I A L X Y s0 ls H locs hf hl hP hD hS
    unfold f_A_waysOut_91 at hf
    obtain ⟨e0, e1, e2, e3⟩ := wk_inj3 hf
    subst e0
    subst e1
    subst e2
    subst e3
    exact W.lret (v := s0) hx hb hr (fun t ht hW => ⟨⟨s0, (), rfl, rfl, by rw [ht]; exact hP, va_K.moved hW.alike hK, hD⟩, hS.F ht⟩) hS.2.2 d_A_waysOut_91
  unfold f_A_waysOut at hf
  refine lv_aload_n hx hb d_A_waysOut_0 rfl (lv_at hl 0 rfl) ?_
  refine va_get (D := (dC, dI)) (ci := 3) (v := .ref (q 0)) (C := R_A) (T := F_A) (N := 10) hx hb hts (fun w h => List.mem_cons_of_mem _ (in_A w h)) hown hK hP 0 rfl rfl 0 (by decide) (hts _ (List.mem_cons_of_mem _ lk_268)) (fun _ h9 => h9) rfl d_A_waysOut_1 ?_
  refine lv_iload_n hx hb d_A_waysOut_4 rfl (lv_at hl 1 rfl) ?_
  obtain ⟨hc1, hf⟩ := wk_if hf
  refine va_iald hx hb hK hP 1 0 rfl rfl (wk_inb_ok hc1) d_A_waysOut_5 ?_
  by_cases hc2 : (A 0 (k1).toNatClampNeg) = 0
  ·
    have hf := wk_ift hc2 hf
    refine wk_top (w := .int 0) (congrArg _ hc2) ?_
    refine lv_tableIn (off := 30) (tgt := 36) hx hb d_A_waysOut_6 (by decide) (by decide) (by decide) (by decide) ?_
    refine lv_aload_n hx hb d_A_waysOut_36 rfl (lv_at hl 0 rfl) ?_
    refine va_get (D := (dC, dI)) (ci := 3) (v := .ref (q 1)) (C := R_A) (T := F_A) (N := 10) hx hb hts (fun w h => List.mem_cons_of_mem _ (in_A w h)) hown hK hP 0 rfl rfl 1 (by decide) (hts _ (List.mem_cons_of_mem _ lk_269)) (fun _ h9 => h9) rfl d_A_waysOut_37 ?_
    refine lv_iload_n hx hb d_A_waysOut_40 rfl (lv_at hl 1 rfl) ?_
    obtain ⟨hc3, hf⟩ := wk_if hf
    refine va_iald hx hb hK hP 2 1 rfl rfl (wk_inb_ok hc3) d_A_waysOut_41 ?_
    have hPc := hP.sub (ws' := []) [] rfl
    have hDc := hD.sub (ws' := []) [] (by decide) rfl
    have hKc := hK.sub (tys' := []) [] rfl
    have hFc := va_free (wc := []) hD hS hA [] rfl
    cases hg1 : f_A_asSet (A 1 (k1).toNatClampNeg) with
    | none => rw [hg1] at hf; cases hf
    | some z1 =>
      rw [hg1] at hf
      dsimp only [Option.bind_some] at hf
      refine va_calll (va_runS (As := [.int (A 1 (k1).toNatClampNeg)]) (rest := []) ⟨hx, hb, hml, hown, hts⟩ (cm_A_asSet l dC dI  _  (A 1 (k1).toNatClampNeg) z1  hg1) (va_cwS 1 hts (gd_t lk_271 lk_272 lk_273 lk_270) rfl rfl rfl (by decide +kernel) ⟨Nat.le_of_ble_eq_true rfl, Nat.le_of_ble_eq_true rfl⟩) ⟨fun a U g mk q => by obtain ⟨q0, q1, qP, qK, qD⟩ := q; exact ⟨q0, q1, qP, va_K.moved (u := U) (U := U.calling g mk a) (Vm.Alike.refl U.vm) qK, qD⟩, fun U hU hW => ⟨rfl, by rw [hU], by rw [hU]; exact hPc, va_K.moved hW.alike hKc, hDc.weaken (fun _ _ _ _ => trivial)⟩⟩ rfl rfl hl.1 rfl (lv_room (Nat.le_of_ble_eq_true rfl)) d_A_waysOut_42 ⟨Nat.le_of_ble_eq_true rfl, Nat.le_of_ble_eq_true rfl⟩) hS (fun q _ h => hFc q h) hFc (fun r9 u t H1 locs ht hvm hw hB hz1 hk1 hS => ?_)
      obtain ⟨hP1, hK1, hD1⟩ := hB
      rw [ht] at hP1
      rw [hw]
      obtain ⟨hP, hD⟩ := va_join (wr := (([0, 1, 2, 3, 4, 5] : List Nat).map (fun i => ((aw_W h q g I A L)).getD i (0, .inr (0, []))))) (w1 := []) hP hD [] [0, 1, 2, 3, 4, 5] rfl rfl (by decide) (by decide) hk1 hFc hP1 hD1
      generalize H1 = H at hP hS ⊢
      have hP := hP.sub (ws' := (aw_W h q g I A L)) [0, 1, 2, 3, 4, 5] rfl
      have hD := hD.sub (ws' := (aw_W h q g I A L)) [0, 1, 2, 3, 4, 5] (by decide) rfl
      refine lv_aload_n hx hb d_A_waysOut_45 rfl (lv_at hl 0 rfl) ?_
      refine va_get (D := (dC, dI)) (ci := 3) (v := .ref (q 2)) (C := R_A) (T := F_A) (N := 10) hx hb hts (fun w h => List.mem_cons_of_mem _ (in_A w h)) hown hK hP 0 rfl rfl 2 (by decide) (hts _ (List.mem_cons_of_mem _ lk_274)) (fun _ h9 => h9) rfl d_A_waysOut_46 ?_
      refine lv_iload_n hx hb d_A_waysOut_49 rfl (lv_at hl 1 rfl) ?_
      obtain ⟨hc4, hf⟩ := wk_if hf
      refine va_iald hx hb hK hP 3 2 rfl rfl (wk_inb_ok hc4) d_A_waysOut_50 ?_
      have hPc := hP.sub (ws' := []) [] rfl
      have hDc := hD.sub (ws' := []) [] (by decide) rfl
      have hKc := hK.sub (tys' := []) [] rfl
      have hFc := va_free (wc := []) hD hS hA [] rfl
      cases hg2 : f_A_asSet (A 2 (k1).toNatClampNeg) with
      | none => rw [hg2] at hf; cases hf
      | some z2 =>
        rw [hg2] at hf
        dsimp only [Option.bind_some] at hf
        refine va_calll (va_runS (As := [.int (A 2 (k1).toNatClampNeg)]) (rest := [.long z1]) ⟨hx, hb, hml, hown, hts⟩ (cm_A_asSet l dC dI  _  (A 2 (k1).toNatClampNeg) z2  hg2) (va_cwS 1 hts (gd_t lk_271 lk_272 lk_273 lk_270) rfl rfl rfl (by decide +kernel) ⟨Nat.le_of_ble_eq_true rfl, Nat.le_of_ble_eq_true rfl⟩) ⟨fun a U g mk q => by obtain ⟨q0, q1, qP, qK, qD⟩ := q; exact ⟨q0, q1, qP, va_K.moved (u := U) (U := U.calling g mk a) (Vm.Alike.refl U.vm) qK, qD⟩, fun U hU hW => ⟨rfl, by rw [hU], by rw [hU]; exact hPc, va_K.moved hW.alike hKc, hDc.weaken (fun _ _ _ _ => trivial)⟩⟩ rfl rfl hl.1 rfl (lv_room (Nat.le_of_ble_eq_true rfl)) d_A_waysOut_51 ⟨Nat.le_of_ble_eq_true rfl, Nat.le_of_ble_eq_true rfl⟩) hS (fun q _ h => hFc q h) hFc (fun r9 u t H1 locs ht hvm hw hB hz1 hk1 hS => ?_)
        obtain ⟨hP1, hK1, hD1⟩ := hB
        rw [ht] at hP1
        rw [hw]
        obtain ⟨hP, hD⟩ := va_join (wr := (([0, 1, 2, 3, 4, 5] : List Nat).map (fun i => ((aw_W h q g I A L)).getD i (0, .inr (0, []))))) (w1 := []) hP hD [] [0, 1, 2, 3, 4, 5] rfl rfl (by decide) (by decide) hk1 hFc hP1 hD1
        generalize H1 = H at hP hS ⊢
        have hP := hP.sub (ws' := (aw_W h q g I A L)) [0, 1, 2, 3, 4, 5] rfl
        have hD := hD.sub (ws' := (aw_W h q g I A L)) [0, 1, 2, 3, 4, 5] (by decide) rfl
        refine lv_lor hx hb d_A_waysOut_54 ?_
        obtain ⟨e0, e1, e2, e3⟩ := wk_inj3 hf
        subst e0
        subst e1
        subst e2
        subst e3
        exact W.lret (v := (z1 ||| z2)) hx hb hr (fun t ht hW => ⟨⟨(z1 ||| z2), (), rfl, rfl, by rw [ht]; exact hP, va_K.moved hW.alike hK, hD⟩, hS.F ht⟩) hS.2.2 d_A_waysOut_55
  ·
    have hf := wk_iff hc2 hf
    by_cases hc3 : (A 0 (k1).toNatClampNeg) = 1
    ·
      have hf := wk_ift hc3 hf
      refine wk_top (w := .int 1) (congrArg _ hc3) ?_
      refine lv_tableIn (off := 86) (tgt := 92) hx hb d_A_waysOut_6 (by decide) (by decide) (by decide) (by decide) ?_
      refine lv_lconst (v := 0) hx hb d_A_waysOut_92 (by decide) ?_
      obtain ⟨e0, e1, e2, e3⟩ := wk_inj3 hf
      subst e0
      subst e1
      subst e2
      subst e3
      exact W.lret (v := 0) hx hb hr (fun t ht hW => ⟨⟨0, (), rfl, rfl, by rw [ht]; exact hP, va_K.moved hW.alike hK, hD⟩, hS.F ht⟩) hS.2.2 d_A_waysOut_93
    ·
      have hf := wk_iff hc3 hf
      by_cases hc4 : (A 0 (k1).toNatClampNeg) = 2
      ·
        have hf := wk_ift hc4 hf
        refine wk_top (w := .int 2) (congrArg _ hc4) ?_
        refine lv_tableIn (off := 50) (tgt := 56) hx hb d_A_waysOut_6 (by decide) (by decide) (by decide) (by decide) ?_
        refine lv_iload_n hx hb d_A_waysOut_56 rfl (lv_at hl 2 rfl) ?_
        refine lv_if_eq (tgt := 72) hx hb d_A_waysOut_57 (by decide) (fun hc5 => ?_) (fun hc5 => ?_)
        ·
          have hf := wk_ift hc5 hf
          refine lv_lconst (v := 0) hx hb d_A_waysOut_72 (by decide) ?_
          exact blk73 I A L (upd (upd (upd (fun _ => 0) 1 k1) 2 k2) 3 k3) (fun _ => 0) 0 _ _ _ hf (lv_sub hl [0, 1, 2, 3] rfl) hP hD hS
        ·
          have hf := wk_iff hc5 hf
          refine lv_aload_n hx hb d_A_waysOut_60 rfl (lv_at hl 0 rfl) ?_
          refine va_get (D := (dC, dI)) (ci := 3) (v := .ref (q 1)) (C := R_A) (T := F_A) (N := 10) hx hb hts (fun w h => List.mem_cons_of_mem _ (in_A w h)) hown hK hP 0 rfl rfl 1 (by decide) (hts _ (List.mem_cons_of_mem _ lk_269)) (fun _ h9 => h9) rfl d_A_waysOut_61 ?_
          refine lv_iload_n hx hb d_A_waysOut_64 rfl (lv_at hl 1 rfl) ?_
          obtain ⟨hc6, hf⟩ := wk_if hf
          refine va_iald hx hb hK hP 2 1 rfl rfl (wk_inb_ok hc6) d_A_waysOut_65 ?_
          have hPc := hP.sub (ws' := []) [] rfl
          have hDc := hD.sub (ws' := []) [] (by decide) rfl
          have hKc := hK.sub (tys' := []) [] rfl
          have hFc := va_free (wc := []) hD hS hA [] rfl
          cases hg1 : f_A_asSet (A 1 (k1).toNatClampNeg) with
          | none => rw [hg1] at hf; cases hf
          | some z1 =>
            rw [hg1] at hf
            dsimp only [Option.bind_some] at hf
            refine va_calll (va_runS (As := [.int (A 1 (k1).toNatClampNeg)]) (rest := []) ⟨hx, hb, hml, hown, hts⟩ (cm_A_asSet l dC dI  _  (A 1 (k1).toNatClampNeg) z1  hg1) (va_cwS 1 hts (gd_t lk_271 lk_272 lk_273 lk_270) rfl rfl rfl (by decide +kernel) ⟨Nat.le_of_ble_eq_true rfl, Nat.le_of_ble_eq_true rfl⟩) ⟨fun a U g mk q => by obtain ⟨q0, q1, qP, qK, qD⟩ := q; exact ⟨q0, q1, qP, va_K.moved (u := U) (U := U.calling g mk a) (Vm.Alike.refl U.vm) qK, qD⟩, fun U hU hW => ⟨rfl, by rw [hU], by rw [hU]; exact hPc, va_K.moved hW.alike hKc, hDc.weaken (fun _ _ _ _ => trivial)⟩⟩ rfl rfl hl.1 rfl (lv_room (Nat.le_of_ble_eq_true rfl)) d_A_waysOut_66 ⟨Nat.le_of_ble_eq_true rfl, Nat.le_of_ble_eq_true rfl⟩) hS (fun q _ h => hFc q h) hFc (fun r9 u t H1 locs ht hvm hw hB hz1 hk1 hS => ?_)
            obtain ⟨hP1, hK1, hD1⟩ := hB
            rw [ht] at hP1
            rw [hw]
            obtain ⟨hP, hD⟩ := va_join (wr := (([0, 1, 2, 3, 4, 5] : List Nat).map (fun i => ((aw_W h q g I A L)).getD i (0, .inr (0, []))))) (w1 := []) hP hD [] [0, 1, 2, 3, 4, 5] rfl rfl (by decide) (by decide) hk1 hFc hP1 hD1
            generalize H1 = H at hP hS ⊢
            have hP := hP.sub (ws' := (aw_W h q g I A L)) [0, 1, 2, 3, 4, 5] rfl
            have hD := hD.sub (ws' := (aw_W h q g I A L)) [0, 1, 2, 3, 4, 5] (by decide) rfl
            refine lv_goto (tgt := 73) hx hb d_A_waysOut_69 (by decide) ?_
            exact blk73 I A L (upd (upd (upd (fun _ => 0) 1 k1) 2 k2) 3 k3) (fun _ => 0) z1 _ _ _ hf (lv_sub hl [0, 1, 2, 3] rfl) hP hD hS
      ·
        have hf := wk_iff hc4 hf
        by_cases hc5 : (A 0 (k1).toNatClampNeg) = 3
        ·
          have hf := wk_ift hc5 hf
          refine wk_top (w := .int 3) (congrArg _ hc5) ?_
          refine lv_tableIn (off := 68) (tgt := 74) hx hb d_A_waysOut_6 (by decide) (by decide) (by decide) (by decide) ?_
          refine lv_iload_n hx hb d_A_waysOut_74 rfl (lv_at hl 3 rfl) ?_
          refine lv_if_eq (tgt := 90) hx hb d_A_waysOut_75 (by decide) (fun hc6 => ?_) (fun hc6 => ?_)
          ·
            have hf := wk_ift hc6 hf
            refine lv_lconst (v := 0) hx hb d_A_waysOut_90 (by decide) ?_
            exact blk91 I A L (upd (upd (upd (fun _ => 0) 1 k1) 2 k2) 3 k3) (fun _ => 0) 0 _ _ _ hf (lv_sub hl [0, 1, 2, 3] rfl) hP hD hS
          ·
            have hf := wk_iff hc6 hf
            refine lv_aload_n hx hb d_A_waysOut_78 rfl (lv_at hl 0 rfl) ?_
            refine va_get (D := (dC, dI)) (ci := 3) (v := .ref (q 1)) (C := R_A) (T := F_A) (N := 10) hx hb hts (fun w h => List.mem_cons_of_mem _ (in_A w h)) hown hK hP 0 rfl rfl 1 (by decide) (hts _ (List.mem_cons_of_mem _ lk_269)) (fun _ h9 => h9) rfl d_A_waysOut_79 ?_
            refine lv_iload_n hx hb d_A_waysOut_82 rfl (lv_at hl 1 rfl) ?_
            obtain ⟨hc7, hf⟩ := wk_if hf
            refine va_iald hx hb hK hP 2 1 rfl rfl (wk_inb_ok hc7) d_A_waysOut_83 ?_
            have hPc := hP.sub (ws' := []) [] rfl
            have hDc := hD.sub (ws' := []) [] (by decide) rfl
            have hKc := hK.sub (tys' := []) [] rfl
            have hFc := va_free (wc := []) hD hS hA [] rfl
            cases hg1 : f_A_asSet (A 1 (k1).toNatClampNeg) with
            | none => rw [hg1] at hf; cases hf
            | some z1 =>
              rw [hg1] at hf
              dsimp only [Option.bind_some] at hf
              refine va_calll (va_runS (As := [.int (A 1 (k1).toNatClampNeg)]) (rest := []) ⟨hx, hb, hml, hown, hts⟩ (cm_A_asSet l dC dI  _  (A 1 (k1).toNatClampNeg) z1  hg1) (va_cwS 1 hts (gd_t lk_271 lk_272 lk_273 lk_270) rfl rfl rfl (by decide +kernel) ⟨Nat.le_of_ble_eq_true rfl, Nat.le_of_ble_eq_true rfl⟩) ⟨fun a U g mk q => by obtain ⟨q0, q1, qP, qK, qD⟩ := q; exact ⟨q0, q1, qP, va_K.moved (u := U) (U := U.calling g mk a) (Vm.Alike.refl U.vm) qK, qD⟩, fun U hU hW => ⟨rfl, by rw [hU], by rw [hU]; exact hPc, va_K.moved hW.alike hKc, hDc.weaken (fun _ _ _ _ => trivial)⟩⟩ rfl rfl hl.1 rfl (lv_room (Nat.le_of_ble_eq_true rfl)) d_A_waysOut_84 ⟨Nat.le_of_ble_eq_true rfl, Nat.le_of_ble_eq_true rfl⟩) hS (fun q _ h => hFc q h) hFc (fun r9 u t H1 locs ht hvm hw hB hz1 hk1 hS => ?_)
              obtain ⟨hP1, hK1, hD1⟩ := hB
              rw [ht] at hP1
              rw [hw]
              obtain ⟨hP, hD⟩ := va_join (wr := (([0, 1, 2, 3, 4, 5] : List Nat).map (fun i => ((aw_W h q g I A L)).getD i (0, .inr (0, []))))) (w1 := []) hP hD [] [0, 1, 2, 3, 4, 5] rfl rfl (by decide) (by decide) hk1 hFc hP1 hD1
              generalize H1 = H at hP hS ⊢
              have hP := hP.sub (ws' := (aw_W h q g I A L)) [0, 1, 2, 3, 4, 5] rfl
              have hD := hD.sub (ws' := (aw_W h q g I A L)) [0, 1, 2, 3, 4, 5] (by decide) rfl
              refine lv_goto (tgt := 91) hx hb d_A_waysOut_87 (by decide) ?_
              exact blk91 I A L (upd (upd (upd (fun _ => 0) 1 k1) 2 k2) 3 k3) (fun _ => 0) z1 _ _ _ hf (lv_sub hl [0, 1, 2, 3] rfl) hP hD hS
        ·
          have hf := wk_iff hc5 hf
          have nhc2 : ¬ ((A 0 (k1).toNatClampNeg)).toInt = 0 := fun z => hc2 ((wk_eq 0 (by decide)).mpr z)
          have nhc3 : ¬ ((A 0 (k1).toNatClampNeg)).toInt = 1 := fun z => hc3 ((wk_eq 1 (by decide)).mpr z)
          have nhc4 : ¬ ((A 0 (k1).toNatClampNeg)).toInt = 2 := fun z => hc4 ((wk_eq 2 (by decide)).mpr z)
          have nhc5 : ¬ ((A 0 (k1).toNatClampNeg)).toInt = 3 := fun z => hc5 ((wk_eq 3 (by decide)).mpr z)
          refine lv_tableOut (tgt := 92) hx hb d_A_waysOut_6 (by omega) (by decide) ?_
          refine lv_lconst (v := 0) hx hb d_A_waysOut_92 (by decide) ?_
          obtain ⟨e0, e1, e2, e3⟩ := wk_inj3 hf
          subst e0
          subst e1
          subst e2
          subst e3
          exact W.lret (v := 0) hx hb hr (fun t ht hW => ⟨⟨0, (), rfl, rfl, by rw [ht]; exact hP, va_K.moved hW.alike hK, hD⟩, hS.F ht⟩) hS.2.2 d_A_waysOut_93

