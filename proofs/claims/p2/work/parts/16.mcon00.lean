set_option maxHeartbeats 8000000 in
set_option maxRecDepth 100000 in
theorem cm_M_add (l : Launch) (dC : Nat → ClassId) (dI : Nat → Nat → Nat) (h : Nat) (q : Nat → Nat) (g : Nat → ClassId) (sz : Nat) (I : MI) (A : MA) (k1 : Int32) (r : Int32) (I' : MI) (A' : MA) (hf : f_M_add I A k1 = some (r, I', A')) : Met l y_M_add w_M_add ({ frames := 0, cells := 0, slots := 0, locals := 0 }) (va_Pc [.ref h, .int k1] (fun U => U.heap.size = sz ∧ va_P (dC, dI) vwCl (mw_W h q g I A) U.heap ∧ va_K (dC, dI) vwCl (mw_T g) U ∧ va_D (fun _ => True) (mw_W h q g I A))) (va_Qv (fun (u : Unit) => u = u) (fun (_ : Unit) t => va_P (dC, dI) vwCl (mw_W h q g I' A') t.heap ∧ va_K (dC, dI) vwCl (mw_T g) t ∧ va_D (va_A (mw_W h q g I A) sz) (mw_W h q g I' A')) (va_A (mw_W h q g I A) sz)) 0 0 (va_A (mw_W h q g I A) sz) := by
  refine Met.ofW (cc := prog_6_method_9_code) (maxL := 2) (ret := none) (by decide) rfl ?_
  intro p e s m args below meth c s₁ B hml hv
  obtain ⟨rfl, hsz, hP, hK, hD0⟩ := hv
  have hx := B.exec
  have hb := B.bytes
  have hr := B.returns
  have hts := atoms_spec (ws := w_M_add) B.pre
  have hown : s.vm.findClass R_M = some m.cls := findClass_of_methodNamed B.named
  have hlocks := B.notSynchronized
  subst hsz
  have hD := hD0.self (sz := s.heap.size)
  generalize hAe : va_A (mw_W h q g I A) s.heap.size = B9 at hD ⊢
  have hA : ∀ q : Nat, s.heap.size ≤ q → B9 q := fun q h => by rw [← hAe]; exact Or.inr h
  clear hAe
  have hS : va_S B9 s.heap s.heap [] := va_S.rf
  have hl := lv_entry ([.ref h, .int k1]) (n := 2) (Nat.le_of_ble_eq_true rfl)
  rw [lg_entry_eq]
  generalize (lg_sl ([.ref h, .int k1]) ++ List.replicate (2 - (lg_sl ([.ref h, .int k1])).length) Slot.unset).toArray = ls at hl ⊢
  have hl : lv_has ls 2 [(0, .ref h), (1, .int k1)] := hl
  unfold f_M_add at hf
  refine lv_aload_n hx hb d_M_add_0 rfl (lv_at hl 0 rfl) ?_
  refine va_get (D := (dC, dI)) (ci := 4) (v := .ref (q 37)) (C := R_M) (T := F_M) (N := 38) hx hb hts (fun w h => List.mem_cons_of_mem _ (in_M w h)) hown hK hP 0 rfl rfl 37 (by decide) (hts _ (List.mem_cons_of_mem _ lk_38)) (fun _ h9 => h9) rfl d_M_add_1 ?_
  refine lv_aload_n hx hb d_M_add_4 rfl (lv_at hl 0 rfl) ?_
  refine va_get (D := (dC, dI)) (ci := 4) (v := .int (I 36)) (C := R_M) (T := F_M) (N := 38) hx hb hts (fun w h => List.mem_cons_of_mem _ (in_M w h)) hown hK hP 0 rfl rfl 36 (by decide) (hts _ (List.mem_cons_of_mem _ lk_39)) (fun _ h9 => h9) rfl d_M_add_5 ?_
  refine lv_iload_n hx hb d_M_add_8 rfl (lv_at hl 1 rfl) ?_
  obtain ⟨hc1, hf⟩ := wk_if hf
  refine va_cast hx hb hK hP hD hS 20 19 rfl rfl (wk_inb_ok hc1) d_M_add_9 (fun H locs hP hD hS => ?_)
  obtain ⟨A1, hA1, hf⟩ := wk_letE hf
  have hP : va_P (dC, dI) vwCl (mw_W h q g I A1) H := by rw [hA1]; exact hP
  have hD : va_D B9 (mw_W h q g I A1) := by rw [hA1]; exact hD
  clear hA1
  refine lv_aload_n hx hb d_M_add_10 rfl (lv_at hl 0 rfl) ?_
  refine lv_dup hx hb d_M_add_11 rfl ?_
  refine va_get (D := (dC, dI)) (ci := 4) (v := .int (I 36)) (C := R_M) (T := F_M) (N := 38) hx hb hts (fun w h => List.mem_cons_of_mem _ (in_M w h)) hown hK hP 0 rfl rfl 36 (by decide) (hts _ (List.mem_cons_of_mem _ lk_39)) (fun _ h9 => h9) rfl d_M_add_12 ?_
  refine lv_iconst (v := 1) hx hb d_M_add_15 (by decide) ?_
  refine lv_iadd hx hb d_M_add_16 ?_
  refine va_put (D := (dC, dI)) (ci := 4) (v := .int ((I 36) + 1)) (ty := .int) (C := R_M) (T := F_M) (N := 38) hx hb hts (fun w h => List.mem_cons_of_mem _ (in_M w h)) t_M tk_M n_M hown hK hP hD hS 0 rfl rfl 36 (by decide) (hts _ (List.mem_cons_of_mem _ lk_39)) (fun _ h9 => h9) rfl (by decide +kernel) rfl rfl (Nat.le_of_ble_eq_true rfl) d_M_add_17 (fun H locs hP hD hS => ?_)
  obtain ⟨I2, hI2, hf⟩ := wk_letE hf
  have hP : va_P (dC, dI) vwCl (mw_W h q g I2 A1) H := by rw [hI2]; exact hP
  have hD : va_D B9 (mw_W h q g I2 A1) := by rw [hI2]; exact hD
  clear hI2
  obtain ⟨e1, e2, e3⟩ := wk_inj hf
  subst e1
  subst e2
  subst e3
  exact W.vret hx hb hr (fun t ht hW => ⟨⟨(), rfl, rfl, by rw [ht]; exact hP, va_K.moved hW.alike hK, hD⟩, hS.F ht⟩) hS.2.2 d_M_add_20

set_option maxHeartbeats 8000000 in
set_option maxRecDepth 100000 in
theorem cm_M_addSlip (l : Launch) (dC : Nat → ClassId) (dI : Nat → Nat → Nat) (h : Nat) (q : Nat → Nat) (g : Nat → ClassId) (sz : Nat) (I : MI) (A : MA) (r : Int32) (I' : MI) (A' : MA) (hf : f_M_addSlip I A  = some (r, I', A')) : Met l y_M_addSlip w_M_addSlip ({ frames := 1, cells := 0, slots := 0, locals := 21 }) (va_Pc [.ref h] (fun U => U.heap.size = sz ∧ va_P (dC, dI) vwCl (mw_W h q g I A) U.heap ∧ va_K (dC, dI) vwCl (mw_T g) U ∧ va_D (fun _ => True) (mw_W h q g I A))) (va_Qv (fun (u : Unit) => u = u) (fun (_ : Unit) t => va_P (dC, dI) vwCl (mw_W h q g I' A') t.heap ∧ va_K (dC, dI) vwCl (mw_T g) t ∧ va_D (va_A (mw_W h q g I A) sz) (mw_W h q g I' A')) (va_A (mw_W h q g I A) sz)) 0 0 (va_A (mw_W h q g I A) sz) := by
  refine Met.ofW (cc := prog_6_method_11_code) (maxL := 2) (ret := none) (by decide) rfl ?_
  intro p e s m args below meth c s₁ B hml hv
  obtain ⟨rfl, hsz, hP, hK, hD0⟩ := hv
  have hx := B.exec
  have hb := B.bytes
  have hr := B.returns
  have hts := atoms_spec (ws := w_M_addSlip) B.pre
  have hown : s.vm.findClass R_M = some m.cls := findClass_of_methodNamed B.named
  have hlocks := B.notSynchronized
  subst hsz
  have hD := hD0.self (sz := s.heap.size)
  generalize hAe : va_A (mw_W h q g I A) s.heap.size = B9 at hD ⊢
  have hA : ∀ q : Nat, s.heap.size ≤ q → B9 q := fun q h => by rw [← hAe]; exact Or.inr h
  clear hAe
  have hS : va_S B9 s.heap s.heap [] := va_S.rf
  have hl := lv_entry ([.ref h]) (n := 2) (Nat.le_of_ble_eq_true rfl)
  rw [lg_entry_eq]
  generalize (lg_sl ([.ref h]) ++ List.replicate (2 - (lg_sl ([.ref h])).length) Slot.unset).toArray = ls at hl ⊢
  have hl : lv_has ls 2 [(0, .ref h)] := hl
  have stp2 : ∀ (rc : Nat → MI → MA → (Nat → Int32) → Option (Int32 × MI × MA)) (hrc2 : ∀ (I : MI) (A : MA) (X : Nat → Int32) (ls : Array Slot) (H : Heap) (locs : List Loc), rc 2 I A X = some (r, I', A') → lv_has ls 2 [(0, .ref h), (1, .int (X 1))] → va_P (dC, dI) vwCl (mw_W h q g I A) H → va_D B9 (mw_W h q g I A) → va_S B9 s.heap H locs → W p l e (headSpec w_M_addSlip ({ frames := 1, cells := 0, slots := 0, locals := 21 })).room s m ([.ref h] : List Value).toArray below meth c H locs 0 0 (MQ below (va_Qv (fun (u : Unit) => u = u) (fun (_ : Unit) t => va_P (dC, dI) vwCl (mw_W h q g I' A') t.heap ∧ va_K (dC, dI) vwCl (mw_T g) t ∧ va_D B9 (mw_W h q g I' A')) B9) ([.ref h] : List Value).toArray s 0 0 B9) (F0 m 2 ls [])), ∀ (I : MI) (A : MA) (X : Nat → Int32) (ls : Array Slot) (H : Heap) (locs : List Loc), f_M_addSlip_2 rc I A X = some (r, I', A') → lv_has ls 2 [(0, .ref h), (1, .int (X 1))] → va_P (dC, dI) vwCl (mw_W h q g I A) H → va_D B9 (mw_W h q g I A) → va_S B9 s.heap H locs → W p l e (headSpec w_M_addSlip ({ frames := 1, cells := 0, slots := 0, locals := 21 })).room s m ([.ref h] : List Value).toArray below meth c H locs 0 0 (MQ below (va_Qv (fun (u : Unit) => u = u) (fun (_ : Unit) t => va_P (dC, dI) vwCl (mw_W h q g I' A') t.heap ∧ va_K (dC, dI) vwCl (mw_T g) t ∧ va_D B9 (mw_W h q g I' A')) B9) ([.ref h] : List Value).toArray s 0 0 B9) (F0 m 2 ls []) := by
    intro rc hrc2 I A X ls H locs hf hl hP hD hS
    unfold f_M_addSlip_2 at hf
    refine lv_iload_n hx hb d_M_addSlip_2 rfl (lv_at hl 1 rfl) ?_
    refine lv_aload_n hx hb d_M_addSlip_3 rfl (lv_at hl 0 rfl) ?_
    refine va_get (D := (dC, dI)) (ci := 4) (v := .int (I 1)) (C := R_M) (T := F_M) (N := 38) hx hb hts (fun w h => List.mem_cons_of_mem _ (in_M w h)) hown hK hP 0 rfl rfl 1 (by decide) (hts _ (List.mem_cons_of_mem _ lk_41)) (fun _ h9 => h9) rfl d_M_addSlip_4 ?_
    refine lv_icmp_ge (tgt := 26) hx hb d_M_addSlip_7 (by decide) (fun hc1 => ?_) (fun hc1 => ?_)
    ·
      have hf := wk_ift hc1 hf
      obtain ⟨e1, e2, e3⟩ := wk_inj hf
      subst e1
      subst e2
      subst e3
      exact W.vret hx hb hr (fun t ht hW => ⟨⟨(), rfl, rfl, by rw [ht]; exact hP, va_K.moved hW.alike hK, hD⟩, hS.F ht⟩) hS.2.2 d_M_addSlip_26
    ·
      have hf := wk_iff hc1 hf
      refine lv_aload_n hx hb d_M_addSlip_10 rfl (lv_at hl 0 rfl) ?_
      refine lv_aload_n hx hb d_M_addSlip_11 rfl (lv_at hl 0 rfl) ?_
      refine va_get (D := (dC, dI)) (ci := 4) (v := .ref (q 2)) (C := R_M) (T := F_M) (N := 38) hx hb hts (fun w h => List.mem_cons_of_mem _ (in_M w h)) hown hK hP 0 rfl rfl 2 (by decide) (hts _ (List.mem_cons_of_mem _ lk_42)) (fun _ h9 => h9) rfl d_M_addSlip_12 ?_
      refine lv_iload_n hx hb d_M_addSlip_15 rfl (lv_at hl 1 rfl) ?_
      obtain ⟨hc2, hf⟩ := wk_if hf
      refine va_cald hx hb hK hP 1 0 rfl rfl (wk_inb_ok hc2) d_M_addSlip_16 ?_
      have hPc := hP.sub (ws' := (mw_W h q g I A)) [0, 1, 2, 3, 4, 5, 6, 7, 8, 9, 10, 11, 12, 13, 14, 15, 16, 17, 18, 19, 20] rfl
      have hDc := hD.sub (ws' := (mw_W h q g I A)) [0, 1, 2, 3, 4, 5, 6, 7, 8, 9, 10, 11, 12, 13, 14, 15, 16, 17, 18, 19, 20] (by decide) rfl
      have hKc := hK.sub (tys' := (mw_T g)) [0, 1, 2, 3, 4, 5, 6, 7, 8, 9, 10, 11, 12, 13, 14, 15, 16, 17, 18, 19] rfl
      have hFc := va_free (wc := (mw_W h q g I A)) hD hS hA [0, 1, 2, 3, 4, 5, 6, 7, 8, 9, 10, 11, 12, 13, 14, 15, 16, 17, 18, 19, 20] rfl
      cases hg1 : f_M_add I A ((A 2) ((X 1)).toNatClampNeg) with
      | none => rw [hg1] at hf; cases hf
      | some z1 =>
        obtain ⟨r1, I1, A1⟩ := z1
        rw [hg1] at hf
        dsimp only [Option.bind_some] at hf
        refine va_callv (va_runV (As := [.int ((A 2) ((X 1)).toNatClampNeg)]) (rest := []) ⟨hx, hb, hml, hown, hts⟩ (cm_M_add l dC dI h q g _ I A ((A 2) ((X 1)).toNatClampNeg) r1 I1 A1 hg1) (cwV 1 hts (gd_v lk_43 lk_44 lk_45 lk_46 lk_40) rfl rfl rfl (by decide +kernel) ⟨Nat.le_of_ble_eq_true rfl, Nat.le_of_ble_eq_true rfl⟩) ⟨fun a U g mk q => by obtain ⟨q0, q1, qP, qK, qD⟩ := q; exact ⟨q0, q1, qP, va_K.moved (u := U) (U := U.calling g mk a) (Vm.Alike.refl U.vm) qK, qD⟩, va_recv (ci := 4) (q0 := 0) hK hP rfl rfl, fun U hU hW => ⟨rfl, by rw [hU], by rw [hU]; exact hPc, va_K.moved hW.alike hKc, hDc.weaken (fun _ _ _ _ => trivial)⟩⟩ rfl rfl hl.1 rfl (lv_room (Nat.le_of_ble_eq_true rfl)) d_M_addSlip_17 ⟨Nat.le_of_ble_eq_true rfl, Nat.le_of_ble_eq_true rfl⟩) hS (fun q _ h => hFc q h) hFc (fun u t H1 locs ht hvm hw hB hz1 hk1 hS => ?_)
        obtain ⟨hP1, hK1, hD1⟩ := hB
        rw [ht] at hP1
        obtain ⟨hP, hD⟩ := va_join (wr := []) (w1 := (mw_W h q g I1 A1)) hP hD [0, 1, 2, 3, 4, 5, 6, 7, 8, 9, 10, 11, 12, 13, 14, 15, 16, 17, 18, 19, 20] [] rfl rfl (by decide) (by decide) hk1 hFc hP1 hD1
        generalize H1 = H at hP hS ⊢
        have hP : va_P (dC, dI) vwCl (mw_W h q g I1 A1) H := hP
        have hD : va_D B9 (mw_W h q g I1 A1) := hD
        refine lv_iinc (k := 1) (v := ((X 1) + 1)) (lv' := [(1, .int ((X 1) + 1)), (0, .ref h)]) hx hb d_M_addSlip_20 hl rfl (wk_inc (by decide)) (by decide) rfl (fun ls hl => ?_)
        have hl : lv_has ls 2 [(1, .int ((X 1) + 1)), (0, .ref h)] := hl
        refine lv_goto (tgt := 2) hx hb d_M_addSlip_23 (by decide) ?_
        exact hrc2 I1 A1 (upd X 1 ((X 1) + 1)) _ _ _ hf (lv_sub hl [1, 0] rfl) hP hD hS
  have key : ∀ n : Nat, (∀ (I : MI) (A : MA) (X : Nat → Int32) (ls : Array Slot) (H : Heap) (locs : List Loc), f_M_addSlip_go n 2 I A X = some (r, I', A') → lv_has ls 2 [(0, .ref h), (1, .int (X 1))] → va_P (dC, dI) vwCl (mw_W h q g I A) H → va_D B9 (mw_W h q g I A) → va_S B9 s.heap H locs → W p l e (headSpec w_M_addSlip ({ frames := 1, cells := 0, slots := 0, locals := 21 })).room s m ([.ref h] : List Value).toArray below meth c H locs 0 0 (MQ below (va_Qv (fun (u : Unit) => u = u) (fun (_ : Unit) t => va_P (dC, dI) vwCl (mw_W h q g I' A') t.heap ∧ va_K (dC, dI) vwCl (mw_T g) t ∧ va_D B9 (mw_W h q g I' A')) B9) ([.ref h] : List Value).toArray s 0 0 B9) (F0 m 2 ls [])) := by
    intro n
    induction n with
    | zero => exact fun I A X ls H locs hf => (by cases hf)
    | succ n ih =>
      have ih2 := ih
      exact stp2 (f_M_addSlip_go n) ih2
  unfold f_M_addSlip f_M_addSlip_e at hf
  have hrc2 := key wk_FUEL
  refine lv_iconst (v := 0) hx hb d_M_addSlip_0 (by decide) ?_
  refine lv_istore_n (lv' := [(1, .int 0), (0, .ref h)]) hx hb d_M_addSlip_1 rfl hl (by decide) rfl (fun ls hl => ?_)
  have hl : lv_has ls 2 [(1, .int 0), (0, .ref h)] := hl
  exact hrc2 I A (upd (fun _ => 0) 1 0) _ _ _ hf (lv_sub hl [1, 0] rfl) hP hD hS

set_option maxHeartbeats 8000000 in
set_option maxRecDepth 100000 in
theorem cm_M_charAt (l : Launch) (dC : Nat → ClassId) (dI : Nat → Nat → Nat) (h : Nat) (q : Nat → Nat) (g : Nat → ClassId) (sz : Nat) (I : MI) (A : MA) (k1 : Int32) (r : Int32) (I' : MI) (A' : MA) (hf : f_M_charAt I A k1 = some (r, I', A')) : Met l y_M_charAt w_M_charAt ({ frames := 0, cells := 0, slots := 0, locals := 0 }) (va_Pc [.ref h, .int k1] (fun U => U.heap.size = sz ∧ va_P (dC, dI) vwCl (mw_W h q g I A) U.heap ∧ va_K (dC, dI) vwCl (mw_T g) U ∧ va_D (fun _ => True) (mw_W h q g I A))) (va_Qi (fun (r9 : Int32) (_ : Unit) => r9 = r) (fun (_ : Unit) t => va_P (dC, dI) vwCl (mw_W h q g I' A') t.heap ∧ va_K (dC, dI) vwCl (mw_T g) t ∧ va_D (va_A (mw_W h q g I A) sz) (mw_W h q g I' A')) (va_A (mw_W h q g I A) sz)) 0 0 (va_A (mw_W h q g I A) sz) := by
  refine Met.ofW (cc := prog_6_method_6_code) (maxL := 2) (ret := (some .char)) (by decide) rfl ?_
  intro p e s m args below meth c s₁ B hml hv
  obtain ⟨rfl, hsz, hP, hK, hD0⟩ := hv
  have hx := B.exec
  have hb := B.bytes
  have hr := B.returns
  have hts := atoms_spec (ws := w_M_charAt) B.pre
  have hown : s.vm.findClass R_M = some m.cls := findClass_of_methodNamed B.named
  have hlocks := B.notSynchronized
  subst hsz
  have hD := hD0.self (sz := s.heap.size)
  generalize hAe : va_A (mw_W h q g I A) s.heap.size = B9 at hD ⊢
  have hA : ∀ q : Nat, s.heap.size ≤ q → B9 q := fun q h => by rw [← hAe]; exact Or.inr h
  clear hAe
  have hS : va_S B9 s.heap s.heap [] := va_S.rf
  have hl := lv_entry ([.ref h, .int k1]) (n := 2) (Nat.le_of_ble_eq_true rfl)
  rw [lg_entry_eq]
  generalize (lg_sl ([.ref h, .int k1]) ++ List.replicate (2 - (lg_sl ([.ref h, .int k1])).length) Slot.unset).toArray = ls at hl ⊢
  have hl : lv_has ls 2 [(0, .ref h), (1, .int k1)] := hl
  unfold f_M_charAt at hf
  refine lv_aload_n hx hb d_M_charAt_0 rfl (lv_at hl 0 rfl) ?_
  refine va_get (D := (dC, dI)) (ci := 4) (v := .ref (q 5)) (C := R_M) (T := F_M) (N := 38) hx hb hts (fun w h => List.mem_cons_of_mem _ (in_M w h)) hown hK hP 0 rfl rfl 5 (by decide) (hts _ (List.mem_cons_of_mem _ lk_48)) (fun _ h9 => h9) rfl d_M_charAt_1 ?_
  refine lv_sipush (v := 160) hx hb d_M_charAt_4 (by decide) ?_
  refine lv_aload_n hx hb d_M_charAt_7 rfl (lv_at hl 0 rfl) ?_
  refine va_get (D := (dC, dI)) (ci := 4) (v := .int (I 4)) (C := R_M) (T := F_M) (N := 38) hx hb hts (fun w h => List.mem_cons_of_mem _ (in_M w h)) hown hK hP 0 rfl rfl 4 (by decide) (hts _ (List.mem_cons_of_mem _ lk_49)) (fun _ h9 => h9) rfl d_M_charAt_8 ?_
  refine lv_imul hx hb d_M_charAt_11 ?_
  refine lv_iload_n hx hb d_M_charAt_12 rfl (lv_at hl 1 rfl) ?_
  refine lv_iadd hx hb d_M_charAt_13 ?_
  obtain ⟨hc1, hf⟩ := wk_if hf
  refine va_cald hx hb hK hP 2 1 rfl rfl (wk_inb_ok hc1) d_M_charAt_14 ?_
  obtain ⟨hn9, hf⟩ := wk_if hf
  obtain ⟨e1, e2, e3⟩ := wk_inj hf
  subst e1
  subst e2
  subst e3
  exact W.zret (v := ((A 5) (((160 * (I 4)) + k1)).toNatClampNeg)) hx hb hr (congrArg Value.int hn9) (fun t ht hW => ⟨⟨((A 5) (((160 * (I 4)) + k1)).toNatClampNeg), (), rfl, rfl, by rw [ht]; exact hP, va_K.moved hW.alike hK, hD⟩, hS.F ht⟩) hS.2.2 d_M_charAt_15

set_option maxHeartbeats 8000000 in
set_option maxRecDepth 100000 in
theorem cm_M_addText (l : Launch) (dC : Nat → ClassId) (dI : Nat → Nat → Nat) (h : Nat) (q : Nat → Nat) (g : Nat → ClassId) (sz : Nat) (I : MI) (A : MA) (k1 k2 : Int32) (r : Int32) (I' : MI) (A' : MA) (hf : f_M_addText I A k1 k2 = some (r, I', A')) : Met l y_M_addText w_M_addText ({ frames := 1, cells := 0, slots := 0, locals := 21 }) (va_Pc [.ref h, .int k1, .int k2] (fun U => U.heap.size = sz ∧ va_P (dC, dI) vwCl (mw_W h q g I A) U.heap ∧ va_K (dC, dI) vwCl (mw_T g) U ∧ va_D (fun _ => True) (mw_W h q g I A))) (va_Qv (fun (u : Unit) => u = u) (fun (_ : Unit) t => va_P (dC, dI) vwCl (mw_W h q g I' A') t.heap ∧ va_K (dC, dI) vwCl (mw_T g) t ∧ va_D (va_A (mw_W h q g I A) sz) (mw_W h q g I' A')) (va_A (mw_W h q g I A) sz)) 0 0 (va_A (mw_W h q g I A) sz) := by
  refine Met.ofW (cc := prog_6_method_10_code) (maxL := 5) (ret := none) (by decide) rfl ?_
  intro p e s m args below meth c s₁ B hml hv
  obtain ⟨rfl, hsz, hP, hK, hD0⟩ := hv
  have hx := B.exec
  have hb := B.bytes
  have hr := B.returns
  have hts := atoms_spec (ws := w_M_addText) B.pre
  have hown : s.vm.findClass R_M = some m.cls := findClass_of_methodNamed B.named
  have hlocks := B.notSynchronized
  subst hsz
  have hD := hD0.self (sz := s.heap.size)
  generalize hAe : va_A (mw_W h q g I A) s.heap.size = B9 at hD ⊢
  have hA : ∀ q : Nat, s.heap.size ≤ q → B9 q := fun q h => by rw [← hAe]; exact Or.inr h
  clear hAe
  have hS : va_S B9 s.heap s.heap [] := va_S.rf
  have hl := lv_entry ([.ref h, .int k1, .int k2]) (n := 5) (Nat.le_of_ble_eq_true rfl)
  rw [lg_entry_eq]
  generalize (lg_sl ([.ref h, .int k1, .int k2]) ++ List.replicate (5 - (lg_sl ([.ref h, .int k1, .int k2])).length) Slot.unset).toArray = ls at hl ⊢
  have hl : lv_has ls 5 [(0, .ref h), (1, .int k1), (2, .int k2)] := hl
  have stp2 : ∀ (rc : Nat → MI → MA → (Nat → Int32) → Option (Int32 × MI × MA)) (hrc2 : ∀ (I : MI) (A : MA) (X : Nat → Int32) (ls : Array Slot) (H : Heap) (locs : List Loc), rc 2 I A X = some (r, I', A') → lv_has ls 5 [(0, .ref h), (1, .int (X 1)), (2, .int (X 2)), (3, .int (X 3))] → va_P (dC, dI) vwCl (mw_W h q g I A) H → va_D B9 (mw_W h q g I A) → va_S B9 s.heap H locs → W p l e (headSpec w_M_addText ({ frames := 1, cells := 0, slots := 0, locals := 21 })).room s m ([.ref h, .int k1, .int k2] : List Value).toArray below meth c H locs 0 0 (MQ below (va_Qv (fun (u : Unit) => u = u) (fun (_ : Unit) t => va_P (dC, dI) vwCl (mw_W h q g I' A') t.heap ∧ va_K (dC, dI) vwCl (mw_T g) t ∧ va_D B9 (mw_W h q g I' A')) B9) ([.ref h, .int k1, .int k2] : List Value).toArray s 0 0 B9) (F0 m 2 ls [])), ∀ (I : MI) (A : MA) (X : Nat → Int32) (ls : Array Slot) (H : Heap) (locs : List Loc), f_M_addText_2 rc I A X = some (r, I', A') → lv_has ls 5 [(0, .ref h), (1, .int (X 1)), (2, .int (X 2)), (3, .int (X 3))] → va_P (dC, dI) vwCl (mw_W h q g I A) H → va_D B9 (mw_W h q g I A) → va_S B9 s.heap H locs → W p l e (headSpec w_M_addText ({ frames := 1, cells := 0, slots := 0, locals := 21 })).room s m ([.ref h, .int k1, .int k2] : List Value).toArray below meth c H locs 0 0 (MQ below (va_Qv (fun (u : Unit) => u = u) (fun (_ : Unit) t => va_P (dC, dI) vwCl (mw_W h q g I' A') t.heap ∧ va_K (dC, dI) vwCl (mw_T g) t ∧ va_D B9 (mw_W h q g I' A')) B9) ([.ref h, .int k1, .int k2] : List Value).toArray s 0 0 B9) (F0 m 2 ls []) := by
    intro rc hrc2 I A X ls H locs hf hl hP hD hS
    unfold f_M_addText_2 at hf
    refine lv_iload_n hx hb d_M_addText_2 rfl (lv_at hl 3 rfl) ?_
    refine lv_iload_n hx hb d_M_addText_3 rfl (lv_at hl 2 rfl) ?_
    refine lv_icmp_ge (tgt := 26) hx hb d_M_addText_4 (by decide) (fun hc1 => ?_) (fun hc1 => ?_)
    ·
      have hf := wk_ift hc1 hf
      obtain ⟨e1, e2, e3⟩ := wk_inj hf
      subst e1
      subst e2
      subst e3
      exact W.vret hx hb hr (fun t ht hW => ⟨⟨(), rfl, rfl, by rw [ht]; exact hP, va_K.moved hW.alike hK, hD⟩, hS.F ht⟩) hS.2.2 d_M_addText_26
    ·
      have hf := wk_iff hc1 hf
      refine lv_aload_n hx hb d_M_addText_7 rfl (lv_at hl 0 rfl) ?_
      refine lv_iload_n hx hb d_M_addText_8 rfl (lv_at hl 3 rfl) ?_
      have hPc := hP.sub (ws' := (mw_W h q g I A)) [0, 1, 2, 3, 4, 5, 6, 7, 8, 9, 10, 11, 12, 13, 14, 15, 16, 17, 18, 19, 20] rfl
      have hDc := hD.sub (ws' := (mw_W h q g I A)) [0, 1, 2, 3, 4, 5, 6, 7, 8, 9, 10, 11, 12, 13, 14, 15, 16, 17, 18, 19, 20] (by decide) rfl
      have hKc := hK.sub (tys' := (mw_T g)) [0, 1, 2, 3, 4, 5, 6, 7, 8, 9, 10, 11, 12, 13, 14, 15, 16, 17, 18, 19] rfl
      have hFc := va_free (wc := (mw_W h q g I A)) hD hS hA [0, 1, 2, 3, 4, 5, 6, 7, 8, 9, 10, 11, 12, 13, 14, 15, 16, 17, 18, 19, 20] rfl
      cases hg1 : f_M_charAt I A (X 3) with
      | none => rw [hg1] at hf; cases hf
      | some z1 =>
        obtain ⟨r1, I1, A1⟩ := z1
        rw [hg1] at hf
        dsimp only [Option.bind_some] at hf
        refine va_calli (va_runV (As := [.int (X 3)]) (rest := []) ⟨hx, hb, hml, hown, hts⟩ (cm_M_charAt l dC dI h q g _ I A (X 3) r1 I1 A1 hg1) (cwV 1 hts (gd_v lk_51 lk_52 lk_53 lk_46 lk_50) rfl rfl rfl (by decide +kernel) ⟨Nat.le_of_ble_eq_true rfl, Nat.le_of_ble_eq_true rfl⟩) ⟨fun a U g mk q => by obtain ⟨q0, q1, qP, qK, qD⟩ := q; exact ⟨q0, q1, qP, va_K.moved (u := U) (U := U.calling g mk a) (Vm.Alike.refl U.vm) qK, qD⟩, va_recv (ci := 4) (q0 := 0) hK hP rfl rfl, fun U hU hW => ⟨rfl, by rw [hU], by rw [hU]; exact hPc, va_K.moved hW.alike hKc, hDc.weaken (fun _ _ _ _ => trivial)⟩⟩ rfl rfl hl.1 rfl (lv_room (Nat.le_of_ble_eq_true rfl)) d_M_addText_9 ⟨Nat.le_of_ble_eq_true rfl, Nat.le_of_ble_eq_true rfl⟩) hS (fun q _ h => hFc q h) hFc (fun r9 u t H1 locs ht hvm hw hB hz1 hk1 hS => ?_)
        obtain ⟨hP1, hK1, hD1⟩ := hB
        rw [ht] at hP1
        rw [hw]
        obtain ⟨hP, hD⟩ := va_join (wr := []) (w1 := (mw_W h q g I1 A1)) hP hD [0, 1, 2, 3, 4, 5, 6, 7, 8, 9, 10, 11, 12, 13, 14, 15, 16, 17, 18, 19, 20] [] rfl rfl (by decide) (by decide) hk1 hFc hP1 hD1
        generalize H1 = H at hP hS ⊢
        have hP : va_P (dC, dI) vwCl (mw_W h q g I1 A1) H := hP
        have hD : va_D B9 (mw_W h q g I1 A1) := hD
        refine lv_istore (lv' := [(4, .int r1), (0, .ref h), (1, .int (X 1)), (2, .int (X 2)), (3, .int (X 3))]) hx hb d_M_addText_12 hl (by decide) rfl (fun ls hl => ?_)
        have hl : lv_has ls 5 [(4, .int r1), (0, .ref h), (1, .int (X 1)), (2, .int (X 2)), (3, .int (X 3))] := hl
        refine lv_aload_n hx hb d_M_addText_14 rfl (lv_at hl 1 rfl) ?_
        refine lv_iload hx hb d_M_addText_15 (lv_at hl 0 rfl) ?_
        have hPc := hP.sub (ws' := (mw_W h q g I1 A1)) [0, 1, 2, 3, 4, 5, 6, 7, 8, 9, 10, 11, 12, 13, 14, 15, 16, 17, 18, 19, 20] rfl
        have hDc := hD.sub (ws' := (mw_W h q g I1 A1)) [0, 1, 2, 3, 4, 5, 6, 7, 8, 9, 10, 11, 12, 13, 14, 15, 16, 17, 18, 19, 20] (by decide) rfl
        have hKc := hK.sub (tys' := (mw_T g)) [0, 1, 2, 3, 4, 5, 6, 7, 8, 9, 10, 11, 12, 13, 14, 15, 16, 17, 18, 19] rfl
        have hFc := va_free (wc := (mw_W h q g I1 A1)) hD hS hA [0, 1, 2, 3, 4, 5, 6, 7, 8, 9, 10, 11, 12, 13, 14, 15, 16, 17, 18, 19, 20] rfl
        cases hg2 : f_M_add I1 A1 r1 with
        | none => rw [hg2] at hf; cases hf
        | some z2 =>
          obtain ⟨r2, I2, A2⟩ := z2
          rw [hg2] at hf
          dsimp only [Option.bind_some] at hf
          refine va_callv (va_runV (As := [.int r1]) (rest := []) ⟨hx, hb, hml, hown, hts⟩ (cm_M_add l dC dI h q g _ I1 A1 r1 r2 I2 A2 hg2) (cwV 1 hts (gd_v lk_43 lk_44 lk_45 lk_46 lk_40) rfl rfl rfl (by decide +kernel) ⟨Nat.le_of_ble_eq_true rfl, Nat.le_of_ble_eq_true rfl⟩) ⟨fun a U g mk q => by obtain ⟨q0, q1, qP, qK, qD⟩ := q; exact ⟨q0, q1, qP, va_K.moved (u := U) (U := U.calling g mk a) (Vm.Alike.refl U.vm) qK, qD⟩, va_recv (ci := 4) (q0 := 0) hK hP rfl rfl, fun U hU hW => ⟨rfl, by rw [hU], by rw [hU]; exact hPc, va_K.moved hW.alike hKc, hDc.weaken (fun _ _ _ _ => trivial)⟩⟩ rfl rfl hl.1 rfl (lv_room (Nat.le_of_ble_eq_true rfl)) d_M_addText_17 ⟨Nat.le_of_ble_eq_true rfl, Nat.le_of_ble_eq_true rfl⟩) hS (fun q _ h => hFc q h) hFc (fun u t H1 locs ht hvm hw hB hz1 hk1 hS => ?_)
          obtain ⟨hP1, hK1, hD1⟩ := hB
          rw [ht] at hP1
          obtain ⟨hP, hD⟩ := va_join (wr := []) (w1 := (mw_W h q g I2 A2)) hP hD [0, 1, 2, 3, 4, 5, 6, 7, 8, 9, 10, 11, 12, 13, 14, 15, 16, 17, 18, 19, 20] [] rfl rfl (by decide) (by decide) hk1 hFc hP1 hD1
          generalize H1 = H at hP hS ⊢
          have hP : va_P (dC, dI) vwCl (mw_W h q g I2 A2) H := hP
          have hD : va_D B9 (mw_W h q g I2 A2) := hD
          refine lv_iinc (k := 4) (v := ((X 3) + 1)) (lv' := [(3, .int ((X 3) + 1)), (4, .int r1), (0, .ref h), (1, .int (X 1)), (2, .int (X 2))]) hx hb d_M_addText_20 hl rfl (wk_inc (by decide)) (by decide) rfl (fun ls hl => ?_)
          have hl : lv_has ls 5 [(3, .int ((X 3) + 1)), (4, .int r1), (0, .ref h), (1, .int (X 1)), (2, .int (X 2))] := hl
          refine lv_goto (tgt := 2) hx hb d_M_addText_23 (by decide) ?_
          exact hrc2 I2 A2 (upd X 3 ((X 3) + 1)) _ _ _ hf (lv_sub hl [2, 3, 4, 0] rfl) hP hD hS
  have key : ∀ n : Nat, (∀ (I : MI) (A : MA) (X : Nat → Int32) (ls : Array Slot) (H : Heap) (locs : List Loc), f_M_addText_go n 2 I A X = some (r, I', A') → lv_has ls 5 [(0, .ref h), (1, .int (X 1)), (2, .int (X 2)), (3, .int (X 3))] → va_P (dC, dI) vwCl (mw_W h q g I A) H → va_D B9 (mw_W h q g I A) → va_S B9 s.heap H locs → W p l e (headSpec w_M_addText ({ frames := 1, cells := 0, slots := 0, locals := 21 })).room s m ([.ref h, .int k1, .int k2] : List Value).toArray below meth c H locs 0 0 (MQ below (va_Qv (fun (u : Unit) => u = u) (fun (_ : Unit) t => va_P (dC, dI) vwCl (mw_W h q g I' A') t.heap ∧ va_K (dC, dI) vwCl (mw_T g) t ∧ va_D B9 (mw_W h q g I' A')) B9) ([.ref h, .int k1, .int k2] : List Value).toArray s 0 0 B9) (F0 m 2 ls [])) := by
    intro n
    induction n with
    | zero => exact fun I A X ls H locs hf => (by cases hf)
    | succ n ih =>
      have ih2 := ih
      exact stp2 (f_M_addText_go n) ih2
  unfold f_M_addText f_M_addText_e at hf
  have hrc2 := key wk_FUEL
  refine lv_iload_n hx hb d_M_addText_0 rfl (lv_at hl 1 rfl) ?_
  refine lv_istore_n (lv' := [(3, .int k1), (0, .ref h), (1, .int k1), (2, .int k2)]) hx hb d_M_addText_1 rfl hl (by decide) rfl (fun ls hl => ?_)
  have hl : lv_has ls 5 [(3, .int k1), (0, .ref h), (1, .int k1), (2, .int k2)] := hl
  exact hrc2 I A (upd (upd (upd (fun _ => 0) 1 k1) 2 k2) 3 k1) _ _ _ hf (lv_sub hl [1, 2, 3, 0] rfl) hP hD hS

set_option maxHeartbeats 8000000 in
set_option maxRecDepth 100000 in
theorem cm_M_textLength (l : Launch) (dC : Nat → ClassId) (dI : Nat → Nat → Nat) (h : Nat) (q : Nat → Nat) (g : Nat → ClassId) (sz : Nat) (I : MI) (A : MA) (r : Int32) (I' : MI) (A' : MA) (hf : f_M_textLength I A  = some (r, I', A')) : Met l y_M_textLength w_M_textLength ({ frames := 0, cells := 0, slots := 0, locals := 0 }) (va_Pc [.ref h] (fun U => U.heap.size = sz ∧ va_P (dC, dI) vwCl (mw_W h q g I A) U.heap ∧ va_K (dC, dI) vwCl (mw_T g) U ∧ va_D (fun _ => True) (mw_W h q g I A))) (va_Qi (fun (r9 : Int32) (_ : Unit) => r9 = r) (fun (_ : Unit) t => va_P (dC, dI) vwCl (mw_W h q g I' A') t.heap ∧ va_K (dC, dI) vwCl (mw_T g) t ∧ va_D (va_A (mw_W h q g I A) sz) (mw_W h q g I' A')) (va_A (mw_W h q g I A) sz)) 0 0 (va_A (mw_W h q g I A) sz) := by
  refine Met.ofW (cc := prog_6_method_7_code) (maxL := 1) (ret := (some .int)) (by decide) rfl ?_
  intro p e s m args below meth c s₁ B hml hv
  obtain ⟨rfl, hsz, hP, hK, hD0⟩ := hv
  have hx := B.exec
  have hb := B.bytes
  have hr := B.returns
  have hts := atoms_spec (ws := w_M_textLength) B.pre
  have hown : s.vm.findClass R_M = some m.cls := findClass_of_methodNamed B.named
  have hlocks := B.notSynchronized
  subst hsz
  have hD := hD0.self (sz := s.heap.size)
  generalize hAe : va_A (mw_W h q g I A) s.heap.size = B9 at hD ⊢
  have hA : ∀ q : Nat, s.heap.size ≤ q → B9 q := fun q h => by rw [← hAe]; exact Or.inr h
  clear hAe
  have hS : va_S B9 s.heap s.heap [] := va_S.rf
  have hl := lv_entry ([.ref h]) (n := 1) (Nat.le_of_ble_eq_true rfl)
  rw [lg_entry_eq]
  generalize (lg_sl ([.ref h]) ++ List.replicate (1 - (lg_sl ([.ref h])).length) Slot.unset).toArray = ls at hl ⊢
  have hl : lv_has ls 1 [(0, .ref h)] := hl
  unfold f_M_textLength at hf
  refine lv_aload_n hx hb d_M_textLength_0 rfl (lv_at hl 0 rfl) ?_
  refine va_get (D := (dC, dI)) (ci := 4) (v := .ref (q 6)) (C := R_M) (T := F_M) (N := 38) hx hb hts (fun w h => List.mem_cons_of_mem _ (in_M w h)) hown hK hP 0 rfl rfl 6 (by decide) (hts _ (List.mem_cons_of_mem _ lk_55)) (fun _ h9 => h9) rfl d_M_textLength_1 ?_
  refine lv_aload_n hx hb d_M_textLength_4 rfl (lv_at hl 0 rfl) ?_
  refine va_get (D := (dC, dI)) (ci := 4) (v := .int (I 4)) (C := R_M) (T := F_M) (N := 38) hx hb hts (fun w h => List.mem_cons_of_mem _ (in_M w h)) hown hK hP 0 rfl rfl 4 (by decide) (hts _ (List.mem_cons_of_mem _ lk_49)) (fun _ h9 => h9) rfl d_M_textLength_5 ?_
  obtain ⟨hc1, hf⟩ := wk_if hf
  refine va_iald hx hb hK hP 3 2 rfl rfl (wk_inb_ok hc1) d_M_textLength_8 ?_
  obtain ⟨e1, e2, e3⟩ := wk_inj hf
  subst e1
  subst e2
  subst e3
  exact W.iret (v := ((A 6) ((I 4)).toNatClampNeg)) hx hb hr (fun t ht hW => ⟨⟨((A 6) ((I 4)).toNatClampNeg), (), rfl, rfl, by rw [ht]; exact hP, va_K.moved hW.alike hK, hD⟩, hS.F ht⟩) hS.2.2 d_M_textLength_9

set_option maxHeartbeats 8000000 in
set_option maxRecDepth 100000 in
theorem cm_M_at (l : Launch) (dC : Nat → ClassId) (dI : Nat → Nat → Nat) (h : Nat) (q : Nat → Nat) (g : Nat → ClassId) (sz : Nat) (I : MI) (A : MA) (k1 : Int32) (r : Int32) (I' : MI) (A' : MA) (hf : f_M_at I A k1 = some (r, I', A')) : Met l y_M_at w_M_at ({ frames := 1, cells := 0, slots := 0, locals := 21 }) (va_Pc [.ref h, .int k1] (fun U => U.heap.size = sz ∧ va_P (dC, dI) vwCl (mw_W h q g I A) U.heap ∧ va_K (dC, dI) vwCl (mw_T g) U ∧ va_D (fun _ => True) (mw_W h q g I A))) (va_Qi (fun (r9 : Int32) (_ : Unit) => r9 = r) (fun (_ : Unit) t => va_P (dC, dI) vwCl (mw_W h q g I' A') t.heap ∧ va_K (dC, dI) vwCl (mw_T g) t ∧ va_D (va_A (mw_W h q g I A) sz) (mw_W h q g I' A')) (va_A (mw_W h q g I A) sz)) 0 0 (va_A (mw_W h q g I A) sz) := by
  refine Met.ofW (cc := prog_6_method_48_code) (maxL := 2) (ret := (some .char)) (by decide) rfl ?_
  intro p e s m args below meth c s₁ B hml hv
  obtain ⟨rfl, hsz, hP, hK, hD0⟩ := hv
  have hx := B.exec
  have hb := B.bytes
  have hr := B.returns
  have hts := atoms_spec (ws := w_M_at) B.pre
  have hown : s.vm.findClass R_M = some m.cls := findClass_of_methodNamed B.named
  have hlocks := B.notSynchronized
  subst hsz
  have hD := hD0.self (sz := s.heap.size)
  generalize hAe : va_A (mw_W h q g I A) s.heap.size = B9 at hD ⊢
  have hA : ∀ q : Nat, s.heap.size ≤ q → B9 q := fun q h => by rw [← hAe]; exact Or.inr h
  clear hAe
  have hS : va_S B9 s.heap s.heap [] := va_S.rf
  have hl := lv_entry ([.ref h, .int k1]) (n := 2) (Nat.le_of_ble_eq_true rfl)
  rw [lg_entry_eq]
  generalize (lg_sl ([.ref h, .int k1]) ++ List.replicate (2 - (lg_sl ([.ref h, .int k1])).length) Slot.unset).toArray = ls at hl ⊢
  have hl : lv_has ls 2 [(0, .ref h), (1, .int k1)] := hl
  have blk37 : ∀ (I : MI) (A : MA) (X : Nat → Int32) (s0 : Int32) (ls : Array Slot) (H : Heap) (locs : List Loc), f_M_at_37 I A X s0 = some (r, I', A') → lv_has ls 2 [(0, .ref h), (1, .int (X 1))] → va_P (dC, dI) vwCl (mw_W h q g I A) H → va_D B9 (mw_W h q g I A) → va_S B9 s.heap H locs → W p l e (headSpec w_M_at ({ frames := 1, cells := 0, slots := 0, locals := 21 })).room s m ([.ref h, .int k1] : List Value).toArray below meth c H locs 0 0 (MQ below (va_Qi (fun (r9 : Int32) (_ : Unit) => r9 = r) (fun (_ : Unit) t => va_P (dC, dI) vwCl (mw_W h q g I' A') t.heap ∧ va_K (dC, dI) vwCl (mw_T g) t ∧ va_D B9 (mw_W h q g I' A')) B9) ([.ref h, .int k1] : List Value).toArray s 0 0 B9) (F0 m 37 ls [.int s0]) := by
    intro I A X s0 ls H locs hf hl hP hD hS
    unfold f_M_at_37 at hf
    obtain ⟨hn9, hf⟩ := wk_if hf
    obtain ⟨e1, e2, e3⟩ := wk_inj hf
    subst e1
    subst e2
    subst e3
    exact W.zret (v := s0) hx hb hr (congrArg Value.int hn9) (fun t ht hW => ⟨⟨s0, (), rfl, rfl, by rw [ht]; exact hP, va_K.moved hW.alike hK, hD⟩, hS.F ht⟩) hS.2.2 d_M_at_37
  have blk18 : ∀ (I : MI) (A : MA) (X : Nat → Int32) (s0 : Int32) (ls : Array Slot) (H : Heap) (locs : List Loc), f_M_at_18 I A X s0 = some (r, I', A') → lv_has ls 2 [(0, .ref h), (1, .int (X 1))] → va_P (dC, dI) vwCl (mw_W h q g I A) H → va_D B9 (mw_W h q g I A) → va_S B9 s.heap H locs → W p l e (headSpec w_M_at ({ frames := 1, cells := 0, slots := 0, locals := 21 })).room s m ([.ref h, .int k1] : List Value).toArray below meth c H locs 0 0 (MQ below (va_Qi (fun (r9 : Int32) (_ : Unit) => r9 = r) (fun (_ : Unit) t => va_P (dC, dI) vwCl (mw_W h q g I' A') t.heap ∧ va_K (dC, dI) vwCl (mw_T g) t ∧ va_D B9 (mw_W h q g I' A')) B9) ([.ref h, .int k1] : List Value).toArray s 0 0 B9) (F0 m 18 ls [.int s0, .ref h]) := by
    intro I A X s0 ls H locs hf hl hP hD hS
    unfold f_M_at_18 at hf
    refine va_put (D := (dC, dI)) (ci := 4) (v := .int s0) (ty := .int) (C := R_M) (T := F_M) (N := 38) hx hb hts (fun w h => List.mem_cons_of_mem _ (in_M w h)) t_M tk_M n_M hown hK hP hD hS 0 rfl rfl 0 (by decide) (hts _ (List.mem_cons_of_mem _ lk_60)) (fun _ h9 => h9) rfl (by decide +kernel) rfl rfl (Nat.le_of_ble_eq_true rfl) d_M_at_18 (fun H locs hP hD hS => ?_)
    obtain ⟨I1, hI1, hf⟩ := wk_letE hf
    have hP : va_P (dC, dI) vwCl (mw_W h q g I1 A) H := by rw [hI1]; exact hP
    have hD : va_D B9 (mw_W h q g I1 A) := by rw [hI1]; exact hD
    clear hI1
    refine lv_aload_n hx hb d_M_at_21 rfl (lv_at hl 0 rfl) ?_
    refine va_get (D := (dC, dI)) (ci := 4) (v := .int (I1 0)) (C := R_M) (T := F_M) (N := 38) hx hb hts (fun w h => List.mem_cons_of_mem _ (in_M w h)) hown hK hP 0 rfl rfl 0 (by decide) (hts _ (List.mem_cons_of_mem _ lk_60)) (fun _ h9 => h9) rfl d_M_at_22 ?_
    refine lv_if_ne (tgt := 36) hx hb d_M_at_25 (by decide) (fun hc1 => ?_) (fun hc1 => ?_)
    ·
      have hf := wk_iff hc1 hf
      refine lv_iconst (v := 0) hx hb d_M_at_36 (by decide) ?_
      exact blk37 I1 A X 0 _ _ _ hf (lv_sub hl [0, 1] rfl) hP hD hS
    ·
      have hf := wk_ift hc1 hf
      refine lv_aload_n hx hb d_M_at_28 rfl (lv_at hl 0 rfl) ?_
      refine lv_iload_n hx hb d_M_at_29 rfl (lv_at hl 1 rfl) ?_
      have hPc := hP.sub (ws' := (mw_W h q g I1 A)) [0, 1, 2, 3, 4, 5, 6, 7, 8, 9, 10, 11, 12, 13, 14, 15, 16, 17, 18, 19, 20] rfl
      have hDc := hD.sub (ws' := (mw_W h q g I1 A)) [0, 1, 2, 3, 4, 5, 6, 7, 8, 9, 10, 11, 12, 13, 14, 15, 16, 17, 18, 19, 20] (by decide) rfl
      have hKc := hK.sub (tys' := (mw_T g)) [0, 1, 2, 3, 4, 5, 6, 7, 8, 9, 10, 11, 12, 13, 14, 15, 16, 17, 18, 19] rfl
      have hFc := va_free (wc := (mw_W h q g I1 A)) hD hS hA [0, 1, 2, 3, 4, 5, 6, 7, 8, 9, 10, 11, 12, 13, 14, 15, 16, 17, 18, 19, 20] rfl
      cases hg2 : f_M_charAt I1 A (X 1) with
      | none => rw [hg2] at hf; cases hf
      | some z2 =>
        obtain ⟨r2, I2, A2⟩ := z2
        rw [hg2] at hf
        dsimp only [Option.bind_some] at hf
        refine va_calli (va_runV (As := [.int (X 1)]) (rest := []) ⟨hx, hb, hml, hown, hts⟩ (cm_M_charAt l dC dI h q g _ I1 A (X 1) r2 I2 A2 hg2) (cwV 1 hts (gd_v lk_51 lk_52 lk_53 lk_46 lk_50) rfl rfl rfl (by decide +kernel) ⟨Nat.le_of_ble_eq_true rfl, Nat.le_of_ble_eq_true rfl⟩) ⟨fun a U g mk q => by obtain ⟨q0, q1, qP, qK, qD⟩ := q; exact ⟨q0, q1, qP, va_K.moved (u := U) (U := U.calling g mk a) (Vm.Alike.refl U.vm) qK, qD⟩, va_recv (ci := 4) (q0 := 0) hK hP rfl rfl, fun U hU hW => ⟨rfl, by rw [hU], by rw [hU]; exact hPc, va_K.moved hW.alike hKc, hDc.weaken (fun _ _ _ _ => trivial)⟩⟩ rfl rfl hl.1 rfl (lv_room (Nat.le_of_ble_eq_true rfl)) d_M_at_30 ⟨Nat.le_of_ble_eq_true rfl, Nat.le_of_ble_eq_true rfl⟩) hS (fun q _ h => hFc q h) hFc (fun r9 u t H1 locs ht hvm hw hB hz1 hk1 hS => ?_)
        obtain ⟨hP1, hK1, hD1⟩ := hB
        rw [ht] at hP1
        rw [hw]
        obtain ⟨hP, hD⟩ := va_join (wr := []) (w1 := (mw_W h q g I2 A2)) hP hD [0, 1, 2, 3, 4, 5, 6, 7, 8, 9, 10, 11, 12, 13, 14, 15, 16, 17, 18, 19, 20] [] rfl rfl (by decide) (by decide) hk1 hFc hP1 hD1
        generalize H1 = H at hP hS ⊢
        have hP : va_P (dC, dI) vwCl (mw_W h q g I2 A2) H := hP
        have hD : va_D B9 (mw_W h q g I2 A2) := hD
        refine lv_goto (tgt := 37) hx hb d_M_at_33 (by decide) ?_
        exact blk37 I2 A2 X r2 _ _ _ hf (lv_sub hl [0, 1] rfl) hP hD hS
  have blk13 : ∀ (I : MI) (A : MA) (X : Nat → Int32) (ls : Array Slot) (H : Heap) (locs : List Loc), f_M_at_13 I A X = some (r, I', A') → lv_has ls 2 [(0, .ref h), (1, .int (X 1))] → va_P (dC, dI) vwCl (mw_W h q g I A) H → va_D B9 (mw_W h q g I A) → va_S B9 s.heap H locs → W p l e (headSpec w_M_at ({ frames := 1, cells := 0, slots := 0, locals := 21 })).room s m ([.ref h, .int k1] : List Value).toArray below meth c H locs 0 0 (MQ below (va_Qi (fun (r9 : Int32) (_ : Unit) => r9 = r) (fun (_ : Unit) t => va_P (dC, dI) vwCl (mw_W h q g I' A') t.heap ∧ va_K (dC, dI) vwCl (mw_T g) t ∧ va_D B9 (mw_W h q g I' A')) B9) ([.ref h, .int k1] : List Value).toArray s 0 0 B9) (F0 m 13 ls [.ref h]) := by
    intro I A X ls H locs hf hl hP hD hS
    unfold f_M_at_13 at hf
    refine lv_iconst (v := 1) hx hb d_M_at_13 (by decide) ?_
    refine lv_goto (tgt := 18) hx hb d_M_at_14 (by decide) ?_
    exact blk18 I A X 1 _ _ _ hf (lv_sub hl [0, 1] rfl) hP hD hS
  unfold f_M_at at hf
  refine lv_aload_n hx hb d_M_at_0 rfl (lv_at hl 0 rfl) ?_
  refine lv_iload_n hx hb d_M_at_1 rfl (lv_at hl 1 rfl) ?_
  refine lv_if_lt (tgt := 13) hx hb d_M_at_2 (by decide) (fun hc1 => ?_) (fun hc1 => ?_)
  ·
    have hf := wk_ift hc1 hf
    exact blk13 I A (upd (fun _ => 0) 1 k1) _ _ _ hf (lv_sub hl [0, 1] rfl) hP hD hS
  ·
    have hf := wk_iff hc1 hf
    refine lv_iload_n hx hb d_M_at_5 rfl (lv_at hl 1 rfl) ?_
    refine lv_aload_n hx hb d_M_at_6 rfl (lv_at hl 0 rfl) ?_
    have hPc := hP.sub (ws' := (mw_W h q g I A)) [0, 1, 2, 3, 4, 5, 6, 7, 8, 9, 10, 11, 12, 13, 14, 15, 16, 17, 18, 19, 20] rfl
    have hDc := hD.sub (ws' := (mw_W h q g I A)) [0, 1, 2, 3, 4, 5, 6, 7, 8, 9, 10, 11, 12, 13, 14, 15, 16, 17, 18, 19, 20] (by decide) rfl
    have hKc := hK.sub (tys' := (mw_T g)) [0, 1, 2, 3, 4, 5, 6, 7, 8, 9, 10, 11, 12, 13, 14, 15, 16, 17, 18, 19] rfl
    have hFc := va_free (wc := (mw_W h q g I A)) hD hS hA [0, 1, 2, 3, 4, 5, 6, 7, 8, 9, 10, 11, 12, 13, 14, 15, 16, 17, 18, 19, 20] rfl
    cases hg1 : f_M_textLength I A with
    | none => rw [hg1] at hf; cases hf
    | some z1 =>
      obtain ⟨r1, I1, A1⟩ := z1
      rw [hg1] at hf
      dsimp only [Option.bind_some] at hf
      refine va_calli (va_runV (As := []) (rest := [.int k1, .ref h]) ⟨hx, hb, hml, hown, hts⟩ (cm_M_textLength l dC dI h q g _ I A r1 I1 A1 hg1) (cwV 0 hts (gd_v lk_57 lk_58 lk_59 lk_46 lk_56) rfl rfl rfl (by decide +kernel) ⟨Nat.le_of_ble_eq_true rfl, Nat.le_of_ble_eq_true rfl⟩) ⟨fun a U g mk q => by obtain ⟨q0, q1, qP, qK, qD⟩ := q; exact ⟨q0, q1, qP, va_K.moved (u := U) (U := U.calling g mk a) (Vm.Alike.refl U.vm) qK, qD⟩, va_recv (ci := 4) (q0 := 0) hK hP rfl rfl, fun U hU hW => ⟨rfl, by rw [hU], by rw [hU]; exact hPc, va_K.moved hW.alike hKc, hDc.weaken (fun _ _ _ _ => trivial)⟩⟩ rfl rfl hl.1 rfl (lv_room (Nat.le_of_ble_eq_true rfl)) d_M_at_7 ⟨Nat.le_of_ble_eq_true rfl, Nat.le_of_ble_eq_true rfl⟩) hS (fun q _ h => hFc q h) hFc (fun r9 u t H1 locs ht hvm hw hB hz1 hk1 hS => ?_)
      obtain ⟨hP1, hK1, hD1⟩ := hB
      rw [ht] at hP1
      rw [hw]
      obtain ⟨hP, hD⟩ := va_join (wr := []) (w1 := (mw_W h q g I1 A1)) hP hD [0, 1, 2, 3, 4, 5, 6, 7, 8, 9, 10, 11, 12, 13, 14, 15, 16, 17, 18, 19, 20] [] rfl rfl (by decide) (by decide) hk1 hFc hP1 hD1
      generalize H1 = H at hP hS ⊢
      have hP : va_P (dC, dI) vwCl (mw_W h q g I1 A1) H := hP
      have hD : va_D B9 (mw_W h q g I1 A1) := hD
      refine lv_icmp_lt (tgt := 17) hx hb d_M_at_10 (by decide) (fun hc2 => ?_) (fun hc2 => ?_)
      ·
        have hf := wk_ift hc2 hf
        refine lv_iconst (v := 0) hx hb d_M_at_17 (by decide) ?_
        exact blk18 I1 A1 (upd (fun _ => 0) 1 k1) 0 _ _ _ hf (lv_sub hl [0, 1] rfl) hP hD hS
      ·
        have hf := wk_iff hc2 hf
        exact blk13 I1 A1 (upd (fun _ => 0) 1 k1) _ _ _ hf (lv_sub hl [0, 1] rfl) hP hD hS

set_option maxHeartbeats 8000000 in
set_option maxRecDepth 100000 in
theorem cm_M_link (l : Launch) (dC : Nat → ClassId) (dI : Nat → Nat → Nat) (h : Nat) (q : Nat → Nat) (g : Nat → ClassId) (sz : Nat) (I : MI) (A : MA) (k1 k2 : Int32) (r : Int32) (I' : MI) (A' : MA) (hf : f_M_link I A k1 k2 = some (r, I', A')) : Met l y_M_link w_M_link ({ frames := 0, cells := 0, slots := 0, locals := 0 }) (va_Pc [.ref h, .int k1, .int k2] (fun U => U.heap.size = sz ∧ va_P (dC, dI) vwCl (mw_W h q g I A) U.heap ∧ va_K (dC, dI) vwCl (mw_T g) U ∧ va_D (fun _ => True) (mw_W h q g I A))) (va_Qv (fun (u : Unit) => u = u) (fun (_ : Unit) t => va_P (dC, dI) vwCl (mw_W h q g I' A') t.heap ∧ va_K (dC, dI) vwCl (mw_T g) t ∧ va_D (va_A (mw_W h q g I A) sz) (mw_W h q g I' A')) (va_A (mw_W h q g I A) sz)) 0 0 (va_A (mw_W h q g I A) sz) := by
  refine Met.ofW (cc := prog_6_method_25_code) (maxL := 3) (ret := none) (by decide) rfl ?_
  intro p e s m args below meth c s₁ B hml hv
  obtain ⟨rfl, hsz, hP, hK, hD0⟩ := hv
  have hx := B.exec
  have hb := B.bytes
  have hr := B.returns
  have hts := atoms_spec (ws := w_M_link) B.pre
  have hown : s.vm.findClass R_M = some m.cls := findClass_of_methodNamed B.named
  have hlocks := B.notSynchronized
  subst hsz
  have hD := hD0.self (sz := s.heap.size)
  generalize hAe : va_A (mw_W h q g I A) s.heap.size = B9 at hD ⊢
  have hA : ∀ q : Nat, s.heap.size ≤ q → B9 q := fun q h => by rw [← hAe]; exact Or.inr h
  clear hAe
  have hS : va_S B9 s.heap s.heap [] := va_S.rf
  have hl := lv_entry ([.ref h, .int k1, .int k2]) (n := 3) (Nat.le_of_ble_eq_true rfl)
  rw [lg_entry_eq]
  generalize (lg_sl ([.ref h, .int k1, .int k2]) ++ List.replicate (3 - (lg_sl ([.ref h, .int k1, .int k2])).length) Slot.unset).toArray = ls at hl ⊢
  have hl : lv_has ls 3 [(0, .ref h), (1, .int k1), (2, .int k2)] := hl
  have blk26 : ∀ (I : MI) (A : MA) (X : Nat → Int32) (ls : Array Slot) (H : Heap) (locs : List Loc), f_M_link_26 I A X = some (r, I', A') → lv_has ls 3 [(0, .ref h), (1, .int (X 1)), (2, .int (X 2))] → va_P (dC, dI) vwCl (mw_W h q g I A) H → va_D B9 (mw_W h q g I A) → va_S B9 s.heap H locs → W p l e (headSpec w_M_link ({ frames := 0, cells := 0, slots := 0, locals := 0 })).room s m ([.ref h, .int k1, .int k2] : List Value).toArray below meth c H locs 0 0 (MQ below (va_Qv (fun (u : Unit) => u = u) (fun (_ : Unit) t => va_P (dC, dI) vwCl (mw_W h q g I' A') t.heap ∧ va_K (dC, dI) vwCl (mw_T g) t ∧ va_D B9 (mw_W h q g I' A')) B9) ([.ref h, .int k1, .int k2] : List Value).toArray s 0 0 B9) (F0 m 26 ls []) := by
    intro I A X ls H locs hf hl hP hD hS
    unfold f_M_link_26 at hf
    obtain ⟨e1, e2, e3⟩ := wk_inj hf
    subst e1
    subst e2
    subst e3
    exact W.vret hx hb hr (fun t ht hW => ⟨⟨(), rfl, rfl, by rw [ht]; exact hP, va_K.moved hW.alike hK, hD⟩, hS.F ht⟩) hS.2.2 d_M_link_26
  unfold f_M_link at hf
  refine lv_aload_n hx hb d_M_link_0 rfl (lv_at hl 0 rfl) ?_
  refine va_get (D := (dC, dI)) (ci := 4) (v := .ref (q 21)) (C := R_M) (T := F_M) (N := 38) hx hb hts (fun w h => List.mem_cons_of_mem _ (in_M w h)) hown hK hP 0 rfl rfl 21 (by decide) (hts _ (List.mem_cons_of_mem _ lk_64)) (fun _ h9 => h9) rfl d_M_link_1 ?_
  refine lv_iload_n hx hb d_M_link_4 rfl (lv_at hl 1 rfl) ?_
  obtain ⟨hc1, hf⟩ := wk_if hf
  refine va_iald hx hb hK hP 11 10 rfl rfl (wk_inb_ok hc1) d_M_link_5 ?_
  refine lv_if_ge (tgt := 19) hx hb d_M_link_6 (by decide) (fun hc2 => ?_) (fun hc2 => ?_)
  ·
    have hf := wk_ift hc2 hf
    refine lv_aload_n hx hb d_M_link_19 rfl (lv_at hl 0 rfl) ?_
    refine va_get (D := (dC, dI)) (ci := 4) (v := .ref (q 22)) (C := R_M) (T := F_M) (N := 38) hx hb hts (fun w h => List.mem_cons_of_mem _ (in_M w h)) hown hK hP 0 rfl rfl 22 (by decide) (hts _ (List.mem_cons_of_mem _ lk_65)) (fun _ h9 => h9) rfl d_M_link_20 ?_
    refine lv_iload_n hx hb d_M_link_23 rfl (lv_at hl 1 rfl) ?_
    refine lv_iload_n hx hb d_M_link_24 rfl (lv_at hl 2 rfl) ?_
    obtain ⟨hc3, hf⟩ := wk_if hf
    refine va_iast hx hb hK hP hD hS 12 11 rfl rfl (wk_inb_ok hc3) d_M_link_25 (fun H locs hP hD hS => ?_)
    obtain ⟨A1, hA1, hf⟩ := wk_letE hf
    have hP : va_P (dC, dI) vwCl (mw_W h q g I A1) H := by rw [hA1]; exact hP
    have hD : va_D B9 (mw_W h q g I A1) := by rw [hA1]; exact hD
    clear hA1
    exact blk26 I A1 (upd (upd (fun _ => 0) 1 k1) 2 k2) _ _ _ hf (lv_sub hl [0, 1, 2] rfl) hP hD hS
  ·
    have hf := wk_iff hc2 hf
    refine lv_aload_n hx hb d_M_link_9 rfl (lv_at hl 0 rfl) ?_
    refine va_get (D := (dC, dI)) (ci := 4) (v := .ref (q 21)) (C := R_M) (T := F_M) (N := 38) hx hb hts (fun w h => List.mem_cons_of_mem _ (in_M w h)) hown hK hP 0 rfl rfl 21 (by decide) (hts _ (List.mem_cons_of_mem _ lk_64)) (fun _ h9 => h9) rfl d_M_link_10 ?_
    refine lv_iload_n hx hb d_M_link_13 rfl (lv_at hl 1 rfl) ?_
    refine lv_iload_n hx hb d_M_link_14 rfl (lv_at hl 2 rfl) ?_
    obtain ⟨hc3, hf⟩ := wk_if hf
    refine va_iast hx hb hK hP hD hS 11 10 rfl rfl (wk_inb_ok hc3) d_M_link_15 (fun H locs hP hD hS => ?_)
    obtain ⟨A1, hA1, hf⟩ := wk_letE hf
    have hP : va_P (dC, dI) vwCl (mw_W h q g I A1) H := by rw [hA1]; exact hP
    have hD : va_D B9 (mw_W h q g I A1) := by rw [hA1]; exact hD
    clear hA1
    refine lv_goto (tgt := 26) hx hb d_M_link_16 (by decide) ?_
    exact blk26 I A1 (upd (upd (fun _ => 0) 1 k1) 2 k2) _ _ _ hf (lv_sub hl [0, 1, 2] rfl) hP hD hS

set_option maxHeartbeats 8000000 in
set_option maxRecDepth 100000 in
theorem cm_M_piece (l : Launch) (dC : Nat → ClassId) (dI : Nat → Nat → Nat) (h : Nat) (q : Nat → Nat) (g : Nat → ClassId) (sz : Nat) (I : MI) (A : MA) (k1 k2 : Int32) (r : Int32) (I' : MI) (A' : MA) (hf : f_M_piece I A k1 k2 = some (r, I', A')) : Met l y_M_piece w_M_piece ({ frames := 0, cells := 0, slots := 0, locals := 0 }) (va_Pc [.ref h, .int k1, .int k2] (fun U => U.heap.size = sz ∧ va_P (dC, dI) vwCl (mw_W h q g I A) U.heap ∧ va_K (dC, dI) vwCl (mw_T g) U ∧ va_D (fun _ => True) (mw_W h q g I A))) (va_Qi (fun (r9 : Int32) (_ : Unit) => r9 = r) (fun (_ : Unit) t => va_P (dC, dI) vwCl (mw_W h q g I' A') t.heap ∧ va_K (dC, dI) vwCl (mw_T g) t ∧ va_D (va_A (mw_W h q g I A) sz) (mw_W h q g I' A')) (va_A (mw_W h q g I A) sz)) 0 0 (va_A (mw_W h q g I A) sz) := by
  refine Met.ofW (cc := prog_6_method_26_code) (maxL := 3) (ret := (some .int)) (by decide) rfl ?_
  intro p e s m args below meth c s₁ B hml hv
  obtain ⟨rfl, hsz, hP, hK, hD0⟩ := hv
  have hx := B.exec
  have hb := B.bytes
  have hr := B.returns
  have hts := atoms_spec (ws := w_M_piece) B.pre
  have hown : s.vm.findClass R_M = some m.cls := findClass_of_methodNamed B.named
  have hlocks := B.notSynchronized
  subst hsz
  have hD := hD0.self (sz := s.heap.size)
  generalize hAe : va_A (mw_W h q g I A) s.heap.size = B9 at hD ⊢
  have hA : ∀ q : Nat, s.heap.size ≤ q → B9 q := fun q h => by rw [← hAe]; exact Or.inr h
  clear hAe
  have hS : va_S B9 s.heap s.heap [] := va_S.rf
  have hl := lv_entry ([.ref h, .int k1, .int k2]) (n := 3) (Nat.le_of_ble_eq_true rfl)
  rw [lg_entry_eq]
  generalize (lg_sl ([.ref h, .int k1, .int k2]) ++ List.replicate (3 - (lg_sl ([.ref h, .int k1, .int k2])).length) Slot.unset).toArray = ls at hl ⊢
  have hl : lv_has ls 3 [(0, .ref h), (1, .int k1), (2, .int k2)] := hl
  unfold f_M_piece at hf
  refine lv_aload_n hx hb d_M_piece_0 rfl (lv_at hl 0 rfl) ?_
  refine va_get (D := (dC, dI)) (ci := 4) (v := .ref (q 26)) (C := R_M) (T := F_M) (N := 38) hx hb hts (fun w h => List.mem_cons_of_mem _ (in_M w h)) hown hK hP 0 rfl rfl 26 (by decide) (hts _ (List.mem_cons_of_mem _ lk_63)) (fun _ h9 => h9) rfl d_M_piece_1 ?_
  refine lv_aload_n hx hb d_M_piece_4 rfl (lv_at hl 0 rfl) ?_
  refine va_get (D := (dC, dI)) (ci := 4) (v := .int (I 25)) (C := R_M) (T := F_M) (N := 38) hx hb hts (fun w h => List.mem_cons_of_mem _ (in_M w h)) hown hK hP 0 rfl rfl 25 (by decide) (hts _ (List.mem_cons_of_mem _ lk_70)) (fun _ h9 => h9) rfl d_M_piece_5 ?_
  refine lv_iload_n hx hb d_M_piece_8 rfl (lv_at hl 1 rfl) ?_
  obtain ⟨hc1, hf⟩ := wk_if hf
  refine va_iast hx hb hK hP hD hS 13 12 rfl rfl (wk_inb_ok hc1) d_M_piece_9 (fun H locs hP hD hS => ?_)
  obtain ⟨A1, hA1, hf⟩ := wk_letE hf
  have hP : va_P (dC, dI) vwCl (mw_W h q g I A1) H := by rw [hA1]; exact hP
  have hD : va_D B9 (mw_W h q g I A1) := by rw [hA1]; exact hD
  clear hA1
  refine lv_aload_n hx hb d_M_piece_10 rfl (lv_at hl 0 rfl) ?_
  refine va_get (D := (dC, dI)) (ci := 4) (v := .ref (q 27)) (C := R_M) (T := F_M) (N := 38) hx hb hts (fun w h => List.mem_cons_of_mem _ (in_M w h)) hown hK hP 0 rfl rfl 27 (by decide) (hts _ (List.mem_cons_of_mem _ lk_62)) (fun _ h9 => h9) rfl d_M_piece_11 ?_
  refine lv_aload_n hx hb d_M_piece_14 rfl (lv_at hl 0 rfl) ?_
  refine va_get (D := (dC, dI)) (ci := 4) (v := .int (I 25)) (C := R_M) (T := F_M) (N := 38) hx hb hts (fun w h => List.mem_cons_of_mem _ (in_M w h)) hown hK hP 0 rfl rfl 25 (by decide) (hts _ (List.mem_cons_of_mem _ lk_70)) (fun _ h9 => h9) rfl d_M_piece_15 ?_
  refine lv_iload_n hx hb d_M_piece_18 rfl (lv_at hl 2 rfl) ?_
  obtain ⟨hc2, hf⟩ := wk_if hf
  refine va_iast hx hb hK hP hD hS 14 13 rfl rfl (wk_inb_ok hc2) d_M_piece_19 (fun H locs hP hD hS => ?_)
  obtain ⟨A2, hA2, hf⟩ := wk_letE hf
  have hP : va_P (dC, dI) vwCl (mw_W h q g I A2) H := by rw [hA2]; exact hP
  have hD : va_D B9 (mw_W h q g I A2) := by rw [hA2]; exact hD
  clear hA2
  refine lv_aload_n hx hb d_M_piece_20 rfl (lv_at hl 0 rfl) ?_
  refine lv_dup hx hb d_M_piece_21 rfl ?_
  refine va_get (D := (dC, dI)) (ci := 4) (v := .int (I 25)) (C := R_M) (T := F_M) (N := 38) hx hb hts (fun w h => List.mem_cons_of_mem _ (in_M w h)) hown hK hP 0 rfl rfl 25 (by decide) (hts _ (List.mem_cons_of_mem _ lk_70)) (fun _ h9 => h9) rfl d_M_piece_22 ?_
  refine lv_iconst (v := 1) hx hb d_M_piece_25 (by decide) ?_
  refine lv_iadd hx hb d_M_piece_26 ?_
  refine va_put (D := (dC, dI)) (ci := 4) (v := .int ((I 25) + 1)) (ty := .int) (C := R_M) (T := F_M) (N := 38) hx hb hts (fun w h => List.mem_cons_of_mem _ (in_M w h)) t_M tk_M n_M hown hK hP hD hS 0 rfl rfl 25 (by decide) (hts _ (List.mem_cons_of_mem _ lk_70)) (fun _ h9 => h9) rfl (by decide +kernel) rfl rfl (Nat.le_of_ble_eq_true rfl) d_M_piece_27 (fun H locs hP hD hS => ?_)
  obtain ⟨I3, hI3, hf⟩ := wk_letE hf
  have hP : va_P (dC, dI) vwCl (mw_W h q g I3 A2) H := by rw [hI3]; exact hP
  have hD : va_D B9 (mw_W h q g I3 A2) := by rw [hI3]; exact hD
  clear hI3
  refine lv_aload_n hx hb d_M_piece_30 rfl (lv_at hl 0 rfl) ?_
  refine va_get (D := (dC, dI)) (ci := 4) (v := .int (I3 25)) (C := R_M) (T := F_M) (N := 38) hx hb hts (fun w h => List.mem_cons_of_mem _ (in_M w h)) hown hK hP 0 rfl rfl 25 (by decide) (hts _ (List.mem_cons_of_mem _ lk_70)) (fun _ h9 => h9) rfl d_M_piece_31 ?_
  refine lv_iconst (v := 1) hx hb d_M_piece_34 (by decide) ?_
  refine lv_isub hx hb d_M_piece_35 ?_
  obtain ⟨e1, e2, e3⟩ := wk_inj hf
  subst e1
  subst e2
  subst e3
  exact W.iret (v := ((I3 25) - 1)) hx hb hr (fun t ht hW => ⟨⟨((I3 25) - 1), (), rfl, rfl, by rw [ht]; exact hP, va_K.moved hW.alike hK, hD⟩, hS.F ht⟩) hS.2.2 d_M_piece_36

