-- 16.mcon00
set_option maxHeartbeats 8000000 in
set_option maxRecDepth 100000 in
theorem cm_M_add (l : Launch) (dC : Nat → ClassId) (dI : Nat → Nat → Nat) (h : Nat) (q : Nat → Nat) (g : Nat → ClassId) (sz : Nat) (I : MI) (A : MA) (k1 : Int32) (r : Int32) (I' : MI) (A' : MA) (hf : f_M_add I A k1 = some (r, I', A')) : Met l y_M_add w_M_add ({ frames := 0, cells := 0, slots := 0, locals := 0 }) (va_Pc [.ref h, .int k1] (fun U => U.heap.size = sz ∧ va_P (dC, dI) vwCl (mw_W h q g I A) U.heap ∧ va_K (dC, dI) vwCl (mw_T g) U ∧ va_D (fun _ => True) (mw_W h q g I A))) (va_Qv (fun (u : Unit) => u = u) (fun (_ : Unit) t => va_P (dC, dI) vwCl (mw_W h q g I' A') t.heap ∧ va_K (dC, dI) vwCl (mw_T g) t ∧ va_D (va_A (mw_W h q g I A) sz) (mw_W h q g I' A')) (va_A (mw_W h q g I A) sz)) 0 0 (va_A (mw_W h q g I A) sz) := by
  refine Met.ofW (cc := prog_6_method_9_code) (maxL := 2) (ret := none) (by decide) rfl ?_
  intro p e s m args below meth c s₁ B hml hv
  obtain ⟨rfl, hsz, hP, hK, hD0⟩ := hv
  have hx := B.exec
  have hb := B.bytes
  have hr := B.returns
  have hts := atoms_spec (ws := w_M_add) B.pre
  have hown : s.vm.findClass R_M = some m.cls := findClass_of_methodNamed B.named
  have hlocks := B.notSynchronized
  subst hsz
  have hD := hD0.self (sz := s.heap.size)
  generalize hAe : va_A (mw_W h q g I A) s.heap.size = B9 at hD ⊢
  have hA : ∀ q : Nat, s.heap.size ≤ q → B9 q := fun q h => by rw [← hAe]; exact Or.inr h
  clear hAe
  have hS : va_S B9 s.heap s.heap [] := va_S.rf
  have hl := lv_entry ([.ref h, .int k1]) (n := 2) (Nat.le_of_ble_eq_true rfl)
  rw [lg_entry_eq]
  generalize (lg_sl ([.ref h, .int k1]) ++ List.replicate (2 - (lg_sl ([.ref h, .int k1])).length) Slot.unset).toArray = ls at hl ⊢
  have hl : lv_has ls 2 [(0, .ref h), (1, .int k1)] := hl
  unfold f_M_add at hf
  refine lv_aload_n hx hb d_M_add_0 rfl (lv_at hl 0 rfl) ?_
  refine va_get (D := (dC, dI)) (ci := 4) (v := .ref (q 37)) (C := R_M) (T := F_M) (N := 38) hx hb hts (fun w h => List.mem_cons_of_mem _ (in_M w h)) hown hK hP 0 rfl rfl 37 (by decide) (hts _ (List.mem_cons_of_mem _ lk_38)) (fun _ h9 => h9) rfl d_M_add_1 ?_
  refine lv_aload_n hx hb d_M_add_4 rfl (lv_at hl 0 rfl) ?_
  refine va_get (D := (dC, dI)) (ci := 4) (v := .int (I 36)) (C := R_M) (T := F_M) (N := 38) hx hb hts (fun w h => List.mem_cons_of_mem _ (in_M w h)) hown hK hP 0 rfl rfl 36 (by decide) (hts _ (List.mem_cons_of_mem _ lk_39)) (fun _ h9 => h9) rfl d_M_add_5 ?_
  refine lv_iload_n hx hb d_M_add_8 rfl (lv_at hl 1 rfl) ?_
  obtain ⟨hc1, hf⟩ := wk_if hf
  refine va_cast hx hb hK hP hD hS 20 19 rfl rfl (wk_inb_ok hc1) d_M_add_9 (fun H locs hP hD hS => ?_)
  obtain ⟨A1, hA1, hf⟩ := wk_letE hf
  have hP : va_P (dC, dI) vwCl (mw_W h q g I A1) H := by rw [hA1]; exact hP
  have hD : va_D B9 (mw_W h q g I A1) := by rw [hA1]; exact hD
  clear hA1
  refine lv_aload_n hx hb d_M_add_10 rfl (lv_at hl 0 rfl) ?_
  refine lv_dup hx hb d_M_add_11 rfl ?_
  refine va_get (D := (dC, dI)) (ci := 4) (v := .int (I 36)) (C := R_M) (T := F_M) (N := 38) hx hb hts (fun w h => List.mem_cons_of_mem _ (in_M w h)) hown hK hP 0 rfl rfl 36 (by decide) (hts _ (List.mem_cons_of_mem _ lk_39)) (fun _ h9 => h9) rfl d_M_add_12 ?_
  refine lv_iconst (v := 1) hx hb d_M_add_15 (by decide) ?_
  refine lv_iadd hx hb d_M_add_16 ?_
  refine va_put (D := (dC, dI)) (ci := 4) (v := .int ((I 36) + 1)) (ty := .int) (C := R_M) (T := F_M) (N := 38) hx hb hts (fun w h => List.mem_cons_of_mem _ (in_M w h)) t_M tk_M n_M hown hK hP hD hS 0 rfl rfl 36 (by decide) (hts _ (List.mem_cons_of_mem _ lk_39)) (fun _ h9 => h9) rfl (by decide +kernel) rfl rfl (Nat.le_of_ble_eq_true rfl) d_M_add_17 (fun H locs hP hD hS => ?_)
  obtain ⟨I2, hI2, hf⟩ := wk_letE hf
  have hP : va_P (dC, dI) vwCl (mw_W h q g I2 A1) H := by rw [hI2]; exact hP
  have hD : va_D B9 (mw_W h q g I2 A1) := by rw [hI2]; exact hD
  clear hI2
  obtain ⟨e1, e2, e3⟩ := wk_inj hf
  subst e1
  subst e2
  subst e3
  exact W.vret hx hb hr (fun t ht hW => ⟨⟨(), rfl, rfl, by rw [ht]; exact hP, va_K.moved hW.alike hK, hD⟩, hS.F ht⟩) hS.2.2 d_M_add_20

set_option maxHeartbeats 8000000 in
set_option maxRecDepth 100000 in
theorem cm_M_addSlip (l : Launch) (dC : Nat → ClassId) (dI : Nat → Nat → Nat) (h : Nat) (q : Nat → Nat) (g : Nat → ClassId) (sz : Nat) (I : MI) (A : MA) (r : Int32) (I' : MI) (A' : MA) (hf : f_M_addSlip I A  = some (r, I', A')) : Met l y_M_addSlip w_M_addSlip ({ frames := 1, cells := 0, slots := 0, locals := 21 }) (va_Pc [.ref h] (fun U => U.heap.size = sz ∧ va_P (dC, dI) vwCl (mw_W h q g I A) U.heap ∧ va_K (dC, dI) vwCl (mw_T g) U ∧ va_D (fun _ => True) (mw_W h q g I A))) (va_Qv (fun (u : Unit) => u = u) (fun (_ : Unit) t => va_P (dC, dI) vwCl (mw_W h q g I' A') t.heap ∧ va_K (dC, dI) vwCl (mw_T g) t ∧ va_D (va_A (mw_W h q g I A) sz) (mw_W h q g I' A')) (va_A (mw_W h q g I A) sz)) 0 0 (va_A (mw_W h q g I A) sz) := by
  refine Met.ofW (cc := prog_6_method_11_code) (maxL := 2) (ret := none) (by decide) rfl ?_
  intro p e s m args below meth c s₁ B hml hv
  obtain ⟨rfl, hsz, hP, hK, hD0⟩ := hv
  have hx := B.exec
  have hb := B.bytes
  have hr := B.returns
  have hts := atoms_spec (ws := w_M_addSlip) B.pre
  have hown : s.vm.findClass R_M = some m.cls := findClass_of_methodNamed B.named
  have hlocks := B.notSynchronized
  subst hsz
  have hD := hD0.self (sz := s.heap.size)
  generalize hAe : va_A (mw_W h q g I A) s.heap.size = B9 at hD ⊢
  have hA : ∀ q : Nat, s.heap.size ≤ q → B9 q := fun q h => by rw [← hAe]; exact Or.inr h
  clear hAe
  have hS : va_S B9 s.heap s.heap [] := va_S.rf
  have hl := lv_entry ([.ref h]) (n := 2) (Nat.le_of_ble_eq_true rfl)
  rw [lg_entry_eq]
  generalize (lg_sl ([.ref h]) ++ List.replicate (2 - (lg_sl ([.ref h])).length) Slot.unset).toArray = ls at hl ⊢
  have hl : lv_has ls 2 [(0, .ref h)] := hl
  have stp2 : ∀ (rc : Nat → MI → MA → (Nat → Int32) → Option (Int32 × MI × MA)) (hrc2 : ∀ (I : MI) (A : MA) (X : Nat → Int32) (ls : Array Slot) (H : Heap) (locs : List Loc), rc 2 I A X = some (r, I', A') → lv_has ls 2 [(0, .ref h), (1, .int (X 1))] → va_P (dC, dI) vwCl (mw_W h q g I A) H → va_D B9 (mw_W h q g I A) → va_S B9 s.heap H locs → W p l e (headSpec w_M_addSlip ({ frames := 1, cells := 0, slots := 0, locals := 21 })).room s m ([.ref h] : List Value).toArray below meth c H locs 0 0 (MQ below (va_Qv (fun (u : Unit) => u = u) (fun (_ : Unit) t => va_P (dC, dI) vwCl (mw_W h q g I' A') t.heap ∧ va_K (dC, dI) vwCl (mw_T g) t ∧ va_D B9 (mw_W h q g I' A')) B9) ([.ref h] : List Value).toArray s 0 0 B9) (F0 m 2 ls [])), ∀ (I : MI) (A : MA) (X : Nat → Int32) (ls : Array Slot) (H : Heap) (locs : List Loc), f_M_addSlip_2 rc I A X = some (r, I', A') → lv_has ls 2 [(0, .ref h), (1, .int (X 1))] → va_P (dC, dI) vwCl (mw_W h q g I A) H → va_D B9 (mw_W h q g I A) → va_S B9 s.heap H locs → W p l e (headSpec w_M_addSlip ({ frames := 1, cells := 0, slots := 0, locals := 21 })).room s m ([.ref h] : List Value).toArray below meth c H locs 0 0 (MQ below (va_Qv (fun (u : Unit) => u = u) (fun (_ : Unit) t => va_P (dC, dI) vwCl (mw_W h q g I' A') t.heap ∧ va_K (dC, dI) vwCl (mw_T g) t ∧ va_D B9 (mw_W h q g I' A')) B9) ([.ref h] : List Value).toArray s 0 0 B9) (F0 m 2 ls []) := by
    intro rc hrc2 I A X ls H locs hf hl hP hD hS
    unfold f_M_addSlip_2 at hf
    refine lv_iload_n hx hb d_M_addSlip_2 rfl (lv_at hl 1 rfl) ?_
    refine lv_aload_n hx hb d_M_addSlip_3 rfl (lv_at hl 0 rfl) ?_
    refine va_get (D := (dC, dI)) (ci := 4) (v := .int (I 1)) (C := R_M) (T := F_M) (N := 38) hx hb hts (fun w h => List.mem_cons_of_mem _ (in_M w h)) hown hK hP 0 rfl rfl 1 (by decide) (hts _ (List.mem_cons_of_mem _ lk_41)) (fun _ h9 => h9) rfl d_M_addSlip_4 ?_
    refine lv_icmp_ge (tgt := 26) hx hb d_M_addSlip_7 (by decide) (fun hc1 => ?_) (fun hc1 => ?_)
    ·
      have hf := wk_ift hc1 hf
      obtain ⟨e1, e2, e3⟩ := wk_inj hf
      subst e1
      subst e2
      subst e3
      exact W.vret hx hb hr (fun t ht hW => ⟨⟨(), rfl, rfl, by rw [ht]; exact hP, va_K.moved hW.alike hK, hD⟩, hS.F ht⟩) hS.2.2 d_M_addSlip_26
    ·
      have hf := wk_iff hc1 hf
      refine lv_aload_n hx hb d_M_addSlip_10 rfl (lv_at hl 0 rfl) ?_
      refine lv_aload_n hx hb d_M_addSlip_11 rfl (lv_at hl 0 rfl) ?_
      refine va_get (D := (dC, dI)) (ci := 4) (v := .ref (q 2)) (C := R_M) (T := F_M) (N := 38) hx hb hts (fun w h => List.mem_cons_of_mem _ (in_M w h)) hown hK hP 0 rfl rfl 2 (by decide) (hts _ (List.mem_cons_of_mem _ lk_42)) (fun _ h9 => h9) rfl d_M_addSlip_12 ?_
      refine lv_iload_n hx hb d_M_addSlip_15 rfl (lv_at hl 1 rfl) ?_
      obtain ⟨hc2, hf⟩ := wk_if hf
      refine va_cald hx hb hK hP 1 0 rfl rfl (wk_inb_ok hc2) d_M_addSlip_16 ?_
      have hPc := hP.sub (ws' := (mw_W h q g I A)) [0, 1, 2, 3, 4, 5, 6, 7, 8, 9, 10, 11, 12, 13, 14, 15, 16, 17, 18, 19, 20] rfl
      have hDc := hD.sub (ws' := (mw_W h q g I A)) [0, 1, 2, 3, 4, 5, 6, 7, 8, 9, 10, 11, 12, 13, 14, 15, 16, 17, 18, 19, 20] (by decide) rfl
      have hKc := hK.sub (tys' := (mw_T g)) [0, 1, 2, 3, 4, 5, 6, 7, 8, 9, 10, 11, 12, 13, 14, 15, 16, 17, 18, 19] rfl
      have hFc := va_free (wc := (mw_W h q g I A)) hD hS hA [0, 1, 2, 3, 4, 5, 6, 7, 8, 9, 10, 11, 12, 13, 14, 15, 16, 17, 18, 19, 20] rfl
      cases hg1 : f_M_add I A ((A 2) ((X 1)).toNatClampNeg) with
      | none => rw [hg1] at hf; cases hf
      | some z1 =>
        obtain ⟨r1, I1, A1⟩ := z1
        rw [hg1] at hf
        dsimp only [Option.bind_some] at hf
        refine va_callv (va_runV (As := [.int ((A 2) ((X 1)).toNatClampNeg)]) (rest := []) ⟨hx, hb, hml, hown, hts⟩ (cm_M_add l dC dI h q g _ I A ((A 2) ((X 1)).toNatClampNeg) r1 I1 A1 hg1) (cwV 1 hts (gd_v lk_43 lk_44 lk_45 lk_46 lk_40) rfl rfl rfl (by decide +kernel) ⟨Nat.le_of_ble_eq_true rfl, Nat.le_of_ble_eq_true rfl⟩) ⟨fun a U g mk q => by obtain ⟨q0, q1, qP, qK, qD⟩ := q; exact ⟨q0, q1, qP, va_K.moved (u := U) (U := U.calling g mk a) (Vm.Alike.refl U.vm) qK, qD⟩, va_recv (ci := 4) (q0 := 0) hK hP rfl rfl, fun U hU hW => ⟨rfl, by rw [hU], by rw [hU]; exact hPc, va_K.moved hW.alike hKc, hDc.weaken (fun _ _ _ _ => trivial)⟩⟩ rfl rfl hl.1 rfl (lv_room (Nat.le_of_ble_eq_true rfl)) d_M_addSlip_17 ⟨Nat.le_of_ble_eq_true rfl, Nat.le_of_ble_eq_true rfl⟩) hS (fun q _ h => hFc q h) hFc (fun u t H1 locs ht hvm hw hB hz1 hk1 hS => ?_)
        obtain ⟨hP1, hK1, hD1⟩ := hB
        rw [ht] at hP1
        obtain ⟨hP, hD⟩ := va_join (wr := []) (w1 := (mw_W h q g I1 A1)) hP hD [0, 1, 2, 3, 4, 5, 6, 7, 8, 9, 10, 11, 12, 13, 14, 15, 16, 17, 18, 19, 20] [] rfl rfl (by decide) (by decide) hk1 hFc hP1 hD1
        generalize H1 = H at hP hS ⊢
        have hP : va_P (dC, dI) vwCl (mw_W h q g I1 A1) H := hP
        have hD : va_D B9 (mw_W h q g I1 A1) := hD
        refine lv_iinc (k := 1) (v := ((X 1) + 1)) (lv' := [(1, .int ((X 1) + 1)), (0, .ref h)]) hx hb d_M_addSlip_20 hl rfl (wk_inc (by decide)) (by decide) rfl (fun ls hl => ?_)
        have hl : lv_has ls 2 [(1, .int ((X 1) + 1)), (0, .ref h)] := hl
        refine lv_goto (tgt := 2) hx hb d_M_addSlip_23 (by decide) ?_
        exact hrc2 I1 A1 (upd X 1 ((X 1) + 1)) _ _ _ hf (lv_sub hl [1, 0] rfl) hP hD hS
  have key : ∀ n : Nat, (∀ (I : MI) (A : MA) (X : Nat → Int32) (ls : Array Slot) (H : Heap) (locs : List Loc), f_M_addSlip_go n 2 I A X = some (r, I', A') → lv_has ls 2 [(0, .ref h), (1, .int (X 1))] → va_P (dC, dI) vwCl (mw_W h q g I A) H → va_D B9 (mw_W h q g I A) → va_S B9 s.heap H locs → W p l e (headSpec w_M_addSlip ({ frames := 1, cells := 0, slots := 0, locals := 21 })).room s m ([.ref h] : List Value).toArray below meth c H locs 0 0 (MQ below (va_Qv (fun (u : Unit) => u = u) (fun (_ : Unit) t => va_P (dC, dI) vwCl (mw_W h q g I' A') t.heap ∧ va_K (dC, dI) vwCl (mw_T g) t ∧ va_D B9 (mw_W h q g I' A')) B9) ([.ref h] : List Value).toArray s 0 0 B9) (F0 m 2 ls [])) := by
    intro n
    induction n with
    | zero => exact fun I A X ls H locs hf => (by cases hf)
    | succ n ih =>
      have ih2 := ih
      exact stp2 (f_M_addSlip_go n) ih2
  unfold f_M_addSlip f_M_addSlip_e at hf
  have hrc2 := key wk_FUEL
  refine lv_iconst (v := 0) hx hb d_M_addSlip_0 (by decide) ?_
  refine lv_istore_n (lv' := [(1, .int 0), (0, .ref h)]) hx hb d_M_addSlip_1 rfl hl (by decide) rfl (fun ls hl => ?_)
  have hl : lv_has ls 2 [(1, .int 0), (0, .ref h)] := hl
  exact hrc2 I A (upd (fun _ => 0) 1 0) _ _ _ hf (lv_sub hl [1, 0] rfl) hP hD hS

set_option maxHeartbeats 8000000 in
set_option maxRecDepth 100000 in
theorem cm_M_charAt (l : Launch) (dC : Nat → ClassId) (dI : Nat → Nat → Nat) (h : Nat) (q : Nat → Nat) (g : Nat → ClassId) (sz : Nat) (I : MI) (A : MA) (k1 : Int32) (r : Int32) (I' : MI) (A' : MA) (hf : f_M_charAt I A k1 = some (r, I', A')) : Met l y_M_charAt w_M_charAt ({ frames := 0, cells := 0, slots := 0, locals := 0 }) (va_Pc [.ref h, .int k1] (fun U => U.heap.size = sz ∧ va_P (dC, dI) vwCl (mw_W h q g I A) U.heap ∧ va_K (dC, dI) vwCl (mw_T g) U ∧ va_D (fun _ => True) (mw_W h q g I A))) (va_Qi (fun (r9 : Int32) (_ : Unit) => r9 = r) (fun (_ : Unit) t => va_P (dC, dI) vwCl (mw_W h q g I' A') t.heap ∧ va_K (dC, dI) vwCl (mw_T g) t ∧ va_D (va_A (mw_W h q g I A) sz) (mw_W h q g I' A')) (va_A (mw_W h q g I A) sz)) 0 0 (va_A (mw_W h q g I A) sz) := by
  refine Met.ofW (cc := prog_6_method_6_code) (maxL := 2) (ret := (some .char)) (by decide) rfl ?_
  intro p e s m args below meth c s₁ B hml hv
  obtain ⟨rfl, hsz, hP, hK, hD0⟩ := hv
  have hx := B.exec
  have hb := B.bytes
  have hr := B.returns
  have hts := atoms_spec (ws := w_M_charAt) B.pre
  have hown : s.vm.findClass R_M = some m.cls := findClass_of_methodNamed B.named
  have hlocks := B.notSynchronized
  subst hsz
  have hD := hD0.self (sz := s.heap.size)
  generalize hAe : va_A (mw_W h q g I A) s.heap.size = B9 at hD ⊢
  have hA : ∀ q : Nat, s.heap.size ≤ q → B9 q := fun q h => by rw [← hAe]; exact Or.inr h
  clear hAe
  have hS : va_S B9 s.heap s.heap [] := va_S.rf
  have hl := lv_entry ([.ref h, .int k1]) (n := 2) (Nat.le_of_ble_eq_true rfl)
  rw [lg_entry_eq]
  generalize (lg_sl ([.ref h, .int k1]) ++ List.replicate (2 - (lg_sl ([.ref h, .int k1])).length) Slot.unset).toArray = ls at hl ⊢
  have hl : lv_has ls 2 [(0, .ref h), (1, .int k1)] := hl
  unfold f_M_charAt at hf
  refine lv_aload_n hx hb d_M_charAt_0 rfl (lv_at hl 0 rfl) ?_
  refine va_get (D := (dC, dI)) (ci := 4) (v := .ref (q 5)) (C := R_M) (T := F_M) (N := 38) hx hb hts (fun w h => List.mem_cons_of_mem _ (in_M w h)) hown hK hP 0 rfl rfl 5 (by decide) (hts _ (List.mem_cons_of_mem _ lk_48)) (fun _ h9 => h9) rfl d_M_charAt_1 ?_
  refine lv_sipush (v := 160) hx hb d_M_charAt_4 (by decide) ?_
  refine lv_aload_n hx hb d_M_charAt_7 rfl (lv_at hl 0 rfl) ?_
  refine va_get (D := (dC, dI)) (ci := 4) (v := .int (I 4)) (C := R_M) (T := F_M) (N := 38) hx hb hts (fun w h => List.mem_cons_of_mem _ (in_M w h)) hown hK hP 0 rfl rfl 4 (by decide) (hts _ (List.mem_cons_of_mem _ lk_49)) (fun _ h9 => h9) rfl d_M_charAt_8 ?_
  refine lv_imul hx hb d_M_charAt_11 ?_
  refine lv_iload_n hx hb d_M_charAt_12 rfl (lv_at hl 1 rfl) ?_
  refine lv_iadd hx hb d_M_charAt_13 ?_
  obtain ⟨hc1, hf⟩ := wk_if hf
  refine va_cald hx hb hK hP 2 1 rfl rfl (wk_inb_ok hc1) d_M_charAt_14 ?_
  obtain ⟨hn9, hf⟩ := wk_if hf
  obtain ⟨e1, e2, e3⟩ := wk_inj hf
  subst e1
  subst e2
  subst e3
  exact W.zret (v := ((A 5) (((160 * (I 4)) + k1)).toNatClampNeg)) hx hb hr (congrArg Value.int hn9) (fun t ht hW => ⟨⟨((A 5) (((160 * (I 4)) + k1)).toNatClampNeg), (), rfl, rfl, by rw [ht]; exact hP, va_K.moved hW.alike hK, hD⟩, hS.F ht⟩) hS.2.2 d_M_charAt_15

set_option maxHeartbeats 8000000 in
set_option maxRecDepth 100000 in
theorem cm_M_addText (l : Launch) (dC : Nat → ClassId) (dI : Nat → Nat → Nat) (h : Nat) (q : Nat → Nat) (g : Nat → ClassId) (sz : Nat) (I : MI) (A : MA) (k1 k2 : Int32) (r : Int32) (I' : MI) (A' : MA) (hf : f_M_addText I A k1 k2 = some (r, I', A')) : Met l y_M_addText w_M_addText ({ frames := 1, cells := 0, slots := 0, locals := 21 }) (va_Pc [.ref h, .int k1, .int k2] (fun U => U.heap.size = sz ∧ va_P (dC, dI) vwCl (mw_W h q g I A) U.heap ∧ va_K (dC, dI) vwCl (mw_T g) U ∧ va_D (fun _ => True) (mw_W h q g I A))) (va_Qv (fun (u : Unit) => u = u) (fun (_ : Unit) t => va_P (dC, dI) vwCl (mw_W h q g I' A') t.heap ∧ va_K (dC, dI) vwCl (mw_T g) t ∧ va_D (va_A (mw_W h q g I A) sz) (mw_W h q g I' A')) (va_A (mw_W h q g I A) sz)) 0 0 (va_A (mw_W h q g I A) sz) := by
  refine Met.ofW (cc := prog_6_method_10_code) (maxL := 5) (ret := none) (by decide) rfl ?_
  intro p e s m args below meth c s₁ B hml hv
  obtain ⟨rfl, hsz, hP, hK, hD0⟩ := hv
  have hx := B.exec
  have hb := B.bytes
  have hr := B.returns
  have hts := atoms_spec (ws := w_M_addText) B.pre
  have hown : s.vm.findClass R_M = some m.cls := findClass_of_methodNamed B.named
  have hlocks := B.notSynchronized
  subst hsz
  have hD := hD0.self (sz := s.heap.size)
  generalize hAe : va_A (mw_W h q g I A) s.heap.size = B9 at hD ⊢
  have hA : ∀ q : Nat, s.heap.size ≤ q → B9 q := fun q h => by rw [← hAe]; exact Or.inr h
  clear hAe
  have hS : va_S B9 s.heap s.heap [] := va_S.rf
  have hl := lv_entry ([.ref h, .int k1, .int k2]) (n := 5) (Nat.le_of_ble_eq_true rfl)
  rw [lg_entry_eq]
  generalize (lg_sl ([.ref h, .int k1, .int k2]) ++ List.replicate (5 - (lg_sl ([.ref h, .int k1, .int k2])).length) Slot.unset).toArray = ls at hl ⊢
  have hl : lv_has ls 5 [(0, .ref h), (1, .int k1), (2, .int k2)] := hl
  have stp2 : ∀ (rc : Nat → MI → MA → (Nat → Int32) → Option (Int32 × MI × MA)) (hrc2 : ∀ (I : MI) (A : MA) (X : Nat → Int32) (ls : Array Slot) (H : Heap) (locs : List Loc), rc 2 I A X = some (r, I', A') → lv_has ls 5 [(0, .ref h), (1, .int (X 1)), (2, .int (X 2)), (3, .int (X 3))] → va_P (dC, dI) vwCl (mw_W h q g I A) H → va_D B9 (mw_W h q g I A) → va_S B9 s.heap H locs → W p l e (headSpec w_M_addText ({ frames := 1, cells := 0, slots := 0, locals := 21 })).room s m ([.ref h, .int k1, .int k2] : List Value).toArray below meth c H locs 0 0 (MQ below (va_Qv (fun (u : Unit) => u = u) (fun (_ : Unit) t => va_P (dC, dI) vwCl (mw_W h q g I' A') t.heap ∧ va_K (dC, dI) vwCl (mw_T g) t ∧ va_D B9 (mw_W h q g I' A')) B9) ([.ref h, .int k1, .int k2] : List Value).toArray s 0 0 B9) (F0 m 2 ls [])), ∀ (I : MI) (A : MA) (X : Nat → Int32) (ls : Array Slot) (H : Heap) (locs : List Loc), f_M_addText_2 rc I A X = some (r, I', A') → lv_has ls 5 [(0, .ref h), (1, .int (X 1)), (2, .int (X 2)), (3, .int (X 3))] → va_P (dC, dI) vwCl (mw_W h q g I A) H → va_D B9 (mw_W h q g I A) → va_S B9 s.heap H locs → W p l e (headSpec w_M_addText ({ frames := 1, cells := 0, slots := 0, locals := 21 })).room s m ([.ref h, .int k1, .int k2] : List Value).toArray below meth c H locs 0 0 (MQ below (va_Qv (fun (u : Unit) => u = u) (fun (_ : Unit) t => va_P (dC, dI) vwCl (mw_W h q g I' A') t.heap ∧ va_K (dC, dI) vwCl (mw_T g) t ∧ va_D B9 (mw_W h q g I' A')) B9) ([.ref h, .int k1, .int k2] : List Value).toArray s 0 0 B9) (F0 m 2 ls []) := by
    intro rc hrc2 I A X ls H locs hf hl hP hD hS
    unfold f_M_addText_2 at hf
    refine lv_iload_n hx hb d_M_addText_2 rfl (lv_at hl 3 rfl) ?_
    refine lv_iload_n hx hb d_M_addText_3 rfl (lv_at hl 2 rfl) ?_
    refine lv_icmp_ge (tgt := 26) hx hb d_M_addText_4 (by decide) (fun hc1 => ?_) (fun hc1 => ?_)
    ·
      have hf := wk_ift hc1 hf
      obtain ⟨e1, e2, e3⟩ := wk_inj hf
      subst e1
      subst e2
      subst e3
      exact W.vret hx hb hr (fun t ht hW => ⟨⟨(), rfl, rfl, by rw [ht]; exact hP, va_K.moved hW.alike hK, hD⟩, hS.F ht⟩) hS.2.2 d_M_addText_26
    ·
      have hf := wk_iff hc1 hf
      refine lv_aload_n hx hb d_M_addText_7 rfl (lv_at hl 0 rfl) ?_
      refine lv_iload_n hx hb d_M_addText_8 rfl (lv_at hl 3 rfl) ?_
      have hPc := hP.sub (ws' := (mw_W h q g I A)) [0, 1, 2, 3, 4, 5, 6, 7, 8, 9, 10, 11, 12, 13, 14, 15, 16, 17, 18, 19, 20] rfl
      have hDc := hD.sub (ws' := (mw_W h q g I A)) [0, 1, 2, 3, 4, 5, 6, 7, 8, 9, 10, 11, 12, 13, 14, 15, 16, 17, 18, 19, 20] (by decide) rfl
      have hKc := hK.sub (tys' := (mw_T g)) [0, 1, 2, 3, 4, 5, 6, 7, 8, 9, 10, 11, 12, 13, 14, 15, 16, 17, 18, 19] rfl
      have hFc := va_free (wc := (mw_W h q g I A)) hD hS hA [0, 1, 2, 3, 4, 5, 6, 7, 8, 9, 10, 11, 12, 13, 14, 15, 16, 17, 18, 19, 20] rfl
      cases hg1 : f_M_charAt I A (X 3) with
      | none => rw [hg1] at hf; cases hf
      | some z1 =>
        obtain ⟨r1, I1, A1⟩ := z1
        rw [hg1] at hf
        dsimp only [Option.bind_some] at hf
        refine va_calli (va_runV (As := [.int (X 3)]) (rest := []) ⟨hx, hb, hml, hown, hts⟩ (cm_M_charAt l dC dI h q g _ I A (X 3) r1 I1 A1 hg1) (cwV 1 hts (gd_v lk_51 lk_52 lk_53 lk_46 lk_50) rfl rfl rfl (by decide +kernel) ⟨Nat.le_of_ble_eq_true rfl, Nat.le_of_ble_eq_true rfl⟩) ⟨fun a U g mk q => by obtain ⟨q0, q1, qP, qK, qD⟩ := q; exact ⟨q0, q1, qP, va_K.moved (u := U) (U := U.calling g mk a) (Vm.Alike.refl U.vm) qK, qD⟩, va_recv (ci := 4) (q0 := 0) hK hP rfl rfl, fun U hU hW => ⟨rfl, by rw [hU], by rw [hU]; exact hPc, va_K.moved hW.alike hKc, hDc.weaken (fun _ _ _ _ => trivial)⟩⟩ rfl rfl hl.1 rfl (lv_room (Nat.le_of_ble_eq_true rfl)) d_M_addText_9 ⟨Nat.le_of_ble_eq_true rfl, Nat.le_of_ble_eq_true rfl⟩) hS (fun q _ h => hFc q h) hFc (fun r9 u t H1 locs ht hvm hw hB hz1 hk1 hS => ?_)
        obtain ⟨hP1, hK1, hD1⟩ := hB
        rw [ht] at hP1
        rw [hw]
        obtain ⟨hP, hD⟩ := va_join (wr := []) (w1 := (mw_W h q g I1 A1)) hP hD [0, 1, 2, 3, 4, 5, 6, 7, 8, 9, 10, 11, 12, 13, 14, 15, 16, 17, 18, 19, 20] [] rfl rfl (by decide) (by decide) hk1 hFc hP1 hD1
        generalize H1 = H at hP hS ⊢
        have hP : va_P (dC, dI) vwCl (mw_W h q g I1 A1) H := hP
        have hD : va_D B9 (mw_W h q g I1 A1) := hD
        refine lv_istore (lv' := [(4, .int r1), (0, .ref h), (1, .int (X 1)), (2, .int (X 2)), (3, .int (X 3))]) hx hb d_M_addText_12 hl (by decide) rfl (fun ls hl => ?_)
        have hl : lv_has ls 5 [(4, .int r1), (0, .ref h), (1, .int (X 1)), (2, .int (X 2)), (3, .int (X 3))] := hl
        refine lv_aload_n hx hb d_M_addText_14 rfl (lv_at hl 1 rfl) ?_
        refine lv_iload hx hb d_M_addText_15 (lv_at hl 0 rfl) ?_
        have hPc := hP.sub (ws' := (mw_W h q g I1 A1)) [0, 1, 2, 3, 4, 5, 6, 7, 8, 9, 10, 11, 12, 13, 14, 15, 16, 17, 18, 19, 20] rfl
        have hDc := hD.sub (ws' := (mw_W h q g I1 A1)) [0, 1, 2, 3, 4, 5, 6, 7, 8, 9, 10, 11, 12, 13, 14, 15, 16, 17, 18, 19, 20] (by decide) rfl
        have hKc := hK.sub (tys' := (mw_T g)) [0, 1, 2, 3, 4, 5, 6, 7, 8, 9, 10, 11, 12, 13, 14, 15, 16, 17, 18, 19] rfl
        have hFc := va_free (wc := (mw_W h q g I1 A1)) hD hS hA [0, 1, 2, 3, 4, 5, 6, 7, 8, 9, 10, 11, 12, 13, 14, 15, 16, 17, 18, 19, 20] rfl
        cases hg2 : f_M_add I1 A1 r1 with
        | none => rw [hg2] at hf; cases hf
        | some z2 =>
          obtain ⟨r2, I2, A2⟩ := z2
          rw [hg2] at hf
          dsimp only [Option.bind_some] at hf
          refine va_callv (va_runV (As := [.int r1]) (rest := []) ⟨hx, hb, hml, hown, hts⟩ (cm_M_add l dC dI h q g _ I1 A1 r1 r2 I2 A2 hg2) (cwV 1 hts (gd_v lk_43 lk_44 lk_45 lk_46 lk_40) rfl rfl rfl (by decide +kernel) ⟨Nat.le_of_ble_eq_true rfl, Nat.le_of_ble_eq_true rfl⟩) ⟨fun a U g mk q => by obtain ⟨q0, q1, qP, qK, qD⟩ := q; exact ⟨q0, q1, qP, va_K.moved (u := U) (U := U.calling g mk a) (Vm.Alike.refl U.vm) qK, qD⟩, va_recv (ci := 4) (q0 := 0) hK hP rfl rfl, fun U hU hW => ⟨rfl, by rw [hU], by rw [hU]; exact hPc, va_K.moved hW.alike hKc, hDc.weaken (fun _ _ _ _ => trivial)⟩⟩ rfl rfl hl.1 rfl (lv_room (Nat.le_of_ble_eq_true rfl)) d_M_addText_17 ⟨Nat.le_of_ble_eq_true rfl, Nat.le_of_ble_eq_true rfl⟩) hS (fun q _ h => hFc q h) hFc (fun u t H1 locs ht hvm hw hB hz1 hk1 hS => ?_)
          obtain ⟨hP1, hK1, hD1⟩ := hB
          rw [ht] at hP1
          obtain ⟨hP, hD⟩ := va_join (wr := []) (w1 := (mw_W h q g I2 A2)) hP hD [0, 1, 2, 3, 4, 5, 6, 7, 8, 9, 10, 11, 12, 13, 14, 15, 16, 17, 18, 19, 20] [] rfl rfl (by decide) (by decide) hk1 hFc hP1 hD1
          generalize H1 = H at hP hS ⊢
          have hP : va_P (dC, dI) vwCl (mw_W h q g I2 A2) H := hP
          have hD : va_D B9 (mw_W h q g I2 A2) := hD
          refine lv_iinc (k := 4) (v := ((X 3) + 1)) (lv' := [(3, .int ((X 3) + 1)), (4, .int r1), (0, .ref h), (1, .int (X 1)), (2, .int (X 2))]) hx hb d_M_addText_20 hl rfl (wk_inc (by decide)) (by decide) rfl (fun ls hl => ?_)
          have hl : lv_has ls 5 [(3, .int ((X 3) + 1)), (4, .int r1), (0, .ref h), (1, .int (X 1)), (2, .int (X 2))] := hl
          refine lv_goto (tgt := 2) hx hb d_M_addText_23 (by decide) ?_
          exact hrc2 I2 A2 (upd X 3 ((X 3) + 1)) _ _ _ hf (lv_sub hl [2, 3, 4, 0] rfl) hP hD hS
  have key : ∀ n : Nat, (∀ (I : MI) (A : MA) (X : Nat → Int32) (ls : Array Slot) (H : Heap) (locs : List Loc), f_M_addText_go n 2 I A X = some (r, I', A') → lv_has ls 5 [(0, .ref h), (1, .int (X 1)), (2, .int (X 2)), (3, .int (X 3))] → va_P (dC, dI) vwCl (mw_W h q g I A) H → va_D B9 (mw_W h q g I A) → va_S B9 s.heap H locs → W p l e (headSpec w_M_addText ({ frames := 1, cells := 0, slots := 0, locals := 21 })).room s m ([.ref h, .int k1, .int k2] : List Value).toArray below meth c H locs 0 0 (MQ below (va_Qv (fun (u : Unit) => u = u) (fun (_ : Unit) t => va_P (dC, dI) vwCl (mw_W h q g I' A') t.heap ∧ va_K (dC, dI) vwCl (mw_T g) t ∧ va_D B9 (mw_W h q g I' A')) B9) ([.ref h, .int k1, .int k2] : List Value).toArray s 0 0 B9) (F0 m 2 ls [])) := by
    intro n
    induction n with
    | zero => exact fun I A X ls H locs hf => (by cases hf)
    | succ n ih =>
      have ih2 := ih
      exact stp2 (f_M_addText_go n) ih2
  unfold f_M_addText f_M_addText_e at hf
  have hrc2 := key wk_FUEL
  refine lv_iload_n hx hb d_M_addText_0 rfl (lv_at hl 1 rfl) ?_
  refine lv_istore_n (lv' := [(3, .int k1), (0, .ref h), (1, .int k1), (2, .int k2)]) hx hb d_M_addText_1 rfl hl (by decide) rfl (fun ls hl => ?_)
  have hl : lv_has ls 5 [(3, .int k1), (0, .ref h), (1, .int k1), (2, .int k2)] := hl
  exact hrc2 I A (upd (upd (upd (fun _ => 0) 1 k1) 2 k2) 3 k1) _ _ _ hf (lv_sub hl [1, 2, 3, 0] rfl) hP hD hS

set_option maxHeartbeats 8000000 in
set_option maxRecDepth 100000 in
theorem cm_M_textLength (l : Launch) (dC : Nat → ClassId) (dI : Nat → Nat → Nat) (h : Nat) (q : Nat → Nat) (g : Nat → ClassId) (sz : Nat) (I : MI) (A : MA) (r : Int32) (I' : MI) (A' : MA) (hf : f_M_textLength I A  = some (r, I', A')) : Met l y_M_textLength w_M_textLength ({ frames := 0, cells := 0, slots := 0, locals := 0 }) (va_Pc [.ref h] (fun U => U.heap.size = sz ∧ va_P (dC, dI) vwCl (mw_W h q g I A) U.heap ∧ va_K (dC, dI) vwCl (mw_T g) U ∧ va_D (fun _ => True) (mw_W h q g I A))) (va_Qi (fun (r9 : Int32) (_ : Unit) => r9 = r) (fun (_ : Unit) t => va_P (dC, dI) vwCl (mw_W h q g I' A') t.heap ∧ va_K (dC, dI) vwCl (mw_T g) t ∧ va_D (va_A (mw_W h q g I A) sz) (mw_W h q g I' A')) (va_A (mw_W h q g I A) sz)) 0 0 (va_A (mw_W h q g I A) sz) := by
  refine Met.ofW (cc := prog_6_method_7_code) (maxL := 1) (ret := (some .int)) (by decide) rfl ?_
  intro p e s m args below meth c s₁ B hml hv
  obtain ⟨rfl, hsz, hP, hK, hD0⟩ := hv
  have hx := B.exec
  have hb := B.bytes
  have hr := B.returns
  have hts := atoms_spec (ws := w_M_textLength) B.pre
  have hown : s.vm.findClass R_M = some m.cls := findClass_of_methodNamed B.named
  have hlocks := B.notSynchronized
  subst hsz
  have hD := hD0.self (sz := s.heap.size)
  generalize hAe : va_A (mw_W h q g I A) s.heap.size = B9 at hD ⊢
  have hA : ∀ q : Nat, s.heap.size ≤ q → B9 q := fun q h => by rw [← hAe]; exact Or.inr h
  clear hAe
  have hS : va_S B9 s.heap s.heap [] := va_S.rf
  have hl := lv_entry ([.ref h]) (n := 1) (Nat.le_of_ble_eq_true rfl)
  rw [lg_entry_eq]
  generalize (lg_sl ([.ref h]) ++ List.replicate (1 - (lg_sl ([.ref h])).length) Slot.unset).toArray = ls at hl ⊢
  have hl : lv_has ls 1 [(0, .ref h)] := hl
  unfold f_M_textLength at hf
  refine lv_aload_n hx hb d_M_textLength_0 rfl (lv_at hl 0 rfl) ?_
  refine va_get (D := (dC, dI)) (ci := 4) (v := .ref (q 6)) (C := R_M) (T := F_M) (N := 38) hx hb hts (fun w h => List.mem_cons_of_mem _ (in_M w h)) hown hK hP 0 rfl rfl 6 (by decide) (hts _ (List.mem_cons_of_mem _ lk_55)) (fun _ h9 => h9) rfl d_M_textLength_1 ?_
  refine lv_aload_n hx hb d_M_textLength_4 rfl (lv_at hl 0 rfl) ?_
  refine va_get (D := (dC, dI)) (ci := 4) (v := .int (I 4)) (C := R_M) (T := F_M) (N := 38) hx hb hts (fun w h => List.mem_cons_of_mem _ (in_M w h)) hown hK hP 0 rfl rfl 4 (by decide) (hts _ (List.mem_cons_of_mem _ lk_49)) (fun _ h9 => h9) rfl d_M_textLength_5 ?_
  obtain ⟨hc1, hf⟩ := wk_if hf
  refine va_iald hx hb hK hP 3 2 rfl rfl (wk_inb_ok hc1) d_M_textLength_8 ?_
  obtain ⟨e1, e2, e3⟩ := wk_inj hf
  subst e1
  subst e2
  subst e3
  exact W.iret (v := ((A 6) ((I 4)).toNatClampNeg)) hx hb hr (fun t ht hW => ⟨⟨((A 6) ((I 4)).toNatClampNeg), (), rfl, rfl, by rw [ht]; exact hP, va_K.moved hW.alike hK, hD⟩, hS.F ht⟩) hS.2.2 d_M_textLength_9

set_option maxHeartbeats 8000000 in
set_option maxRecDepth 100000 in
theorem cm_M_at (l : Launch) (dC : Nat → ClassId) (dI : Nat → Nat → Nat) (h : Nat) (q : Nat → Nat) (g : Nat → ClassId) (sz : Nat) (I : MI) (A : MA) (k1 : Int32) (r : Int32) (I' : MI) (A' : MA) (hf : f_M_at I A k1 = some (r, I', A')) : Met l y_M_at w_M_at ({ frames := 1, cells := 0, slots := 0, locals := 21 }) (va_Pc [.ref h, .int k1] (fun U => U.heap.size = sz ∧ va_P (dC, dI) vwCl (mw_W h q g I A) U.heap ∧ va_K (dC, dI) vwCl (mw_T g) U ∧ va_D (fun _ => True) (mw_W h q g I A))) (va_Qi (fun (r9 : Int32) (_ : Unit) => r9 = r) (fun (_ : Unit) t => va_P (dC, dI) vwCl (mw_W h q g I' A') t.heap ∧ va_K (dC, dI) vwCl (mw_T g) t ∧ va_D (va_A (mw_W h q g I A) sz) (mw_W h q g I' A')) (va_A (mw_W h q g I A) sz)) 0 0 (va_A (mw_W h q g I A) sz) := by
  refine Met.ofW (cc := prog_6_method_48_code) (maxL := 2) (ret := (some .char)) (by decide) rfl ?_
  intro p e s m args below meth c s₁ B hml hv
  obtain ⟨rfl, hsz, hP, hK, hD0⟩ := hv
  have hx := B.exec
  have hb := B.bytes
  have hr := B.returns
  have hts := atoms_spec (ws := w_M_at) B.pre
  have hown : s.vm.findClass R_M = some m.cls := findClass_of_methodNamed B.named
  have hlocks := B.notSynchronized
  subst hsz
  have hD := hD0.self (sz := s.heap.size)
  generalize hAe : va_A (mw_W h q g I A) s.heap.size = B9 at hD ⊢
  have hA : ∀ q : Nat, s.heap.size ≤ q → B9 q := fun q h => by rw [← hAe]; exact Or.inr h
  clear hAe
  have hS : va_S B9 s.heap s.heap [] := va_S.rf
  have hl := lv_entry ([.ref h, .int k1]) (n := 2) (Nat.le_of_ble_eq_true rfl)
  rw [lg_entry_eq]
  generalize (lg_sl ([.ref h, .int k1]) ++ List.replicate (2 - (lg_sl ([.ref h, .int k1])).length) Slot.unset).toArray = ls at hl ⊢
  have hl : lv_has ls 2 [(0, .ref h), (1, .int k1)] := hl
  have blk37 : ∀ (I : MI) (A : MA) (X : Nat → Int32) (s0 : Int32) (ls : Array Slot) (H : Heap) (locs : List Loc), f_M_at_37 I A X s0 = some (r, I', A') → lv_has ls 2 [(0, .ref h), (1, .int (X 1))] → va_P (dC, dI) vwCl (mw_W h q g I A) H → va_D B9 (mw_W h q g I A) → va_S B9 s.heap H locs → W p l e (headSpec w_M_at ({ frames := 1, cells := 0, slots := 0, locals := 21 })).room s m ([.ref h, .int k1] : List Value).toArray below meth c H locs 0 0 (MQ below (va_Qi (fun (r9 : Int32) (_ : Unit) => r9 = r) (fun (_ : Unit) t => va_P (dC, dI) vwCl (mw_W h q g I' A') t.heap ∧ va_K (dC, dI) vwCl (mw_T g) t ∧ va_D B9 (mw_W h q g I' A')) B9) ([.ref h, .int k1] : List Value).toArray s 0 0 B9) (F0 m 37 ls [.int s0]) := by
    intro I A X s0 ls H locs hf hl hP hD hS
    unfold f_M_at_37 at hf
    obtain ⟨hn9, hf⟩ := wk_if hf
    obtain ⟨e1, e2, e3⟩ := wk_inj hf
    subst e1
    subst e2
    subst e3
    exact W.zret (v := s0) hx hb hr (congrArg Value.int hn9) (fun t ht hW => ⟨⟨s0, (), rfl, rfl, by rw [ht]; exact hP, va_K.moved hW.alike hK, hD⟩, hS.F ht⟩) hS.2.2 d_M_at_37
  have blk18 : ∀ (I : MI) (A : MA) (X : Nat → Int32) (s0 : Int32) (ls : Array Slot) (H : Heap) (locs : List Loc), f_M_at_18 I A X s0 = some (r, I', A') → lv_has ls 2 [(0, .ref h), (1, .int (X 1))] → va_P (dC, dI) vwCl (mw_W h q g I A) H → va_D B9 (mw_W h q g I A) → va_S B9 s.heap H locs → W p l e (headSpec w_M_at ({ frames := 1, cells := 0, slots := 0, locals := 21 })).room s m ([.ref h, .int k1] : List Value).toArray below meth c H locs 0 0 (MQ below (va_Qi (fun (r9 : Int32) (_ : Unit) => r9 = r) (fun (_ : Unit) t => va_P (dC, dI) vwCl (mw_W h q g I' A') t.heap ∧ va_K (dC, dI) vwCl (mw_T g) t ∧ va_D B9 (mw_W h q g I' A')) B9) ([.ref h, .int k1] : List Value).toArray s 0 0 B9) (F0 m 18 ls [.int s0, .ref h]) := by
    intro I A X s0 ls H locs hf hl hP hD hS
    unfold f_M_at_18 at hf
    refine va_put (D := (dC, dI)) (ci := 4) (v := .int s0) (ty := .int) (C := R_M) (T := F_M) (N := 38) hx hb hts (fun w h => List.mem_cons_of_mem _ (in_M w h)) t_M tk_M n_M hown hK hP hD hS 0 rfl rfl 0 (by decide) (hts _ (List.mem_cons_of_mem _ lk_60)) (fun _ h9 => h9) rfl (by decide +kernel) rfl rfl (Nat.le_of_ble_eq_true rfl) d_M_at_18 (fun H locs hP hD hS => ?_)
    obtain ⟨I1, hI1, hf⟩ := wk_letE hf
    have hP : va_P (dC, dI) vwCl (mw_W h q g I1 A) H := by rw [hI1]; exact hP
    have hD : va_D B9 (mw_W h q g I1 A) := by rw [hI1]; exact hD
    clear hI1
    refine lv_aload_n hx hb d_M_at_21 rfl (lv_at hl 0 rfl) ?_
    refine va_get (D := (dC, dI)) (ci := 4) (v := .int (I1 0)) (C := R_M) (T := F_M) (N := 38) hx hb hts (fun w h => List.mem_cons_of_mem _ (in_M w h)) hown hK hP 0 rfl rfl 0 (by decide) (hts _ (List.mem_cons_of_mem _ lk_60)) (fun _ h9 => h9) rfl d_M_at_22 ?_
    refine lv_if_ne (tgt := 36) hx hb d_M_at_25 (by decide) (fun hc1 => ?_) (fun hc1 => ?_)
    ·
      have hf := wk_iff hc1 hf
      refine lv_iconst (v := 0) hx hb d_M_at_36 (by decide) ?_
      exact blk37 I1 A X 0 _ _ _ hf (lv_sub hl [0, 1] rfl) hP hD hS
    ·
      have hf := wk_ift hc1 hf
      refine lv_aload_n hx hb d_M_at_28 rfl (lv_at hl 0 rfl) ?_
      refine lv_iload_n hx hb d_M_at_29 rfl (lv_at hl 1 rfl) ?_
      have hPc := hP.sub (ws' := (mw_W h q g I1 A)) [0, 1, 2, 3, 4, 5, 6, 7, 8, 9, 10, 11, 12, 13, 14, 15, 16, 17, 18, 19, 20] rfl
      have hDc := hD.sub (ws' := (mw_W h q g I1 A)) [0, 1, 2, 3, 4, 5, 6, 7, 8, 9, 10, 11, 12, 13, 14, 15, 16, 17, 18, 19, 20] (by decide) rfl
      have hKc := hK.sub (tys' := (mw_T g)) [0, 1, 2, 3, 4, 5, 6, 7, 8, 9, 10, 11, 12, 13, 14, 15, 16, 17, 18, 19] rfl
      have hFc := va_free (wc := (mw_W h q g I1 A)) hD hS hA [0, 1, 2, 3, 4, 5, 6, 7, 8, 9, 10, 11, 12, 13, 14, 15, 16, 17, 18, 19, 20] rfl
      cases hg2 : f_M_charAt I1 A (X 1) with
      | none => rw [hg2] at hf; cases hf
      | some z2 =>
        obtain ⟨r2, I2, A2⟩ := z2
        rw [hg2] at hf
        dsimp only [Option.bind_some] at hf
        refine va_calli (va_runV (As := [.int (X 1)]) (rest := []) ⟨hx, hb, hml, hown, hts⟩ (cm_M_charAt l dC dI h q g _ I1 A (X 1) r2 I2 A2 hg2) (cwV 1 hts (gd_v lk_51 lk_52 lk_53 lk_46 lk_50) rfl rfl rfl (by decide +kernel) ⟨Nat.le_of_ble_eq_true rfl, Nat.le_of_ble_eq_true rfl⟩) ⟨fun a U g mk q => by obtain ⟨q0, q1, qP, qK, qD⟩ := q; exact ⟨q0, q1, qP, va_K.moved (u := U) (U := U.calling g mk a) (Vm.Alike.refl U.vm) qK, qD⟩, va_recv (ci := 4) (q0 := 0) hK hP rfl rfl, fun U hU hW => ⟨rfl, by rw [hU], by rw [hU]; exact hPc, va_K.moved hW.alike hKc, hDc.weaken (fun _ _ _ _ => trivial)⟩⟩ rfl rfl hl.1 rfl (lv_room (Nat.le_of_ble_eq_true rfl)) d_M_at_30 ⟨Nat.le_of_ble_eq_true rfl, Nat.le_of_ble_eq_true rfl⟩) hS (fun q _ h => hFc q h) hFc (fun r9 u t H1 locs ht hvm hw hB hz1 hk1 hS => ?_)
        obtain ⟨hP1, hK1, hD1⟩ := hB
        rw [ht] at hP1
        rw [hw]
        obtain ⟨hP, hD⟩ := va_join (wr := []) (w1 := (mw_W h q g I2 A2)) hP hD [0, 1, 2, 3, 4, 5, 6, 7, 8, 9, 10, 11, 12, 13, 14, 15, 16, 17, 18, 19, 20] [] rfl rfl (by decide) (by decide) hk1 hFc hP1 hD1
        generalize H1 = H at hP hS ⊢
        have hP : va_P (dC, dI) vwCl (mw_W h q g I2 A2) H := hP
        have hD : va_D B9 (mw_W h q g I2 A2) := hD
        refine lv_goto (tgt := 37) hx hb d_M_at_33 (by decide) ?_
        exact blk37 I2 A2 X r2 _ _ _ hf (lv_sub hl [0, 1] rfl) hP hD hS
  have blk13 : ∀ (I : MI) (A : MA) (X : Nat → Int32) (ls : Array Slot) (H : Heap) (locs : List Loc), f_M_at_13 I A X = some (r, I', A') → lv_has ls 2 [(0, .ref h), (1, .int (X 1))] → va_P (dC, dI) vwCl (mw_W h q g I A) H → va_D B9 (mw_W h q g I A) → va_S B9 s.heap H locs → W p l e (headSpec w_M_at ({ frames := 1, cells := 0, slots := 0, locals := 21 })).room s m ([.ref h, .int k1] : List Value).toArray below meth c H locs 0 0 (MQ below (va_Qi (fun (r9 : Int32) (_ : Unit) => r9 = r) (fun (_ : Unit) t => va_P (dC, dI) vwCl (mw_W h q g I' A') t.heap ∧ va_K (dC, dI) vwCl (mw_T g) t ∧ va_D B9 (mw_W h q g I' A')) B9) ([.ref h, .int k1] : List Value).toArray s 0 0 B9) (F0 m 13 ls [.ref h]) := by
    intro I A X ls H locs hf hl hP hD hS
    unfold f_M_at_13 at hf
    refine lv_iconst (v := 1) hx hb d_M_at_13 (by decide) ?_
    refine lv_goto (tgt := 18) hx hb d_M_at_14 (by decide) ?_
    exact blk18 I A X 1 _ _ _ hf (lv_sub hl [0, 1] rfl) hP hD hS
  unfold f_M_at at hf
  refine lv_aload_n hx hb d_M_at_0 rfl (lv_at hl 0 rfl) ?_
  refine lv_iload_n hx hb d_M_at_1 rfl (lv_at hl 1 rfl) ?_
  refine lv_if_lt (tgt := 13) hx hb d_M_at_2 (by decide) (fun hc1 => ?_) (fun hc1 => ?_)
  ·
    have hf := wk_ift hc1 hf
    exact blk13 I A (upd (fun _ => 0) 1 k1) _ _ _ hf (lv_sub hl [0, 1] rfl) hP hD hS
  ·
    have hf := wk_iff hc1 hf
    refine lv_iload_n hx hb d_M_at_5 rfl (lv_at hl 1 rfl) ?_
    refine lv_aload_n hx hb d_M_at_6 rfl (lv_at hl 0 rfl) ?_
    have hPc := hP.sub (ws' := (mw_W h q g I A)) [0, 1, 2, 3, 4, 5, 6, 7, 8, 9, 10, 11, 12, 13, 14, 15, 16, 17, 18, 19, 20] rfl
    have hDc := hD.sub (ws' := (mw_W h q g I A)) [0, 1, 2, 3, 4, 5, 6, 7, 8, 9, 10, 11, 12, 13, 14, 15, 16, 17, 18, 19, 20] (by decide) rfl
    have hKc := hK.sub (tys' := (mw_T g)) [0, 1, 2, 3, 4, 5, 6, 7, 8, 9, 10, 11, 12, 13, 14, 15, 16, 17, 18, 19] rfl
    have hFc := va_free (wc := (mw_W h q g I A)) hD hS hA [0, 1, 2, 3, 4, 5, 6, 7, 8, 9, 10, 11, 12, 13, 14, 15, 16, 17, 18, 19, 20] rfl
    cases hg1 : f_M_textLength I A with
    | none => rw [hg1] at hf; cases hf
    | some z1 =>
      obtain ⟨r1, I1, A1⟩ := z1
      rw [hg1] at hf
      dsimp only [Option.bind_some] at hf
      refine va_calli (va_runV (As := []) (rest := [.int k1, .ref h]) ⟨hx, hb, hml, hown, hts⟩ (cm_M_textLength l dC dI h q g _ I A r1 I1 A1 hg1) (cwV 0 hts (gd_v lk_57 lk_58 lk_59 lk_46 lk_56) rfl rfl rfl (by decide +kernel) ⟨Nat.le_of_ble_eq_true rfl, Nat.le_of_ble_eq_true rfl⟩) ⟨fun a U g mk q => by obtain ⟨q0, q1, qP, qK, qD⟩ := q; exact ⟨q0, q1, qP, va_K.moved (u := U) (U := U.calling g mk a) (Vm.Alike.refl U.vm) qK, qD⟩, va_recv (ci := 4) (q0 := 0) hK hP rfl rfl, fun U hU hW => ⟨rfl, by rw [hU], by rw [hU]; exact hPc, va_K.moved hW.alike hKc, hDc.weaken (fun _ _ _ _ => trivial)⟩⟩ rfl rfl hl.1 rfl (lv_room (Nat.le_of_ble_eq_true rfl)) d_M_at_7 ⟨Nat.le_of_ble_eq_true rfl, Nat.le_of_ble_eq_true rfl⟩) hS (fun q _ h => hFc q h) hFc (fun r9 u t H1 locs ht hvm hw hB hz1 hk1 hS => ?_)
      obtain ⟨hP1, hK1, hD1⟩ := hB
      rw [ht] at hP1
      rw [hw]
      obtain ⟨hP, hD⟩ := va_join (wr := []) (w1 := (mw_W h q g I1 A1)) hP hD [0, 1, 2, 3, 4, 5, 6, 7, 8, 9, 10, 11, 12, 13, 14, 15, 16, 17, 18, 19, 20] [] rfl rfl (by decide) (by decide) hk1 hFc hP1 hD1
      generalize H1 = H at hP hS ⊢
      have hP : va_P (dC, dI) vwCl (mw_W h q g I1 A1) H := hP
      have hD : va_D B9 (mw_W h q g I1 A1) := hD
      refine lv_icmp_lt (tgt := 17) hx hb d_M_at_10 (by decide) (fun hc2 => ?_) (fun hc2 => ?_)
      ·
        have hf := wk_ift hc2 hf
        refine lv_iconst (v := 0) hx hb d_M_at_17 (by decide) ?_
        exact blk18 I1 A1 (upd (fun _ => 0) 1 k1) 0 _ _ _ hf (lv_sub hl [0, 1] rfl) hP hD hS
      ·
        have hf := wk_iff hc2 hf
        exact blk13 I1 A1 (upd (fun _ => 0) 1 k1) _ _ _ hf (lv_sub hl [0, 1] rfl) hP hD hS

set_option maxHeartbeats 8000000 in
set_option maxRecDepth 100000 in
theorem cm_M_link (l : Launch) (dC : Nat → ClassId) (dI : Nat → Nat → Nat) (h : Nat) (q : Nat → Nat) (g : Nat → ClassId) (sz : Nat) (I : MI) (A : MA) (k1 k2 : Int32) (r : Int32) (I' : MI) (A' : MA) (hf : f_M_link I A k1 k2 = some (r, I', A')) : Met l y_M_link w_M_link ({ frames := 0, cells := 0, slots := 0, locals := 0 }) (va_Pc [.ref h, .int k1, .int k2] (fun U => U.heap.size = sz ∧ va_P (dC, dI) vwCl (mw_W h q g I A) U.heap ∧ va_K (dC, dI) vwCl (mw_T g) U ∧ va_D (fun _ => True) (mw_W h q g I A))) (va_Qv (fun (u : Unit) => u = u) (fun (_ : Unit) t => va_P (dC, dI) vwCl (mw_W h q g I' A') t.heap ∧ va_K (dC, dI) vwCl (mw_T g) t ∧ va_D (va_A (mw_W h q g I A) sz) (mw_W h q g I' A')) (va_A (mw_W h q g I A) sz)) 0 0 (va_A (mw_W h q g I A) sz) := by
  refine Met.ofW (cc := prog_6_method_25_code) (maxL := 3) (ret := none) (by decide) rfl ?_
  intro p e s m args below meth c s₁ B hml hv
  obtain ⟨rfl, hsz, hP, hK, hD0⟩ := hv
  have hx := B.exec
  have hb := B.bytes
  have hr := B.returns
  have hts := atoms_spec (ws := w_M_link) B.pre
  have hown : s.vm.findClass R_M = some m.cls := findClass_of_methodNamed B.named
  have hlocks := B.notSynchronized
  subst hsz
  have hD := hD0.self (sz := s.heap.size)
  generalize hAe : va_A (mw_W h q g I A) s.heap.size = B9 at hD ⊢
  have hA : ∀ q : Nat, s.heap.size ≤ q → B9 q := fun q h => by rw [← hAe]; exact Or.inr h
  clear hAe
  have hS : va_S B9 s.heap s.heap [] := va_S.rf
  have hl := lv_entry ([.ref h, .int k1, .int k2]) (n := 3) (Nat.le_of_ble_eq_true rfl)
  rw [lg_entry_eq]
  generalize (lg_sl ([.ref h, .int k1, .int k2]) ++ List.replicate (3 - (lg_sl ([.ref h, .int k1, .int k2])).length) Slot.unset).toArray = ls at hl ⊢
  have hl : lv_has ls 3 [(0, .ref h), (1, .int k1), (2, .int k2)] := hl
  have blk26 : ∀ (I : MI) (A : MA) (X : Nat → Int32) (ls : Array Slot) (H : Heap) (locs : List Loc), f_M_link_26 I A X = some (r, I', A') → lv_has ls 3 [(0, .ref h), (1, .int (X 1)), (2, .int (X 2))] → va_P (dC, dI) vwCl (mw_W h q g I A) H → va_D B9 (mw_W h q g I A) → va_S B9 s.heap H locs → W p l e (headSpec w_M_link ({ frames := 0, cells := 0, slots := 0, locals := 0 })).room s m ([.ref h, .int k1, .int k2] : List Value).toArray below meth c H locs 0 0 (MQ below (va_Qv (fun (u : Unit) => u = u) (fun (_ : Unit) t => va_P (dC, dI) vwCl (mw_W h q g I' A') t.heap ∧ va_K (dC, dI) vwCl (mw_T g) t ∧ va_D B9 (mw_W h q g I' A')) B9) ([.ref h, .int k1, .int k2] : List Value).toArray s 0 0 B9) (F0 m 26 ls []) := by
    intro I A X ls H locs hf hl hP hD hS
    unfold f_M_link_26 at hf
    obtain ⟨e1, e2, e3⟩ := wk_inj hf
    subst e1
    subst e2
    subst e3
    exact W.vret hx hb hr (fun t ht hW => ⟨⟨(), rfl, rfl, by rw [ht]; exact hP, va_K.moved hW.alike hK, hD⟩, hS.F ht⟩) hS.2.2 d_M_link_26
  unfold f_M_link at hf
  refine lv_aload_n hx hb d_M_link_0 rfl (lv_at hl 0 rfl) ?_
  refine va_get (D := (dC, dI)) (ci := 4) (v := .ref (q 21)) (C := R_M) (T := F_M) (N := 38) hx hb hts (fun w h => List.mem_cons_of_mem _ (in_M w h)) hown hK hP 0 rfl rfl 21 (by decide) (hts _ (List.mem_cons_of_mem _ lk_64)) (fun _ h9 => h9) rfl d_M_link_1 ?_
  refine lv_iload_n hx hb d_M_link_4 rfl (lv_at hl 1 rfl) ?_
  obtain ⟨hc1, hf⟩ := wk_if hf
  refine va_iald hx hb hK hP 11 10 rfl rfl (wk_inb_ok hc1) d_M_link_5 ?_
  refine lv_if_ge (tgt := 19) hx hb d_M_link_6 (by decide) (fun hc2 => ?_) (fun hc2 => ?_)
  ·
    have hf := wk_ift hc2 hf
    refine lv_aload_n hx hb d_M_link_19 rfl (lv_at hl 0 rfl) ?_
    refine va_get (D := (dC, dI)) (ci := 4) (v := .ref (q 22)) (C := R_M) (T := F_M) (N := 38) hx hb hts (fun w h => List.mem_cons_of_mem _ (in_M w h)) hown hK hP 0 rfl rfl 22 (by decide) (hts _ (List.mem_cons_of_mem _ lk_65)) (fun _ h9 => h9) rfl d_M_link_20 ?_
    refine lv_iload_n hx hb d_M_link_23 rfl (lv_at hl 1 rfl) ?_
    refine lv_iload_n hx hb d_M_link_24 rfl (lv_at hl 2 rfl) ?_
    obtain ⟨hc3, hf⟩ := wk_if hf
    refine va_iast hx hb hK hP hD hS 12 11 rfl rfl (wk_inb_ok hc3) d_M_link_25 (fun H locs hP hD hS => ?_)
    obtain ⟨A1, hA1, hf⟩ := wk_letE hf
    have hP : va_P (dC, dI) vwCl (mw_W h q g I A1) H := by rw [hA1]; exact hP
    have hD : va_D B9 (mw_W h q g I A1) := by rw [hA1]; exact hD
    clear hA1
    exact blk26 I A1 (upd (upd (fun _ => 0) 1 k1) 2 k2) _ _ _ hf (lv_sub hl [0, 1, 2] rfl) hP hD hS
  ·
    have hf := wk_iff hc2 hf
    refine lv_aload_n hx hb d_M_link_9 rfl (lv_at hl 0 rfl) ?_
    refine va_get (D := (dC, dI)) (ci := 4) (v := .ref (q 21)) (C := R_M) (T := F_M) (N := 38) hx hb hts (fun w h => List.mem_cons_of_mem _ (in_M w h)) hown hK hP 0 rfl rfl 21 (by decide) (hts _ (List.mem_cons_of_mem _ lk_64)) (fun _ h9 => h9) rfl d_M_link_10 ?_
    refine lv_iload_n hx hb d_M_link_13 rfl (lv_at hl 1 rfl) ?_
    refine lv_iload_n hx hb d_M_link_14 rfl (lv_at hl 2 rfl) ?_
    obtain ⟨hc3, hf⟩ := wk_if hf
    refine va_iast hx hb hK hP hD hS 11 10 rfl rfl (wk_inb_ok hc3) d_M_link_15 (fun H locs hP hD hS => ?_)
    obtain ⟨A1, hA1, hf⟩ := wk_letE hf
    have hP : va_P (dC, dI) vwCl (mw_W h q g I A1) H := by rw [hA1]; exact hP
    have hD : va_D B9 (mw_W h q g I A1) := by rw [hA1]; exact hD
    clear hA1
    refine lv_goto (tgt := 26) hx hb d_M_link_16 (by decide) ?_
    exact blk26 I A1 (upd (upd (fun _ => 0) 1 k1) 2 k2) _ _ _ hf (lv_sub hl [0, 1, 2] rfl) hP hD hS

set_option maxHeartbeats 8000000 in
set_option maxRecDepth 100000 in
theorem cm_M_piece (l : Launch) (dC : Nat → ClassId) (dI : Nat → Nat → Nat) (h : Nat) (q : Nat → Nat) (g : Nat → ClassId) (sz : Nat) (I : MI) (A : MA) (k1 k2 : Int32) (r : Int32) (I' : MI) (A' : MA) (hf : f_M_piece I A k1 k2 = some (r, I', A')) : Met l y_M_piece w_M_piece ({ frames := 0, cells := 0, slots := 0, locals := 0 }) (va_Pc [.ref h, .int k1, .int k2] (fun U => U.heap.size = sz ∧ va_P (dC, dI) vwCl (mw_W h q g I A) U.heap ∧ va_K (dC, dI) vwCl (mw_T g) U ∧ va_D (fun _ => True) (mw_W h q g I A))) (va_Qi (fun (r9 : Int32) (_ : Unit) => r9 = r) (fun (_ : Unit) t => va_P (dC, dI) vwCl (mw_W h q g I' A') t.heap ∧ va_K (dC, dI) vwCl (mw_T g) t ∧ va_D (va_A (mw_W h q g I A) sz) (mw_W h q g I' A')) (va_A (mw_W h q g I A) sz)) 0 0 (va_A (mw_W h q g I A) sz) := by
  refine Met.ofW (cc := prog_6_method_26_code) (maxL := 3) (ret := (some .int)) (by decide) rfl ?_
  intro p e s m args below meth c s₁ B hml hv
  obtain ⟨rfl, hsz, hP, hK, hD0⟩ := hv
  have hx := B.exec
  have hb := B.bytes
  have hr := B.returns
  have hts := atoms_spec (ws := w_M_piece) B.pre
  have hown : s.vm.findClass R_M = some m.cls := findClass_of_methodNamed B.named
  have hlocks := B.notSynchronized
  subst hsz
  have hD := hD0.self (sz := s.heap.size)
  generalize hAe : va_A (mw_W h q g I A) s.heap.size = B9 at hD ⊢
  have hA : ∀ q : Nat, s.heap.size ≤ q → B9 q := fun q h => by rw [← hAe]; exact Or.inr h
  clear hAe
  have hS : va_S B9 s.heap s.heap [] := va_S.rf
  have hl := lv_entry ([.ref h, .int k1, .int k2]) (n := 3) (Nat.le_of_ble_eq_true rfl)
  rw [lg_entry_eq]
  generalize (lg_sl ([.ref h, .int k1, .int k2]) ++ List.replicate (3 - (lg_sl ([.ref h, .int k1, .int k2])).length) Slot.unset).toArray = ls at hl ⊢
  have hl : lv_has ls 3 [(0, .ref h), (1, .int k1), (2, .int k2)] := hl
  unfold f_M_piece at hf
  refine lv_aload_n hx hb d_M_piece_0 rfl (lv_at hl 0 rfl) ?_
  refine va_get (D := (dC, dI)) (ci := 4) (v := .ref (q 26)) (C := R_M) (T := F_M) (N := 38) hx hb hts (fun w h => List.mem_cons_of_mem _ (in_M w h)) hown hK hP 0 rfl rfl 26 (by decide) (hts _ (List.mem_cons_of_mem _ lk_63)) (fun _ h9 => h9) rfl d_M_piece_1 ?_
  refine lv_aload_n hx hb d_M_piece_4 rfl (lv_at hl 0 rfl) ?_
  refine va_get (D := (dC, dI)) (ci := 4) (v := .int (I 25)) (C := R_M) (T := F_M) (N := 38) hx hb hts (fun w h => List.mem_cons_of_mem _ (in_M w h)) hown hK hP 0 rfl rfl 25 (by decide) (hts _ (List.mem_cons_of_mem _ lk_70)) (fun _ h9 => h9) rfl d_M_piece_5 ?_
  refine lv_iload_n hx hb d_M_piece_8 rfl (lv_at hl 1 rfl) ?_
  obtain ⟨hc1, hf⟩ := wk_if hf
  refine va_iast hx hb hK hP hD hS 13 12 rfl rfl (wk_inb_ok hc1) d_M_piece_9 (fun H locs hP hD hS => ?_)
  obtain ⟨A1, hA1, hf⟩ := wk_letE hf
  have hP : va_P (dC, dI) vwCl (mw_W h q g I A1) H := by rw [hA1]; exact hP
  have hD : va_D B9 (mw_W h q g I A1) := by rw [hA1]; exact hD
  clear hA1
  refine lv_aload_n hx hb d_M_piece_10 rfl (lv_at hl 0 rfl) ?_
  refine va_get (D := (dC, dI)) (ci := 4) (v := .ref (q 27)) (C := R_M) (T := F_M) (N := 38) hx hb hts (fun w h => List.mem_cons_of_mem _ (in_M w h)) hown hK hP 0 rfl rfl 27 (by decide) (hts _ (List.mem_cons_of_mem _ lk_62)) (fun _ h9 => h9) rfl d_M_piece_11 ?_
  refine lv_aload_n hx hb d_M_piece_14 rfl (lv_at hl 0 rfl) ?_
  refine va_get (D := (dC, dI)) (ci := 4) (v := .int (I 25)) (C := R_M) (T := F_M) (N := 38) hx hb hts (fun w h => List.mem_cons_of_mem _ (in_M w h)) hown hK hP 0 rfl rfl 25 (by decide) (hts _ (List.mem_cons_of_mem _ lk_70)) (fun _ h9 => h9) rfl d_M_piece_15 ?_
  refine lv_iload_n hx hb d_M_piece_18 rfl (lv_at hl 2 rfl) ?_
  obtain ⟨hc2, hf⟩ := wk_if hf
  refine va_iast hx hb hK hP hD hS 14 13 rfl rfl (wk_inb_ok hc2) d_M_piece_19 (fun H locs hP hD hS => ?_)
  obtain ⟨A2, hA2, hf⟩ := wk_letE hf
  have hP : va_P (dC, dI) vwCl (mw_W h q g I A2) H := by rw [hA2]; exact hP
  have hD : va_D B9 (mw_W h q g I A2) := by rw [hA2]; exact hD
  clear hA2
  refine lv_aload_n hx hb d_M_piece_20 rfl (lv_at hl 0 rfl) ?_
  refine lv_dup hx hb d_M_piece_21 rfl ?_
  refine va_get (D := (dC, dI)) (ci := 4) (v := .int (I 25)) (C := R_M) (T := F_M) (N := 38) hx hb hts (fun w h => List.mem_cons_of_mem _ (in_M w h)) hown hK hP 0 rfl rfl 25 (by decide) (hts _ (List.mem_cons_of_mem _ lk_70)) (fun _ h9 => h9) rfl d_M_piece_22 ?_
  refine lv_iconst (v := 1) hx hb d_M_piece_25 (by decide) ?_
  refine lv_iadd hx hb d_M_piece_26 ?_
  refine va_put (D := (dC, dI)) (ci := 4) (v := .int ((I 25) + 1)) (ty := .int) (C := R_M) (T := F_M) (N := 38) hx hb hts (fun w h => List.mem_cons_of_mem _ (in_M w h)) t_M tk_M n_M hown hK hP hD hS 0 rfl rfl 25 (by decide) (hts _ (List.mem_cons_of_mem _ lk_70)) (fun _ h9 => h9) rfl (by decide +kernel) rfl rfl (Nat.le_of_ble_eq_true rfl) d_M_piece_27 (fun H locs hP hD hS => ?_)
  obtain ⟨I3, hI3, hf⟩ := wk_letE hf
  have hP : va_P (dC, dI) vwCl (mw_W h q g I3 A2) H := by rw [hI3]; exact hP
  have hD : va_D B9 (mw_W h q g I3 A2) := by rw [hI3]; exact hD
  clear hI3
  refine lv_aload_n hx hb d_M_piece_30 rfl (lv_at hl 0 rfl) ?_
  refine va_get (D := (dC, dI)) (ci := 4) (v := .int (I3 25)) (C := R_M) (T := F_M) (N := 38) hx hb hts (fun w h => List.mem_cons_of_mem _ (in_M w h)) hown hK hP 0 rfl rfl 25 (by decide) (hts _ (List.mem_cons_of_mem _ lk_70)) (fun _ h9 => h9) rfl d_M_piece_31 ?_
  refine lv_iconst (v := 1) hx hb d_M_piece_34 (by decide) ?_
  refine lv_isub hx hb d_M_piece_35 ?_
  obtain ⟨e1, e2, e3⟩ := wk_inj hf
  subst e1
  subst e2
  subst e3
  exact W.iret (v := ((I3 25) - 1)) hx hb hr (fun t ht hW => ⟨⟨((I3 25) - 1), (), rfl, rfl, by rw [ht]; exact hP, va_K.moved hW.alike hK, hD⟩, hS.F ht⟩) hS.2.2 d_M_piece_36

-- 16.mcon01
set_option maxHeartbeats 8000000 in
set_option maxRecDepth 100000 in
theorem cm_M_behind (l : Launch) (dC : Nat → ClassId) (dI : Nat → Nat → Nat) (h : Nat) (q : Nat → Nat) (g : Nat → ClassId) (sz : Nat) (I : MI) (A : MA) (k1 k2 : Int32) (r : Int32) (I' : MI) (A' : MA) (hf : f_M_behind I A k1 k2 = some (r, I', A')) : Met l y_M_behind w_M_behind ({ frames := 1, cells := 0, slots := 0, locals := 22 }) (va_Pc [.ref h, .int k1, .int k2] (fun U => U.heap.size = sz ∧ va_P (dC, dI) vwCl (mw_W h q g I A) U.heap ∧ va_K (dC, dI) vwCl (mw_T g) U ∧ va_D (fun _ => True) (mw_W h q g I A))) (va_Qi (fun (r9 : Int32) (_ : Unit) => r9 = r) (fun (_ : Unit) t => va_P (dC, dI) vwCl (mw_W h q g I' A') t.heap ∧ va_K (dC, dI) vwCl (mw_T g) t ∧ va_D (va_A (mw_W h q g I A) sz) (mw_W h q g I' A')) (va_A (mw_W h q g I A) sz)) 0 0 (va_A (mw_W h q g I A) sz) := by
  refine Met.ofW (cc := prog_6_method_29_code) (maxL := 3) (ret := (some .int)) (by decide) rfl ?_
  intro p e s m args below meth c s₁ B hml hv
  obtain ⟨rfl, hsz, hP, hK, hD0⟩ := hv
  have hx := B.exec
  have hb := B.bytes
  have hr := B.returns
  have hts := atoms_spec (ws := w_M_behind) B.pre
  have hown : s.vm.findClass R_M = some m.cls := findClass_of_methodNamed B.named
  have hlocks := B.notSynchronized
  subst hsz
  have hD := hD0.self (sz := s.heap.size)
  generalize hAe : va_A (mw_W h q g I A) s.heap.size = B9 at hD ⊢
  have hA : ∀ q : Nat, s.heap.size ≤ q → B9 q := fun q h => by rw [← hAe]; exact Or.inr h
  clear hAe
  have hS : va_S B9 s.heap s.heap [] := va_S.rf
  have hl := lv_entry ([.ref h, .int k1, .int k2]) (n := 3) (Nat.le_of_ble_eq_true rfl)
  rw [lg_entry_eq]
  generalize (lg_sl ([.ref h, .int k1, .int k2]) ++ List.replicate (3 - (lg_sl ([.ref h, .int k1, .int k2])).length) Slot.unset).toArray = ls at hl ⊢
  have hl : lv_has ls 3 [(0, .ref h), (1, .int k1), (2, .int k2)] := hl
  unfold f_M_behind at hf
  refine lv_iload_n hx hb d_M_behind_0 rfl (lv_at hl 2 rfl) ?_
  refine lv_if_ge (tgt := 6) hx hb d_M_behind_1 (by decide) (fun hc1 => ?_) (fun hc1 => ?_)
  ·
    have hf := wk_ift hc1 hf
    refine lv_aload_n hx hb d_M_behind_6 rfl (lv_at hl 0 rfl) ?_
    refine lv_aload_n hx hb d_M_behind_7 rfl (lv_at hl 0 rfl) ?_
    refine va_get (D := (dC, dI)) (ci := 4) (v := .ref (q 27)) (C := R_M) (T := F_M) (N := 38) hx hb hts (fun w h => List.mem_cons_of_mem _ (in_M w h)) hown hK hP 0 rfl rfl 27 (by decide) (hts _ (List.mem_cons_of_mem _ lk_62)) (fun _ h9 => h9) rfl d_M_behind_8 ?_
    refine lv_iload_n hx hb d_M_behind_11 rfl (lv_at hl 1 rfl) ?_
    obtain ⟨hc2, hf⟩ := wk_if hf
    refine va_iald hx hb hK hP 14 13 rfl rfl (wk_inb_ok hc2) d_M_behind_12 ?_
    refine lv_aload_n hx hb d_M_behind_13 rfl (lv_at hl 0 rfl) ?_
    refine va_get (D := (dC, dI)) (ci := 4) (v := .ref (q 26)) (C := R_M) (T := F_M) (N := 38) hx hb hts (fun w h => List.mem_cons_of_mem _ (in_M w h)) hown hK hP 0 rfl rfl 26 (by decide) (hts _ (List.mem_cons_of_mem _ lk_63)) (fun _ h9 => h9) rfl d_M_behind_14 ?_
    refine lv_iload_n hx hb d_M_behind_17 rfl (lv_at hl 2 rfl) ?_
    obtain ⟨hc3, hf⟩ := wk_if hf
    refine va_iald hx hb hK hP 13 12 rfl rfl (wk_inb_ok hc3) d_M_behind_18 ?_
    have hPc := hP.sub (ws' := (mw_W h q g I A)) [0, 1, 2, 3, 4, 5, 6, 7, 8, 9, 10, 11, 12, 13, 14, 15, 16, 17, 18, 19, 20] rfl
    have hDc := hD.sub (ws' := (mw_W h q g I A)) [0, 1, 2, 3, 4, 5, 6, 7, 8, 9, 10, 11, 12, 13, 14, 15, 16, 17, 18, 19, 20] (by decide) rfl
    have hKc := hK.sub (tys' := (mw_T g)) [0, 1, 2, 3, 4, 5, 6, 7, 8, 9, 10, 11, 12, 13, 14, 15, 16, 17, 18, 19] rfl
    have hFc := va_free (wc := (mw_W h q g I A)) hD hS hA [0, 1, 2, 3, 4, 5, 6, 7, 8, 9, 10, 11, 12, 13, 14, 15, 16, 17, 18, 19, 20] rfl
    cases hg1 : f_M_link I A ((A 27) (k1).toNatClampNeg) ((A 26) (k2).toNatClampNeg) with
    | none => rw [hg1] at hf; cases hf
    | some z1 =>
      obtain ⟨r1, I1, A1⟩ := z1
      rw [hg1] at hf
      dsimp only [Option.bind_some] at hf
      refine va_callv (va_runV (As := [.int ((A 27) (k1).toNatClampNeg), .int ((A 26) (k2).toNatClampNeg)]) (rest := []) ⟨hx, hb, hml, hown, hts⟩ (cm_M_link l dC dI h q g _ I A ((A 27) (k1).toNatClampNeg) ((A 26) (k2).toNatClampNeg) r1 I1 A1 hg1) (cwV 2 hts (gd_v lk_67 lk_68 lk_69 lk_46 lk_66) rfl rfl rfl (by decide +kernel) ⟨Nat.le_of_ble_eq_true rfl, Nat.le_of_ble_eq_true rfl⟩) ⟨fun a U g mk q => by obtain ⟨q0, q1, qP, qK, qD⟩ := q; exact ⟨q0, q1, qP, va_K.moved (u := U) (U := U.calling g mk a) (Vm.Alike.refl U.vm) qK, qD⟩, va_recv (ci := 4) (q0 := 0) hK hP rfl rfl, fun U hU hW => ⟨rfl, by rw [hU], by rw [hU]; exact hPc, va_K.moved hW.alike hKc, hDc.weaken (fun _ _ _ _ => trivial)⟩⟩ rfl rfl hl.1 rfl (lv_room (Nat.le_of_ble_eq_true rfl)) d_M_behind_19 ⟨Nat.le_of_ble_eq_true rfl, Nat.le_of_ble_eq_true rfl⟩) hS (fun q _ h => hFc q h) hFc (fun u t H1 locs ht hvm hw hB hz1 hk1 hS => ?_)
      obtain ⟨hP1, hK1, hD1⟩ := hB
      rw [ht] at hP1
      obtain ⟨hP, hD⟩ := va_join (wr := []) (w1 := (mw_W h q g I1 A1)) hP hD [0, 1, 2, 3, 4, 5, 6, 7, 8, 9, 10, 11, 12, 13, 14, 15, 16, 17, 18, 19, 20] [] rfl rfl (by decide) (by decide) hk1 hFc hP1 hD1
      generalize H1 = H at hP hS ⊢
      have hP : va_P (dC, dI) vwCl (mw_W h q g I1 A1) H := hP
      have hD : va_D B9 (mw_W h q g I1 A1) := hD
      refine lv_aload_n hx hb d_M_behind_22 rfl (lv_at hl 0 rfl) ?_
      refine lv_aload_n hx hb d_M_behind_23 rfl (lv_at hl 0 rfl) ?_
      refine va_get (D := (dC, dI)) (ci := 4) (v := .ref (q 26)) (C := R_M) (T := F_M) (N := 38) hx hb hts (fun w h => List.mem_cons_of_mem _ (in_M w h)) hown hK hP 0 rfl rfl 26 (by decide) (hts _ (List.mem_cons_of_mem _ lk_63)) (fun _ h9 => h9) rfl d_M_behind_24 ?_
      refine lv_iload_n hx hb d_M_behind_27 rfl (lv_at hl 1 rfl) ?_
      obtain ⟨hc4, hf⟩ := wk_if hf
      refine va_iald hx hb hK hP 13 12 rfl rfl (wk_inb_ok hc4) d_M_behind_28 ?_
      refine lv_aload_n hx hb d_M_behind_29 rfl (lv_at hl 0 rfl) ?_
      refine va_get (D := (dC, dI)) (ci := 4) (v := .ref (q 27)) (C := R_M) (T := F_M) (N := 38) hx hb hts (fun w h => List.mem_cons_of_mem _ (in_M w h)) hown hK hP 0 rfl rfl 27 (by decide) (hts _ (List.mem_cons_of_mem _ lk_62)) (fun _ h9 => h9) rfl d_M_behind_30 ?_
      refine lv_iload_n hx hb d_M_behind_33 rfl (lv_at hl 2 rfl) ?_
      obtain ⟨hc5, hf⟩ := wk_if hf
      refine va_iald hx hb hK hP 14 13 rfl rfl (wk_inb_ok hc5) d_M_behind_34 ?_
      have hPc := hP.sub (ws' := (mw_W h q g I1 A1)) [0, 1, 2, 3, 4, 5, 6, 7, 8, 9, 10, 11, 12, 13, 14, 15, 16, 17, 18, 19, 20] rfl
      have hDc := hD.sub (ws' := (mw_W h q g I1 A1)) [0, 1, 2, 3, 4, 5, 6, 7, 8, 9, 10, 11, 12, 13, 14, 15, 16, 17, 18, 19, 20] (by decide) rfl
      have hKc := hK.sub (tys' := (mw_T g)) [0, 1, 2, 3, 4, 5, 6, 7, 8, 9, 10, 11, 12, 13, 14, 15, 16, 17, 18, 19] rfl
      have hFc := va_free (wc := (mw_W h q g I1 A1)) hD hS hA [0, 1, 2, 3, 4, 5, 6, 7, 8, 9, 10, 11, 12, 13, 14, 15, 16, 17, 18, 19, 20] rfl
      cases hg2 : f_M_piece I1 A1 ((A1 26) (k1).toNatClampNeg) ((A1 27) (k2).toNatClampNeg) with
      | none => rw [hg2] at hf; cases hf
      | some z2 =>
        obtain ⟨r2, I2, A2⟩ := z2
        rw [hg2] at hf
        dsimp only [Option.bind_some] at hf
        refine va_calli (va_runV (As := [.int ((A1 26) (k1).toNatClampNeg), .int ((A1 27) (k2).toNatClampNeg)]) (rest := []) ⟨hx, hb, hml, hown, hts⟩ (cm_M_piece l dC dI h q g _ I1 A1 ((A1 26) (k1).toNatClampNeg) ((A1 27) (k2).toNatClampNeg) r2 I2 A2 hg2) (cwV 2 hts (gd_v lk_72 lk_73 lk_74 lk_46 lk_71) rfl rfl rfl (by decide +kernel) ⟨Nat.le_of_ble_eq_true rfl, Nat.le_of_ble_eq_true rfl⟩) ⟨fun a U g mk q => by obtain ⟨q0, q1, qP, qK, qD⟩ := q; exact ⟨q0, q1, qP, va_K.moved (u := U) (U := U.calling g mk a) (Vm.Alike.refl U.vm) qK, qD⟩, va_recv (ci := 4) (q0 := 0) hK hP rfl rfl, fun U hU hW => ⟨rfl, by rw [hU], by rw [hU]; exact hPc, va_K.moved hW.alike hKc, hDc.weaken (fun _ _ _ _ => trivial)⟩⟩ rfl rfl hl.1 rfl (lv_room (Nat.le_of_ble_eq_true rfl)) d_M_behind_35 ⟨Nat.le_of_ble_eq_true rfl, Nat.le_of_ble_eq_true rfl⟩) hS (fun q _ h => hFc q h) hFc (fun r9 u t H1 locs ht hvm hw hB hz1 hk1 hS => ?_)
        obtain ⟨hP1, hK1, hD1⟩ := hB
        rw [ht] at hP1
        rw [hw]
        obtain ⟨hP, hD⟩ := va_join (wr := []) (w1 := (mw_W h q g I2 A2)) hP hD [0, 1, 2, 3, 4, 5, 6, 7, 8, 9, 10, 11, 12, 13, 14, 15, 16, 17, 18, 19, 20] [] rfl rfl (by decide) (by decide) hk1 hFc hP1 hD1
        generalize H1 = H at hP hS ⊢
        have hP : va_P (dC, dI) vwCl (mw_W h q g I2 A2) H := hP
        have hD : va_D B9 (mw_W h q g I2 A2) := hD
        obtain ⟨e1, e2, e3⟩ := wk_inj hf
        subst e1
        subst e2
        subst e3
        exact W.iret (v := r2) hx hb hr (fun t ht hW => ⟨⟨r2, (), rfl, rfl, by rw [ht]; exact hP, va_K.moved hW.alike hK, hD⟩, hS.F ht⟩) hS.2.2 d_M_behind_38
  ·
    have hf := wk_iff hc1 hf
    refine lv_iload_n hx hb d_M_behind_4 rfl (lv_at hl 1 rfl) ?_
    obtain ⟨e1, e2, e3⟩ := wk_inj hf
    subst e1
    subst e2
    subst e3
    exact W.iret (v := k1) hx hb hr (fun t ht hW => ⟨⟨k1, (), rfl, rfl, by rw [ht]; exact hP, va_K.moved hW.alike hK, hD⟩, hS.F ht⟩) hS.2.2 d_M_behind_5

set_option maxHeartbeats 8000000 in
set_option maxRecDepth 100000 in
theorem cm_M_breaks (l : Launch) (dC : Nat → ClassId) (dI : Nat → Nat → Nat) (h : Nat) (q : Nat → Nat) (g : Nat → ClassId) (sz : Nat) (I : MI) (A : MA) (k1 : Int32) (r : Int32) (I' : MI) (A' : MA) (hf : f_M_breaks I A k1 = some (r, I', A')) : Met l y_M_breaks w_M_breaks ({ frames := 1, cells := 0, slots := 0, locals := 21 }) (va_Pc [.ref h, .int k1] (fun U => U.heap.size = sz ∧ va_P (dC, dI) vwCl (mw_W h q g I A) U.heap ∧ va_K (dC, dI) vwCl (mw_T g) U ∧ va_D (fun _ => True) (mw_W h q g I A))) (va_Qi (fun (r9 : Int32) (_ : Unit) => r9 = r) (fun (_ : Unit) t => va_P (dC, dI) vwCl (mw_W h q g I' A') t.heap ∧ va_K (dC, dI) vwCl (mw_T g) t ∧ va_D (va_A (mw_W h q g I A) sz) (mw_W h q g I' A')) (va_A (mw_W h q g I A) sz)) 0 0 (va_A (mw_W h q g I A) sz) := by
  refine Met.ofW (cc := prog_6_method_49_code) (maxL := 4) (ret := (some .int)) (by decide) rfl ?_
  intro p e s m args below meth c s₁ B hml hv
  obtain ⟨rfl, hsz, hP, hK, hD0⟩ := hv
  have hx := B.exec
  have hb := B.bytes
  have hr := B.returns
  have hts := atoms_spec (ws := w_M_breaks) B.pre
  have hown : s.vm.findClass R_M = some m.cls := findClass_of_methodNamed B.named
  have hlocks := B.notSynchronized
  subst hsz
  have hD := hD0.self (sz := s.heap.size)
  generalize hAe : va_A (mw_W h q g I A) s.heap.size = B9 at hD ⊢
  have hA : ∀ q : Nat, s.heap.size ≤ q → B9 q := fun q h => by rw [← hAe]; exact Or.inr h
  clear hAe
  have hS : va_S B9 s.heap s.heap [] := va_S.rf
  have hl := lv_entry ([.ref h, .int k1]) (n := 4) (Nat.le_of_ble_eq_true rfl)
  rw [lg_entry_eq]
  generalize (lg_sl ([.ref h, .int k1]) ++ List.replicate (4 - (lg_sl ([.ref h, .int k1])).length) Slot.unset).toArray = ls at hl ⊢
  have hl : lv_has ls 4 [(0, .ref h), (1, .int k1)] := hl
  have blk25 : ∀ (rc : Nat → MI → MA → (Nat → Int32) → Option (Int32 × MI × MA)) (hrc4 : ∀ (I : MI) (A : MA) (X : Nat → Int32) (ls : Array Slot) (H : Heap) (locs : List Loc), rc 4 I A X = some (r, I', A') → lv_has ls 4 [(0, .ref h), (1, .int (X 1)), (2, .int (X 2)), (3, .int (X 3))] → va_P (dC, dI) vwCl (mw_W h q g I A) H → va_D B9 (mw_W h q g I A) → va_S B9 s.heap H locs → W p l e (headSpec w_M_breaks ({ frames := 1, cells := 0, slots := 0, locals := 21 })).room s m ([.ref h, .int k1] : List Value).toArray below meth c H locs 0 0 (MQ below (va_Qi (fun (r9 : Int32) (_ : Unit) => r9 = r) (fun (_ : Unit) t => va_P (dC, dI) vwCl (mw_W h q g I' A') t.heap ∧ va_K (dC, dI) vwCl (mw_T g) t ∧ va_D B9 (mw_W h q g I' A')) B9) ([.ref h, .int k1] : List Value).toArray s 0 0 B9) (F0 m 4 ls [])), ∀ (I : MI) (A : MA) (X : Nat → Int32) (s0 : Int32) (s1 : Int32) (ls : Array Slot) (H : Heap) (locs : List Loc), f_M_breaks_25 rc I A X s0 s1 = some (r, I', A') → lv_has ls 4 [(0, .ref h), (1, .int (X 1)), (2, .int (X 2)), (3, .int (X 3))] → va_P (dC, dI) vwCl (mw_W h q g I A) H → va_D B9 (mw_W h q g I A) → va_S B9 s.heap H locs → W p l e (headSpec w_M_breaks ({ frames := 1, cells := 0, slots := 0, locals := 21 })).room s m ([.ref h, .int k1] : List Value).toArray below meth c H locs 0 0 (MQ below (va_Qi (fun (r9 : Int32) (_ : Unit) => r9 = r) (fun (_ : Unit) t => va_P (dC, dI) vwCl (mw_W h q g I' A') t.heap ∧ va_K (dC, dI) vwCl (mw_T g) t ∧ va_D B9 (mw_W h q g I' A')) B9) ([.ref h, .int k1] : List Value).toArray s 0 0 B9) (F0 m 25 ls [.int s0, .int s1]) := by
    intro rc hrc4 I A X s0 s1 ls H locs hf hl hP hD hS
    unfold f_M_breaks_25 at hf
    refine lv_iadd hx hb d_M_breaks_25 ?_
    refine lv_istore_n (lv' := [(2, .int (s1 + s0)), (0, .ref h), (1, .int (X 1)), (3, .int (X 3))]) hx hb d_M_breaks_26 rfl hl (by decide) rfl (fun ls hl => ?_)
    have hl : lv_has ls 4 [(2, .int (s1 + s0)), (0, .ref h), (1, .int (X 1)), (3, .int (X 3))] := hl
    refine lv_iinc (k := 3) (v := ((X 3) + 1)) (lv' := [(3, .int ((X 3) + 1)), (2, .int (s1 + s0)), (0, .ref h), (1, .int (X 1))]) hx hb d_M_breaks_27 hl rfl (wk_inc (by decide)) (by decide) rfl (fun ls hl => ?_)
    have hl : lv_has ls 4 [(3, .int ((X 3) + 1)), (2, .int (s1 + s0)), (0, .ref h), (1, .int (X 1))] := hl
    refine lv_goto (tgt := 4) hx hb d_M_breaks_30 (by decide) ?_
    exact hrc4 I A (upd (upd X 2 (s1 + s0)) 3 ((X 3) + 1)) _ _ _ hf (lv_sub hl [2, 3, 1, 0] rfl) hP hD hS
  have stp4 : ∀ (rc : Nat → MI → MA → (Nat → Int32) → Option (Int32 × MI × MA)) (hrc4 : ∀ (I : MI) (A : MA) (X : Nat → Int32) (ls : Array Slot) (H : Heap) (locs : List Loc), rc 4 I A X = some (r, I', A') → lv_has ls 4 [(0, .ref h), (1, .int (X 1)), (2, .int (X 2)), (3, .int (X 3))] → va_P (dC, dI) vwCl (mw_W h q g I A) H → va_D B9 (mw_W h q g I A) → va_S B9 s.heap H locs → W p l e (headSpec w_M_breaks ({ frames := 1, cells := 0, slots := 0, locals := 21 })).room s m ([.ref h, .int k1] : List Value).toArray below meth c H locs 0 0 (MQ below (va_Qi (fun (r9 : Int32) (_ : Unit) => r9 = r) (fun (_ : Unit) t => va_P (dC, dI) vwCl (mw_W h q g I' A') t.heap ∧ va_K (dC, dI) vwCl (mw_T g) t ∧ va_D B9 (mw_W h q g I' A')) B9) ([.ref h, .int k1] : List Value).toArray s 0 0 B9) (F0 m 4 ls [])), ∀ (I : MI) (A : MA) (X : Nat → Int32) (ls : Array Slot) (H : Heap) (locs : List Loc), f_M_breaks_4 rc I A X = some (r, I', A') → lv_has ls 4 [(0, .ref h), (1, .int (X 1)), (2, .int (X 2)), (3, .int (X 3))] → va_P (dC, dI) vwCl (mw_W h q g I A) H → va_D B9 (mw_W h q g I A) → va_S B9 s.heap H locs → W p l e (headSpec w_M_breaks ({ frames := 1, cells := 0, slots := 0, locals := 21 })).room s m ([.ref h, .int k1] : List Value).toArray below meth c H locs 0 0 (MQ below (va_Qi (fun (r9 : Int32) (_ : Unit) => r9 = r) (fun (_ : Unit) t => va_P (dC, dI) vwCl (mw_W h q g I' A') t.heap ∧ va_K (dC, dI) vwCl (mw_T g) t ∧ va_D B9 (mw_W h q g I' A')) B9) ([.ref h, .int k1] : List Value).toArray s 0 0 B9) (F0 m 4 ls []) := by
    intro rc hrc4 I A X ls H locs hf hl hP hD hS
    unfold f_M_breaks_4 at hf
    refine lv_iload_n hx hb d_M_breaks_4 rfl (lv_at hl 3 rfl) ?_
    refine lv_iload_n hx hb d_M_breaks_5 rfl (lv_at hl 1 rfl) ?_
    refine lv_icmp_ge (tgt := 33) hx hb d_M_breaks_6 (by decide) (fun hc1 => ?_) (fun hc1 => ?_)
    ·
      have hf := wk_ift hc1 hf
      refine lv_iload_n hx hb d_M_breaks_33 rfl (lv_at hl 2 rfl) ?_
      obtain ⟨e1, e2, e3⟩ := wk_inj hf
      subst e1
      subst e2
      subst e3
      exact W.iret (v := (X 2)) hx hb hr (fun t ht hW => ⟨⟨(X 2), (), rfl, rfl, by rw [ht]; exact hP, va_K.moved hW.alike hK, hD⟩, hS.F ht⟩) hS.2.2 d_M_breaks_34
    ·
      have hf := wk_iff hc1 hf
      refine lv_iload_n hx hb d_M_breaks_9 rfl (lv_at hl 2 rfl) ?_
      refine lv_aload_n hx hb d_M_breaks_10 rfl (lv_at hl 0 rfl) ?_
      refine lv_iload_n hx hb d_M_breaks_11 rfl (lv_at hl 3 rfl) ?_
      have hPc := hP.sub (ws' := (mw_W h q g I A)) [0, 1, 2, 3, 4, 5, 6, 7, 8, 9, 10, 11, 12, 13, 14, 15, 16, 17, 18, 19, 20] rfl
      have hDc := hD.sub (ws' := (mw_W h q g I A)) [0, 1, 2, 3, 4, 5, 6, 7, 8, 9, 10, 11, 12, 13, 14, 15, 16, 17, 18, 19, 20] (by decide) rfl
      have hKc := hK.sub (tys' := (mw_T g)) [0, 1, 2, 3, 4, 5, 6, 7, 8, 9, 10, 11, 12, 13, 14, 15, 16, 17, 18, 19] rfl
      have hFc := va_free (wc := (mw_W h q g I A)) hD hS hA [0, 1, 2, 3, 4, 5, 6, 7, 8, 9, 10, 11, 12, 13, 14, 15, 16, 17, 18, 19, 20] rfl
      cases hg1 : f_M_charAt I A (X 3) with
      | none => rw [hg1] at hf; cases hf
      | some z1 =>
        obtain ⟨r1, I1, A1⟩ := z1
        rw [hg1] at hf
        dsimp only [Option.bind_some] at hf
        refine va_calli (va_runV (As := [.int (X 3)]) (rest := [.int (X 2)]) ⟨hx, hb, hml, hown, hts⟩ (cm_M_charAt l dC dI h q g _ I A (X 3) r1 I1 A1 hg1) (cwV 1 hts (gd_v lk_51 lk_52 lk_53 lk_46 lk_50) rfl rfl rfl (by decide +kernel) ⟨Nat.le_of_ble_eq_true rfl, Nat.le_of_ble_eq_true rfl⟩) ⟨fun a U g mk q => by obtain ⟨q0, q1, qP, qK, qD⟩ := q; exact ⟨q0, q1, qP, va_K.moved (u := U) (U := U.calling g mk a) (Vm.Alike.refl U.vm) qK, qD⟩, va_recv (ci := 4) (q0 := 0) hK hP rfl rfl, fun U hU hW => ⟨rfl, by rw [hU], by rw [hU]; exact hPc, va_K.moved hW.alike hKc, hDc.weaken (fun _ _ _ _ => trivial)⟩⟩ rfl rfl hl.1 rfl (lv_room (Nat.le_of_ble_eq_true rfl)) d_M_breaks_12 ⟨Nat.le_of_ble_eq_true rfl, Nat.le_of_ble_eq_true rfl⟩) hS (fun q _ h => hFc q h) hFc (fun r9 u t H1 locs ht hvm hw hB hz1 hk1 hS => ?_)
        obtain ⟨hP1, hK1, hD1⟩ := hB
        rw [ht] at hP1
        rw [hw]
        obtain ⟨hP, hD⟩ := va_join (wr := []) (w1 := (mw_W h q g I1 A1)) hP hD [0, 1, 2, 3, 4, 5, 6, 7, 8, 9, 10, 11, 12, 13, 14, 15, 16, 17, 18, 19, 20] [] rfl rfl (by decide) (by decide) hk1 hFc hP1 hD1
        generalize H1 = H at hP hS ⊢
        have hP : va_P (dC, dI) vwCl (mw_W h q g I1 A1) H := hP
        have hD : va_D B9 (mw_W h q g I1 A1) := hD
        refine lv_bipush (v := 10) hx hb d_M_breaks_15 (by decide) ?_
        refine lv_icmp_ne (tgt := 24) hx hb d_M_breaks_17 (by decide) (fun hc2 => ?_) (fun hc2 => ?_)
        ·
          have hf := wk_iff hc2 hf
          refine lv_iconst (v := 0) hx hb d_M_breaks_24 (by decide) ?_
          exact blk25 rc hrc4 I1 A1 X 0 (X 2) _ _ _ hf (lv_sub hl [0, 1, 2, 3] rfl) hP hD hS
        ·
          have hf := wk_ift hc2 hf
          refine lv_iconst (v := 1) hx hb d_M_breaks_20 (by decide) ?_
          refine lv_goto (tgt := 25) hx hb d_M_breaks_21 (by decide) ?_
          exact blk25 rc hrc4 I1 A1 X 1 (X 2) _ _ _ hf (lv_sub hl [0, 1, 2, 3] rfl) hP hD hS
  have key : ∀ n : Nat, (∀ (I : MI) (A : MA) (X : Nat → Int32) (ls : Array Slot) (H : Heap) (locs : List Loc), f_M_breaks_go n 4 I A X = some (r, I', A') → lv_has ls 4 [(0, .ref h), (1, .int (X 1)), (2, .int (X 2)), (3, .int (X 3))] → va_P (dC, dI) vwCl (mw_W h q g I A) H → va_D B9 (mw_W h q g I A) → va_S B9 s.heap H locs → W p l e (headSpec w_M_breaks ({ frames := 1, cells := 0, slots := 0, locals := 21 })).room s m ([.ref h, .int k1] : List Value).toArray below meth c H locs 0 0 (MQ below (va_Qi (fun (r9 : Int32) (_ : Unit) => r9 = r) (fun (_ : Unit) t => va_P (dC, dI) vwCl (mw_W h q g I' A') t.heap ∧ va_K (dC, dI) vwCl (mw_T g) t ∧ va_D B9 (mw_W h q g I' A')) B9) ([.ref h, .int k1] : List Value).toArray s 0 0 B9) (F0 m 4 ls [])) := by
    intro n
    induction n with
    | zero => exact fun I A X ls H locs hf => (by cases hf)
    | succ n ih =>
      have ih4 := ih
      exact stp4 (f_M_breaks_go n) ih4
  unfold f_M_breaks f_M_breaks_e at hf
  have hrc4 := key wk_FUEL
  refine lv_iconst (v := 0) hx hb d_M_breaks_0 (by decide) ?_
  refine lv_istore_n (lv' := [(2, .int 0), (0, .ref h), (1, .int k1)]) hx hb d_M_breaks_1 rfl hl (by decide) rfl (fun ls hl => ?_)
  have hl : lv_has ls 4 [(2, .int 0), (0, .ref h), (1, .int k1)] := hl
  refine lv_iconst (v := 0) hx hb d_M_breaks_2 (by decide) ?_
  refine lv_istore_n (lv' := [(3, .int 0), (2, .int 0), (0, .ref h), (1, .int k1)]) hx hb d_M_breaks_3 rfl hl (by decide) rfl (fun ls hl => ?_)
  have hl : lv_has ls 4 [(3, .int 0), (2, .int 0), (0, .ref h), (1, .int k1)] := hl
  exact hrc4 I A (upd (upd (upd (fun _ => 0) 1 k1) 2 0) 3 0) _ _ _ hf (lv_sub hl [2, 3, 1, 0] rfl) hP hD hS

set_option maxHeartbeats 8000000 in
set_option maxRecDepth 100000 in
theorem cm_M_isTimes (l : Launch) (dC : Nat → ClassId) (dI : Nat → Nat → Nat) (sz : Nat) (k0 : Int32) (r : Int32) (hf : f_M_isTimes k0 = some r) : Met l y_M_isTimes w_M_isTimes ({ frames := 0, cells := 0, slots := 0, locals := 0 }) (va_Pc [.int k0] (fun U => U.heap.size = sz ∧ va_P (dC, dI) vwCl [] U.heap ∧ va_K (dC, dI) vwCl [] U ∧ va_D (fun _ => True) [])) (va_Qi (fun (r9 : Int32) (_ : Unit) => r9 = r) (fun (_ : Unit) t => va_P (dC, dI) vwCl [] t.heap ∧ va_K (dC, dI) vwCl [] t ∧ va_D (va_A [] sz) []) (va_A [] sz)) 0 0 (va_A [] sz) := by
  refine Met.ofW (cc := prog_6_method_22_code) (maxL := 1) (ret := (some .boolean)) (by decide) rfl ?_
  intro p e s m args below meth c s₁ B hml hv
  obtain ⟨rfl, hsz, hP, hK, hD0⟩ := hv
  have hx := B.exec
  have hb := B.bytes
  have hr := B.returns
  have hts := atoms_spec (ws := w_M_isTimes) B.pre
  have hown : s.vm.findClass R_M = some m.cls := findClass_of_methodNamed B.named
  have hlocks := B.notSynchronized
  subst hsz
  have hD := hD0.self (sz := s.heap.size)
  generalize hAe : va_A [] s.heap.size = B9 at hD ⊢
  have hA : ∀ q : Nat, s.heap.size ≤ q → B9 q := fun q h => by rw [← hAe]; exact Or.inr h
  clear hAe
  have hS : va_S B9 s.heap s.heap [] := va_S.rf
  have hl := lv_entry ([.int k0]) (n := 1) (Nat.le_of_ble_eq_true rfl)
  rw [lg_entry_eq]
  generalize (lg_sl ([.int k0]) ++ List.replicate (1 - (lg_sl ([.int k0])).length) Slot.unset).toArray = ls at hl ⊢
  have hl : lv_has ls 1 [(0, .int k0)] := hl
  have blk23 : ∀ (X : Nat → Int32) (s0 : Int32) (ls : Array Slot) (H : Heap) (locs : List Loc), f_M_isTimes_23 X s0 = some r → lv_has ls 1 [(0, .int (X 0))] → va_P (dC, dI) vwCl [] H → va_D B9 [] → va_S B9 s.heap H locs → W p l e (headSpec w_M_isTimes ({ frames := 0, cells := 0, slots := 0, locals := 0 })).room s m ([.int k0] : List Value).toArray below meth c H locs 0 0 (MQ below (va_Qi (fun (r9 : Int32) (_ : Unit) => r9 = r) (fun (_ : Unit) t => va_P (dC, dI) vwCl [] t.heap ∧ va_K (dC, dI) vwCl [] t ∧ va_D B9 []) B9) ([.int k0] : List Value).toArray s 0 0 B9) (F0 m 23 ls [.int s0]) := by
    intro X s0 ls H locs hf hl hP hD hS
    unfold f_M_isTimes_23 at hf
    obtain ⟨hn9, hf⟩ := wk_if hf
    have e1 := Option.some.inj hf
    subst e1
    exact W.zret (v := s0) hx hb hr (congrArg Value.int hn9) (fun t ht hW => ⟨⟨s0, (), rfl, rfl, by rw [ht]; exact hP, va_K.moved hW.alike hK, hD⟩, hS.F ht⟩) hS.2.2 d_M_isTimes_23
  have blk18 : ∀ (X : Nat → Int32) (ls : Array Slot) (H : Heap) (locs : List Loc), f_M_isTimes_18 X = some r → lv_has ls 1 [(0, .int (X 0))] → va_P (dC, dI) vwCl [] H → va_D B9 [] → va_S B9 s.heap H locs → W p l e (headSpec w_M_isTimes ({ frames := 0, cells := 0, slots := 0, locals := 0 })).room s m ([.int k0] : List Value).toArray below meth c H locs 0 0 (MQ below (va_Qi (fun (r9 : Int32) (_ : Unit) => r9 = r) (fun (_ : Unit) t => va_P (dC, dI) vwCl [] t.heap ∧ va_K (dC, dI) vwCl [] t ∧ va_D B9 []) B9) ([.int k0] : List Value).toArray s 0 0 B9) (F0 m 18 ls []) := by
    intro X ls H locs hf hl hP hD hS
    unfold f_M_isTimes_18 at hf
    refine lv_iconst (v := 1) hx hb d_M_isTimes_18 (by decide) ?_
    refine lv_goto (tgt := 23) hx hb d_M_isTimes_19 (by decide) ?_
    exact blk23 X 1 _ _ _ hf (lv_sub hl [0] rfl) hP hD hS
  unfold f_M_isTimes at hf
  refine lv_iload_n hx hb d_M_isTimes_0 rfl (lv_at hl 0 rfl) ?_
  refine lv_bipush (v := 42) hx hb d_M_isTimes_1 (by decide) ?_
  refine lv_icmp_eq (tgt := 18) hx hb d_M_isTimes_3 (by decide) (fun hc1 => ?_) (fun hc1 => ?_)
  ·
    have hf := wk_ift hc1 hf
    exact blk18 (upd (fun _ => 0) 0 k0) _ _ _ hf (lv_sub hl [0] rfl) hP hD hS
  ·
    have hf := wk_iff hc1 hf
    refine lv_iload_n hx hb d_M_isTimes_6 rfl (lv_at hl 0 rfl) ?_
    refine lv_bipush (v := 43) hx hb d_M_isTimes_7 (by decide) ?_
    refine lv_icmp_eq (tgt := 18) hx hb d_M_isTimes_9 (by decide) (fun hc2 => ?_) (fun hc2 => ?_)
    ·
      have hf := wk_ift hc2 hf
      exact blk18 (upd (fun _ => 0) 0 k0) _ _ _ hf (lv_sub hl [0] rfl) hP hD hS
    ·
      have hf := wk_iff hc2 hf
      refine lv_iload_n hx hb d_M_isTimes_12 rfl (lv_at hl 0 rfl) ?_
      refine lv_bipush (v := 63) hx hb d_M_isTimes_13 (by decide) ?_
      refine lv_icmp_ne (tgt := 22) hx hb d_M_isTimes_15 (by decide) (fun hc3 => ?_) (fun hc3 => ?_)
      ·
        have hf := wk_iff hc3 hf
        refine lv_iconst (v := 0) hx hb d_M_isTimes_22 (by decide) ?_
        exact blk23 (upd (fun _ => 0) 0 k0) 0 _ _ _ hf (lv_sub hl [0] rfl) hP hD hS
      ·
        have hf := wk_ift hc3 hf
        exact blk18 (upd (fun _ => 0) 0 k0) _ _ _ hf (lv_sub hl [0] rfl) hP hD hS

set_option maxHeartbeats 8000000 in
set_option maxRecDepth 100000 in
theorem cm_M_node (l : Launch) (dC : Nat → ClassId) (dI : Nat → Nat → Nat) (h : Nat) (q : Nat → Nat) (g : Nat → ClassId) (sz : Nat) (I : MI) (A : MA) (k1 k2 k3 : Int32) (r : Int32) (I' : MI) (A' : MA) (hf : f_M_node I A k1 k2 k3 = some (r, I', A')) : Met l y_M_node w_M_node ({ frames := 0, cells := 0, slots := 0, locals := 0 }) (va_Pc [.ref h, .int k1, .int k2, .int k3] (fun U => U.heap.size = sz ∧ va_P (dC, dI) vwCl (mw_W h q g I A) U.heap ∧ va_K (dC, dI) vwCl (mw_T g) U ∧ va_D (fun _ => True) (mw_W h q g I A))) (va_Qi (fun (r9 : Int32) (_ : Unit) => r9 = r) (fun (_ : Unit) t => va_P (dC, dI) vwCl (mw_W h q g I' A') t.heap ∧ va_K (dC, dI) vwCl (mw_T g) t ∧ va_D (va_A (mw_W h q g I A) sz) (mw_W h q g I' A')) (va_A (mw_W h q g I A) sz)) 0 0 (va_A (mw_W h q g I A) sz) := by
  refine Met.ofW (cc := prog_6_method_24_code) (maxL := 4) (ret := (some .int)) (by decide) rfl ?_
  intro p e s m args below meth c s₁ B hml hv
  obtain ⟨rfl, hsz, hP, hK, hD0⟩ := hv
  have hx := B.exec
  have hb := B.bytes
  have hr := B.returns
  have hts := atoms_spec (ws := w_M_node) B.pre
  have hown : s.vm.findClass R_M = some m.cls := findClass_of_methodNamed B.named
  have hlocks := B.notSynchronized
  subst hsz
  have hD := hD0.self (sz := s.heap.size)
  generalize hAe : va_A (mw_W h q g I A) s.heap.size = B9 at hD ⊢
  have hA : ∀ q : Nat, s.heap.size ≤ q → B9 q := fun q h => by rw [← hAe]; exact Or.inr h
  clear hAe
  have hS : va_S B9 s.heap s.heap [] := va_S.rf
  have hl := lv_entry ([.ref h, .int k1, .int k2, .int k3]) (n := 4) (Nat.le_of_ble_eq_true rfl)
  rw [lg_entry_eq]
  generalize (lg_sl ([.ref h, .int k1, .int k2, .int k3]) ++ List.replicate (4 - (lg_sl ([.ref h, .int k1, .int k2, .int k3])).length) Slot.unset).toArray = ls at hl ⊢
  have hl : lv_has ls 4 [(0, .ref h), (1, .int k1), (2, .int k2), (3, .int k3)] := hl
  unfold f_M_node at hf
  refine lv_aload_n hx hb d_M_node_0 rfl (lv_at hl 0 rfl) ?_
  refine va_get (D := (dC, dI)) (ci := 4) (v := .ref (q 18)) (C := R_M) (T := F_M) (N := 38) hx hb hts (fun w h => List.mem_cons_of_mem _ (in_M w h)) hown hK hP 0 rfl rfl 18 (by decide) (hts _ (List.mem_cons_of_mem _ lk_82)) (fun _ h9 => h9) rfl d_M_node_1 ?_
  refine lv_aload_n hx hb d_M_node_4 rfl (lv_at hl 0 rfl) ?_
  refine va_get (D := (dC, dI)) (ci := 4) (v := .int (I 17)) (C := R_M) (T := F_M) (N := 38) hx hb hts (fun w h => List.mem_cons_of_mem _ (in_M w h)) hown hK hP 0 rfl rfl 17 (by decide) (hts _ (List.mem_cons_of_mem _ lk_83)) (fun _ h9 => h9) rfl d_M_node_5 ?_
  refine lv_iload_n hx hb d_M_node_8 rfl (lv_at hl 1 rfl) ?_
  obtain ⟨hc1, hf⟩ := wk_if hf
  refine va_iast hx hb hK hP hD hS 8 7 rfl rfl (wk_inb_ok hc1) d_M_node_9 (fun H locs hP hD hS => ?_)
  obtain ⟨A1, hA1, hf⟩ := wk_letE hf
  have hP : va_P (dC, dI) vwCl (mw_W h q g I A1) H := by rw [hA1]; exact hP
  have hD : va_D B9 (mw_W h q g I A1) := by rw [hA1]; exact hD
  clear hA1
  refine lv_aload_n hx hb d_M_node_10 rfl (lv_at hl 0 rfl) ?_
  refine va_get (D := (dC, dI)) (ci := 4) (v := .ref (q 19)) (C := R_M) (T := F_M) (N := 38) hx hb hts (fun w h => List.mem_cons_of_mem _ (in_M w h)) hown hK hP 0 rfl rfl 19 (by decide) (hts _ (List.mem_cons_of_mem _ lk_84)) (fun _ h9 => h9) rfl d_M_node_11 ?_
  refine lv_aload_n hx hb d_M_node_14 rfl (lv_at hl 0 rfl) ?_
  refine va_get (D := (dC, dI)) (ci := 4) (v := .int (I 17)) (C := R_M) (T := F_M) (N := 38) hx hb hts (fun w h => List.mem_cons_of_mem _ (in_M w h)) hown hK hP 0 rfl rfl 17 (by decide) (hts _ (List.mem_cons_of_mem _ lk_83)) (fun _ h9 => h9) rfl d_M_node_15 ?_
  refine lv_iload_n hx hb d_M_node_18 rfl (lv_at hl 2 rfl) ?_
  obtain ⟨hc2, hf⟩ := wk_if hf
  refine va_iast hx hb hK hP hD hS 9 8 rfl rfl (wk_inb_ok hc2) d_M_node_19 (fun H locs hP hD hS => ?_)
  obtain ⟨A2, hA2, hf⟩ := wk_letE hf
  have hP : va_P (dC, dI) vwCl (mw_W h q g I A2) H := by rw [hA2]; exact hP
  have hD : va_D B9 (mw_W h q g I A2) := by rw [hA2]; exact hD
  clear hA2
  refine lv_aload_n hx hb d_M_node_20 rfl (lv_at hl 0 rfl) ?_
  refine va_get (D := (dC, dI)) (ci := 4) (v := .ref (q 20)) (C := R_M) (T := F_M) (N := 38) hx hb hts (fun w h => List.mem_cons_of_mem _ (in_M w h)) hown hK hP 0 rfl rfl 20 (by decide) (hts _ (List.mem_cons_of_mem _ lk_85)) (fun _ h9 => h9) rfl d_M_node_21 ?_
  refine lv_aload_n hx hb d_M_node_24 rfl (lv_at hl 0 rfl) ?_
  refine va_get (D := (dC, dI)) (ci := 4) (v := .int (I 17)) (C := R_M) (T := F_M) (N := 38) hx hb hts (fun w h => List.mem_cons_of_mem _ (in_M w h)) hown hK hP 0 rfl rfl 17 (by decide) (hts _ (List.mem_cons_of_mem _ lk_83)) (fun _ h9 => h9) rfl d_M_node_25 ?_
  refine lv_iload_n hx hb d_M_node_28 rfl (lv_at hl 3 rfl) ?_
  obtain ⟨hc3, hf⟩ := wk_if hf
  refine va_iast hx hb hK hP hD hS 10 9 rfl rfl (wk_inb_ok hc3) d_M_node_29 (fun H locs hP hD hS => ?_)
  obtain ⟨A3, hA3, hf⟩ := wk_letE hf
  have hP : va_P (dC, dI) vwCl (mw_W h q g I A3) H := by rw [hA3]; exact hP
  have hD : va_D B9 (mw_W h q g I A3) := by rw [hA3]; exact hD
  clear hA3
  refine lv_aload_n hx hb d_M_node_30 rfl (lv_at hl 0 rfl) ?_
  refine va_get (D := (dC, dI)) (ci := 4) (v := .ref (q 21)) (C := R_M) (T := F_M) (N := 38) hx hb hts (fun w h => List.mem_cons_of_mem _ (in_M w h)) hown hK hP 0 rfl rfl 21 (by decide) (hts _ (List.mem_cons_of_mem _ lk_64)) (fun _ h9 => h9) rfl d_M_node_31 ?_
  refine lv_aload_n hx hb d_M_node_34 rfl (lv_at hl 0 rfl) ?_
  refine va_get (D := (dC, dI)) (ci := 4) (v := .int (I 17)) (C := R_M) (T := F_M) (N := 38) hx hb hts (fun w h => List.mem_cons_of_mem _ (in_M w h)) hown hK hP 0 rfl rfl 17 (by decide) (hts _ (List.mem_cons_of_mem _ lk_83)) (fun _ h9 => h9) rfl d_M_node_35 ?_
  refine lv_iconst (v := (-1)) hx hb d_M_node_38 (by decide) ?_
  obtain ⟨hc4, hf⟩ := wk_if hf
  refine va_iast hx hb hK hP hD hS 11 10 rfl rfl (wk_inb_ok hc4) d_M_node_39 (fun H locs hP hD hS => ?_)
  obtain ⟨A4, hA4, hf⟩ := wk_letE hf
  have hP : va_P (dC, dI) vwCl (mw_W h q g I A4) H := by rw [hA4]; exact hP
  have hD : va_D B9 (mw_W h q g I A4) := by rw [hA4]; exact hD
  clear hA4
  refine lv_aload_n hx hb d_M_node_40 rfl (lv_at hl 0 rfl) ?_
  refine va_get (D := (dC, dI)) (ci := 4) (v := .ref (q 22)) (C := R_M) (T := F_M) (N := 38) hx hb hts (fun w h => List.mem_cons_of_mem _ (in_M w h)) hown hK hP 0 rfl rfl 22 (by decide) (hts _ (List.mem_cons_of_mem _ lk_65)) (fun _ h9 => h9) rfl d_M_node_41 ?_
  refine lv_aload_n hx hb d_M_node_44 rfl (lv_at hl 0 rfl) ?_
  refine va_get (D := (dC, dI)) (ci := 4) (v := .int (I 17)) (C := R_M) (T := F_M) (N := 38) hx hb hts (fun w h => List.mem_cons_of_mem _ (in_M w h)) hown hK hP 0 rfl rfl 17 (by decide) (hts _ (List.mem_cons_of_mem _ lk_83)) (fun _ h9 => h9) rfl d_M_node_45 ?_
  refine lv_iconst (v := (-1)) hx hb d_M_node_48 (by decide) ?_
  obtain ⟨hc5, hf⟩ := wk_if hf
  refine va_iast hx hb hK hP hD hS 12 11 rfl rfl (wk_inb_ok hc5) d_M_node_49 (fun H locs hP hD hS => ?_)
  obtain ⟨A5, hA5, hf⟩ := wk_letE hf
  have hP : va_P (dC, dI) vwCl (mw_W h q g I A5) H := by rw [hA5]; exact hP
  have hD : va_D B9 (mw_W h q g I A5) := by rw [hA5]; exact hD
  clear hA5
  refine lv_aload_n hx hb d_M_node_50 rfl (lv_at hl 0 rfl) ?_
  refine lv_dup hx hb d_M_node_51 rfl ?_
  refine va_get (D := (dC, dI)) (ci := 4) (v := .int (I 17)) (C := R_M) (T := F_M) (N := 38) hx hb hts (fun w h => List.mem_cons_of_mem _ (in_M w h)) hown hK hP 0 rfl rfl 17 (by decide) (hts _ (List.mem_cons_of_mem _ lk_83)) (fun _ h9 => h9) rfl d_M_node_52 ?_
  refine lv_iconst (v := 1) hx hb d_M_node_55 (by decide) ?_
  refine lv_iadd hx hb d_M_node_56 ?_
  refine va_put (D := (dC, dI)) (ci := 4) (v := .int ((I 17) + 1)) (ty := .int) (C := R_M) (T := F_M) (N := 38) hx hb hts (fun w h => List.mem_cons_of_mem _ (in_M w h)) t_M tk_M n_M hown hK hP hD hS 0 rfl rfl 17 (by decide) (hts _ (List.mem_cons_of_mem _ lk_83)) (fun _ h9 => h9) rfl (by decide +kernel) rfl rfl (Nat.le_of_ble_eq_true rfl) d_M_node_57 (fun H locs hP hD hS => ?_)
  obtain ⟨I6, hI6, hf⟩ := wk_letE hf
  have hP : va_P (dC, dI) vwCl (mw_W h q g I6 A5) H := by rw [hI6]; exact hP
  have hD : va_D B9 (mw_W h q g I6 A5) := by rw [hI6]; exact hD
  clear hI6
  refine lv_aload_n hx hb d_M_node_60 rfl (lv_at hl 0 rfl) ?_
  refine va_get (D := (dC, dI)) (ci := 4) (v := .int (I6 17)) (C := R_M) (T := F_M) (N := 38) hx hb hts (fun w h => List.mem_cons_of_mem _ (in_M w h)) hown hK hP 0 rfl rfl 17 (by decide) (hts _ (List.mem_cons_of_mem _ lk_83)) (fun _ h9 => h9) rfl d_M_node_61 ?_
  refine lv_iconst (v := 1) hx hb d_M_node_64 (by decide) ?_
  refine lv_isub hx hb d_M_node_65 ?_
  obtain ⟨e1, e2, e3⟩ := wk_inj hf
  subst e1
  subst e2
  subst e3
  exact W.iret (v := ((I6 17) - 1)) hx hb hr (fun t ht hW => ⟨⟨((I6 17) - 1), (), rfl, rfl, by rw [ht]; exact hP, va_K.moved hW.alike hK, hD⟩, hS.F ht⟩) hS.2.2 d_M_node_66

set_option maxHeartbeats 8000000 in
set_option maxRecDepth 100000 in
theorem cm_M_single (l : Launch) (dC : Nat → ClassId) (dI : Nat → Nat → Nat) (h : Nat) (q : Nat → Nat) (g : Nat → ClassId) (sz : Nat) (I : MI) (A : MA) (k1 k2 k3 : Int32) (r : Int32) (I' : MI) (A' : MA) (hf : f_M_single I A k1 k2 k3 = some (r, I', A')) : Met l y_M_single w_M_single ({ frames := 1, cells := 0, slots := 0, locals := 23 }) (va_Pc [.ref h, .int k1, .int k2, .int k3] (fun U => U.heap.size = sz ∧ va_P (dC, dI) vwCl (mw_W h q g I A) U.heap ∧ va_K (dC, dI) vwCl (mw_T g) U ∧ va_D (fun _ => True) (mw_W h q g I A))) (va_Qi (fun (r9 : Int32) (_ : Unit) => r9 = r) (fun (_ : Unit) t => va_P (dC, dI) vwCl (mw_W h q g I' A') t.heap ∧ va_K (dC, dI) vwCl (mw_T g) t ∧ va_D (va_A (mw_W h q g I A) sz) (mw_W h q g I' A')) (va_A (mw_W h q g I A) sz)) 0 0 (va_A (mw_W h q g I A) sz) := by
  refine Met.ofW (cc := prog_6_method_27_code) (maxL := 6) (ret := (some .int)) (by decide) rfl ?_
  intro p e s m args below meth c s₁ B hml hv
  obtain ⟨rfl, hsz, hP, hK, hD0⟩ := hv
  have hx := B.exec
  have hb := B.bytes
  have hr := B.returns
  have hts := atoms_spec (ws := w_M_single) B.pre
  have hown : s.vm.findClass R_M = some m.cls := findClass_of_methodNamed B.named
  have hlocks := B.notSynchronized
  subst hsz
  have hD := hD0.self (sz := s.heap.size)
  generalize hAe : va_A (mw_W h q g I A) s.heap.size = B9 at hD ⊢
  have hA : ∀ q : Nat, s.heap.size ≤ q → B9 q := fun q h => by rw [← hAe]; exact Or.inr h
  clear hAe
  have hS : va_S B9 s.heap s.heap [] := va_S.rf
  have hl := lv_entry ([.ref h, .int k1, .int k2, .int k3]) (n := 6) (Nat.le_of_ble_eq_true rfl)
  rw [lg_entry_eq]
  generalize (lg_sl ([.ref h, .int k1, .int k2, .int k3]) ++ List.replicate (6 - (lg_sl ([.ref h, .int k1, .int k2, .int k3])).length) Slot.unset).toArray = ls at hl ⊢
  have hl : lv_has ls 6 [(0, .ref h), (1, .int k1), (2, .int k2), (3, .int k3)] := hl
  unfold f_M_single at hf
  refine lv_aload_n hx hb d_M_single_0 rfl (lv_at hl 0 rfl) ?_
  refine lv_iload_n hx hb d_M_single_1 rfl (lv_at hl 1 rfl) ?_
  refine lv_iload_n hx hb d_M_single_2 rfl (lv_at hl 2 rfl) ?_
  refine lv_iload_n hx hb d_M_single_3 rfl (lv_at hl 3 rfl) ?_
  have hPc := hP.sub (ws' := (mw_W h q g I A)) [0, 1, 2, 3, 4, 5, 6, 7, 8, 9, 10, 11, 12, 13, 14, 15, 16, 17, 18, 19, 20] rfl
  have hDc := hD.sub (ws' := (mw_W h q g I A)) [0, 1, 2, 3, 4, 5, 6, 7, 8, 9, 10, 11, 12, 13, 14, 15, 16, 17, 18, 19, 20] (by decide) rfl
  have hKc := hK.sub (tys' := (mw_T g)) [0, 1, 2, 3, 4, 5, 6, 7, 8, 9, 10, 11, 12, 13, 14, 15, 16, 17, 18, 19] rfl
  have hFc := va_free (wc := (mw_W h q g I A)) hD hS hA [0, 1, 2, 3, 4, 5, 6, 7, 8, 9, 10, 11, 12, 13, 14, 15, 16, 17, 18, 19, 20] rfl
  cases hg1 : f_M_node I A k1 k2 k3 with
  | none => rw [hg1] at hf; cases hf
  | some z1 =>
    obtain ⟨r1, I1, A1⟩ := z1
    rw [hg1] at hf
    dsimp only [Option.bind_some] at hf
    refine va_calli (va_runV (As := [.int k1, .int k2, .int k3]) (rest := []) ⟨hx, hb, hml, hown, hts⟩ (cm_M_node l dC dI h q g _ I A k1 k2 k3 r1 I1 A1 hg1) (cwV 3 hts (gd_v lk_87 lk_88 lk_89 lk_46 lk_86) rfl rfl rfl (by decide +kernel) ⟨Nat.le_of_ble_eq_true rfl, Nat.le_of_ble_eq_true rfl⟩) ⟨fun a U g mk q => by obtain ⟨q0, q1, qP, qK, qD⟩ := q; exact ⟨q0, q1, qP, va_K.moved (u := U) (U := U.calling g mk a) (Vm.Alike.refl U.vm) qK, qD⟩, va_recv (ci := 4) (q0 := 0) hK hP rfl rfl, fun U hU hW => ⟨rfl, by rw [hU], by rw [hU]; exact hPc, va_K.moved hW.alike hKc, hDc.weaken (fun _ _ _ _ => trivial)⟩⟩ rfl rfl hl.1 rfl (lv_room (Nat.le_of_ble_eq_true rfl)) d_M_single_4 ⟨Nat.le_of_ble_eq_true rfl, Nat.le_of_ble_eq_true rfl⟩) hS (fun q _ h => hFc q h) hFc (fun r9 u t H1 locs ht hvm hw hB hz1 hk1 hS => ?_)
    obtain ⟨hP1, hK1, hD1⟩ := hB
    rw [ht] at hP1
    rw [hw]
    obtain ⟨hP, hD⟩ := va_join (wr := []) (w1 := (mw_W h q g I1 A1)) hP hD [0, 1, 2, 3, 4, 5, 6, 7, 8, 9, 10, 11, 12, 13, 14, 15, 16, 17, 18, 19, 20] [] rfl rfl (by decide) (by decide) hk1 hFc hP1 hD1
    generalize H1 = H at hP hS ⊢
    have hP : va_P (dC, dI) vwCl (mw_W h q g I1 A1) H := hP
    have hD : va_D B9 (mw_W h q g I1 A1) := hD
    refine lv_istore (lv' := [(4, .int r1), (0, .ref h), (1, .int k1), (2, .int k2), (3, .int k3)]) hx hb d_M_single_7 hl (by decide) rfl (fun ls hl => ?_)
    have hl : lv_has ls 6 [(4, .int r1), (0, .ref h), (1, .int k1), (2, .int k2), (3, .int k3)] := hl
    refine lv_aload_n hx hb d_M_single_9 rfl (lv_at hl 1 rfl) ?_
    refine lv_iconst (v := 0) hx hb d_M_single_10 (by decide) ?_
    refine lv_iconst (v := 0) hx hb d_M_single_11 (by decide) ?_
    refine lv_iconst (v := 0) hx hb d_M_single_12 (by decide) ?_
    have hPc := hP.sub (ws' := (mw_W h q g I1 A1)) [0, 1, 2, 3, 4, 5, 6, 7, 8, 9, 10, 11, 12, 13, 14, 15, 16, 17, 18, 19, 20] rfl
    have hDc := hD.sub (ws' := (mw_W h q g I1 A1)) [0, 1, 2, 3, 4, 5, 6, 7, 8, 9, 10, 11, 12, 13, 14, 15, 16, 17, 18, 19, 20] (by decide) rfl
    have hKc := hK.sub (tys' := (mw_T g)) [0, 1, 2, 3, 4, 5, 6, 7, 8, 9, 10, 11, 12, 13, 14, 15, 16, 17, 18, 19] rfl
    have hFc := va_free (wc := (mw_W h q g I1 A1)) hD hS hA [0, 1, 2, 3, 4, 5, 6, 7, 8, 9, 10, 11, 12, 13, 14, 15, 16, 17, 18, 19, 20] rfl
    cases hg2 : f_M_node I1 A1 0 0 0 with
    | none => rw [hg2] at hf; cases hf
    | some z2 =>
      obtain ⟨r2, I2, A2⟩ := z2
      rw [hg2] at hf
      dsimp only [Option.bind_some] at hf
      refine va_calli (va_runV (As := [.int 0, .int 0, .int 0]) (rest := []) ⟨hx, hb, hml, hown, hts⟩ (cm_M_node l dC dI h q g _ I1 A1 0 0 0 r2 I2 A2 hg2) (cwV 3 hts (gd_v lk_87 lk_88 lk_89 lk_46 lk_86) rfl rfl rfl (by decide +kernel) ⟨Nat.le_of_ble_eq_true rfl, Nat.le_of_ble_eq_true rfl⟩) ⟨fun a U g mk q => by obtain ⟨q0, q1, qP, qK, qD⟩ := q; exact ⟨q0, q1, qP, va_K.moved (u := U) (U := U.calling g mk a) (Vm.Alike.refl U.vm) qK, qD⟩, va_recv (ci := 4) (q0 := 0) hK hP rfl rfl, fun U hU hW => ⟨rfl, by rw [hU], by rw [hU]; exact hPc, va_K.moved hW.alike hKc, hDc.weaken (fun _ _ _ _ => trivial)⟩⟩ rfl rfl hl.1 rfl (lv_room (Nat.le_of_ble_eq_true rfl)) d_M_single_13 ⟨Nat.le_of_ble_eq_true rfl, Nat.le_of_ble_eq_true rfl⟩) hS (fun q _ h => hFc q h) hFc (fun r9 u t H1 locs ht hvm hw hB hz1 hk1 hS => ?_)
      obtain ⟨hP1, hK1, hD1⟩ := hB
      rw [ht] at hP1
      rw [hw]
      obtain ⟨hP, hD⟩ := va_join (wr := []) (w1 := (mw_W h q g I2 A2)) hP hD [0, 1, 2, 3, 4, 5, 6, 7, 8, 9, 10, 11, 12, 13, 14, 15, 16, 17, 18, 19, 20] [] rfl rfl (by decide) (by decide) hk1 hFc hP1 hD1
      generalize H1 = H at hP hS ⊢
      have hP : va_P (dC, dI) vwCl (mw_W h q g I2 A2) H := hP
      have hD : va_D B9 (mw_W h q g I2 A2) := hD
      refine lv_istore (lv' := [(5, .int r2), (4, .int r1), (0, .ref h), (1, .int k1), (2, .int k2), (3, .int k3)]) hx hb d_M_single_16 hl (by decide) rfl (fun ls hl => ?_)
      have hl : lv_has ls 6 [(5, .int r2), (4, .int r1), (0, .ref h), (1, .int k1), (2, .int k2), (3, .int k3)] := hl
      refine lv_aload_n hx hb d_M_single_18 rfl (lv_at hl 2 rfl) ?_
      refine lv_iload hx hb d_M_single_19 (lv_at hl 1 rfl) ?_
      refine lv_iload hx hb d_M_single_21 (lv_at hl 0 rfl) ?_
      have hPc := hP.sub (ws' := (mw_W h q g I2 A2)) [0, 1, 2, 3, 4, 5, 6, 7, 8, 9, 10, 11, 12, 13, 14, 15, 16, 17, 18, 19, 20] rfl
      have hDc := hD.sub (ws' := (mw_W h q g I2 A2)) [0, 1, 2, 3, 4, 5, 6, 7, 8, 9, 10, 11, 12, 13, 14, 15, 16, 17, 18, 19, 20] (by decide) rfl
      have hKc := hK.sub (tys' := (mw_T g)) [0, 1, 2, 3, 4, 5, 6, 7, 8, 9, 10, 11, 12, 13, 14, 15, 16, 17, 18, 19] rfl
      have hFc := va_free (wc := (mw_W h q g I2 A2)) hD hS hA [0, 1, 2, 3, 4, 5, 6, 7, 8, 9, 10, 11, 12, 13, 14, 15, 16, 17, 18, 19, 20] rfl
      cases hg3 : f_M_link I2 A2 r1 r2 with
      | none => rw [hg3] at hf; cases hf
      | some z3 =>
        obtain ⟨r3, I3, A3⟩ := z3
        rw [hg3] at hf
        dsimp only [Option.bind_some] at hf
        refine va_callv (va_runV (As := [.int r1, .int r2]) (rest := []) ⟨hx, hb, hml, hown, hts⟩ (cm_M_link l dC dI h q g _ I2 A2 r1 r2 r3 I3 A3 hg3) (cwV 2 hts (gd_v lk_67 lk_68 lk_69 lk_46 lk_66) rfl rfl rfl (by decide +kernel) ⟨Nat.le_of_ble_eq_true rfl, Nat.le_of_ble_eq_true rfl⟩) ⟨fun a U g mk q => by obtain ⟨q0, q1, qP, qK, qD⟩ := q; exact ⟨q0, q1, qP, va_K.moved (u := U) (U := U.calling g mk a) (Vm.Alike.refl U.vm) qK, qD⟩, va_recv (ci := 4) (q0 := 0) hK hP rfl rfl, fun U hU hW => ⟨rfl, by rw [hU], by rw [hU]; exact hPc, va_K.moved hW.alike hKc, hDc.weaken (fun _ _ _ _ => trivial)⟩⟩ rfl rfl hl.1 rfl (lv_room (Nat.le_of_ble_eq_true rfl)) d_M_single_23 ⟨Nat.le_of_ble_eq_true rfl, Nat.le_of_ble_eq_true rfl⟩) hS (fun q _ h => hFc q h) hFc (fun u t H1 locs ht hvm hw hB hz1 hk1 hS => ?_)
        obtain ⟨hP1, hK1, hD1⟩ := hB
        rw [ht] at hP1
        obtain ⟨hP, hD⟩ := va_join (wr := []) (w1 := (mw_W h q g I3 A3)) hP hD [0, 1, 2, 3, 4, 5, 6, 7, 8, 9, 10, 11, 12, 13, 14, 15, 16, 17, 18, 19, 20] [] rfl rfl (by decide) (by decide) hk1 hFc hP1 hD1
        generalize H1 = H at hP hS ⊢
        have hP : va_P (dC, dI) vwCl (mw_W h q g I3 A3) H := hP
        have hD : va_D B9 (mw_W h q g I3 A3) := hD
        refine lv_aload_n hx hb d_M_single_26 rfl (lv_at hl 2 rfl) ?_
        refine lv_iload hx hb d_M_single_27 (lv_at hl 1 rfl) ?_
        refine lv_iload hx hb d_M_single_29 (lv_at hl 0 rfl) ?_
        have hPc := hP.sub (ws' := (mw_W h q g I3 A3)) [0, 1, 2, 3, 4, 5, 6, 7, 8, 9, 10, 11, 12, 13, 14, 15, 16, 17, 18, 19, 20] rfl
        have hDc := hD.sub (ws' := (mw_W h q g I3 A3)) [0, 1, 2, 3, 4, 5, 6, 7, 8, 9, 10, 11, 12, 13, 14, 15, 16, 17, 18, 19, 20] (by decide) rfl
        have hKc := hK.sub (tys' := (mw_T g)) [0, 1, 2, 3, 4, 5, 6, 7, 8, 9, 10, 11, 12, 13, 14, 15, 16, 17, 18, 19] rfl
        have hFc := va_free (wc := (mw_W h q g I3 A3)) hD hS hA [0, 1, 2, 3, 4, 5, 6, 7, 8, 9, 10, 11, 12, 13, 14, 15, 16, 17, 18, 19, 20] rfl
        cases hg4 : f_M_piece I3 A3 r1 r2 with
        | none => rw [hg4] at hf; cases hf
        | some z4 =>
          obtain ⟨r4, I4, A4⟩ := z4
          rw [hg4] at hf
          dsimp only [Option.bind_some] at hf
          refine va_calli (va_runV (As := [.int r1, .int r2]) (rest := []) ⟨hx, hb, hml, hown, hts⟩ (cm_M_piece l dC dI h q g _ I3 A3 r1 r2 r4 I4 A4 hg4) (cwV 2 hts (gd_v lk_72 lk_73 lk_74 lk_46 lk_71) rfl rfl rfl (by decide +kernel) ⟨Nat.le_of_ble_eq_true rfl, Nat.le_of_ble_eq_true rfl⟩) ⟨fun a U g mk q => by obtain ⟨q0, q1, qP, qK, qD⟩ := q; exact ⟨q0, q1, qP, va_K.moved (u := U) (U := U.calling g mk a) (Vm.Alike.refl U.vm) qK, qD⟩, va_recv (ci := 4) (q0 := 0) hK hP rfl rfl, fun U hU hW => ⟨rfl, by rw [hU], by rw [hU]; exact hPc, va_K.moved hW.alike hKc, hDc.weaken (fun _ _ _ _ => trivial)⟩⟩ rfl rfl hl.1 rfl (lv_room (Nat.le_of_ble_eq_true rfl)) d_M_single_31 ⟨Nat.le_of_ble_eq_true rfl, Nat.le_of_ble_eq_true rfl⟩) hS (fun q _ h => hFc q h) hFc (fun r9 u t H1 locs ht hvm hw hB hz1 hk1 hS => ?_)
          obtain ⟨hP1, hK1, hD1⟩ := hB
          rw [ht] at hP1
          rw [hw]
          obtain ⟨hP, hD⟩ := va_join (wr := []) (w1 := (mw_W h q g I4 A4)) hP hD [0, 1, 2, 3, 4, 5, 6, 7, 8, 9, 10, 11, 12, 13, 14, 15, 16, 17, 18, 19, 20] [] rfl rfl (by decide) (by decide) hk1 hFc hP1 hD1
          generalize H1 = H at hP hS ⊢
          have hP : va_P (dC, dI) vwCl (mw_W h q g I4 A4) H := hP
          have hD : va_D B9 (mw_W h q g I4 A4) := hD
          obtain ⟨e1, e2, e3⟩ := wk_inj hf
          subst e1
          subst e2
          subst e3
          exact W.iret (v := r4) hx hb hr (fun t ht hW => ⟨⟨r4, (), rfl, rfl, by rw [ht]; exact hP, va_K.moved hW.alike hK, hD⟩, hS.F ht⟩) hS.2.2 d_M_single_34

set_option maxHeartbeats 8000000 in
set_option maxRecDepth 100000 in
theorem cm_M_newPart (l : Launch) (dC : Nat → ClassId) (dI : Nat → Nat → Nat) (h : Nat) (q : Nat → Nat) (g : Nat → ClassId) (sz : Nat) (I : MI) (A : MA) (k1 : Int32) (r : Int32) (I' : MI) (A' : MA) (hf : f_M_newPart I A k1 = some (r, I', A')) : Met l y_M_newPart w_M_newPart ({ frames := 2, cells := 0, slots := 0, locals := 44 }) (va_Pc [.ref h, .int k1] (fun U => U.heap.size = sz ∧ va_P (dC, dI) vwCl (mw_W h q g I A) U.heap ∧ va_K (dC, dI) vwCl (mw_T g) U ∧ va_D (fun _ => True) (mw_W h q g I A))) (va_Qv (fun (u : Unit) => u = u) (fun (_ : Unit) t => va_P (dC, dI) vwCl (mw_W h q g I' A') t.heap ∧ va_K (dC, dI) vwCl (mw_T g) t ∧ va_D (va_A (mw_W h q g I A) sz) (mw_W h q g I' A')) (va_A (mw_W h q g I A) sz)) 0 0 (va_A (mw_W h q g I A) sz) := by
  refine Met.ofW (cc := prog_6_method_34_code) (maxL := 3) (ret := none) (by decide) rfl ?_
  intro p e s m args below meth c s₁ B hml hv
  obtain ⟨rfl, hsz, hP, hK, hD0⟩ := hv
  have hx := B.exec
  have hb := B.bytes
  have hr := B.returns
  have hts := atoms_spec (ws := w_M_newPart) B.pre
  have hown : s.vm.findClass R_M = some m.cls := findClass_of_methodNamed B.named
  have hlocks := B.notSynchronized
  subst hsz
  have hD := hD0.self (sz := s.heap.size)
  generalize hAe : va_A (mw_W h q g I A) s.heap.size = B9 at hD ⊢
  have hA : ∀ q : Nat, s.heap.size ≤ q → B9 q := fun q h => by rw [← hAe]; exact Or.inr h
  clear hAe
  have hS : va_S B9 s.heap s.heap [] := va_S.rf
  have hl := lv_entry ([.ref h, .int k1]) (n := 3) (Nat.le_of_ble_eq_true rfl)
  rw [lg_entry_eq]
  generalize (lg_sl ([.ref h, .int k1]) ++ List.replicate (3 - (lg_sl ([.ref h, .int k1])).length) Slot.unset).toArray = ls at hl ⊢
  have hl : lv_has ls 3 [(0, .ref h), (1, .int k1)] := hl
  unfold f_M_newPart at hf
  refine lv_aload_n hx hb d_M_newPart_0 rfl (lv_at hl 0 rfl) ?_
  refine va_get (D := (dC, dI)) (ci := 4) (v := .int (I 28)) (C := R_M) (T := F_M) (N := 38) hx hb hts (fun w h => List.mem_cons_of_mem _ (in_M w h)) hown hK hP 0 rfl rfl 28 (by decide) (hts _ (List.mem_cons_of_mem _ lk_78)) (fun _ h9 => h9) rfl d_M_newPart_1 ?_
  refine lv_iconst (v := 1) hx hb d_M_newPart_4 (by decide) ?_
  refine lv_isub hx hb d_M_newPart_5 ?_
  refine lv_istore_n (lv' := [(2, .int ((I 28) - 1)), (0, .ref h), (1, .int k1)]) hx hb d_M_newPart_6 rfl hl (by decide) rfl (fun ls hl => ?_)
  have hl : lv_has ls 3 [(2, .int ((I 28) - 1)), (0, .ref h), (1, .int k1)] := hl
  refine lv_aload_n hx hb d_M_newPart_7 rfl (lv_at hl 1 rfl) ?_
  refine va_get (D := (dC, dI)) (ci := 4) (v := .ref (q 30)) (C := R_M) (T := F_M) (N := 38) hx hb hts (fun w h => List.mem_cons_of_mem _ (in_M w h)) hown hK hP 0 rfl rfl 30 (by decide) (hts _ (List.mem_cons_of_mem _ lk_94)) (fun _ h9 => h9) rfl d_M_newPart_8 ?_
  refine lv_iload_n hx hb d_M_newPart_11 rfl (lv_at hl 0 rfl) ?_
  refine lv_aload_n hx hb d_M_newPart_12 rfl (lv_at hl 1 rfl) ?_
  refine lv_aload_n hx hb d_M_newPart_13 rfl (lv_at hl 1 rfl) ?_
  refine va_get (D := (dC, dI)) (ci := 4) (v := .ref (q 30)) (C := R_M) (T := F_M) (N := 38) hx hb hts (fun w h => List.mem_cons_of_mem _ (in_M w h)) hown hK hP 0 rfl rfl 30 (by decide) (hts _ (List.mem_cons_of_mem _ lk_94)) (fun _ h9 => h9) rfl d_M_newPart_14 ?_
  refine lv_iload_n hx hb d_M_newPart_17 rfl (lv_at hl 0 rfl) ?_
  obtain ⟨hc1, hf⟩ := wk_if hf
  refine va_iald hx hb hK hP 16 15 rfl rfl (wk_inb_ok hc1) d_M_newPart_18 ?_
  refine lv_aload_n hx hb d_M_newPart_19 rfl (lv_at hl 1 rfl) ?_
  refine va_get (D := (dC, dI)) (ci := 4) (v := .ref (q 31)) (C := R_M) (T := F_M) (N := 38) hx hb hts (fun w h => List.mem_cons_of_mem _ (in_M w h)) hown hK hP 0 rfl rfl 31 (by decide) (hts _ (List.mem_cons_of_mem _ lk_95)) (fun _ h9 => h9) rfl d_M_newPart_20 ?_
  refine lv_iload_n hx hb d_M_newPart_23 rfl (lv_at hl 0 rfl) ?_
  obtain ⟨hc2, hf⟩ := wk_if hf
  refine va_iald hx hb hK hP 17 16 rfl rfl (wk_inb_ok hc2) d_M_newPart_24 ?_
  have hPc := hP.sub (ws' := (mw_W h q g I A)) [0, 1, 2, 3, 4, 5, 6, 7, 8, 9, 10, 11, 12, 13, 14, 15, 16, 17, 18, 19, 20] rfl
  have hDc := hD.sub (ws' := (mw_W h q g I A)) [0, 1, 2, 3, 4, 5, 6, 7, 8, 9, 10, 11, 12, 13, 14, 15, 16, 17, 18, 19, 20] (by decide) rfl
  have hKc := hK.sub (tys' := (mw_T g)) [0, 1, 2, 3, 4, 5, 6, 7, 8, 9, 10, 11, 12, 13, 14, 15, 16, 17, 18, 19] rfl
  have hFc := va_free (wc := (mw_W h q g I A)) hD hS hA [0, 1, 2, 3, 4, 5, 6, 7, 8, 9, 10, 11, 12, 13, 14, 15, 16, 17, 18, 19, 20] rfl
  cases hg1 : f_M_behind I A ((A 30) (((I 28) - 1)).toNatClampNeg) ((A 31) (((I 28) - 1)).toNatClampNeg) with
  | none => rw [hg1] at hf; cases hf
  | some z1 =>
    obtain ⟨r1, I1, A1⟩ := z1
    rw [hg1] at hf
    dsimp only [Option.bind_some] at hf
    refine va_calli (va_runV (As := [.int ((A 30) (((I 28) - 1)).toNatClampNeg), .int ((A 31) (((I 28) - 1)).toNatClampNeg)]) (rest := [.int ((I 28) - 1), .ref (q 30)]) ⟨hx, hb, hml, hown, hts⟩ (cm_M_behind l dC dI h q g _ I A ((A 30) (((I 28) - 1)).toNatClampNeg) ((A 31) (((I 28) - 1)).toNatClampNeg) r1 I1 A1 hg1) (cwV 2 hts (gd_v lk_96 lk_97 lk_98 lk_46 lk_75) rfl rfl rfl (by decide +kernel) ⟨Nat.le_of_ble_eq_true rfl, Nat.le_of_ble_eq_true rfl⟩) ⟨fun a U g mk q => by obtain ⟨q0, q1, qP, qK, qD⟩ := q; exact ⟨q0, q1, qP, va_K.moved (u := U) (U := U.calling g mk a) (Vm.Alike.refl U.vm) qK, qD⟩, va_recv (ci := 4) (q0 := 0) hK hP rfl rfl, fun U hU hW => ⟨rfl, by rw [hU], by rw [hU]; exact hPc, va_K.moved hW.alike hKc, hDc.weaken (fun _ _ _ _ => trivial)⟩⟩ rfl rfl hl.1 rfl (lv_room (Nat.le_of_ble_eq_true rfl)) d_M_newPart_25 ⟨Nat.le_of_ble_eq_true rfl, Nat.le_of_ble_eq_true rfl⟩) hS (fun q _ h => hFc q h) hFc (fun r9 u t H1 locs ht hvm hw hB hz1 hk1 hS => ?_)
    obtain ⟨hP1, hK1, hD1⟩ := hB
    rw [ht] at hP1
    rw [hw]
    obtain ⟨hP, hD⟩ := va_join (wr := []) (w1 := (mw_W h q g I1 A1)) hP hD [0, 1, 2, 3, 4, 5, 6, 7, 8, 9, 10, 11, 12, 13, 14, 15, 16, 17, 18, 19, 20] [] rfl rfl (by decide) (by decide) hk1 hFc hP1 hD1
    generalize H1 = H at hP hS ⊢
    have hP : va_P (dC, dI) vwCl (mw_W h q g I1 A1) H := hP
    have hD : va_D B9 (mw_W h q g I1 A1) := hD
    obtain ⟨hc3, hf⟩ := wk_if hf
    refine va_iast hx hb hK hP hD hS 16 15 rfl rfl (wk_inb_ok hc3) d_M_newPart_28 (fun H locs hP hD hS => ?_)
    obtain ⟨A2, hA2, hf⟩ := wk_letE hf
    have hP : va_P (dC, dI) vwCl (mw_W h q g I1 A2) H := by rw [hA2]; exact hP
    have hD : va_D B9 (mw_W h q g I1 A2) := by rw [hA2]; exact hD
    clear hA2
    refine lv_aload_n hx hb d_M_newPart_29 rfl (lv_at hl 1 rfl) ?_
    refine va_get (D := (dC, dI)) (ci := 4) (v := .ref (q 31)) (C := R_M) (T := F_M) (N := 38) hx hb hts (fun w h => List.mem_cons_of_mem _ (in_M w h)) hown hK hP 0 rfl rfl 31 (by decide) (hts _ (List.mem_cons_of_mem _ lk_95)) (fun _ h9 => h9) rfl d_M_newPart_30 ?_
    refine lv_iload_n hx hb d_M_newPart_33 rfl (lv_at hl 0 rfl) ?_
    refine lv_iload_n hx hb d_M_newPart_34 rfl (lv_at hl 2 rfl) ?_
    obtain ⟨hc4, hf⟩ := wk_if hf
    refine va_iast hx hb hK hP hD hS 17 16 rfl rfl (wk_inb_ok hc4) d_M_newPart_35 (fun H locs hP hD hS => ?_)
    obtain ⟨A3, hA3, hf⟩ := wk_letE hf
    have hP : va_P (dC, dI) vwCl (mw_W h q g I1 A3) H := by rw [hA3]; exact hP
    have hD : va_D B9 (mw_W h q g I1 A3) := by rw [hA3]; exact hD
    clear hA3
    obtain ⟨e1, e2, e3⟩ := wk_inj hf
    subst e1
    subst e2
    subst e3
    exact W.vret hx hb hr (fun t ht hW => ⟨⟨(), rfl, rfl, by rw [ht]; exact hP, va_K.moved hW.alike hK, hD⟩, hS.F ht⟩) hS.2.2 d_M_newPart_36

-- 16.mcon02
set_option maxHeartbeats 8000000 in
set_option maxRecDepth 100000 in
theorem cm_M_either (l : Launch) (dC : Nat → ClassId) (dI : Nat → Nat → Nat) (h : Nat) (q : Nat → Nat) (g : Nat → ClassId) (sz : Nat) (I : MI) (A : MA) (k1 k2 : Int32) (r : Int32) (I' : MI) (A' : MA) (hf : f_M_either I A k1 k2 = some (r, I', A')) : Met l y_M_either w_M_either ({ frames := 1, cells := 0, slots := 0, locals := 23 }) (va_Pc [.ref h, .int k1, .int k2] (fun U => U.heap.size = sz ∧ va_P (dC, dI) vwCl (mw_W h q g I A) U.heap ∧ va_K (dC, dI) vwCl (mw_T g) U ∧ va_D (fun _ => True) (mw_W h q g I A))) (va_Qi (fun (r9 : Int32) (_ : Unit) => r9 = r) (fun (_ : Unit) t => va_P (dC, dI) vwCl (mw_W h q g I' A') t.heap ∧ va_K (dC, dI) vwCl (mw_T g) t ∧ va_D (va_A (mw_W h q g I A) sz) (mw_W h q g I' A')) (va_A (mw_W h q g I A) sz)) 0 0 (va_A (mw_W h q g I A) sz) := by
  refine Met.ofW (cc := prog_6_method_30_code) (maxL := 5) (ret := (some .int)) (by decide) rfl ?_
  intro p e s m args below meth c s₁ B hml hv
  obtain ⟨rfl, hsz, hP, hK, hD0⟩ := hv
  have hx := B.exec
  have hb := B.bytes
  have hr := B.returns
  have hts := atoms_spec (ws := w_M_either) B.pre
  have hown : s.vm.findClass R_M = some m.cls := findClass_of_methodNamed B.named
  have hlocks := B.notSynchronized
  subst hsz
  have hD := hD0.self (sz := s.heap.size)
  generalize hAe : va_A (mw_W h q g I A) s.heap.size = B9 at hD ⊢
  have hA : ∀ q : Nat, s.heap.size ≤ q → B9 q := fun q h => by rw [← hAe]; exact Or.inr h
  clear hAe
  have hS : va_S B9 s.heap s.heap [] := va_S.rf
  have hl := lv_entry ([.ref h, .int k1, .int k2]) (n := 5) (Nat.le_of_ble_eq_true rfl)
  rw [lg_entry_eq]
  generalize (lg_sl ([.ref h, .int k1, .int k2]) ++ List.replicate (5 - (lg_sl ([.ref h, .int k1, .int k2])).length) Slot.unset).toArray = ls at hl ⊢
  have hl : lv_has ls 5 [(0, .ref h), (1, .int k1), (2, .int k2)] := hl
  unfold f_M_either at hf
  refine lv_iload_n hx hb d_M_either_0 rfl (lv_at hl 1 rfl) ?_
  refine lv_if_ge (tgt := 6) hx hb d_M_either_1 (by decide) (fun hc1 => ?_) (fun hc1 => ?_)
  ·
    have hf := wk_ift hc1 hf
    refine lv_aload_n hx hb d_M_either_6 rfl (lv_at hl 0 rfl) ?_
    refine lv_iconst (v := 0) hx hb d_M_either_7 (by decide) ?_
    refine lv_iconst (v := 0) hx hb d_M_either_8 (by decide) ?_
    refine lv_iconst (v := 0) hx hb d_M_either_9 (by decide) ?_
    have hPc := hP.sub (ws' := (mw_W h q g I A)) [0, 1, 2, 3, 4, 5, 6, 7, 8, 9, 10, 11, 12, 13, 14, 15, 16, 17, 18, 19, 20] rfl
    have hDc := hD.sub (ws' := (mw_W h q g I A)) [0, 1, 2, 3, 4, 5, 6, 7, 8, 9, 10, 11, 12, 13, 14, 15, 16, 17, 18, 19, 20] (by decide) rfl
    have hKc := hK.sub (tys' := (mw_T g)) [0, 1, 2, 3, 4, 5, 6, 7, 8, 9, 10, 11, 12, 13, 14, 15, 16, 17, 18, 19] rfl
    have hFc := va_free (wc := (mw_W h q g I A)) hD hS hA [0, 1, 2, 3, 4, 5, 6, 7, 8, 9, 10, 11, 12, 13, 14, 15, 16, 17, 18, 19, 20] rfl
    cases hg1 : f_M_node I A 0 0 0 with
    | none => rw [hg1] at hf; cases hf
    | some z1 =>
      obtain ⟨r1, I1, A1⟩ := z1
      rw [hg1] at hf
      dsimp only [Option.bind_some] at hf
      refine va_calli (va_runV (As := [.int 0, .int 0, .int 0]) (rest := []) ⟨hx, hb, hml, hown, hts⟩ (cm_M_node l dC dI h q g _ I A 0 0 0 r1 I1 A1 hg1) (cwV 3 hts (gd_v lk_87 lk_88 lk_89 lk_46 lk_86) rfl rfl rfl (by decide +kernel) ⟨Nat.le_of_ble_eq_true rfl, Nat.le_of_ble_eq_true rfl⟩) ⟨fun a U g mk q => by obtain ⟨q0, q1, qP, qK, qD⟩ := q; exact ⟨q0, q1, qP, va_K.moved (u := U) (U := U.calling g mk a) (Vm.Alike.refl U.vm) qK, qD⟩, va_recv (ci := 4) (q0 := 0) hK hP rfl rfl, fun U hU hW => ⟨rfl, by rw [hU], by rw [hU]; exact hPc, va_K.moved hW.alike hKc, hDc.weaken (fun _ _ _ _ => trivial)⟩⟩ rfl rfl hl.1 rfl (lv_room (Nat.le_of_ble_eq_true rfl)) d_M_either_10 ⟨Nat.le_of_ble_eq_true rfl, Nat.le_of_ble_eq_true rfl⟩) hS (fun q _ h => hFc q h) hFc (fun r9 u t H1 locs ht hvm hw hB hz1 hk1 hS => ?_)
      obtain ⟨hP1, hK1, hD1⟩ := hB
      rw [ht] at hP1
      rw [hw]
      obtain ⟨hP, hD⟩ := va_join (wr := []) (w1 := (mw_W h q g I1 A1)) hP hD [0, 1, 2, 3, 4, 5, 6, 7, 8, 9, 10, 11, 12, 13, 14, 15, 16, 17, 18, 19, 20] [] rfl rfl (by decide) (by decide) hk1 hFc hP1 hD1
      generalize H1 = H at hP hS ⊢
      have hP : va_P (dC, dI) vwCl (mw_W h q g I1 A1) H := hP
      have hD : va_D B9 (mw_W h q g I1 A1) := hD
      refine lv_istore_n (lv' := [(3, .int r1), (0, .ref h), (1, .int k1), (2, .int k2)]) hx hb d_M_either_13 rfl hl (by decide) rfl (fun ls hl => ?_)
      have hl : lv_has ls 5 [(3, .int r1), (0, .ref h), (1, .int k1), (2, .int k2)] := hl
      refine lv_aload_n hx hb d_M_either_14 rfl (lv_at hl 1 rfl) ?_
      refine lv_iconst (v := 0) hx hb d_M_either_15 (by decide) ?_
      refine lv_iconst (v := 0) hx hb d_M_either_16 (by decide) ?_
      refine lv_iconst (v := 0) hx hb d_M_either_17 (by decide) ?_
      have hPc := hP.sub (ws' := (mw_W h q g I1 A1)) [0, 1, 2, 3, 4, 5, 6, 7, 8, 9, 10, 11, 12, 13, 14, 15, 16, 17, 18, 19, 20] rfl
      have hDc := hD.sub (ws' := (mw_W h q g I1 A1)) [0, 1, 2, 3, 4, 5, 6, 7, 8, 9, 10, 11, 12, 13, 14, 15, 16, 17, 18, 19, 20] (by decide) rfl
      have hKc := hK.sub (tys' := (mw_T g)) [0, 1, 2, 3, 4, 5, 6, 7, 8, 9, 10, 11, 12, 13, 14, 15, 16, 17, 18, 19] rfl
      have hFc := va_free (wc := (mw_W h q g I1 A1)) hD hS hA [0, 1, 2, 3, 4, 5, 6, 7, 8, 9, 10, 11, 12, 13, 14, 15, 16, 17, 18, 19, 20] rfl
      cases hg2 : f_M_node I1 A1 0 0 0 with
      | none => rw [hg2] at hf; cases hf
      | some z2 =>
        obtain ⟨r2, I2, A2⟩ := z2
        rw [hg2] at hf
        dsimp only [Option.bind_some] at hf
        refine va_calli (va_runV (As := [.int 0, .int 0, .int 0]) (rest := []) ⟨hx, hb, hml, hown, hts⟩ (cm_M_node l dC dI h q g _ I1 A1 0 0 0 r2 I2 A2 hg2) (cwV 3 hts (gd_v lk_87 lk_88 lk_89 lk_46 lk_86) rfl rfl rfl (by decide +kernel) ⟨Nat.le_of_ble_eq_true rfl, Nat.le_of_ble_eq_true rfl⟩) ⟨fun a U g mk q => by obtain ⟨q0, q1, qP, qK, qD⟩ := q; exact ⟨q0, q1, qP, va_K.moved (u := U) (U := U.calling g mk a) (Vm.Alike.refl U.vm) qK, qD⟩, va_recv (ci := 4) (q0 := 0) hK hP rfl rfl, fun U hU hW => ⟨rfl, by rw [hU], by rw [hU]; exact hPc, va_K.moved hW.alike hKc, hDc.weaken (fun _ _ _ _ => trivial)⟩⟩ rfl rfl hl.1 rfl (lv_room (Nat.le_of_ble_eq_true rfl)) d_M_either_18 ⟨Nat.le_of_ble_eq_true rfl, Nat.le_of_ble_eq_true rfl⟩) hS (fun q _ h => hFc q h) hFc (fun r9 u t H1 locs ht hvm hw hB hz1 hk1 hS => ?_)
        obtain ⟨hP1, hK1, hD1⟩ := hB
        rw [ht] at hP1
        rw [hw]
        obtain ⟨hP, hD⟩ := va_join (wr := []) (w1 := (mw_W h q g I2 A2)) hP hD [0, 1, 2, 3, 4, 5, 6, 7, 8, 9, 10, 11, 12, 13, 14, 15, 16, 17, 18, 19, 20] [] rfl rfl (by decide) (by decide) hk1 hFc hP1 hD1
        generalize H1 = H at hP hS ⊢
        have hP : va_P (dC, dI) vwCl (mw_W h q g I2 A2) H := hP
        have hD : va_D B9 (mw_W h q g I2 A2) := hD
        refine lv_istore (lv' := [(4, .int r2), (3, .int r1), (0, .ref h), (1, .int k1), (2, .int k2)]) hx hb d_M_either_21 hl (by decide) rfl (fun ls hl => ?_)
        have hl : lv_has ls 5 [(4, .int r2), (3, .int r1), (0, .ref h), (1, .int k1), (2, .int k2)] := hl
        refine lv_aload_n hx hb d_M_either_23 rfl (lv_at hl 2 rfl) ?_
        refine lv_iload_n hx hb d_M_either_24 rfl (lv_at hl 1 rfl) ?_
        refine lv_aload_n hx hb d_M_either_25 rfl (lv_at hl 2 rfl) ?_
        refine va_get (D := (dC, dI)) (ci := 4) (v := .ref (q 26)) (C := R_M) (T := F_M) (N := 38) hx hb hts (fun w h => List.mem_cons_of_mem _ (in_M w h)) hown hK hP 0 rfl rfl 26 (by decide) (hts _ (List.mem_cons_of_mem _ lk_63)) (fun _ h9 => h9) rfl d_M_either_26 ?_
        refine lv_iload_n hx hb d_M_either_29 rfl (lv_at hl 3 rfl) ?_
        obtain ⟨hc2, hf⟩ := wk_if hf
        refine va_iald hx hb hK hP 13 12 rfl rfl (wk_inb_ok hc2) d_M_either_30 ?_
        have hPc := hP.sub (ws' := (mw_W h q g I2 A2)) [0, 1, 2, 3, 4, 5, 6, 7, 8, 9, 10, 11, 12, 13, 14, 15, 16, 17, 18, 19, 20] rfl
        have hDc := hD.sub (ws' := (mw_W h q g I2 A2)) [0, 1, 2, 3, 4, 5, 6, 7, 8, 9, 10, 11, 12, 13, 14, 15, 16, 17, 18, 19, 20] (by decide) rfl
        have hKc := hK.sub (tys' := (mw_T g)) [0, 1, 2, 3, 4, 5, 6, 7, 8, 9, 10, 11, 12, 13, 14, 15, 16, 17, 18, 19] rfl
        have hFc := va_free (wc := (mw_W h q g I2 A2)) hD hS hA [0, 1, 2, 3, 4, 5, 6, 7, 8, 9, 10, 11, 12, 13, 14, 15, 16, 17, 18, 19, 20] rfl
        cases hg3 : f_M_link I2 A2 r1 ((A2 26) (k1).toNatClampNeg) with
        | none => rw [hg3] at hf; cases hf
        | some z3 =>
          obtain ⟨r3, I3, A3⟩ := z3
          rw [hg3] at hf
          dsimp only [Option.bind_some] at hf
          refine va_callv (va_runV (As := [.int r1, .int ((A2 26) (k1).toNatClampNeg)]) (rest := []) ⟨hx, hb, hml, hown, hts⟩ (cm_M_link l dC dI h q g _ I2 A2 r1 ((A2 26) (k1).toNatClampNeg) r3 I3 A3 hg3) (cwV 2 hts (gd_v lk_67 lk_68 lk_69 lk_46 lk_66) rfl rfl rfl (by decide +kernel) ⟨Nat.le_of_ble_eq_true rfl, Nat.le_of_ble_eq_true rfl⟩) ⟨fun a U g mk q => by obtain ⟨q0, q1, qP, qK, qD⟩ := q; exact ⟨q0, q1, qP, va_K.moved (u := U) (U := U.calling g mk a) (Vm.Alike.refl U.vm) qK, qD⟩, va_recv (ci := 4) (q0 := 0) hK hP rfl rfl, fun U hU hW => ⟨rfl, by rw [hU], by rw [hU]; exact hPc, va_K.moved hW.alike hKc, hDc.weaken (fun _ _ _ _ => trivial)⟩⟩ rfl rfl hl.1 rfl (lv_room (Nat.le_of_ble_eq_true rfl)) d_M_either_31 ⟨Nat.le_of_ble_eq_true rfl, Nat.le_of_ble_eq_true rfl⟩) hS (fun q _ h => hFc q h) hFc (fun u t H1 locs ht hvm hw hB hz1 hk1 hS => ?_)
          obtain ⟨hP1, hK1, hD1⟩ := hB
          rw [ht] at hP1
          obtain ⟨hP, hD⟩ := va_join (wr := []) (w1 := (mw_W h q g I3 A3)) hP hD [0, 1, 2, 3, 4, 5, 6, 7, 8, 9, 10, 11, 12, 13, 14, 15, 16, 17, 18, 19, 20] [] rfl rfl (by decide) (by decide) hk1 hFc hP1 hD1
          generalize H1 = H at hP hS ⊢
          have hP : va_P (dC, dI) vwCl (mw_W h q g I3 A3) H := hP
          have hD : va_D B9 (mw_W h q g I3 A3) := hD
          refine lv_aload_n hx hb d_M_either_34 rfl (lv_at hl 2 rfl) ?_
          refine lv_iload_n hx hb d_M_either_35 rfl (lv_at hl 1 rfl) ?_
          refine lv_aload_n hx hb d_M_either_36 rfl (lv_at hl 2 rfl) ?_
          refine va_get (D := (dC, dI)) (ci := 4) (v := .ref (q 26)) (C := R_M) (T := F_M) (N := 38) hx hb hts (fun w h => List.mem_cons_of_mem _ (in_M w h)) hown hK hP 0 rfl rfl 26 (by decide) (hts _ (List.mem_cons_of_mem _ lk_63)) (fun _ h9 => h9) rfl d_M_either_37 ?_
          refine lv_iload_n hx hb d_M_either_40 rfl (lv_at hl 4 rfl) ?_
          obtain ⟨hc3, hf⟩ := wk_if hf
          refine va_iald hx hb hK hP 13 12 rfl rfl (wk_inb_ok hc3) d_M_either_41 ?_
          have hPc := hP.sub (ws' := (mw_W h q g I3 A3)) [0, 1, 2, 3, 4, 5, 6, 7, 8, 9, 10, 11, 12, 13, 14, 15, 16, 17, 18, 19, 20] rfl
          have hDc := hD.sub (ws' := (mw_W h q g I3 A3)) [0, 1, 2, 3, 4, 5, 6, 7, 8, 9, 10, 11, 12, 13, 14, 15, 16, 17, 18, 19, 20] (by decide) rfl
          have hKc := hK.sub (tys' := (mw_T g)) [0, 1, 2, 3, 4, 5, 6, 7, 8, 9, 10, 11, 12, 13, 14, 15, 16, 17, 18, 19] rfl
          have hFc := va_free (wc := (mw_W h q g I3 A3)) hD hS hA [0, 1, 2, 3, 4, 5, 6, 7, 8, 9, 10, 11, 12, 13, 14, 15, 16, 17, 18, 19, 20] rfl
          cases hg4 : f_M_link I3 A3 r1 ((A3 26) (k2).toNatClampNeg) with
          | none => rw [hg4] at hf; cases hf
          | some z4 =>
            obtain ⟨r4, I4, A4⟩ := z4
            rw [hg4] at hf
            dsimp only [Option.bind_some] at hf
            refine va_callv (va_runV (As := [.int r1, .int ((A3 26) (k2).toNatClampNeg)]) (rest := []) ⟨hx, hb, hml, hown, hts⟩ (cm_M_link l dC dI h q g _ I3 A3 r1 ((A3 26) (k2).toNatClampNeg) r4 I4 A4 hg4) (cwV 2 hts (gd_v lk_67 lk_68 lk_69 lk_46 lk_66) rfl rfl rfl (by decide +kernel) ⟨Nat.le_of_ble_eq_true rfl, Nat.le_of_ble_eq_true rfl⟩) ⟨fun a U g mk q => by obtain ⟨q0, q1, qP, qK, qD⟩ := q; exact ⟨q0, q1, qP, va_K.moved (u := U) (U := U.calling g mk a) (Vm.Alike.refl U.vm) qK, qD⟩, va_recv (ci := 4) (q0 := 0) hK hP rfl rfl, fun U hU hW => ⟨rfl, by rw [hU], by rw [hU]; exact hPc, va_K.moved hW.alike hKc, hDc.weaken (fun _ _ _ _ => trivial)⟩⟩ rfl rfl hl.1 rfl (lv_room (Nat.le_of_ble_eq_true rfl)) d_M_either_42 ⟨Nat.le_of_ble_eq_true rfl, Nat.le_of_ble_eq_true rfl⟩) hS (fun q _ h => hFc q h) hFc (fun u t H1 locs ht hvm hw hB hz1 hk1 hS => ?_)
            obtain ⟨hP1, hK1, hD1⟩ := hB
            rw [ht] at hP1
            obtain ⟨hP, hD⟩ := va_join (wr := []) (w1 := (mw_W h q g I4 A4)) hP hD [0, 1, 2, 3, 4, 5, 6, 7, 8, 9, 10, 11, 12, 13, 14, 15, 16, 17, 18, 19, 20] [] rfl rfl (by decide) (by decide) hk1 hFc hP1 hD1
            generalize H1 = H at hP hS ⊢
            have hP : va_P (dC, dI) vwCl (mw_W h q g I4 A4) H := hP
            have hD : va_D B9 (mw_W h q g I4 A4) := hD
            refine lv_aload_n hx hb d_M_either_45 rfl (lv_at hl 2 rfl) ?_
            refine lv_aload_n hx hb d_M_either_46 rfl (lv_at hl 2 rfl) ?_
            refine va_get (D := (dC, dI)) (ci := 4) (v := .ref (q 27)) (C := R_M) (T := F_M) (N := 38) hx hb hts (fun w h => List.mem_cons_of_mem _ (in_M w h)) hown hK hP 0 rfl rfl 27 (by decide) (hts _ (List.mem_cons_of_mem _ lk_62)) (fun _ h9 => h9) rfl d_M_either_47 ?_
            refine lv_iload_n hx hb d_M_either_50 rfl (lv_at hl 3 rfl) ?_
            obtain ⟨hc4, hf⟩ := wk_if hf
            refine va_iald hx hb hK hP 14 13 rfl rfl (wk_inb_ok hc4) d_M_either_51 ?_
            refine lv_iload hx hb d_M_either_52 (lv_at hl 0 rfl) ?_
            have hPc := hP.sub (ws' := (mw_W h q g I4 A4)) [0, 1, 2, 3, 4, 5, 6, 7, 8, 9, 10, 11, 12, 13, 14, 15, 16, 17, 18, 19, 20] rfl
            have hDc := hD.sub (ws' := (mw_W h q g I4 A4)) [0, 1, 2, 3, 4, 5, 6, 7, 8, 9, 10, 11, 12, 13, 14, 15, 16, 17, 18, 19, 20] (by decide) rfl
            have hKc := hK.sub (tys' := (mw_T g)) [0, 1, 2, 3, 4, 5, 6, 7, 8, 9, 10, 11, 12, 13, 14, 15, 16, 17, 18, 19] rfl
            have hFc := va_free (wc := (mw_W h q g I4 A4)) hD hS hA [0, 1, 2, 3, 4, 5, 6, 7, 8, 9, 10, 11, 12, 13, 14, 15, 16, 17, 18, 19, 20] rfl
            cases hg5 : f_M_link I4 A4 ((A4 27) (k1).toNatClampNeg) r2 with
            | none => rw [hg5] at hf; cases hf
            | some z5 =>
              obtain ⟨r5, I5, A5⟩ := z5
              rw [hg5] at hf
              dsimp only [Option.bind_some] at hf
              refine va_callv (va_runV (As := [.int ((A4 27) (k1).toNatClampNeg), .int r2]) (rest := []) ⟨hx, hb, hml, hown, hts⟩ (cm_M_link l dC dI h q g _ I4 A4 ((A4 27) (k1).toNatClampNeg) r2 r5 I5 A5 hg5) (cwV 2 hts (gd_v lk_67 lk_68 lk_69 lk_46 lk_66) rfl rfl rfl (by decide +kernel) ⟨Nat.le_of_ble_eq_true rfl, Nat.le_of_ble_eq_true rfl⟩) ⟨fun a U g mk q => by obtain ⟨q0, q1, qP, qK, qD⟩ := q; exact ⟨q0, q1, qP, va_K.moved (u := U) (U := U.calling g mk a) (Vm.Alike.refl U.vm) qK, qD⟩, va_recv (ci := 4) (q0 := 0) hK hP rfl rfl, fun U hU hW => ⟨rfl, by rw [hU], by rw [hU]; exact hPc, va_K.moved hW.alike hKc, hDc.weaken (fun _ _ _ _ => trivial)⟩⟩ rfl rfl hl.1 rfl (lv_room (Nat.le_of_ble_eq_true rfl)) d_M_either_54 ⟨Nat.le_of_ble_eq_true rfl, Nat.le_of_ble_eq_true rfl⟩) hS (fun q _ h => hFc q h) hFc (fun u t H1 locs ht hvm hw hB hz1 hk1 hS => ?_)
              obtain ⟨hP1, hK1, hD1⟩ := hB
              rw [ht] at hP1
              obtain ⟨hP, hD⟩ := va_join (wr := []) (w1 := (mw_W h q g I5 A5)) hP hD [0, 1, 2, 3, 4, 5, 6, 7, 8, 9, 10, 11, 12, 13, 14, 15, 16, 17, 18, 19, 20] [] rfl rfl (by decide) (by decide) hk1 hFc hP1 hD1
              generalize H1 = H at hP hS ⊢
              have hP : va_P (dC, dI) vwCl (mw_W h q g I5 A5) H := hP
              have hD : va_D B9 (mw_W h q g I5 A5) := hD
              refine lv_aload_n hx hb d_M_either_57 rfl (lv_at hl 2 rfl) ?_
              refine lv_aload_n hx hb d_M_either_58 rfl (lv_at hl 2 rfl) ?_
              refine va_get (D := (dC, dI)) (ci := 4) (v := .ref (q 27)) (C := R_M) (T := F_M) (N := 38) hx hb hts (fun w h => List.mem_cons_of_mem _ (in_M w h)) hown hK hP 0 rfl rfl 27 (by decide) (hts _ (List.mem_cons_of_mem _ lk_62)) (fun _ h9 => h9) rfl d_M_either_59 ?_
              refine lv_iload_n hx hb d_M_either_62 rfl (lv_at hl 4 rfl) ?_
              obtain ⟨hc5, hf⟩ := wk_if hf
              refine va_iald hx hb hK hP 14 13 rfl rfl (wk_inb_ok hc5) d_M_either_63 ?_
              refine lv_iload hx hb d_M_either_64 (lv_at hl 0 rfl) ?_
              have hPc := hP.sub (ws' := (mw_W h q g I5 A5)) [0, 1, 2, 3, 4, 5, 6, 7, 8, 9, 10, 11, 12, 13, 14, 15, 16, 17, 18, 19, 20] rfl
              have hDc := hD.sub (ws' := (mw_W h q g I5 A5)) [0, 1, 2, 3, 4, 5, 6, 7, 8, 9, 10, 11, 12, 13, 14, 15, 16, 17, 18, 19, 20] (by decide) rfl
              have hKc := hK.sub (tys' := (mw_T g)) [0, 1, 2, 3, 4, 5, 6, 7, 8, 9, 10, 11, 12, 13, 14, 15, 16, 17, 18, 19] rfl
              have hFc := va_free (wc := (mw_W h q g I5 A5)) hD hS hA [0, 1, 2, 3, 4, 5, 6, 7, 8, 9, 10, 11, 12, 13, 14, 15, 16, 17, 18, 19, 20] rfl
              cases hg6 : f_M_link I5 A5 ((A5 27) (k2).toNatClampNeg) r2 with
              | none => rw [hg6] at hf; cases hf
              | some z6 =>
                obtain ⟨r6, I6, A6⟩ := z6
                rw [hg6] at hf
                dsimp only [Option.bind_some] at hf
                refine va_callv (va_runV (As := [.int ((A5 27) (k2).toNatClampNeg), .int r2]) (rest := []) ⟨hx, hb, hml, hown, hts⟩ (cm_M_link l dC dI h q g _ I5 A5 ((A5 27) (k2).toNatClampNeg) r2 r6 I6 A6 hg6) (cwV 2 hts (gd_v lk_67 lk_68 lk_69 lk_46 lk_66) rfl rfl rfl (by decide +kernel) ⟨Nat.le_of_ble_eq_true rfl, Nat.le_of_ble_eq_true rfl⟩) ⟨fun a U g mk q => by obtain ⟨q0, q1, qP, qK, qD⟩ := q; exact ⟨q0, q1, qP, va_K.moved (u := U) (U := U.calling g mk a) (Vm.Alike.refl U.vm) qK, qD⟩, va_recv (ci := 4) (q0 := 0) hK hP rfl rfl, fun U hU hW => ⟨rfl, by rw [hU], by rw [hU]; exact hPc, va_K.moved hW.alike hKc, hDc.weaken (fun _ _ _ _ => trivial)⟩⟩ rfl rfl hl.1 rfl (lv_room (Nat.le_of_ble_eq_true rfl)) d_M_either_66 ⟨Nat.le_of_ble_eq_true rfl, Nat.le_of_ble_eq_true rfl⟩) hS (fun q _ h => hFc q h) hFc (fun u t H1 locs ht hvm hw hB hz1 hk1 hS => ?_)
                obtain ⟨hP1, hK1, hD1⟩ := hB
                rw [ht] at hP1
                obtain ⟨hP, hD⟩ := va_join (wr := []) (w1 := (mw_W h q g I6 A6)) hP hD [0, 1, 2, 3, 4, 5, 6, 7, 8, 9, 10, 11, 12, 13, 14, 15, 16, 17, 18, 19, 20] [] rfl rfl (by decide) (by decide) hk1 hFc hP1 hD1
                generalize H1 = H at hP hS ⊢
                have hP : va_P (dC, dI) vwCl (mw_W h q g I6 A6) H := hP
                have hD : va_D B9 (mw_W h q g I6 A6) := hD
                refine lv_aload_n hx hb d_M_either_69 rfl (lv_at hl 2 rfl) ?_
                refine lv_iload_n hx hb d_M_either_70 rfl (lv_at hl 1 rfl) ?_
                refine lv_iload hx hb d_M_either_71 (lv_at hl 0 rfl) ?_
                have hPc := hP.sub (ws' := (mw_W h q g I6 A6)) [0, 1, 2, 3, 4, 5, 6, 7, 8, 9, 10, 11, 12, 13, 14, 15, 16, 17, 18, 19, 20] rfl
                have hDc := hD.sub (ws' := (mw_W h q g I6 A6)) [0, 1, 2, 3, 4, 5, 6, 7, 8, 9, 10, 11, 12, 13, 14, 15, 16, 17, 18, 19, 20] (by decide) rfl
                have hKc := hK.sub (tys' := (mw_T g)) [0, 1, 2, 3, 4, 5, 6, 7, 8, 9, 10, 11, 12, 13, 14, 15, 16, 17, 18, 19] rfl
                have hFc := va_free (wc := (mw_W h q g I6 A6)) hD hS hA [0, 1, 2, 3, 4, 5, 6, 7, 8, 9, 10, 11, 12, 13, 14, 15, 16, 17, 18, 19, 20] rfl
                cases hg7 : f_M_piece I6 A6 r1 r2 with
                | none => rw [hg7] at hf; cases hf
                | some z7 =>
                  obtain ⟨r7, I7, A7⟩ := z7
                  rw [hg7] at hf
                  dsimp only [Option.bind_some] at hf
                  refine va_calli (va_runV (As := [.int r1, .int r2]) (rest := []) ⟨hx, hb, hml, hown, hts⟩ (cm_M_piece l dC dI h q g _ I6 A6 r1 r2 r7 I7 A7 hg7) (cwV 2 hts (gd_v lk_72 lk_73 lk_74 lk_46 lk_71) rfl rfl rfl (by decide +kernel) ⟨Nat.le_of_ble_eq_true rfl, Nat.le_of_ble_eq_true rfl⟩) ⟨fun a U g mk q => by obtain ⟨q0, q1, qP, qK, qD⟩ := q; exact ⟨q0, q1, qP, va_K.moved (u := U) (U := U.calling g mk a) (Vm.Alike.refl U.vm) qK, qD⟩, va_recv (ci := 4) (q0 := 0) hK hP rfl rfl, fun U hU hW => ⟨rfl, by rw [hU], by rw [hU]; exact hPc, va_K.moved hW.alike hKc, hDc.weaken (fun _ _ _ _ => trivial)⟩⟩ rfl rfl hl.1 rfl (lv_room (Nat.le_of_ble_eq_true rfl)) d_M_either_73 ⟨Nat.le_of_ble_eq_true rfl, Nat.le_of_ble_eq_true rfl⟩) hS (fun q _ h => hFc q h) hFc (fun r9 u t H1 locs ht hvm hw hB hz1 hk1 hS => ?_)
                  obtain ⟨hP1, hK1, hD1⟩ := hB
                  rw [ht] at hP1
                  rw [hw]
                  obtain ⟨hP, hD⟩ := va_join (wr := []) (w1 := (mw_W h q g I7 A7)) hP hD [0, 1, 2, 3, 4, 5, 6, 7, 8, 9, 10, 11, 12, 13, 14, 15, 16, 17, 18, 19, 20] [] rfl rfl (by decide) (by decide) hk1 hFc hP1 hD1
                  generalize H1 = H at hP hS ⊢
                  have hP : va_P (dC, dI) vwCl (mw_W h q g I7 A7) H := hP
                  have hD : va_D B9 (mw_W h q g I7 A7) := hD
                  obtain ⟨e1, e2, e3⟩ := wk_inj hf
                  subst e1
                  subst e2
                  subst e3
                  exact W.iret (v := r7) hx hb hr (fun t ht hW => ⟨⟨r7, (), rfl, rfl, by rw [ht]; exact hP, va_K.moved hW.alike hK, hD⟩, hS.F ht⟩) hS.2.2 d_M_either_76
  ·
    have hf := wk_iff hc1 hf
    refine lv_iload_n hx hb d_M_either_4 rfl (lv_at hl 2 rfl) ?_
    obtain ⟨e1, e2, e3⟩ := wk_inj hf
    subst e1
    subst e2
    subst e3
    exact W.iret (v := k2) hx hb hr (fun t ht hW => ⟨⟨k2, (), rfl, rfl, by rw [ht]; exact hP, va_K.moved hW.alike hK, hD⟩, hS.F ht⟩) hS.2.2 d_M_either_5

set_option maxHeartbeats 8000000 in
set_option maxRecDepth 100000 in
theorem cm_M_endRow (l : Launch) (dC : Nat → ClassId) (dI : Nat → Nat → Nat) (h : Nat) (q : Nat → Nat) (g : Nat → ClassId) (sz : Nat) (I : MI) (A : MA) (r : Int32) (I' : MI) (A' : MA) (hf : f_M_endRow I A  = some (r, I', A')) : Met l y_M_endRow w_M_endRow ({ frames := 2, cells := 0, slots := 0, locals := 47 }) (va_Pc [.ref h] (fun U => U.heap.size = sz ∧ va_P (dC, dI) vwCl (mw_W h q g I A) U.heap ∧ va_K (dC, dI) vwCl (mw_T g) U ∧ va_D (fun _ => True) (mw_W h q g I A))) (va_Qv (fun (u : Unit) => u = u) (fun (_ : Unit) t => va_P (dC, dI) vwCl (mw_W h q g I' A') t.heap ∧ va_K (dC, dI) vwCl (mw_T g) t ∧ va_D (va_A (mw_W h q g I A) sz) (mw_W h q g I' A')) (va_A (mw_W h q g I A) sz)) 0 0 (va_A (mw_W h q g I A) sz) := by
  refine Met.ofW (cc := prog_6_method_33_code) (maxL := 3) (ret := none) (by decide) rfl ?_
  intro p e s m args below meth c s₁ B hml hv
  obtain ⟨rfl, hsz, hP, hK, hD0⟩ := hv
  have hx := B.exec
  have hb := B.bytes
  have hr := B.returns
  have hts := atoms_spec (ws := w_M_endRow) B.pre
  have hown : s.vm.findClass R_M = some m.cls := findClass_of_methodNamed B.named
  have hlocks := B.notSynchronized
  subst hsz
  have hD := hD0.self (sz := s.heap.size)
  generalize hAe : va_A (mw_W h q g I A) s.heap.size = B9 at hD ⊢
  have hA : ∀ q : Nat, s.heap.size ≤ q → B9 q := fun q h => by rw [← hAe]; exact Or.inr h
  clear hAe
  have hS : va_S B9 s.heap s.heap [] := va_S.rf
  have hl := lv_entry ([.ref h]) (n := 3) (Nat.le_of_ble_eq_true rfl)
  rw [lg_entry_eq]
  generalize (lg_sl ([.ref h]) ++ List.replicate (3 - (lg_sl ([.ref h])).length) Slot.unset).toArray = ls at hl ⊢
  have hl : lv_has ls 3 [(0, .ref h)] := hl
  unfold f_M_endRow at hf
  refine lv_aload_n hx hb d_M_endRow_0 rfl (lv_at hl 0 rfl) ?_
  refine va_get (D := (dC, dI)) (ci := 4) (v := .int (I 28)) (C := R_M) (T := F_M) (N := 38) hx hb hts (fun w h => List.mem_cons_of_mem _ (in_M w h)) hown hK hP 0 rfl rfl 28 (by decide) (hts _ (List.mem_cons_of_mem _ lk_78)) (fun _ h9 => h9) rfl d_M_endRow_1 ?_
  refine lv_iconst (v := 1) hx hb d_M_endRow_4 (by decide) ?_
  refine lv_isub hx hb d_M_endRow_5 ?_
  refine lv_istore_n (lv' := [(1, .int ((I 28) - 1)), (0, .ref h)]) hx hb d_M_endRow_6 rfl hl (by decide) rfl (fun ls hl => ?_)
  have hl : lv_has ls 3 [(1, .int ((I 28) - 1)), (0, .ref h)] := hl
  refine lv_aload_n hx hb d_M_endRow_7 rfl (lv_at hl 1 rfl) ?_
  refine lv_aload_n hx hb d_M_endRow_8 rfl (lv_at hl 1 rfl) ?_
  refine va_get (D := (dC, dI)) (ci := 4) (v := .ref (q 30)) (C := R_M) (T := F_M) (N := 38) hx hb hts (fun w h => List.mem_cons_of_mem _ (in_M w h)) hown hK hP 0 rfl rfl 30 (by decide) (hts _ (List.mem_cons_of_mem _ lk_94)) (fun _ h9 => h9) rfl d_M_endRow_9 ?_
  refine lv_iload_n hx hb d_M_endRow_12 rfl (lv_at hl 0 rfl) ?_
  obtain ⟨hc1, hf⟩ := wk_if hf
  refine va_iald hx hb hK hP 16 15 rfl rfl (wk_inb_ok hc1) d_M_endRow_13 ?_
  refine lv_aload_n hx hb d_M_endRow_14 rfl (lv_at hl 1 rfl) ?_
  refine va_get (D := (dC, dI)) (ci := 4) (v := .ref (q 31)) (C := R_M) (T := F_M) (N := 38) hx hb hts (fun w h => List.mem_cons_of_mem _ (in_M w h)) hown hK hP 0 rfl rfl 31 (by decide) (hts _ (List.mem_cons_of_mem _ lk_95)) (fun _ h9 => h9) rfl d_M_endRow_15 ?_
  refine lv_iload_n hx hb d_M_endRow_18 rfl (lv_at hl 0 rfl) ?_
  obtain ⟨hc2, hf⟩ := wk_if hf
  refine va_iald hx hb hK hP 17 16 rfl rfl (wk_inb_ok hc2) d_M_endRow_19 ?_
  have hPc := hP.sub (ws' := (mw_W h q g I A)) [0, 1, 2, 3, 4, 5, 6, 7, 8, 9, 10, 11, 12, 13, 14, 15, 16, 17, 18, 19, 20] rfl
  have hDc := hD.sub (ws' := (mw_W h q g I A)) [0, 1, 2, 3, 4, 5, 6, 7, 8, 9, 10, 11, 12, 13, 14, 15, 16, 17, 18, 19, 20] (by decide) rfl
  have hKc := hK.sub (tys' := (mw_T g)) [0, 1, 2, 3, 4, 5, 6, 7, 8, 9, 10, 11, 12, 13, 14, 15, 16, 17, 18, 19] rfl
  have hFc := va_free (wc := (mw_W h q g I A)) hD hS hA [0, 1, 2, 3, 4, 5, 6, 7, 8, 9, 10, 11, 12, 13, 14, 15, 16, 17, 18, 19, 20] rfl
  cases hg1 : f_M_behind I A ((A 30) (((I 28) - 1)).toNatClampNeg) ((A 31) (((I 28) - 1)).toNatClampNeg) with
  | none => rw [hg1] at hf; cases hf
  | some z1 =>
    obtain ⟨r1, I1, A1⟩ := z1
    rw [hg1] at hf
    dsimp only [Option.bind_some] at hf
    refine va_calli (va_runV (As := [.int ((A 30) (((I 28) - 1)).toNatClampNeg), .int ((A 31) (((I 28) - 1)).toNatClampNeg)]) (rest := []) ⟨hx, hb, hml, hown, hts⟩ (cm_M_behind l dC dI h q g _ I A ((A 30) (((I 28) - 1)).toNatClampNeg) ((A 31) (((I 28) - 1)).toNatClampNeg) r1 I1 A1 hg1) (cwV 2 hts (gd_v lk_96 lk_97 lk_98 lk_46 lk_75) rfl rfl rfl (by decide +kernel) ⟨Nat.le_of_ble_eq_true rfl, Nat.le_of_ble_eq_true rfl⟩) ⟨fun a U g mk q => by obtain ⟨q0, q1, qP, qK, qD⟩ := q; exact ⟨q0, q1, qP, va_K.moved (u := U) (U := U.calling g mk a) (Vm.Alike.refl U.vm) qK, qD⟩, va_recv (ci := 4) (q0 := 0) hK hP rfl rfl, fun U hU hW => ⟨rfl, by rw [hU], by rw [hU]; exact hPc, va_K.moved hW.alike hKc, hDc.weaken (fun _ _ _ _ => trivial)⟩⟩ rfl rfl hl.1 rfl (lv_room (Nat.le_of_ble_eq_true rfl)) d_M_endRow_20 ⟨Nat.le_of_ble_eq_true rfl, Nat.le_of_ble_eq_true rfl⟩) hS (fun q _ h => hFc q h) hFc (fun r9 u t H1 locs ht hvm hw hB hz1 hk1 hS => ?_)
    obtain ⟨hP1, hK1, hD1⟩ := hB
    rw [ht] at hP1
    rw [hw]
    obtain ⟨hP, hD⟩ := va_join (wr := []) (w1 := (mw_W h q g I1 A1)) hP hD [0, 1, 2, 3, 4, 5, 6, 7, 8, 9, 10, 11, 12, 13, 14, 15, 16, 17, 18, 19, 20] [] rfl rfl (by decide) (by decide) hk1 hFc hP1 hD1
    generalize H1 = H at hP hS ⊢
    have hP : va_P (dC, dI) vwCl (mw_W h q g I1 A1) H := hP
    have hD : va_D B9 (mw_W h q g I1 A1) := hD
    refine lv_istore_n (lv' := [(2, .int r1), (1, .int ((I 28) - 1)), (0, .ref h)]) hx hb d_M_endRow_23 rfl hl (by decide) rfl (fun ls hl => ?_)
    have hl : lv_has ls 3 [(2, .int r1), (1, .int ((I 28) - 1)), (0, .ref h)] := hl
    refine lv_aload_n hx hb d_M_endRow_24 rfl (lv_at hl 2 rfl) ?_
    refine va_get (D := (dC, dI)) (ci := 4) (v := .ref (q 29)) (C := R_M) (T := F_M) (N := 38) hx hb hts (fun w h => List.mem_cons_of_mem _ (in_M w h)) hown hK hP 0 rfl rfl 29 (by decide) (hts _ (List.mem_cons_of_mem _ lk_103)) (fun _ h9 => h9) rfl d_M_endRow_25 ?_
    refine lv_iload_n hx hb d_M_endRow_28 rfl (lv_at hl 1 rfl) ?_
    refine lv_aload_n hx hb d_M_endRow_29 rfl (lv_at hl 2 rfl) ?_
    refine lv_aload_n hx hb d_M_endRow_30 rfl (lv_at hl 2 rfl) ?_
    refine va_get (D := (dC, dI)) (ci := 4) (v := .ref (q 29)) (C := R_M) (T := F_M) (N := 38) hx hb hts (fun w h => List.mem_cons_of_mem _ (in_M w h)) hown hK hP 0 rfl rfl 29 (by decide) (hts _ (List.mem_cons_of_mem _ lk_103)) (fun _ h9 => h9) rfl d_M_endRow_31 ?_
    refine lv_iload_n hx hb d_M_endRow_34 rfl (lv_at hl 1 rfl) ?_
    obtain ⟨hc3, hf⟩ := wk_if hf
    refine va_iald hx hb hK hP 15 14 rfl rfl (wk_inb_ok hc3) d_M_endRow_35 ?_
    refine lv_iload_n hx hb d_M_endRow_36 rfl (lv_at hl 0 rfl) ?_
    have hPc := hP.sub (ws' := (mw_W h q g I1 A1)) [0, 1, 2, 3, 4, 5, 6, 7, 8, 9, 10, 11, 12, 13, 14, 15, 16, 17, 18, 19, 20] rfl
    have hDc := hD.sub (ws' := (mw_W h q g I1 A1)) [0, 1, 2, 3, 4, 5, 6, 7, 8, 9, 10, 11, 12, 13, 14, 15, 16, 17, 18, 19, 20] (by decide) rfl
    have hKc := hK.sub (tys' := (mw_T g)) [0, 1, 2, 3, 4, 5, 6, 7, 8, 9, 10, 11, 12, 13, 14, 15, 16, 17, 18, 19] rfl
    have hFc := va_free (wc := (mw_W h q g I1 A1)) hD hS hA [0, 1, 2, 3, 4, 5, 6, 7, 8, 9, 10, 11, 12, 13, 14, 15, 16, 17, 18, 19, 20] rfl
    cases hg2 : f_M_either I1 A1 ((A1 29) (((I 28) - 1)).toNatClampNeg) r1 with
    | none => rw [hg2] at hf; cases hf
    | some z2 =>
      obtain ⟨r2, I2, A2⟩ := z2
      rw [hg2] at hf
      dsimp only [Option.bind_some] at hf
      refine va_calli (va_runV (As := [.int ((A1 29) (((I 28) - 1)).toNatClampNeg), .int r1]) (rest := [.int ((I 28) - 1), .ref (q 29)]) ⟨hx, hb, hml, hown, hts⟩ (cm_M_either l dC dI h q g _ I1 A1 ((A1 29) (((I 28) - 1)).toNatClampNeg) r1 r2 I2 A2 hg2) (cwV 2 hts (gd_v lk_105 lk_106 lk_107 lk_46 lk_104) rfl rfl rfl (by decide +kernel) ⟨Nat.le_of_ble_eq_true rfl, Nat.le_of_ble_eq_true rfl⟩) ⟨fun a U g mk q => by obtain ⟨q0, q1, qP, qK, qD⟩ := q; exact ⟨q0, q1, qP, va_K.moved (u := U) (U := U.calling g mk a) (Vm.Alike.refl U.vm) qK, qD⟩, va_recv (ci := 4) (q0 := 0) hK hP rfl rfl, fun U hU hW => ⟨rfl, by rw [hU], by rw [hU]; exact hPc, va_K.moved hW.alike hKc, hDc.weaken (fun _ _ _ _ => trivial)⟩⟩ rfl rfl hl.1 rfl (lv_room (Nat.le_of_ble_eq_true rfl)) d_M_endRow_37 ⟨Nat.le_of_ble_eq_true rfl, Nat.le_of_ble_eq_true rfl⟩) hS (fun q _ h => hFc q h) hFc (fun r9 u t H1 locs ht hvm hw hB hz1 hk1 hS => ?_)
      obtain ⟨hP1, hK1, hD1⟩ := hB
      rw [ht] at hP1
      rw [hw]
      obtain ⟨hP, hD⟩ := va_join (wr := []) (w1 := (mw_W h q g I2 A2)) hP hD [0, 1, 2, 3, 4, 5, 6, 7, 8, 9, 10, 11, 12, 13, 14, 15, 16, 17, 18, 19, 20] [] rfl rfl (by decide) (by decide) hk1 hFc hP1 hD1
      generalize H1 = H at hP hS ⊢
      have hP : va_P (dC, dI) vwCl (mw_W h q g I2 A2) H := hP
      have hD : va_D B9 (mw_W h q g I2 A2) := hD
      obtain ⟨hc4, hf⟩ := wk_if hf
      refine va_iast hx hb hK hP hD hS 15 14 rfl rfl (wk_inb_ok hc4) d_M_endRow_40 (fun H locs hP hD hS => ?_)
      obtain ⟨A3, hA3, hf⟩ := wk_letE hf
      have hP : va_P (dC, dI) vwCl (mw_W h q g I2 A3) H := by rw [hA3]; exact hP
      have hD : va_D B9 (mw_W h q g I2 A3) := by rw [hA3]; exact hD
      clear hA3
      refine lv_aload_n hx hb d_M_endRow_41 rfl (lv_at hl 2 rfl) ?_
      refine va_get (D := (dC, dI)) (ci := 4) (v := .ref (q 31)) (C := R_M) (T := F_M) (N := 38) hx hb hts (fun w h => List.mem_cons_of_mem _ (in_M w h)) hown hK hP 0 rfl rfl 31 (by decide) (hts _ (List.mem_cons_of_mem _ lk_95)) (fun _ h9 => h9) rfl d_M_endRow_42 ?_
      refine lv_iload_n hx hb d_M_endRow_45 rfl (lv_at hl 1 rfl) ?_
      refine lv_iconst (v := (-1)) hx hb d_M_endRow_46 (by decide) ?_
      obtain ⟨hc5, hf⟩ := wk_if hf
      refine va_iast hx hb hK hP hD hS 17 16 rfl rfl (wk_inb_ok hc5) d_M_endRow_47 (fun H locs hP hD hS => ?_)
      obtain ⟨A4, hA4, hf⟩ := wk_letE hf
      have hP : va_P (dC, dI) vwCl (mw_W h q g I2 A4) H := by rw [hA4]; exact hP
      have hD : va_D B9 (mw_W h q g I2 A4) := by rw [hA4]; exact hD
      clear hA4
      obtain ⟨e1, e2, e3⟩ := wk_inj hf
      subst e1
      subst e2
      subst e3
      exact W.vret hx hb hr (fun t ht hW => ⟨⟨(), rfl, rfl, by rw [ht]; exact hP, va_K.moved hW.alike hK, hD⟩, hS.F ht⟩) hS.2.2 d_M_endRow_48

set_option maxHeartbeats 8000000 in
set_option maxRecDepth 100000 in
theorem cm_M_nothing (l : Launch) (dC : Nat → ClassId) (dI : Nat → Nat → Nat) (h : Nat) (q : Nat → Nat) (g : Nat → ClassId) (sz : Nat) (I : MI) (A : MA) (r : Int32) (I' : MI) (A' : MA) (hf : f_M_nothing I A  = some (r, I', A')) : Met l y_M_nothing w_M_nothing ({ frames := 1, cells := 0, slots := 0, locals := 23 }) (va_Pc [.ref h] (fun U => U.heap.size = sz ∧ va_P (dC, dI) vwCl (mw_W h q g I A) U.heap ∧ va_K (dC, dI) vwCl (mw_T g) U ∧ va_D (fun _ => True) (mw_W h q g I A))) (va_Qi (fun (r9 : Int32) (_ : Unit) => r9 = r) (fun (_ : Unit) t => va_P (dC, dI) vwCl (mw_W h q g I' A') t.heap ∧ va_K (dC, dI) vwCl (mw_T g) t ∧ va_D (va_A (mw_W h q g I A) sz) (mw_W h q g I' A')) (va_A (mw_W h q g I A) sz)) 0 0 (va_A (mw_W h q g I A) sz) := by
  refine Met.ofW (cc := prog_6_method_28_code) (maxL := 2) (ret := (some .int)) (by decide) rfl ?_
  intro p e s m args below meth c s₁ B hml hv
  obtain ⟨rfl, hsz, hP, hK, hD0⟩ := hv
  have hx := B.exec
  have hb := B.bytes
  have hr := B.returns
  have hts := atoms_spec (ws := w_M_nothing) B.pre
  have hown : s.vm.findClass R_M = some m.cls := findClass_of_methodNamed B.named
  have hlocks := B.notSynchronized
  subst hsz
  have hD := hD0.self (sz := s.heap.size)
  generalize hAe : va_A (mw_W h q g I A) s.heap.size = B9 at hD ⊢
  have hA : ∀ q : Nat, s.heap.size ≤ q → B9 q := fun q h => by rw [← hAe]; exact Or.inr h
  clear hAe
  have hS : va_S B9 s.heap s.heap [] := va_S.rf
  have hl := lv_entry ([.ref h]) (n := 2) (Nat.le_of_ble_eq_true rfl)
  rw [lg_entry_eq]
  generalize (lg_sl ([.ref h]) ++ List.replicate (2 - (lg_sl ([.ref h])).length) Slot.unset).toArray = ls at hl ⊢
  have hl : lv_has ls 2 [(0, .ref h)] := hl
  unfold f_M_nothing at hf
  refine lv_aload_n hx hb d_M_nothing_0 rfl (lv_at hl 0 rfl) ?_
  refine lv_iconst (v := 0) hx hb d_M_nothing_1 (by decide) ?_
  refine lv_iconst (v := 0) hx hb d_M_nothing_2 (by decide) ?_
  refine lv_iconst (v := 0) hx hb d_M_nothing_3 (by decide) ?_
  have hPc := hP.sub (ws' := (mw_W h q g I A)) [0, 1, 2, 3, 4, 5, 6, 7, 8, 9, 10, 11, 12, 13, 14, 15, 16, 17, 18, 19, 20] rfl
  have hDc := hD.sub (ws' := (mw_W h q g I A)) [0, 1, 2, 3, 4, 5, 6, 7, 8, 9, 10, 11, 12, 13, 14, 15, 16, 17, 18, 19, 20] (by decide) rfl
  have hKc := hK.sub (tys' := (mw_T g)) [0, 1, 2, 3, 4, 5, 6, 7, 8, 9, 10, 11, 12, 13, 14, 15, 16, 17, 18, 19] rfl
  have hFc := va_free (wc := (mw_W h q g I A)) hD hS hA [0, 1, 2, 3, 4, 5, 6, 7, 8, 9, 10, 11, 12, 13, 14, 15, 16, 17, 18, 19, 20] rfl
  cases hg1 : f_M_node I A 0 0 0 with
  | none => rw [hg1] at hf; cases hf
  | some z1 =>
    obtain ⟨r1, I1, A1⟩ := z1
    rw [hg1] at hf
    dsimp only [Option.bind_some] at hf
    refine va_calli (va_runV (As := [.int 0, .int 0, .int 0]) (rest := []) ⟨hx, hb, hml, hown, hts⟩ (cm_M_node l dC dI h q g _ I A 0 0 0 r1 I1 A1 hg1) (cwV 3 hts (gd_v lk_87 lk_88 lk_89 lk_46 lk_86) rfl rfl rfl (by decide +kernel) ⟨Nat.le_of_ble_eq_true rfl, Nat.le_of_ble_eq_true rfl⟩) ⟨fun a U g mk q => by obtain ⟨q0, q1, qP, qK, qD⟩ := q; exact ⟨q0, q1, qP, va_K.moved (u := U) (U := U.calling g mk a) (Vm.Alike.refl U.vm) qK, qD⟩, va_recv (ci := 4) (q0 := 0) hK hP rfl rfl, fun U hU hW => ⟨rfl, by rw [hU], by rw [hU]; exact hPc, va_K.moved hW.alike hKc, hDc.weaken (fun _ _ _ _ => trivial)⟩⟩ rfl rfl hl.1 rfl (lv_room (Nat.le_of_ble_eq_true rfl)) d_M_nothing_4 ⟨Nat.le_of_ble_eq_true rfl, Nat.le_of_ble_eq_true rfl⟩) hS (fun q _ h => hFc q h) hFc (fun r9 u t H1 locs ht hvm hw hB hz1 hk1 hS => ?_)
    obtain ⟨hP1, hK1, hD1⟩ := hB
    rw [ht] at hP1
    rw [hw]
    obtain ⟨hP, hD⟩ := va_join (wr := []) (w1 := (mw_W h q g I1 A1)) hP hD [0, 1, 2, 3, 4, 5, 6, 7, 8, 9, 10, 11, 12, 13, 14, 15, 16, 17, 18, 19, 20] [] rfl rfl (by decide) (by decide) hk1 hFc hP1 hD1
    generalize H1 = H at hP hS ⊢
    have hP : va_P (dC, dI) vwCl (mw_W h q g I1 A1) H := hP
    have hD : va_D B9 (mw_W h q g I1 A1) := hD
    refine lv_istore_n (lv' := [(1, .int r1), (0, .ref h)]) hx hb d_M_nothing_7 rfl hl (by decide) rfl (fun ls hl => ?_)
    have hl : lv_has ls 2 [(1, .int r1), (0, .ref h)] := hl
    refine lv_aload_n hx hb d_M_nothing_8 rfl (lv_at hl 1 rfl) ?_
    refine lv_iload_n hx hb d_M_nothing_9 rfl (lv_at hl 0 rfl) ?_
    refine lv_iload_n hx hb d_M_nothing_10 rfl (lv_at hl 0 rfl) ?_
    have hPc := hP.sub (ws' := (mw_W h q g I1 A1)) [0, 1, 2, 3, 4, 5, 6, 7, 8, 9, 10, 11, 12, 13, 14, 15, 16, 17, 18, 19, 20] rfl
    have hDc := hD.sub (ws' := (mw_W h q g I1 A1)) [0, 1, 2, 3, 4, 5, 6, 7, 8, 9, 10, 11, 12, 13, 14, 15, 16, 17, 18, 19, 20] (by decide) rfl
    have hKc := hK.sub (tys' := (mw_T g)) [0, 1, 2, 3, 4, 5, 6, 7, 8, 9, 10, 11, 12, 13, 14, 15, 16, 17, 18, 19] rfl
    have hFc := va_free (wc := (mw_W h q g I1 A1)) hD hS hA [0, 1, 2, 3, 4, 5, 6, 7, 8, 9, 10, 11, 12, 13, 14, 15, 16, 17, 18, 19, 20] rfl
    cases hg2 : f_M_piece I1 A1 r1 r1 with
    | none => rw [hg2] at hf; cases hf
    | some z2 =>
      obtain ⟨r2, I2, A2⟩ := z2
      rw [hg2] at hf
      dsimp only [Option.bind_some] at hf
      refine va_calli (va_runV (As := [.int r1, .int r1]) (rest := []) ⟨hx, hb, hml, hown, hts⟩ (cm_M_piece l dC dI h q g _ I1 A1 r1 r1 r2 I2 A2 hg2) (cwV 2 hts (gd_v lk_72 lk_73 lk_74 lk_46 lk_71) rfl rfl rfl (by decide +kernel) ⟨Nat.le_of_ble_eq_true rfl, Nat.le_of_ble_eq_true rfl⟩) ⟨fun a U g mk q => by obtain ⟨q0, q1, qP, qK, qD⟩ := q; exact ⟨q0, q1, qP, va_K.moved (u := U) (U := U.calling g mk a) (Vm.Alike.refl U.vm) qK, qD⟩, va_recv (ci := 4) (q0 := 0) hK hP rfl rfl, fun U hU hW => ⟨rfl, by rw [hU], by rw [hU]; exact hPc, va_K.moved hW.alike hKc, hDc.weaken (fun _ _ _ _ => trivial)⟩⟩ rfl rfl hl.1 rfl (lv_room (Nat.le_of_ble_eq_true rfl)) d_M_nothing_11 ⟨Nat.le_of_ble_eq_true rfl, Nat.le_of_ble_eq_true rfl⟩) hS (fun q _ h => hFc q h) hFc (fun r9 u t H1 locs ht hvm hw hB hz1 hk1 hS => ?_)
      obtain ⟨hP1, hK1, hD1⟩ := hB
      rw [ht] at hP1
      rw [hw]
      obtain ⟨hP, hD⟩ := va_join (wr := []) (w1 := (mw_W h q g I2 A2)) hP hD [0, 1, 2, 3, 4, 5, 6, 7, 8, 9, 10, 11, 12, 13, 14, 15, 16, 17, 18, 19, 20] [] rfl rfl (by decide) (by decide) hk1 hFc hP1 hD1
      generalize H1 = H at hP hS ⊢
      have hP : va_P (dC, dI) vwCl (mw_W h q g I2 A2) H := hP
      have hD : va_D B9 (mw_W h q g I2 A2) := hD
      obtain ⟨e1, e2, e3⟩ := wk_inj hf
      subst e1
      subst e2
      subst e3
      exact W.iret (v := r2) hx hb hr (fun t ht hW => ⟨⟨r2, (), rfl, rfl, by rw [ht]; exact hP, va_K.moved hW.alike hK, hD⟩, hS.F ht⟩) hS.2.2 d_M_nothing_14

set_option maxHeartbeats 8000000 in
set_option maxRecDepth 100000 in
theorem cm_M_openGroup (l : Launch) (dC : Nat → ClassId) (dI : Nat → Nat → Nat) (h : Nat) (q : Nat → Nat) (g : Nat → ClassId) (sz : Nat) (I : MI) (A : MA) (r : Int32) (I' : MI) (A' : MA) (hf : f_M_openGroup I A  = some (r, I', A')) : Met l y_M_openGroup w_M_openGroup ({ frames := 2, cells := 0, slots := 0, locals := 44 }) (va_Pc [.ref h] (fun U => U.heap.size = sz ∧ va_P (dC, dI) vwCl (mw_W h q g I A) U.heap ∧ va_K (dC, dI) vwCl (mw_T g) U ∧ va_D (fun _ => True) (mw_W h q g I A))) (va_Qv (fun (u : Unit) => u = u) (fun (_ : Unit) t => va_P (dC, dI) vwCl (mw_W h q g I' A') t.heap ∧ va_K (dC, dI) vwCl (mw_T g) t ∧ va_D (va_A (mw_W h q g I A) sz) (mw_W h q g I' A')) (va_A (mw_W h q g I A) sz)) 0 0 (va_A (mw_W h q g I A) sz) := by
  refine Met.ofW (cc := prog_6_method_32_code) (maxL := 1) (ret := none) (by decide) rfl ?_
  intro p e s m args below meth c s₁ B hml hv
  obtain ⟨rfl, hsz, hP, hK, hD0⟩ := hv
  have hx := B.exec
  have hb := B.bytes
  have hr := B.returns
  have hts := atoms_spec (ws := w_M_openGroup) B.pre
  have hown : s.vm.findClass R_M = some m.cls := findClass_of_methodNamed B.named
  have hlocks := B.notSynchronized
  subst hsz
  have hD := hD0.self (sz := s.heap.size)
  generalize hAe : va_A (mw_W h q g I A) s.heap.size = B9 at hD ⊢
  have hA : ∀ q : Nat, s.heap.size ≤ q → B9 q := fun q h => by rw [← hAe]; exact Or.inr h
  clear hAe
  have hS : va_S B9 s.heap s.heap [] := va_S.rf
  have hl := lv_entry ([.ref h]) (n := 1) (Nat.le_of_ble_eq_true rfl)
  rw [lg_entry_eq]
  generalize (lg_sl ([.ref h]) ++ List.replicate (1 - (lg_sl ([.ref h])).length) Slot.unset).toArray = ls at hl ⊢
  have hl : lv_has ls 1 [(0, .ref h)] := hl
  unfold f_M_openGroup at hf
  refine lv_aload_n hx hb d_M_openGroup_0 rfl (lv_at hl 0 rfl) ?_
  refine va_get (D := (dC, dI)) (ci := 4) (v := .ref (q 29)) (C := R_M) (T := F_M) (N := 38) hx hb hts (fun w h => List.mem_cons_of_mem _ (in_M w h)) hown hK hP 0 rfl rfl 29 (by decide) (hts _ (List.mem_cons_of_mem _ lk_103)) (fun _ h9 => h9) rfl d_M_openGroup_1 ?_
  refine lv_aload_n hx hb d_M_openGroup_4 rfl (lv_at hl 0 rfl) ?_
  refine va_get (D := (dC, dI)) (ci := 4) (v := .int (I 28)) (C := R_M) (T := F_M) (N := 38) hx hb hts (fun w h => List.mem_cons_of_mem _ (in_M w h)) hown hK hP 0 rfl rfl 28 (by decide) (hts _ (List.mem_cons_of_mem _ lk_78)) (fun _ h9 => h9) rfl d_M_openGroup_5 ?_
  refine lv_iconst (v := (-1)) hx hb d_M_openGroup_8 (by decide) ?_
  obtain ⟨hc1, hf⟩ := wk_if hf
  refine va_iast hx hb hK hP hD hS 15 14 rfl rfl (wk_inb_ok hc1) d_M_openGroup_9 (fun H locs hP hD hS => ?_)
  obtain ⟨A1, hA1, hf⟩ := wk_letE hf
  have hP : va_P (dC, dI) vwCl (mw_W h q g I A1) H := by rw [hA1]; exact hP
  have hD : va_D B9 (mw_W h q g I A1) := by rw [hA1]; exact hD
  clear hA1
  refine lv_aload_n hx hb d_M_openGroup_10 rfl (lv_at hl 0 rfl) ?_
  refine va_get (D := (dC, dI)) (ci := 4) (v := .ref (q 30)) (C := R_M) (T := F_M) (N := 38) hx hb hts (fun w h => List.mem_cons_of_mem _ (in_M w h)) hown hK hP 0 rfl rfl 30 (by decide) (hts _ (List.mem_cons_of_mem _ lk_94)) (fun _ h9 => h9) rfl d_M_openGroup_11 ?_
  refine lv_aload_n hx hb d_M_openGroup_14 rfl (lv_at hl 0 rfl) ?_
  refine va_get (D := (dC, dI)) (ci := 4) (v := .int (I 28)) (C := R_M) (T := F_M) (N := 38) hx hb hts (fun w h => List.mem_cons_of_mem _ (in_M w h)) hown hK hP 0 rfl rfl 28 (by decide) (hts _ (List.mem_cons_of_mem _ lk_78)) (fun _ h9 => h9) rfl d_M_openGroup_15 ?_
  refine lv_aload_n hx hb d_M_openGroup_18 rfl (lv_at hl 0 rfl) ?_
  have hPc := hP.sub (ws' := (mw_W h q g I A1)) [0, 1, 2, 3, 4, 5, 6, 7, 8, 9, 10, 11, 12, 13, 14, 15, 16, 17, 18, 19, 20] rfl
  have hDc := hD.sub (ws' := (mw_W h q g I A1)) [0, 1, 2, 3, 4, 5, 6, 7, 8, 9, 10, 11, 12, 13, 14, 15, 16, 17, 18, 19, 20] (by decide) rfl
  have hKc := hK.sub (tys' := (mw_T g)) [0, 1, 2, 3, 4, 5, 6, 7, 8, 9, 10, 11, 12, 13, 14, 15, 16, 17, 18, 19] rfl
  have hFc := va_free (wc := (mw_W h q g I A1)) hD hS hA [0, 1, 2, 3, 4, 5, 6, 7, 8, 9, 10, 11, 12, 13, 14, 15, 16, 17, 18, 19, 20] rfl
  cases hg2 : f_M_nothing I A1 with
  | none => rw [hg2] at hf; cases hf
  | some z2 =>
    obtain ⟨r2, I2, A2⟩ := z2
    rw [hg2] at hf
    dsimp only [Option.bind_some] at hf
    refine va_calli (va_runV (As := []) (rest := [.int (I 28), .ref (q 30)]) ⟨hx, hb, hml, hown, hts⟩ (cm_M_nothing l dC dI h q g _ I A1 r2 I2 A2 hg2) (cwV 0 hts (gd_v lk_113 lk_114 lk_115 lk_46 lk_112) rfl rfl rfl (by decide +kernel) ⟨Nat.le_of_ble_eq_true rfl, Nat.le_of_ble_eq_true rfl⟩) ⟨fun a U g mk q => by obtain ⟨q0, q1, qP, qK, qD⟩ := q; exact ⟨q0, q1, qP, va_K.moved (u := U) (U := U.calling g mk a) (Vm.Alike.refl U.vm) qK, qD⟩, va_recv (ci := 4) (q0 := 0) hK hP rfl rfl, fun U hU hW => ⟨rfl, by rw [hU], by rw [hU]; exact hPc, va_K.moved hW.alike hKc, hDc.weaken (fun _ _ _ _ => trivial)⟩⟩ rfl rfl hl.1 rfl (lv_room (Nat.le_of_ble_eq_true rfl)) d_M_openGroup_19 ⟨Nat.le_of_ble_eq_true rfl, Nat.le_of_ble_eq_true rfl⟩) hS (fun q _ h => hFc q h) hFc (fun r9 u t H1 locs ht hvm hw hB hz1 hk1 hS => ?_)
    obtain ⟨hP1, hK1, hD1⟩ := hB
    rw [ht] at hP1
    rw [hw]
    obtain ⟨hP, hD⟩ := va_join (wr := []) (w1 := (mw_W h q g I2 A2)) hP hD [0, 1, 2, 3, 4, 5, 6, 7, 8, 9, 10, 11, 12, 13, 14, 15, 16, 17, 18, 19, 20] [] rfl rfl (by decide) (by decide) hk1 hFc hP1 hD1
    generalize H1 = H at hP hS ⊢
    have hP : va_P (dC, dI) vwCl (mw_W h q g I2 A2) H := hP
    have hD : va_D B9 (mw_W h q g I2 A2) := hD
    obtain ⟨hc2, hf⟩ := wk_if hf
    refine va_iast hx hb hK hP hD hS 16 15 rfl rfl (wk_inb_ok hc2) d_M_openGroup_22 (fun H locs hP hD hS => ?_)
    obtain ⟨A3, hA3, hf⟩ := wk_letE hf
    have hP : va_P (dC, dI) vwCl (mw_W h q g I2 A3) H := by rw [hA3]; exact hP
    have hD : va_D B9 (mw_W h q g I2 A3) := by rw [hA3]; exact hD
    clear hA3
    refine lv_aload_n hx hb d_M_openGroup_23 rfl (lv_at hl 0 rfl) ?_
    refine va_get (D := (dC, dI)) (ci := 4) (v := .ref (q 31)) (C := R_M) (T := F_M) (N := 38) hx hb hts (fun w h => List.mem_cons_of_mem _ (in_M w h)) hown hK hP 0 rfl rfl 31 (by decide) (hts _ (List.mem_cons_of_mem _ lk_95)) (fun _ h9 => h9) rfl d_M_openGroup_24 ?_
    refine lv_aload_n hx hb d_M_openGroup_27 rfl (lv_at hl 0 rfl) ?_
    refine va_get (D := (dC, dI)) (ci := 4) (v := .int (I2 28)) (C := R_M) (T := F_M) (N := 38) hx hb hts (fun w h => List.mem_cons_of_mem _ (in_M w h)) hown hK hP 0 rfl rfl 28 (by decide) (hts _ (List.mem_cons_of_mem _ lk_78)) (fun _ h9 => h9) rfl d_M_openGroup_28 ?_
    refine lv_iconst (v := (-1)) hx hb d_M_openGroup_31 (by decide) ?_
    obtain ⟨hc3, hf⟩ := wk_if hf
    refine va_iast hx hb hK hP hD hS 17 16 rfl rfl (wk_inb_ok hc3) d_M_openGroup_32 (fun H locs hP hD hS => ?_)
    obtain ⟨A4, hA4, hf⟩ := wk_letE hf
    have hP : va_P (dC, dI) vwCl (mw_W h q g I2 A4) H := by rw [hA4]; exact hP
    have hD : va_D B9 (mw_W h q g I2 A4) := by rw [hA4]; exact hD
    clear hA4
    refine lv_aload_n hx hb d_M_openGroup_33 rfl (lv_at hl 0 rfl) ?_
    refine lv_dup hx hb d_M_openGroup_34 rfl ?_
    refine va_get (D := (dC, dI)) (ci := 4) (v := .int (I2 28)) (C := R_M) (T := F_M) (N := 38) hx hb hts (fun w h => List.mem_cons_of_mem _ (in_M w h)) hown hK hP 0 rfl rfl 28 (by decide) (hts _ (List.mem_cons_of_mem _ lk_78)) (fun _ h9 => h9) rfl d_M_openGroup_35 ?_
    refine lv_iconst (v := 1) hx hb d_M_openGroup_38 (by decide) ?_
    refine lv_iadd hx hb d_M_openGroup_39 ?_
    refine va_put (D := (dC, dI)) (ci := 4) (v := .int ((I2 28) + 1)) (ty := .int) (C := R_M) (T := F_M) (N := 38) hx hb hts (fun w h => List.mem_cons_of_mem _ (in_M w h)) t_M tk_M n_M hown hK hP hD hS 0 rfl rfl 28 (by decide) (hts _ (List.mem_cons_of_mem _ lk_78)) (fun _ h9 => h9) rfl (by decide +kernel) rfl rfl (Nat.le_of_ble_eq_true rfl) d_M_openGroup_40 (fun H locs hP hD hS => ?_)
    obtain ⟨I5, hI5, hf⟩ := wk_letE hf
    have hP : va_P (dC, dI) vwCl (mw_W h q g I5 A4) H := by rw [hI5]; exact hP
    have hD : va_D B9 (mw_W h q g I5 A4) := by rw [hI5]; exact hD
    clear hI5
    obtain ⟨e1, e2, e3⟩ := wk_inj hf
    subst e1
    subst e2
    subst e3
    exact W.vret hx hb hr (fun t ht hW => ⟨⟨(), rfl, rfl, by rw [ht]; exact hP, va_K.moved hW.alike hK, hD⟩, hS.F ht⟩) hS.2.2 d_M_openGroup_43

set_option maxHeartbeats 8000000 in
set_option maxRecDepth 100000 in
theorem cm_M_times (l : Launch) (dC : Nat → ClassId) (dI : Nat → Nat → Nat) (h : Nat) (q : Nat → Nat) (g : Nat → ClassId) (sz : Nat) (I : MI) (A : MA) (k1 k2 k3 : Int32) (r : Int32) (I' : MI) (A' : MA) (hf : f_M_times I A k1 k2 k3 = some (r, I', A')) : Met l y_M_times w_M_times ({ frames := 1, cells := 0, slots := 0, locals := 23 }) (va_Pc [.ref h, .int k1, .int k2, .int k3] (fun U => U.heap.size = sz ∧ va_P (dC, dI) vwCl (mw_W h q g I A) U.heap ∧ va_K (dC, dI) vwCl (mw_T g) U ∧ va_D (fun _ => True) (mw_W h q g I A))) (va_Qi (fun (r9 : Int32) (_ : Unit) => r9 = r) (fun (_ : Unit) t => va_P (dC, dI) vwCl (mw_W h q g I' A') t.heap ∧ va_K (dC, dI) vwCl (mw_T g) t ∧ va_D (va_A (mw_W h q g I A) sz) (mw_W h q g I' A')) (va_A (mw_W h q g I A) sz)) 0 0 (va_A (mw_W h q g I A) sz) := by
  refine Met.ofW (cc := prog_6_method_31_code) (maxL := 6) (ret := (some .int)) (by decide) rfl ?_
  intro p e s m args below meth c s₁ B hml hv
  obtain ⟨rfl, hsz, hP, hK, hD0⟩ := hv
  have hx := B.exec
  have hb := B.bytes
  have hr := B.returns
  have hts := atoms_spec (ws := w_M_times) B.pre
  have hown : s.vm.findClass R_M = some m.cls := findClass_of_methodNamed B.named
  have hlocks := B.notSynchronized
  subst hsz
  have hD := hD0.self (sz := s.heap.size)
  generalize hAe : va_A (mw_W h q g I A) s.heap.size = B9 at hD ⊢
  have hA : ∀ q : Nat, s.heap.size ≤ q → B9 q := fun q h => by rw [← hAe]; exact Or.inr h
  clear hAe
  have hS : va_S B9 s.heap s.heap [] := va_S.rf
  have hl := lv_entry ([.ref h, .int k1, .int k2, .int k3]) (n := 6) (Nat.le_of_ble_eq_true rfl)
  rw [lg_entry_eq]
  generalize (lg_sl ([.ref h, .int k1, .int k2, .int k3]) ++ List.replicate (6 - (lg_sl ([.ref h, .int k1, .int k2, .int k3])).length) Slot.unset).toArray = ls at hl ⊢
  have hl : lv_has ls 6 [(0, .ref h), (1, .int k1), (2, .int k2), (3, .int k3)] := hl
  have blk74 : ∀ (I : MI) (A : MA) (X : Nat → Int32) (ls : Array Slot) (H : Heap) (locs : List Loc), f_M_times_74 I A X = some (r, I', A') → lv_has ls 6 [(0, .ref h), (1, .int (X 1)), (2, .int (X 2)), (3, .int (X 3)), (4, .int (X 4)), (5, .int (X 5))] → va_P (dC, dI) vwCl (mw_W h q g I A) H → va_D B9 (mw_W h q g I A) → va_S B9 s.heap H locs → W p l e (headSpec w_M_times ({ frames := 1, cells := 0, slots := 0, locals := 23 })).room s m ([.ref h, .int k1, .int k2, .int k3] : List Value).toArray below meth c H locs 0 0 (MQ below (va_Qi (fun (r9 : Int32) (_ : Unit) => r9 = r) (fun (_ : Unit) t => va_P (dC, dI) vwCl (mw_W h q g I' A') t.heap ∧ va_K (dC, dI) vwCl (mw_T g) t ∧ va_D B9 (mw_W h q g I' A')) B9) ([.ref h, .int k1, .int k2, .int k3] : List Value).toArray s 0 0 B9) (F0 m 74 ls []) := by
    intro I A X ls H locs hf hl hP hD hS
    unfold f_M_times_74 at hf
    refine lv_aload_n hx hb d_M_times_74 rfl (lv_at hl 0 rfl) ?_
    refine lv_iload hx hb d_M_times_75 (lv_at hl 4 rfl) ?_
    refine lv_iload hx hb d_M_times_77 (lv_at hl 5 rfl) ?_
    have hPc := hP.sub (ws' := (mw_W h q g I A)) [0, 1, 2, 3, 4, 5, 6, 7, 8, 9, 10, 11, 12, 13, 14, 15, 16, 17, 18, 19, 20] rfl
    have hDc := hD.sub (ws' := (mw_W h q g I A)) [0, 1, 2, 3, 4, 5, 6, 7, 8, 9, 10, 11, 12, 13, 14, 15, 16, 17, 18, 19, 20] (by decide) rfl
    have hKc := hK.sub (tys' := (mw_T g)) [0, 1, 2, 3, 4, 5, 6, 7, 8, 9, 10, 11, 12, 13, 14, 15, 16, 17, 18, 19] rfl
    have hFc := va_free (wc := (mw_W h q g I A)) hD hS hA [0, 1, 2, 3, 4, 5, 6, 7, 8, 9, 10, 11, 12, 13, 14, 15, 16, 17, 18, 19, 20] rfl
    cases hg1 : f_M_piece I A (X 4) (X 5) with
    | none => rw [hg1] at hf; cases hf
    | some z1 =>
      obtain ⟨r1, I1, A1⟩ := z1
      rw [hg1] at hf
      dsimp only [Option.bind_some] at hf
      refine va_calli (va_runV (As := [.int (X 4), .int (X 5)]) (rest := []) ⟨hx, hb, hml, hown, hts⟩ (cm_M_piece l dC dI h q g _ I A (X 4) (X 5) r1 I1 A1 hg1) (cwV 2 hts (gd_v lk_72 lk_73 lk_74 lk_46 lk_71) rfl rfl rfl (by decide +kernel) ⟨Nat.le_of_ble_eq_true rfl, Nat.le_of_ble_eq_true rfl⟩) ⟨fun a U g mk q => by obtain ⟨q0, q1, qP, qK, qD⟩ := q; exact ⟨q0, q1, qP, va_K.moved (u := U) (U := U.calling g mk a) (Vm.Alike.refl U.vm) qK, qD⟩, va_recv (ci := 4) (q0 := 0) hK hP rfl rfl, fun U hU hW => ⟨rfl, by rw [hU], by rw [hU]; exact hPc, va_K.moved hW.alike hKc, hDc.weaken (fun _ _ _ _ => trivial)⟩⟩ rfl rfl hl.1 rfl (lv_room (Nat.le_of_ble_eq_true rfl)) d_M_times_79 ⟨Nat.le_of_ble_eq_true rfl, Nat.le_of_ble_eq_true rfl⟩) hS (fun q _ h => hFc q h) hFc (fun r9 u t H1 locs ht hvm hw hB hz1 hk1 hS => ?_)
      obtain ⟨hP1, hK1, hD1⟩ := hB
      rw [ht] at hP1
      rw [hw]
      obtain ⟨hP, hD⟩ := va_join (wr := []) (w1 := (mw_W h q g I1 A1)) hP hD [0, 1, 2, 3, 4, 5, 6, 7, 8, 9, 10, 11, 12, 13, 14, 15, 16, 17, 18, 19, 20] [] rfl rfl (by decide) (by decide) hk1 hFc hP1 hD1
      generalize H1 = H at hP hS ⊢
      have hP : va_P (dC, dI) vwCl (mw_W h q g I1 A1) H := hP
      have hD : va_D B9 (mw_W h q g I1 A1) := hD
      obtain ⟨e1, e2, e3⟩ := wk_inj hf
      subst e1
      subst e2
      subst e3
      exact W.iret (v := r1) hx hb hr (fun t ht hW => ⟨⟨r1, (), rfl, rfl, by rw [ht]; exact hP, va_K.moved hW.alike hK, hD⟩, hS.F ht⟩) hS.2.2 d_M_times_82
  have blk54 : ∀ (I : MI) (A : MA) (X : Nat → Int32) (ls : Array Slot) (H : Heap) (locs : List Loc), f_M_times_54 I A X = some (r, I', A') → lv_has ls 6 [(0, .ref h), (1, .int (X 1)), (2, .int (X 2)), (3, .int (X 3)), (4, .int (X 4)), (5, .int (X 5))] → va_P (dC, dI) vwCl (mw_W h q g I A) H → va_D B9 (mw_W h q g I A) → va_S B9 s.heap H locs → W p l e (headSpec w_M_times ({ frames := 1, cells := 0, slots := 0, locals := 23 })).room s m ([.ref h, .int k1, .int k2, .int k3] : List Value).toArray below meth c H locs 0 0 (MQ below (va_Qi (fun (r9 : Int32) (_ : Unit) => r9 = r) (fun (_ : Unit) t => va_P (dC, dI) vwCl (mw_W h q g I' A') t.heap ∧ va_K (dC, dI) vwCl (mw_T g) t ∧ va_D B9 (mw_W h q g I' A')) B9) ([.ref h, .int k1, .int k2, .int k3] : List Value).toArray s 0 0 B9) (F0 m 54 ls []) := by
    intro I A X ls H locs hf hl hP hD hS
    unfold f_M_times_54 at hf
    refine lv_iload_n hx hb d_M_times_54 rfl (lv_at hl 3 rfl) ?_
    refine lv_if_eq (tgt := 74) hx hb d_M_times_55 (by decide) (fun hc1 => ?_) (fun hc1 => ?_)
    ·
      have hf := wk_ift hc1 hf
      exact blk74 I A X _ _ _ hf (lv_sub hl [0, 1, 2, 3, 4, 5] rfl) hP hD hS
    ·
      have hf := wk_iff hc1 hf
      refine lv_aload_n hx hb d_M_times_58 rfl (lv_at hl 0 rfl) ?_
      refine lv_aload_n hx hb d_M_times_59 rfl (lv_at hl 0 rfl) ?_
      refine va_get (D := (dC, dI)) (ci := 4) (v := .ref (q 27)) (C := R_M) (T := F_M) (N := 38) hx hb hts (fun w h => List.mem_cons_of_mem _ (in_M w h)) hown hK hP 0 rfl rfl 27 (by decide) (hts _ (List.mem_cons_of_mem _ lk_62)) (fun _ h9 => h9) rfl d_M_times_60 ?_
      refine lv_iload_n hx hb d_M_times_63 rfl (lv_at hl 1 rfl) ?_
      obtain ⟨hc2, hf⟩ := wk_if hf
      refine va_iald hx hb hK hP 14 13 rfl rfl (wk_inb_ok hc2) d_M_times_64 ?_
      refine lv_aload_n hx hb d_M_times_65 rfl (lv_at hl 0 rfl) ?_
      refine va_get (D := (dC, dI)) (ci := 4) (v := .ref (q 26)) (C := R_M) (T := F_M) (N := 38) hx hb hts (fun w h => List.mem_cons_of_mem _ (in_M w h)) hown hK hP 0 rfl rfl 26 (by decide) (hts _ (List.mem_cons_of_mem _ lk_63)) (fun _ h9 => h9) rfl d_M_times_66 ?_
      refine lv_iload_n hx hb d_M_times_69 rfl (lv_at hl 1 rfl) ?_
      obtain ⟨hc3, hf⟩ := wk_if hf
      refine va_iald hx hb hK hP 13 12 rfl rfl (wk_inb_ok hc3) d_M_times_70 ?_
      have hPc := hP.sub (ws' := (mw_W h q g I A)) [0, 1, 2, 3, 4, 5, 6, 7, 8, 9, 10, 11, 12, 13, 14, 15, 16, 17, 18, 19, 20] rfl
      have hDc := hD.sub (ws' := (mw_W h q g I A)) [0, 1, 2, 3, 4, 5, 6, 7, 8, 9, 10, 11, 12, 13, 14, 15, 16, 17, 18, 19, 20] (by decide) rfl
      have hKc := hK.sub (tys' := (mw_T g)) [0, 1, 2, 3, 4, 5, 6, 7, 8, 9, 10, 11, 12, 13, 14, 15, 16, 17, 18, 19] rfl
      have hFc := va_free (wc := (mw_W h q g I A)) hD hS hA [0, 1, 2, 3, 4, 5, 6, 7, 8, 9, 10, 11, 12, 13, 14, 15, 16, 17, 18, 19, 20] rfl
      cases hg1 : f_M_link I A ((A 27) ((X 1)).toNatClampNeg) ((A 26) ((X 1)).toNatClampNeg) with
      | none => rw [hg1] at hf; cases hf
      | some z1 =>
        obtain ⟨r1, I1, A1⟩ := z1
        rw [hg1] at hf
        dsimp only [Option.bind_some] at hf
        refine va_callv (va_runV (As := [.int ((A 27) ((X 1)).toNatClampNeg), .int ((A 26) ((X 1)).toNatClampNeg)]) (rest := []) ⟨hx, hb, hml, hown, hts⟩ (cm_M_link l dC dI h q g _ I A ((A 27) ((X 1)).toNatClampNeg) ((A 26) ((X 1)).toNatClampNeg) r1 I1 A1 hg1) (cwV 2 hts (gd_v lk_67 lk_68 lk_69 lk_46 lk_66) rfl rfl rfl (by decide +kernel) ⟨Nat.le_of_ble_eq_true rfl, Nat.le_of_ble_eq_true rfl⟩) ⟨fun a U g mk q => by obtain ⟨q0, q1, qP, qK, qD⟩ := q; exact ⟨q0, q1, qP, va_K.moved (u := U) (U := U.calling g mk a) (Vm.Alike.refl U.vm) qK, qD⟩, va_recv (ci := 4) (q0 := 0) hK hP rfl rfl, fun U hU hW => ⟨rfl, by rw [hU], by rw [hU]; exact hPc, va_K.moved hW.alike hKc, hDc.weaken (fun _ _ _ _ => trivial)⟩⟩ rfl rfl hl.1 rfl (lv_room (Nat.le_of_ble_eq_true rfl)) d_M_times_71 ⟨Nat.le_of_ble_eq_true rfl, Nat.le_of_ble_eq_true rfl⟩) hS (fun q _ h => hFc q h) hFc (fun u t H1 locs ht hvm hw hB hz1 hk1 hS => ?_)
        obtain ⟨hP1, hK1, hD1⟩ := hB
        rw [ht] at hP1
        obtain ⟨hP, hD⟩ := va_join (wr := []) (w1 := (mw_W h q g I1 A1)) hP hD [0, 1, 2, 3, 4, 5, 6, 7, 8, 9, 10, 11, 12, 13, 14, 15, 16, 17, 18, 19, 20] [] rfl rfl (by decide) (by decide) hk1 hFc hP1 hD1
        generalize H1 = H at hP hS ⊢
        have hP : va_P (dC, dI) vwCl (mw_W h q g I1 A1) H := hP
        have hD : va_D B9 (mw_W h q g I1 A1) := hD
        exact blk74 I1 A1 X _ _ _ hf (lv_sub hl [0, 1, 2, 3, 4, 5] rfl) hP hD hS
  unfold f_M_times at hf
  refine lv_aload_n hx hb d_M_times_0 rfl (lv_at hl 0 rfl) ?_
  refine lv_iconst (v := 0) hx hb d_M_times_1 (by decide) ?_
  refine lv_iconst (v := 0) hx hb d_M_times_2 (by decide) ?_
  refine lv_iconst (v := 0) hx hb d_M_times_3 (by decide) ?_
  have hPc := hP.sub (ws' := (mw_W h q g I A)) [0, 1, 2, 3, 4, 5, 6, 7, 8, 9, 10, 11, 12, 13, 14, 15, 16, 17, 18, 19, 20] rfl
  have hDc := hD.sub (ws' := (mw_W h q g I A)) [0, 1, 2, 3, 4, 5, 6, 7, 8, 9, 10, 11, 12, 13, 14, 15, 16, 17, 18, 19, 20] (by decide) rfl
  have hKc := hK.sub (tys' := (mw_T g)) [0, 1, 2, 3, 4, 5, 6, 7, 8, 9, 10, 11, 12, 13, 14, 15, 16, 17, 18, 19] rfl
  have hFc := va_free (wc := (mw_W h q g I A)) hD hS hA [0, 1, 2, 3, 4, 5, 6, 7, 8, 9, 10, 11, 12, 13, 14, 15, 16, 17, 18, 19, 20] rfl
  cases hg1 : f_M_node I A 0 0 0 with
  | none => rw [hg1] at hf; cases hf
  | some z1 =>
    obtain ⟨r1, I1, A1⟩ := z1
    rw [hg1] at hf
    dsimp only [Option.bind_some] at hf
    refine va_calli (va_runV (As := [.int 0, .int 0, .int 0]) (rest := []) ⟨hx, hb, hml, hown, hts⟩ (cm_M_node l dC dI h q g _ I A 0 0 0 r1 I1 A1 hg1) (cwV 3 hts (gd_v lk_87 lk_88 lk_89 lk_46 lk_86) rfl rfl rfl (by decide +kernel) ⟨Nat.le_of_ble_eq_true rfl, Nat.le_of_ble_eq_true rfl⟩) ⟨fun a U g mk q => by obtain ⟨q0, q1, qP, qK, qD⟩ := q; exact ⟨q0, q1, qP, va_K.moved (u := U) (U := U.calling g mk a) (Vm.Alike.refl U.vm) qK, qD⟩, va_recv (ci := 4) (q0 := 0) hK hP rfl rfl, fun U hU hW => ⟨rfl, by rw [hU], by rw [hU]; exact hPc, va_K.moved hW.alike hKc, hDc.weaken (fun _ _ _ _ => trivial)⟩⟩ rfl rfl hl.1 rfl (lv_room (Nat.le_of_ble_eq_true rfl)) d_M_times_4 ⟨Nat.le_of_ble_eq_true rfl, Nat.le_of_ble_eq_true rfl⟩) hS (fun q _ h => hFc q h) hFc (fun r9 u t H1 locs ht hvm hw hB hz1 hk1 hS => ?_)
    obtain ⟨hP1, hK1, hD1⟩ := hB
    rw [ht] at hP1
    rw [hw]
    obtain ⟨hP, hD⟩ := va_join (wr := []) (w1 := (mw_W h q g I1 A1)) hP hD [0, 1, 2, 3, 4, 5, 6, 7, 8, 9, 10, 11, 12, 13, 14, 15, 16, 17, 18, 19, 20] [] rfl rfl (by decide) (by decide) hk1 hFc hP1 hD1
    generalize H1 = H at hP hS ⊢
    have hP : va_P (dC, dI) vwCl (mw_W h q g I1 A1) H := hP
    have hD : va_D B9 (mw_W h q g I1 A1) := hD
    refine lv_istore (lv' := [(4, .int r1), (0, .ref h), (1, .int k1), (2, .int k2), (3, .int k3)]) hx hb d_M_times_7 hl (by decide) rfl (fun ls hl => ?_)
    have hl : lv_has ls 6 [(4, .int r1), (0, .ref h), (1, .int k1), (2, .int k2), (3, .int k3)] := hl
    refine lv_aload_n hx hb d_M_times_9 rfl (lv_at hl 1 rfl) ?_
    refine lv_iconst (v := 0) hx hb d_M_times_10 (by decide) ?_
    refine lv_iconst (v := 0) hx hb d_M_times_11 (by decide) ?_
    refine lv_iconst (v := 0) hx hb d_M_times_12 (by decide) ?_
    have hPc := hP.sub (ws' := (mw_W h q g I1 A1)) [0, 1, 2, 3, 4, 5, 6, 7, 8, 9, 10, 11, 12, 13, 14, 15, 16, 17, 18, 19, 20] rfl
    have hDc := hD.sub (ws' := (mw_W h q g I1 A1)) [0, 1, 2, 3, 4, 5, 6, 7, 8, 9, 10, 11, 12, 13, 14, 15, 16, 17, 18, 19, 20] (by decide) rfl
    have hKc := hK.sub (tys' := (mw_T g)) [0, 1, 2, 3, 4, 5, 6, 7, 8, 9, 10, 11, 12, 13, 14, 15, 16, 17, 18, 19] rfl
    have hFc := va_free (wc := (mw_W h q g I1 A1)) hD hS hA [0, 1, 2, 3, 4, 5, 6, 7, 8, 9, 10, 11, 12, 13, 14, 15, 16, 17, 18, 19, 20] rfl
    cases hg2 : f_M_node I1 A1 0 0 0 with
    | none => rw [hg2] at hf; cases hf
    | some z2 =>
      obtain ⟨r2, I2, A2⟩ := z2
      rw [hg2] at hf
      dsimp only [Option.bind_some] at hf
      refine va_calli (va_runV (As := [.int 0, .int 0, .int 0]) (rest := []) ⟨hx, hb, hml, hown, hts⟩ (cm_M_node l dC dI h q g _ I1 A1 0 0 0 r2 I2 A2 hg2) (cwV 3 hts (gd_v lk_87 lk_88 lk_89 lk_46 lk_86) rfl rfl rfl (by decide +kernel) ⟨Nat.le_of_ble_eq_true rfl, Nat.le_of_ble_eq_true rfl⟩) ⟨fun a U g mk q => by obtain ⟨q0, q1, qP, qK, qD⟩ := q; exact ⟨q0, q1, qP, va_K.moved (u := U) (U := U.calling g mk a) (Vm.Alike.refl U.vm) qK, qD⟩, va_recv (ci := 4) (q0 := 0) hK hP rfl rfl, fun U hU hW => ⟨rfl, by rw [hU], by rw [hU]; exact hPc, va_K.moved hW.alike hKc, hDc.weaken (fun _ _ _ _ => trivial)⟩⟩ rfl rfl hl.1 rfl (lv_room (Nat.le_of_ble_eq_true rfl)) d_M_times_13 ⟨Nat.le_of_ble_eq_true rfl, Nat.le_of_ble_eq_true rfl⟩) hS (fun q _ h => hFc q h) hFc (fun r9 u t H1 locs ht hvm hw hB hz1 hk1 hS => ?_)
      obtain ⟨hP1, hK1, hD1⟩ := hB
      rw [ht] at hP1
      rw [hw]
      obtain ⟨hP, hD⟩ := va_join (wr := []) (w1 := (mw_W h q g I2 A2)) hP hD [0, 1, 2, 3, 4, 5, 6, 7, 8, 9, 10, 11, 12, 13, 14, 15, 16, 17, 18, 19, 20] [] rfl rfl (by decide) (by decide) hk1 hFc hP1 hD1
      generalize H1 = H at hP hS ⊢
      have hP : va_P (dC, dI) vwCl (mw_W h q g I2 A2) H := hP
      have hD : va_D B9 (mw_W h q g I2 A2) := hD
      refine lv_istore (lv' := [(5, .int r2), (4, .int r1), (0, .ref h), (1, .int k1), (2, .int k2), (3, .int k3)]) hx hb d_M_times_16 hl (by decide) rfl (fun ls hl => ?_)
      have hl : lv_has ls 6 [(5, .int r2), (4, .int r1), (0, .ref h), (1, .int k1), (2, .int k2), (3, .int k3)] := hl
      refine lv_aload_n hx hb d_M_times_18 rfl (lv_at hl 2 rfl) ?_
      refine lv_iload hx hb d_M_times_19 (lv_at hl 1 rfl) ?_
      refine lv_aload_n hx hb d_M_times_21 rfl (lv_at hl 2 rfl) ?_
      refine va_get (D := (dC, dI)) (ci := 4) (v := .ref (q 26)) (C := R_M) (T := F_M) (N := 38) hx hb hts (fun w h => List.mem_cons_of_mem _ (in_M w h)) hown hK hP 0 rfl rfl 26 (by decide) (hts _ (List.mem_cons_of_mem _ lk_63)) (fun _ h9 => h9) rfl d_M_times_22 ?_
      refine lv_iload_n hx hb d_M_times_25 rfl (lv_at hl 3 rfl) ?_
      obtain ⟨hc1, hf⟩ := wk_if hf
      refine va_iald hx hb hK hP 13 12 rfl rfl (wk_inb_ok hc1) d_M_times_26 ?_
      have hPc := hP.sub (ws' := (mw_W h q g I2 A2)) [0, 1, 2, 3, 4, 5, 6, 7, 8, 9, 10, 11, 12, 13, 14, 15, 16, 17, 18, 19, 20] rfl
      have hDc := hD.sub (ws' := (mw_W h q g I2 A2)) [0, 1, 2, 3, 4, 5, 6, 7, 8, 9, 10, 11, 12, 13, 14, 15, 16, 17, 18, 19, 20] (by decide) rfl
      have hKc := hK.sub (tys' := (mw_T g)) [0, 1, 2, 3, 4, 5, 6, 7, 8, 9, 10, 11, 12, 13, 14, 15, 16, 17, 18, 19] rfl
      have hFc := va_free (wc := (mw_W h q g I2 A2)) hD hS hA [0, 1, 2, 3, 4, 5, 6, 7, 8, 9, 10, 11, 12, 13, 14, 15, 16, 17, 18, 19, 20] rfl
      cases hg3 : f_M_link I2 A2 r1 ((A2 26) (k1).toNatClampNeg) with
      | none => rw [hg3] at hf; cases hf
      | some z3 =>
        obtain ⟨r3, I3, A3⟩ := z3
        rw [hg3] at hf
        dsimp only [Option.bind_some] at hf
        refine va_callv (va_runV (As := [.int r1, .int ((A2 26) (k1).toNatClampNeg)]) (rest := []) ⟨hx, hb, hml, hown, hts⟩ (cm_M_link l dC dI h q g _ I2 A2 r1 ((A2 26) (k1).toNatClampNeg) r3 I3 A3 hg3) (cwV 2 hts (gd_v lk_67 lk_68 lk_69 lk_46 lk_66) rfl rfl rfl (by decide +kernel) ⟨Nat.le_of_ble_eq_true rfl, Nat.le_of_ble_eq_true rfl⟩) ⟨fun a U g mk q => by obtain ⟨q0, q1, qP, qK, qD⟩ := q; exact ⟨q0, q1, qP, va_K.moved (u := U) (U := U.calling g mk a) (Vm.Alike.refl U.vm) qK, qD⟩, va_recv (ci := 4) (q0 := 0) hK hP rfl rfl, fun U hU hW => ⟨rfl, by rw [hU], by rw [hU]; exact hPc, va_K.moved hW.alike hKc, hDc.weaken (fun _ _ _ _ => trivial)⟩⟩ rfl rfl hl.1 rfl (lv_room (Nat.le_of_ble_eq_true rfl)) d_M_times_27 ⟨Nat.le_of_ble_eq_true rfl, Nat.le_of_ble_eq_true rfl⟩) hS (fun q _ h => hFc q h) hFc (fun u t H1 locs ht hvm hw hB hz1 hk1 hS => ?_)
        obtain ⟨hP1, hK1, hD1⟩ := hB
        rw [ht] at hP1
        obtain ⟨hP, hD⟩ := va_join (wr := []) (w1 := (mw_W h q g I3 A3)) hP hD [0, 1, 2, 3, 4, 5, 6, 7, 8, 9, 10, 11, 12, 13, 14, 15, 16, 17, 18, 19, 20] [] rfl rfl (by decide) (by decide) hk1 hFc hP1 hD1
        generalize H1 = H at hP hS ⊢
        have hP : va_P (dC, dI) vwCl (mw_W h q g I3 A3) H := hP
        have hD : va_D B9 (mw_W h q g I3 A3) := hD
        refine lv_aload_n hx hb d_M_times_30 rfl (lv_at hl 2 rfl) ?_
        refine lv_aload_n hx hb d_M_times_31 rfl (lv_at hl 2 rfl) ?_
        refine va_get (D := (dC, dI)) (ci := 4) (v := .ref (q 27)) (C := R_M) (T := F_M) (N := 38) hx hb hts (fun w h => List.mem_cons_of_mem _ (in_M w h)) hown hK hP 0 rfl rfl 27 (by decide) (hts _ (List.mem_cons_of_mem _ lk_62)) (fun _ h9 => h9) rfl d_M_times_32 ?_
        refine lv_iload_n hx hb d_M_times_35 rfl (lv_at hl 3 rfl) ?_
        obtain ⟨hc2, hf⟩ := wk_if hf
        refine va_iald hx hb hK hP 14 13 rfl rfl (wk_inb_ok hc2) d_M_times_36 ?_
        refine lv_iload hx hb d_M_times_37 (lv_at hl 0 rfl) ?_
        have hPc := hP.sub (ws' := (mw_W h q g I3 A3)) [0, 1, 2, 3, 4, 5, 6, 7, 8, 9, 10, 11, 12, 13, 14, 15, 16, 17, 18, 19, 20] rfl
        have hDc := hD.sub (ws' := (mw_W h q g I3 A3)) [0, 1, 2, 3, 4, 5, 6, 7, 8, 9, 10, 11, 12, 13, 14, 15, 16, 17, 18, 19, 20] (by decide) rfl
        have hKc := hK.sub (tys' := (mw_T g)) [0, 1, 2, 3, 4, 5, 6, 7, 8, 9, 10, 11, 12, 13, 14, 15, 16, 17, 18, 19] rfl
        have hFc := va_free (wc := (mw_W h q g I3 A3)) hD hS hA [0, 1, 2, 3, 4, 5, 6, 7, 8, 9, 10, 11, 12, 13, 14, 15, 16, 17, 18, 19, 20] rfl
        cases hg4 : f_M_link I3 A3 ((A3 27) (k1).toNatClampNeg) r2 with
        | none => rw [hg4] at hf; cases hf
        | some z4 =>
          obtain ⟨r4, I4, A4⟩ := z4
          rw [hg4] at hf
          dsimp only [Option.bind_some] at hf
          refine va_callv (va_runV (As := [.int ((A3 27) (k1).toNatClampNeg), .int r2]) (rest := []) ⟨hx, hb, hml, hown, hts⟩ (cm_M_link l dC dI h q g _ I3 A3 ((A3 27) (k1).toNatClampNeg) r2 r4 I4 A4 hg4) (cwV 2 hts (gd_v lk_67 lk_68 lk_69 lk_46 lk_66) rfl rfl rfl (by decide +kernel) ⟨Nat.le_of_ble_eq_true rfl, Nat.le_of_ble_eq_true rfl⟩) ⟨fun a U g mk q => by obtain ⟨q0, q1, qP, qK, qD⟩ := q; exact ⟨q0, q1, qP, va_K.moved (u := U) (U := U.calling g mk a) (Vm.Alike.refl U.vm) qK, qD⟩, va_recv (ci := 4) (q0 := 0) hK hP rfl rfl, fun U hU hW => ⟨rfl, by rw [hU], by rw [hU]; exact hPc, va_K.moved hW.alike hKc, hDc.weaken (fun _ _ _ _ => trivial)⟩⟩ rfl rfl hl.1 rfl (lv_room (Nat.le_of_ble_eq_true rfl)) d_M_times_39 ⟨Nat.le_of_ble_eq_true rfl, Nat.le_of_ble_eq_true rfl⟩) hS (fun q _ h => hFc q h) hFc (fun u t H1 locs ht hvm hw hB hz1 hk1 hS => ?_)
          obtain ⟨hP1, hK1, hD1⟩ := hB
          rw [ht] at hP1
          obtain ⟨hP, hD⟩ := va_join (wr := []) (w1 := (mw_W h q g I4 A4)) hP hD [0, 1, 2, 3, 4, 5, 6, 7, 8, 9, 10, 11, 12, 13, 14, 15, 16, 17, 18, 19, 20] [] rfl rfl (by decide) (by decide) hk1 hFc hP1 hD1
          generalize H1 = H at hP hS ⊢
          have hP : va_P (dC, dI) vwCl (mw_W h q g I4 A4) H := hP
          have hD : va_D B9 (mw_W h q g I4 A4) := hD
          refine lv_iload_n hx hb d_M_times_42 rfl (lv_at hl 4 rfl) ?_
          refine lv_if_eq (tgt := 54) hx hb d_M_times_43 (by decide) (fun hc3 => ?_) (fun hc3 => ?_)
          ·
            have hf := wk_ift hc3 hf
            exact blk54 I4 A4 (upd (upd (upd (upd (upd (fun _ => 0) 1 k1) 2 k2) 3 k3) 4 r1) 5 r2) _ _ _ hf (lv_sub hl [2, 3, 4, 5, 1, 0] rfl) hP hD hS
          ·
            have hf := wk_iff hc3 hf
            refine lv_aload_n hx hb d_M_times_46 rfl (lv_at hl 2 rfl) ?_
            refine lv_iload hx hb d_M_times_47 (lv_at hl 1 rfl) ?_
            refine lv_iload hx hb d_M_times_49 (lv_at hl 0 rfl) ?_
            have hPc := hP.sub (ws' := (mw_W h q g I4 A4)) [0, 1, 2, 3, 4, 5, 6, 7, 8, 9, 10, 11, 12, 13, 14, 15, 16, 17, 18, 19, 20] rfl
            have hDc := hD.sub (ws' := (mw_W h q g I4 A4)) [0, 1, 2, 3, 4, 5, 6, 7, 8, 9, 10, 11, 12, 13, 14, 15, 16, 17, 18, 19, 20] (by decide) rfl
            have hKc := hK.sub (tys' := (mw_T g)) [0, 1, 2, 3, 4, 5, 6, 7, 8, 9, 10, 11, 12, 13, 14, 15, 16, 17, 18, 19] rfl
            have hFc := va_free (wc := (mw_W h q g I4 A4)) hD hS hA [0, 1, 2, 3, 4, 5, 6, 7, 8, 9, 10, 11, 12, 13, 14, 15, 16, 17, 18, 19, 20] rfl
            cases hg5 : f_M_link I4 A4 r1 r2 with
            | none => rw [hg5] at hf; cases hf
            | some z5 =>
              obtain ⟨r5, I5, A5⟩ := z5
              rw [hg5] at hf
              dsimp only [Option.bind_some] at hf
              refine va_callv (va_runV (As := [.int r1, .int r2]) (rest := []) ⟨hx, hb, hml, hown, hts⟩ (cm_M_link l dC dI h q g _ I4 A4 r1 r2 r5 I5 A5 hg5) (cwV 2 hts (gd_v lk_67 lk_68 lk_69 lk_46 lk_66) rfl rfl rfl (by decide +kernel) ⟨Nat.le_of_ble_eq_true rfl, Nat.le_of_ble_eq_true rfl⟩) ⟨fun a U g mk q => by obtain ⟨q0, q1, qP, qK, qD⟩ := q; exact ⟨q0, q1, qP, va_K.moved (u := U) (U := U.calling g mk a) (Vm.Alike.refl U.vm) qK, qD⟩, va_recv (ci := 4) (q0 := 0) hK hP rfl rfl, fun U hU hW => ⟨rfl, by rw [hU], by rw [hU]; exact hPc, va_K.moved hW.alike hKc, hDc.weaken (fun _ _ _ _ => trivial)⟩⟩ rfl rfl hl.1 rfl (lv_room (Nat.le_of_ble_eq_true rfl)) d_M_times_51 ⟨Nat.le_of_ble_eq_true rfl, Nat.le_of_ble_eq_true rfl⟩) hS (fun q _ h => hFc q h) hFc (fun u t H1 locs ht hvm hw hB hz1 hk1 hS => ?_)
              obtain ⟨hP1, hK1, hD1⟩ := hB
              rw [ht] at hP1
              obtain ⟨hP, hD⟩ := va_join (wr := []) (w1 := (mw_W h q g I5 A5)) hP hD [0, 1, 2, 3, 4, 5, 6, 7, 8, 9, 10, 11, 12, 13, 14, 15, 16, 17, 18, 19, 20] [] rfl rfl (by decide) (by decide) hk1 hFc hP1 hD1
              generalize H1 = H at hP hS ⊢
              have hP : va_P (dC, dI) vwCl (mw_W h q g I5 A5) H := hP
              have hD : va_D B9 (mw_W h q g I5 A5) := hD
              exact blk54 I5 A5 (upd (upd (upd (upd (upd (fun _ => 0) 1 k1) 2 k2) 3 k3) 4 r1) 5 r2) _ _ _ hf (lv_sub hl [2, 3, 4, 5, 1, 0] rfl) hP hD hS

-- 16.mcon03
set_option maxHeartbeats 8000000 in
set_option maxRecDepth 100000 in
theorem cm_M_build (l : Launch) (dC : Nat → ClassId) (dI : Nat → Nat → Nat) (h : Nat) (q : Nat → Nat) (g : Nat → ClassId) (sz : Nat) (I : MI) (A : MA) (k1 : Int32) (r : Int32) (I' : MI) (A' : MA) (hf : f_M_build I A k1 = some (r, I', A')) : Met l y_M_build w_M_build ({ frames := 3, cells := 0, slots := 0, locals := 69 }) (va_Pc [.ref h, .int k1] (fun U => U.heap.size = sz ∧ va_P (dC, dI) vwCl (mw_W h q g I A) U.heap ∧ va_K (dC, dI) vwCl (mw_T g) U ∧ va_D (fun _ => True) (mw_W h q g I A))) (va_Qi (fun (r9 : Int32) (_ : Unit) => r9 = r) (fun (_ : Unit) t => va_P (dC, dI) vwCl (mw_W h q g I' A') t.heap ∧ va_K (dC, dI) vwCl (mw_T g) t ∧ va_D (va_A (mw_W h q g I A) sz) (mw_W h q g I' A')) (va_A (mw_W h q g I A) sz)) 0 0 (va_A (mw_W h q g I A) sz) := by
  refine Met.ofW (cc := prog_6_method_35_code) (maxL := 6) (ret := (some .int)) (by decide) rfl ?_
  intro p e s m args below meth c s₁ B hml hv
  obtain ⟨rfl, hsz, hP, hK, hD0⟩ := hv
  have hx := B.exec
  have hb := B.bytes
  have hr := B.returns
  have hts := atoms_spec (ws := w_M_build) B.pre
  have hown : s.vm.findClass R_M = some m.cls := findClass_of_methodNamed B.named
  have hlocks := B.notSynchronized
  subst hsz
  have hD := hD0.self (sz := s.heap.size)
  generalize hAe : va_A (mw_W h q g I A) s.heap.size = B9 at hD ⊢
  have hA : ∀ q : Nat, s.heap.size ≤ q → B9 q := fun q h => by rw [← hAe]; exact Or.inr h
  clear hAe
  have hS : va_S B9 s.heap s.heap [] := va_S.rf
  have hl := lv_entry ([.ref h, .int k1]) (n := 6) (Nat.le_of_ble_eq_true rfl)
  rw [lg_entry_eq]
  generalize (lg_sl ([.ref h, .int k1]) ++ List.replicate (6 - (lg_sl ([.ref h, .int k1])).length) Slot.unset).toArray = ls at hl ⊢
  have hl : lv_has ls 6 [(0, .ref h), (1, .int k1)] := hl
  have blk273 : ∀ (rc : Nat → MI → MA → (Nat → Int32) → Option (Int32 × MI × MA)) (hrc150 : ∀ (I : MI) (A : MA) (X : Nat → Int32) (ls : Array Slot) (H : Heap) (locs : List Loc), rc 150 I A X = some (r, I', A') → lv_has ls 6 [(0, .ref h), (1, .int (X 1)), (2, .int (X 2)), (3, .int (X 3)), (4, .int (X 4))] → va_P (dC, dI) vwCl (mw_W h q g I A) H → va_D B9 (mw_W h q g I A) → va_S B9 s.heap H locs → W p l e (headSpec w_M_build ({ frames := 3, cells := 0, slots := 0, locals := 69 })).room s m ([.ref h, .int k1] : List Value).toArray below meth c H locs 0 0 (MQ below (va_Qi (fun (r9 : Int32) (_ : Unit) => r9 = r) (fun (_ : Unit) t => va_P (dC, dI) vwCl (mw_W h q g I' A') t.heap ∧ va_K (dC, dI) vwCl (mw_T g) t ∧ va_D B9 (mw_W h q g I' A')) B9) ([.ref h, .int k1] : List Value).toArray s 0 0 B9) (F0 m 150 ls [])), ∀ (I : MI) (A : MA) (X : Nat → Int32) (ls : Array Slot) (H : Heap) (locs : List Loc), f_M_build_273 rc I A X = some (r, I', A') → lv_has ls 6 [(0, .ref h), (1, .int (X 1)), (2, .int (X 2)), (3, .int (X 3)), (4, .int (X 4))] → va_P (dC, dI) vwCl (mw_W h q g I A) H → va_D B9 (mw_W h q g I A) → va_S B9 s.heap H locs → W p l e (headSpec w_M_build ({ frames := 3, cells := 0, slots := 0, locals := 69 })).room s m ([.ref h, .int k1] : List Value).toArray below meth c H locs 0 0 (MQ below (va_Qi (fun (r9 : Int32) (_ : Unit) => r9 = r) (fun (_ : Unit) t => va_P (dC, dI) vwCl (mw_W h q g I' A') t.heap ∧ va_K (dC, dI) vwCl (mw_T g) t ∧ va_D B9 (mw_W h q g I' A')) B9) ([.ref h, .int k1] : List Value).toArray s 0 0 B9) (F0 m 273 ls []) := by
    intro rc hrc150 I A X ls H locs hf hl hP hD hS
    unfold f_M_build_273 at hf
    refine lv_iload hx hb d_M_build_273 (lv_at hl 4 rfl) ?_
    obtain ⟨e1, e2, e3⟩ := wk_inj hf
    subst e1
    subst e2
    subst e3
    exact W.iret (v := (X 4)) hx hb hr (fun t ht hW => ⟨⟨(X 4), (), rfl, rfl, by rw [ht]; exact hP, va_K.moved hW.alike hK, hD⟩, hS.F ht⟩) hS.2.2 d_M_build_275
  have blk132 : ∀ (rc : Nat → MI → MA → (Nat → Int32) → Option (Int32 × MI × MA)) (hrc150 : ∀ (I : MI) (A : MA) (X : Nat → Int32) (ls : Array Slot) (H : Heap) (locs : List Loc), rc 150 I A X = some (r, I', A') → lv_has ls 6 [(0, .ref h), (1, .int (X 1)), (2, .int (X 2)), (3, .int (X 3)), (4, .int (X 4))] → va_P (dC, dI) vwCl (mw_W h q g I A) H → va_D B9 (mw_W h q g I A) → va_S B9 s.heap H locs → W p l e (headSpec w_M_build ({ frames := 3, cells := 0, slots := 0, locals := 69 })).room s m ([.ref h, .int k1] : List Value).toArray below meth c H locs 0 0 (MQ below (va_Qi (fun (r9 : Int32) (_ : Unit) => r9 = r) (fun (_ : Unit) t => va_P (dC, dI) vwCl (mw_W h q g I' A') t.heap ∧ va_K (dC, dI) vwCl (mw_T g) t ∧ va_D B9 (mw_W h q g I' A')) B9) ([.ref h, .int k1] : List Value).toArray s 0 0 B9) (F0 m 150 ls [])), ∀ (I : MI) (A : MA) (X : Nat → Int32) (s0 : Int32) (s1 : Int32) (s2 : Int32) (s4 : Int32) (ls : Array Slot) (H : Heap) (locs : List Loc), f_M_build_132 rc I A X s0 s1 s2 s4 = some (r, I', A') → lv_has ls 6 [(0, .ref h), (1, .int (X 1)), (2, .int (X 2)), (3, .int (X 3)), (4, .int (X 4))] → va_P (dC, dI) vwCl (mw_W h q g I A) H → va_D B9 (mw_W h q g I A) → va_S B9 s.heap H locs → W p l e (headSpec w_M_build ({ frames := 3, cells := 0, slots := 0, locals := 69 })).room s m ([.ref h, .int k1] : List Value).toArray below meth c H locs 0 0 (MQ below (va_Qi (fun (r9 : Int32) (_ : Unit) => r9 = r) (fun (_ : Unit) t => va_P (dC, dI) vwCl (mw_W h q g I' A') t.heap ∧ va_K (dC, dI) vwCl (mw_T g) t ∧ va_D B9 (mw_W h q g I' A')) B9) ([.ref h, .int k1] : List Value).toArray s 0 0 B9) (F0 m 132 ls [.int s0, .int s1, .int s2, .ref h, .int s4, .ref (q 31)]) := by
    intro rc hrc150 I A X s0 s1 s2 s4 ls H locs hf hl hP hD hS
    unfold f_M_build_132 at hf
    have hPc := hP.sub (ws' := (mw_W h q g I A)) [0, 1, 2, 3, 4, 5, 6, 7, 8, 9, 10, 11, 12, 13, 14, 15, 16, 17, 18, 19, 20] rfl
    have hDc := hD.sub (ws' := (mw_W h q g I A)) [0, 1, 2, 3, 4, 5, 6, 7, 8, 9, 10, 11, 12, 13, 14, 15, 16, 17, 18, 19, 20] (by decide) rfl
    have hKc := hK.sub (tys' := (mw_T g)) [0, 1, 2, 3, 4, 5, 6, 7, 8, 9, 10, 11, 12, 13, 14, 15, 16, 17, 18, 19] rfl
    have hFc := va_free (wc := (mw_W h q g I A)) hD hS hA [0, 1, 2, 3, 4, 5, 6, 7, 8, 9, 10, 11, 12, 13, 14, 15, 16, 17, 18, 19, 20] rfl
    cases hg1 : f_M_times I A s2 s1 s0 with
    | none => rw [hg1] at hf; cases hf
    | some z1 =>
      obtain ⟨r1, I1, A1⟩ := z1
      rw [hg1] at hf
      dsimp only [Option.bind_some] at hf
      refine va_calli (va_runV (As := [.int s2, .int s1, .int s0]) (rest := [.int s4, .ref (q 31)]) ⟨hx, hb, hml, hown, hts⟩ (cm_M_times l dC dI h q g _ I A s2 s1 s0 r1 I1 A1 hg1) (cwV 3 hts (gd_v lk_121 lk_122 lk_123 lk_46 lk_120) rfl rfl rfl (by decide +kernel) ⟨Nat.le_of_ble_eq_true rfl, Nat.le_of_ble_eq_true rfl⟩) ⟨fun a U g mk q => by obtain ⟨q0, q1, qP, qK, qD⟩ := q; exact ⟨q0, q1, qP, va_K.moved (u := U) (U := U.calling g mk a) (Vm.Alike.refl U.vm) qK, qD⟩, va_recv (ci := 4) (q0 := 0) hK hP rfl rfl, fun U hU hW => ⟨rfl, by rw [hU], by rw [hU]; exact hPc, va_K.moved hW.alike hKc, hDc.weaken (fun _ _ _ _ => trivial)⟩⟩ rfl rfl hl.1 rfl (lv_room (Nat.le_of_ble_eq_true rfl)) d_M_build_132 ⟨Nat.le_of_ble_eq_true rfl, Nat.le_of_ble_eq_true rfl⟩) hS (fun q _ h => hFc q h) hFc (fun r9 u t H1 locs ht hvm hw hB hz1 hk1 hS => ?_)
      obtain ⟨hP1, hK1, hD1⟩ := hB
      rw [ht] at hP1
      rw [hw]
      obtain ⟨hP, hD⟩ := va_join (wr := []) (w1 := (mw_W h q g I1 A1)) hP hD [0, 1, 2, 3, 4, 5, 6, 7, 8, 9, 10, 11, 12, 13, 14, 15, 16, 17, 18, 19, 20] [] rfl rfl (by decide) (by decide) hk1 hFc hP1 hD1
      generalize H1 = H at hP hS ⊢
      have hP : va_P (dC, dI) vwCl (mw_W h q g I1 A1) H := hP
      have hD : va_D B9 (mw_W h q g I1 A1) := hD
      obtain ⟨hc1, hf⟩ := wk_if hf
      refine va_iast hx hb hK hP hD hS 17 16 rfl rfl (wk_inb_ok hc1) d_M_build_135 (fun H locs hP hD hS => ?_)
      obtain ⟨A2, hA2, hf⟩ := wk_letE hf
      have hP : va_P (dC, dI) vwCl (mw_W h q g I1 A2) H := by rw [hA2]; exact hP
      have hD : va_D B9 (mw_W h q g I1 A2) := by rw [hA2]; exact hD
      clear hA2
      refine lv_goto (tgt := 273) hx hb d_M_build_136 (by decide) ?_
      exact blk273 rc hrc150 I1 A2 X _ _ _ hf (lv_sub hl [0, 1, 2, 3, 4] rfl) hP hD hS
  have blk121 : ∀ (rc : Nat → MI → MA → (Nat → Int32) → Option (Int32 × MI × MA)) (hrc150 : ∀ (I : MI) (A : MA) (X : Nat → Int32) (ls : Array Slot) (H : Heap) (locs : List Loc), rc 150 I A X = some (r, I', A') → lv_has ls 6 [(0, .ref h), (1, .int (X 1)), (2, .int (X 2)), (3, .int (X 3)), (4, .int (X 4))] → va_P (dC, dI) vwCl (mw_W h q g I A) H → va_D B9 (mw_W h q g I A) → va_S B9 s.heap H locs → W p l e (headSpec w_M_build ({ frames := 3, cells := 0, slots := 0, locals := 69 })).room s m ([.ref h, .int k1] : List Value).toArray below meth c H locs 0 0 (MQ below (va_Qi (fun (r9 : Int32) (_ : Unit) => r9 = r) (fun (_ : Unit) t => va_P (dC, dI) vwCl (mw_W h q g I' A') t.heap ∧ va_K (dC, dI) vwCl (mw_T g) t ∧ va_D B9 (mw_W h q g I' A')) B9) ([.ref h, .int k1] : List Value).toArray s 0 0 B9) (F0 m 150 ls [])), ∀ (I : MI) (A : MA) (X : Nat → Int32) (s0 : Int32) (s1 : Int32) (s3 : Int32) (ls : Array Slot) (H : Heap) (locs : List Loc), f_M_build_121 rc I A X s0 s1 s3 = some (r, I', A') → lv_has ls 6 [(0, .ref h), (1, .int (X 1)), (2, .int (X 2)), (3, .int (X 3)), (4, .int (X 4))] → va_P (dC, dI) vwCl (mw_W h q g I A) H → va_D B9 (mw_W h q g I A) → va_S B9 s.heap H locs → W p l e (headSpec w_M_build ({ frames := 3, cells := 0, slots := 0, locals := 69 })).room s m ([.ref h, .int k1] : List Value).toArray below meth c H locs 0 0 (MQ below (va_Qi (fun (r9 : Int32) (_ : Unit) => r9 = r) (fun (_ : Unit) t => va_P (dC, dI) vwCl (mw_W h q g I' A') t.heap ∧ va_K (dC, dI) vwCl (mw_T g) t ∧ va_D B9 (mw_W h q g I' A')) B9) ([.ref h, .int k1] : List Value).toArray s 0 0 B9) (F0 m 121 ls [.int s0, .int s1, .ref h, .int s3, .ref (q 31)]) := by
    intro rc hrc150 I A X s0 s1 s3 ls H locs hf hl hP hD hS
    unfold f_M_build_121 at hf
    refine lv_iload_n hx hb d_M_build_121 rfl (lv_at hl 2 rfl) ?_
    refine lv_bipush (v := 63) hx hb d_M_build_122 (by decide) ?_
    refine lv_icmp_eq (tgt := 131) hx hb d_M_build_124 (by decide) (fun hc1 => ?_) (fun hc1 => ?_)
    ·
      have hf := wk_ift hc1 hf
      refine lv_iconst (v := 0) hx hb d_M_build_131 (by decide) ?_
      exact blk132 rc hrc150 I A X 0 s0 s1 s3 _ _ _ hf (lv_sub hl [0, 1, 2, 3, 4] rfl) hP hD hS
    ·
      have hf := wk_iff hc1 hf
      refine lv_iconst (v := 1) hx hb d_M_build_127 (by decide) ?_
      refine lv_goto (tgt := 132) hx hb d_M_build_128 (by decide) ?_
      exact blk132 rc hrc150 I A X 1 s0 s1 s3 _ _ _ hf (lv_sub hl [0, 1, 2, 3, 4] rfl) hP hD hS
  have stp150 : ∀ (rc : Nat → MI → MA → (Nat → Int32) → Option (Int32 × MI × MA)) (hrc150 : ∀ (I : MI) (A : MA) (X : Nat → Int32) (ls : Array Slot) (H : Heap) (locs : List Loc), rc 150 I A X = some (r, I', A') → lv_has ls 6 [(0, .ref h), (1, .int (X 1)), (2, .int (X 2)), (3, .int (X 3)), (4, .int (X 4))] → va_P (dC, dI) vwCl (mw_W h q g I A) H → va_D B9 (mw_W h q g I A) → va_S B9 s.heap H locs → W p l e (headSpec w_M_build ({ frames := 3, cells := 0, slots := 0, locals := 69 })).room s m ([.ref h, .int k1] : List Value).toArray below meth c H locs 0 0 (MQ below (va_Qi (fun (r9 : Int32) (_ : Unit) => r9 = r) (fun (_ : Unit) t => va_P (dC, dI) vwCl (mw_W h q g I' A') t.heap ∧ va_K (dC, dI) vwCl (mw_T g) t ∧ va_D B9 (mw_W h q g I' A')) B9) ([.ref h, .int k1] : List Value).toArray s 0 0 B9) (F0 m 150 ls [])), ∀ (I : MI) (A : MA) (X : Nat → Int32) (ls : Array Slot) (H : Heap) (locs : List Loc), f_M_build_150 rc I A X = some (r, I', A') → lv_has ls 6 [(0, .ref h), (1, .int (X 1)), (2, .int (X 2)), (3, .int (X 3)), (4, .int (X 4))] → va_P (dC, dI) vwCl (mw_W h q g I A) H → va_D B9 (mw_W h q g I A) → va_S B9 s.heap H locs → W p l e (headSpec w_M_build ({ frames := 3, cells := 0, slots := 0, locals := 69 })).room s m ([.ref h, .int k1] : List Value).toArray below meth c H locs 0 0 (MQ below (va_Qi (fun (r9 : Int32) (_ : Unit) => r9 = r) (fun (_ : Unit) t => va_P (dC, dI) vwCl (mw_W h q g I' A') t.heap ∧ va_K (dC, dI) vwCl (mw_T g) t ∧ va_D B9 (mw_W h q g I' A')) B9) ([.ref h, .int k1] : List Value).toArray s 0 0 B9) (F0 m 150 ls []) := by
    intro rc hrc150 I A X ls H locs hf hl hP hD hS
    unfold f_M_build_150 at hf
    refine lv_aload_n hx hb d_M_build_150 rfl (lv_at hl 0 rfl) ?_
    refine va_get (D := (dC, dI)) (ci := 4) (v := .ref (q 16)) (C := R_M) (T := F_M) (N := 38) hx hb hts (fun w h => List.mem_cons_of_mem _ (in_M w h)) hown hK hP 0 rfl rfl 16 (by decide) (hts _ (List.mem_cons_of_mem _ lk_77)) (fun _ h9 => h9) rfl d_M_build_151 ?_
    refine lv_iload hx hb d_M_build_154 (lv_at hl 4 rfl) ?_
    obtain ⟨hc1, hf⟩ := wk_if hf
    refine va_cald hx hb hK hP 7 6 rfl rfl (wk_inb_ok hc1) d_M_build_156 ?_
    refine lv_bipush (v := 93) hx hb d_M_build_157 (by decide) ?_
    refine lv_icmp_eq (tgt := 168) hx hb d_M_build_159 (by decide) (fun hc2 => ?_) (fun hc2 => ?_)
    ·
      have hf := wk_ift hc2 hf
      refine lv_aload_n hx hb d_M_build_168 rfl (lv_at hl 0 rfl) ?_
      refine lv_iconst (v := 3) hx hb d_M_build_169 (by decide) ?_
      refine lv_iload_n hx hb d_M_build_170 rfl (lv_at hl 1 rfl) ?_
      refine lv_iconst (v := 1) hx hb d_M_build_171 (by decide) ?_
      refine lv_iadd hx hb d_M_build_172 ?_
      refine lv_iload hx hb d_M_build_173 (lv_at hl 4 rfl) ?_
      have hPc := hP.sub (ws' := (mw_W h q g I A)) [0, 1, 2, 3, 4, 5, 6, 7, 8, 9, 10, 11, 12, 13, 14, 15, 16, 17, 18, 19, 20] rfl
      have hDc := hD.sub (ws' := (mw_W h q g I A)) [0, 1, 2, 3, 4, 5, 6, 7, 8, 9, 10, 11, 12, 13, 14, 15, 16, 17, 18, 19, 20] (by decide) rfl
      have hKc := hK.sub (tys' := (mw_T g)) [0, 1, 2, 3, 4, 5, 6, 7, 8, 9, 10, 11, 12, 13, 14, 15, 16, 17, 18, 19] rfl
      have hFc := va_free (wc := (mw_W h q g I A)) hD hS hA [0, 1, 2, 3, 4, 5, 6, 7, 8, 9, 10, 11, 12, 13, 14, 15, 16, 17, 18, 19, 20] rfl
      cases hg1 : f_M_single I A 3 ((X 1) + 1) (X 4) with
      | none => rw [hg1] at hf; cases hf
      | some z1 =>
        obtain ⟨r1, I1, A1⟩ := z1
        rw [hg1] at hf
        dsimp only [Option.bind_some] at hf
        refine va_calli (va_runV (As := [.int 3, .int ((X 1) + 1), .int (X 4)]) (rest := []) ⟨hx, hb, hml, hown, hts⟩ (cm_M_single l dC dI h q g _ I A 3 ((X 1) + 1) (X 4) r1 I1 A1 hg1) (cwV 3 hts (gd_v lk_91 lk_92 lk_93 lk_46 lk_90) rfl rfl rfl (by decide +kernel) ⟨Nat.le_of_ble_eq_true rfl, Nat.le_of_ble_eq_true rfl⟩) ⟨fun a U g mk q => by obtain ⟨q0, q1, qP, qK, qD⟩ := q; exact ⟨q0, q1, qP, va_K.moved (u := U) (U := U.calling g mk a) (Vm.Alike.refl U.vm) qK, qD⟩, va_recv (ci := 4) (q0 := 0) hK hP rfl rfl, fun U hU hW => ⟨rfl, by rw [hU], by rw [hU]; exact hPc, va_K.moved hW.alike hKc, hDc.weaken (fun _ _ _ _ => trivial)⟩⟩ rfl rfl hl.1 rfl (lv_room (Nat.le_of_ble_eq_true rfl)) d_M_build_175 ⟨Nat.le_of_ble_eq_true rfl, Nat.le_of_ble_eq_true rfl⟩) hS (fun q _ h => hFc q h) hFc (fun r9 u t H1 locs ht hvm hw hB hz1 hk1 hS => ?_)
        obtain ⟨hP1, hK1, hD1⟩ := hB
        rw [ht] at hP1
        rw [hw]
        obtain ⟨hP, hD⟩ := va_join (wr := []) (w1 := (mw_W h q g I1 A1)) hP hD [0, 1, 2, 3, 4, 5, 6, 7, 8, 9, 10, 11, 12, 13, 14, 15, 16, 17, 18, 19, 20] [] rfl rfl (by decide) (by decide) hk1 hFc hP1 hD1
        generalize H1 = H at hP hS ⊢
        have hP : va_P (dC, dI) vwCl (mw_W h q g I1 A1) H := hP
        have hD : va_D B9 (mw_W h q g I1 A1) := hD
        refine lv_istore (lv' := [(5, .int r1), (0, .ref h), (1, .int (X 1)), (2, .int (X 2)), (3, .int (X 3)), (4, .int (X 4))]) hx hb d_M_build_178 hl (by decide) rfl (fun ls hl => ?_)
        have hl : lv_has ls 6 [(5, .int r1), (0, .ref h), (1, .int (X 1)), (2, .int (X 2)), (3, .int (X 3)), (4, .int (X 4))] := hl
        refine lv_aload_n hx hb d_M_build_180 rfl (lv_at hl 1 rfl) ?_
        refine lv_iload hx hb d_M_build_181 (lv_at hl 0 rfl) ?_
        have hPc := hP.sub (ws' := (mw_W h q g I1 A1)) [0, 1, 2, 3, 4, 5, 6, 7, 8, 9, 10, 11, 12, 13, 14, 15, 16, 17, 18, 19, 20] rfl
        have hDc := hD.sub (ws' := (mw_W h q g I1 A1)) [0, 1, 2, 3, 4, 5, 6, 7, 8, 9, 10, 11, 12, 13, 14, 15, 16, 17, 18, 19, 20] (by decide) rfl
        have hKc := hK.sub (tys' := (mw_T g)) [0, 1, 2, 3, 4, 5, 6, 7, 8, 9, 10, 11, 12, 13, 14, 15, 16, 17, 18, 19] rfl
        have hFc := va_free (wc := (mw_W h q g I1 A1)) hD hS hA [0, 1, 2, 3, 4, 5, 6, 7, 8, 9, 10, 11, 12, 13, 14, 15, 16, 17, 18, 19, 20] rfl
        cases hg2 : f_M_newPart I1 A1 r1 with
        | none => rw [hg2] at hf; cases hf
        | some z2 =>
          obtain ⟨r2, I2, A2⟩ := z2
          rw [hg2] at hf
          dsimp only [Option.bind_some] at hf
          refine va_callv (va_runV (As := [.int r1]) (rest := []) ⟨hx, hb, hml, hown, hts⟩ (cm_M_newPart l dC dI h q g _ I1 A1 r1 r2 I2 A2 hg2) (cwV 1 hts (gd_v lk_100 lk_101 lk_102 lk_46 lk_99) rfl rfl rfl (by decide +kernel) ⟨Nat.le_of_ble_eq_true rfl, Nat.le_of_ble_eq_true rfl⟩) ⟨fun a U g mk q => by obtain ⟨q0, q1, qP, qK, qD⟩ := q; exact ⟨q0, q1, qP, va_K.moved (u := U) (U := U.calling g mk a) (Vm.Alike.refl U.vm) qK, qD⟩, va_recv (ci := 4) (q0 := 0) hK hP rfl rfl, fun U hU hW => ⟨rfl, by rw [hU], by rw [hU]; exact hPc, va_K.moved hW.alike hKc, hDc.weaken (fun _ _ _ _ => trivial)⟩⟩ rfl rfl hl.1 rfl (lv_room (Nat.le_of_ble_eq_true rfl)) d_M_build_183 ⟨Nat.le_of_ble_eq_true rfl, Nat.le_of_ble_eq_true rfl⟩) hS (fun q _ h => hFc q h) hFc (fun u t H1 locs ht hvm hw hB hz1 hk1 hS => ?_)
          obtain ⟨hP1, hK1, hD1⟩ := hB
          rw [ht] at hP1
          obtain ⟨hP, hD⟩ := va_join (wr := []) (w1 := (mw_W h q g I2 A2)) hP hD [0, 1, 2, 3, 4, 5, 6, 7, 8, 9, 10, 11, 12, 13, 14, 15, 16, 17, 18, 19, 20] [] rfl rfl (by decide) (by decide) hk1 hFc hP1 hD1
          generalize H1 = H at hP hS ⊢
          have hP : va_P (dC, dI) vwCl (mw_W h q g I2 A2) H := hP
          have hD : va_D B9 (mw_W h q g I2 A2) := hD
          refine lv_iinc (k := 5) (v := ((X 4) + 1)) (lv' := [(4, .int ((X 4) + 1)), (5, .int r1), (0, .ref h), (1, .int (X 1)), (2, .int (X 2)), (3, .int (X 3))]) hx hb d_M_build_186 hl rfl (wk_inc (by decide)) (by decide) rfl (fun ls hl => ?_)
          have hl : lv_has ls 6 [(4, .int ((X 4) + 1)), (5, .int r1), (0, .ref h), (1, .int (X 1)), (2, .int (X 2)), (3, .int (X 3))] := hl
          refine lv_goto (tgt := 273) hx hb d_M_build_189 (by decide) ?_
          exact blk273 rc hrc150 I2 A2 (upd X 4 ((X 4) + 1)) _ _ _ hf (lv_sub hl [2, 3, 4, 5, 0] rfl) hP hD hS
    ·
      have hf := wk_iff hc2 hf
      refine lv_iinc (k := 4) (v := ((X 4) + 1)) (lv' := [(4, .int ((X 4) + 1)), (0, .ref h), (1, .int (X 1)), (2, .int (X 2)), (3, .int (X 3))]) hx hb d_M_build_162 hl rfl (wk_inc (by decide)) (by decide) rfl (fun ls hl => ?_)
      have hl : lv_has ls 6 [(4, .int ((X 4) + 1)), (0, .ref h), (1, .int (X 1)), (2, .int (X 2)), (3, .int (X 3))] := hl
      refine lv_goto (tgt := 150) hx hb d_M_build_165 (by decide) ?_
      exact hrc150 I A (upd X 4 ((X 4) + 1)) _ _ _ hf (lv_sub hl [1, 2, 3, 4, 0] rfl) hP hD hS
  have blk260 : ∀ (rc : Nat → MI → MA → (Nat → Int32) → Option (Int32 × MI × MA)) (hrc150 : ∀ (I : MI) (A : MA) (X : Nat → Int32) (ls : Array Slot) (H : Heap) (locs : List Loc), rc 150 I A X = some (r, I', A') → lv_has ls 6 [(0, .ref h), (1, .int (X 1)), (2, .int (X 2)), (3, .int (X 3)), (4, .int (X 4))] → va_P (dC, dI) vwCl (mw_W h q g I A) H → va_D B9 (mw_W h q g I A) → va_S B9 s.heap H locs → W p l e (headSpec w_M_build ({ frames := 3, cells := 0, slots := 0, locals := 69 })).room s m ([.ref h, .int k1] : List Value).toArray below meth c H locs 0 0 (MQ below (va_Qi (fun (r9 : Int32) (_ : Unit) => r9 = r) (fun (_ : Unit) t => va_P (dC, dI) vwCl (mw_W h q g I' A') t.heap ∧ va_K (dC, dI) vwCl (mw_T g) t ∧ va_D B9 (mw_W h q g I' A')) B9) ([.ref h, .int k1] : List Value).toArray s 0 0 B9) (F0 m 150 ls [])), ∀ (I : MI) (A : MA) (X : Nat → Int32) (s0 : Int32) (ls : Array Slot) (H : Heap) (locs : List Loc), f_M_build_260 rc I A X s0 = some (r, I', A') → lv_has ls 6 [(0, .ref h), (1, .int (X 1)), (2, .int (X 2)), (3, .int (X 3)), (4, .int (X 4))] → va_P (dC, dI) vwCl (mw_W h q g I A) H → va_D B9 (mw_W h q g I A) → va_S B9 s.heap H locs → W p l e (headSpec w_M_build ({ frames := 3, cells := 0, slots := 0, locals := 69 })).room s m ([.ref h, .int k1] : List Value).toArray below meth c H locs 0 0 (MQ below (va_Qi (fun (r9 : Int32) (_ : Unit) => r9 = r) (fun (_ : Unit) t => va_P (dC, dI) vwCl (mw_W h q g I' A') t.heap ∧ va_K (dC, dI) vwCl (mw_T g) t ∧ va_D B9 (mw_W h q g I' A')) B9) ([.ref h, .int k1] : List Value).toArray s 0 0 B9) (F0 m 260 ls [.int s0, .ref h]) := by
    intro rc hrc150 I A X s0 ls H locs hf hl hP hD hS
    unfold f_M_build_260 at hf
    refine lv_iload_n hx hb d_M_build_260 rfl (lv_at hl 2 rfl) ?_
    refine lv_iconst (v := 0) hx hb d_M_build_261 (by decide) ?_
    have hPc := hP.sub (ws' := (mw_W h q g I A)) [0, 1, 2, 3, 4, 5, 6, 7, 8, 9, 10, 11, 12, 13, 14, 15, 16, 17, 18, 19, 20] rfl
    have hDc := hD.sub (ws' := (mw_W h q g I A)) [0, 1, 2, 3, 4, 5, 6, 7, 8, 9, 10, 11, 12, 13, 14, 15, 16, 17, 18, 19, 20] (by decide) rfl
    have hKc := hK.sub (tys' := (mw_T g)) [0, 1, 2, 3, 4, 5, 6, 7, 8, 9, 10, 11, 12, 13, 14, 15, 16, 17, 18, 19] rfl
    have hFc := va_free (wc := (mw_W h q g I A)) hD hS hA [0, 1, 2, 3, 4, 5, 6, 7, 8, 9, 10, 11, 12, 13, 14, 15, 16, 17, 18, 19, 20] rfl
    cases hg1 : f_M_single I A s0 (X 2) 0 with
    | none => rw [hg1] at hf; cases hf
    | some z1 =>
      obtain ⟨r1, I1, A1⟩ := z1
      rw [hg1] at hf
      dsimp only [Option.bind_some] at hf
      refine va_calli (va_runV (As := [.int s0, .int (X 2), .int 0]) (rest := []) ⟨hx, hb, hml, hown, hts⟩ (cm_M_single l dC dI h q g _ I A s0 (X 2) 0 r1 I1 A1 hg1) (cwV 3 hts (gd_v lk_91 lk_92 lk_93 lk_46 lk_90) rfl rfl rfl (by decide +kernel) ⟨Nat.le_of_ble_eq_true rfl, Nat.le_of_ble_eq_true rfl⟩) ⟨fun a U g mk q => by obtain ⟨q0, q1, qP, qK, qD⟩ := q; exact ⟨q0, q1, qP, va_K.moved (u := U) (U := U.calling g mk a) (Vm.Alike.refl U.vm) qK, qD⟩, va_recv (ci := 4) (q0 := 0) hK hP rfl rfl, fun U hU hW => ⟨rfl, by rw [hU], by rw [hU]; exact hPc, va_K.moved hW.alike hKc, hDc.weaken (fun _ _ _ _ => trivial)⟩⟩ rfl rfl hl.1 rfl (lv_room (Nat.le_of_ble_eq_true rfl)) d_M_build_262 ⟨Nat.le_of_ble_eq_true rfl, Nat.le_of_ble_eq_true rfl⟩) hS (fun q _ h => hFc q h) hFc (fun r9 u t H1 locs ht hvm hw hB hz1 hk1 hS => ?_)
      obtain ⟨hP1, hK1, hD1⟩ := hB
      rw [ht] at hP1
      rw [hw]
      obtain ⟨hP, hD⟩ := va_join (wr := []) (w1 := (mw_W h q g I1 A1)) hP hD [0, 1, 2, 3, 4, 5, 6, 7, 8, 9, 10, 11, 12, 13, 14, 15, 16, 17, 18, 19, 20] [] rfl rfl (by decide) (by decide) hk1 hFc hP1 hD1
      generalize H1 = H at hP hS ⊢
      have hP : va_P (dC, dI) vwCl (mw_W h q g I1 A1) H := hP
      have hD : va_D B9 (mw_W h q g I1 A1) := hD
      refine lv_istore (lv' := [(5, .int r1), (0, .ref h), (1, .int (X 1)), (2, .int (X 2)), (3, .int (X 3)), (4, .int (X 4))]) hx hb d_M_build_265 hl (by decide) rfl (fun ls hl => ?_)
      have hl : lv_has ls 6 [(5, .int r1), (0, .ref h), (1, .int (X 1)), (2, .int (X 2)), (3, .int (X 3)), (4, .int (X 4))] := hl
      refine lv_aload_n hx hb d_M_build_267 rfl (lv_at hl 1 rfl) ?_
      refine lv_iload hx hb d_M_build_268 (lv_at hl 0 rfl) ?_
      have hPc := hP.sub (ws' := (mw_W h q g I1 A1)) [0, 1, 2, 3, 4, 5, 6, 7, 8, 9, 10, 11, 12, 13, 14, 15, 16, 17, 18, 19, 20] rfl
      have hDc := hD.sub (ws' := (mw_W h q g I1 A1)) [0, 1, 2, 3, 4, 5, 6, 7, 8, 9, 10, 11, 12, 13, 14, 15, 16, 17, 18, 19, 20] (by decide) rfl
      have hKc := hK.sub (tys' := (mw_T g)) [0, 1, 2, 3, 4, 5, 6, 7, 8, 9, 10, 11, 12, 13, 14, 15, 16, 17, 18, 19] rfl
      have hFc := va_free (wc := (mw_W h q g I1 A1)) hD hS hA [0, 1, 2, 3, 4, 5, 6, 7, 8, 9, 10, 11, 12, 13, 14, 15, 16, 17, 18, 19, 20] rfl
      cases hg2 : f_M_newPart I1 A1 r1 with
      | none => rw [hg2] at hf; cases hf
      | some z2 =>
        obtain ⟨r2, I2, A2⟩ := z2
        rw [hg2] at hf
        dsimp only [Option.bind_some] at hf
        refine va_callv (va_runV (As := [.int r1]) (rest := []) ⟨hx, hb, hml, hown, hts⟩ (cm_M_newPart l dC dI h q g _ I1 A1 r1 r2 I2 A2 hg2) (cwV 1 hts (gd_v lk_100 lk_101 lk_102 lk_46 lk_99) rfl rfl rfl (by decide +kernel) ⟨Nat.le_of_ble_eq_true rfl, Nat.le_of_ble_eq_true rfl⟩) ⟨fun a U g mk q => by obtain ⟨q0, q1, qP, qK, qD⟩ := q; exact ⟨q0, q1, qP, va_K.moved (u := U) (U := U.calling g mk a) (Vm.Alike.refl U.vm) qK, qD⟩, va_recv (ci := 4) (q0 := 0) hK hP rfl rfl, fun U hU hW => ⟨rfl, by rw [hU], by rw [hU]; exact hPc, va_K.moved hW.alike hKc, hDc.weaken (fun _ _ _ _ => trivial)⟩⟩ rfl rfl hl.1 rfl (lv_room (Nat.le_of_ble_eq_true rfl)) d_M_build_270 ⟨Nat.le_of_ble_eq_true rfl, Nat.le_of_ble_eq_true rfl⟩) hS (fun q _ h => hFc q h) hFc (fun u t H1 locs ht hvm hw hB hz1 hk1 hS => ?_)
        obtain ⟨hP1, hK1, hD1⟩ := hB
        rw [ht] at hP1
        obtain ⟨hP, hD⟩ := va_join (wr := []) (w1 := (mw_W h q g I2 A2)) hP hD [0, 1, 2, 3, 4, 5, 6, 7, 8, 9, 10, 11, 12, 13, 14, 15, 16, 17, 18, 19, 20] [] rfl rfl (by decide) (by decide) hk1 hFc hP1 hD1
        generalize H1 = H at hP hS ⊢
        have hP : va_P (dC, dI) vwCl (mw_W h q g I2 A2) H := hP
        have hD : va_D B9 (mw_W h q g I2 A2) := hD
        exact blk273 rc hrc150 I2 A2 X _ _ _ hf (lv_sub hl [1, 2, 3, 4, 5] rfl) hP hD hS
  have key : ∀ n : Nat, (∀ (I : MI) (A : MA) (X : Nat → Int32) (ls : Array Slot) (H : Heap) (locs : List Loc), f_M_build_go n 150 I A X = some (r, I', A') → lv_has ls 6 [(0, .ref h), (1, .int (X 1)), (2, .int (X 2)), (3, .int (X 3)), (4, .int (X 4))] → va_P (dC, dI) vwCl (mw_W h q g I A) H → va_D B9 (mw_W h q g I A) → va_S B9 s.heap H locs → W p l e (headSpec w_M_build ({ frames := 3, cells := 0, slots := 0, locals := 69 })).room s m ([.ref h, .int k1] : List Value).toArray below meth c H locs 0 0 (MQ below (va_Qi (fun (r9 : Int32) (_ : Unit) => r9 = r) (fun (_ : Unit) t => va_P (dC, dI) vwCl (mw_W h q g I' A') t.heap ∧ va_K (dC, dI) vwCl (mw_T g) t ∧ va_D B9 (mw_W h q g I' A')) B9) ([.ref h, .int k1] : List Value).toArray s 0 0 B9) (F0 m 150 ls [])) := by
    intro n
    induction n with
    | zero => exact fun I A X ls H locs hf => (by cases hf)
    | succ n ih =>
      have ih150 := ih
      exact stp150 (f_M_build_go n) ih150
  unfold f_M_build f_M_build_e at hf
  have hrc150 := key wk_FUEL
  refine lv_aload_n hx hb d_M_build_0 rfl (lv_at hl 0 rfl) ?_
  refine va_get (D := (dC, dI)) (ci := 4) (v := .ref (q 16)) (C := R_M) (T := F_M) (N := 38) hx hb hts (fun w h => List.mem_cons_of_mem _ (in_M w h)) hown hK hP 0 rfl rfl 16 (by decide) (hts _ (List.mem_cons_of_mem _ lk_77)) (fun _ h9 => h9) rfl d_M_build_1 ?_
  refine lv_iload_n hx hb d_M_build_4 rfl (lv_at hl 1 rfl) ?_
  obtain ⟨hc1, hf⟩ := wk_if hf
  refine va_cald hx hb hK hP 7 6 rfl rfl (wk_inb_ok hc1) d_M_build_5 ?_
  refine lv_istore_n (lv' := [(2, .int ((A 16) (k1).toNatClampNeg)), (0, .ref h), (1, .int k1)]) hx hb d_M_build_6 rfl hl (by decide) rfl (fun ls hl => ?_)
  have hl : lv_has ls 6 [(2, .int ((A 16) (k1).toNatClampNeg)), (0, .ref h), (1, .int k1)] := hl
  refine lv_aload_n hx hb d_M_build_7 rfl (lv_at hl 1 rfl) ?_
  refine va_get (D := (dC, dI)) (ci := 4) (v := .int (I 28)) (C := R_M) (T := F_M) (N := 38) hx hb hts (fun w h => List.mem_cons_of_mem _ (in_M w h)) hown hK hP 0 rfl rfl 28 (by decide) (hts _ (List.mem_cons_of_mem _ lk_78)) (fun _ h9 => h9) rfl d_M_build_8 ?_
  refine lv_iconst (v := 1) hx hb d_M_build_11 (by decide) ?_
  refine lv_isub hx hb d_M_build_12 ?_
  refine lv_istore_n (lv' := [(3, .int ((I 28) - 1)), (2, .int ((A 16) (k1).toNatClampNeg)), (0, .ref h), (1, .int k1)]) hx hb d_M_build_13 rfl hl (by decide) rfl (fun ls hl => ?_)
  have hl : lv_has ls 6 [(3, .int ((I 28) - 1)), (2, .int ((A 16) (k1).toNatClampNeg)), (0, .ref h), (1, .int k1)] := hl
  refine lv_iload_n hx hb d_M_build_14 rfl (lv_at hl 3 rfl) ?_
  refine lv_iconst (v := 1) hx hb d_M_build_15 (by decide) ?_
  refine lv_iadd hx hb d_M_build_16 ?_
  refine lv_istore (lv' := [(4, .int (k1 + 1)), (3, .int ((I 28) - 1)), (2, .int ((A 16) (k1).toNatClampNeg)), (0, .ref h), (1, .int k1)]) hx hb d_M_build_17 hl (by decide) rfl (fun ls hl => ?_)
  have hl : lv_has ls 6 [(4, .int (k1 + 1)), (3, .int ((I 28) - 1)), (2, .int ((A 16) (k1).toNatClampNeg)), (0, .ref h), (1, .int k1)] := hl
  refine lv_iload_n hx hb d_M_build_19 rfl (lv_at hl 2 rfl) ?_
  refine lv_bipush (v := 40) hx hb d_M_build_20 (by decide) ?_
  refine lv_icmp_ne (tgt := 32) hx hb d_M_build_22 (by decide) (fun hc2 => ?_) (fun hc2 => ?_)
  ·
    have hf := wk_iff hc2 hf
    refine lv_iload_n hx hb d_M_build_32 rfl (lv_at hl 2 rfl) ?_
    refine lv_bipush (v := 41) hx hb d_M_build_33 (by decide) ?_
    refine lv_icmp_ne (tgt := 68) hx hb d_M_build_35 (by decide) (fun hc3 => ?_) (fun hc3 => ?_)
    ·
      have hf := wk_iff hc3 hf
      refine lv_iload_n hx hb d_M_build_68 rfl (lv_at hl 2 rfl) ?_
      refine lv_bipush (v := 124) hx hb d_M_build_69 (by decide) ?_
      refine lv_icmp_ne (tgt := 91) hx hb d_M_build_71 (by decide) (fun hc4 => ?_) (fun hc4 => ?_)
      ·
        have hf := wk_iff hc4 hf
        refine lv_iload_n hx hb d_M_build_91 rfl (lv_at hl 2 rfl) ?_
        have hPc := hP.sub (ws' := []) [] rfl
        have hDc := hD.sub (ws' := []) [] (by decide) rfl
        have hKc := hK.sub (tys' := []) [] rfl
        have hFc := va_free (wc := []) hD hS hA [] rfl
        cases hg1 : f_M_isTimes  ((A 16) (k1).toNatClampNeg) with
        | none => rw [hg1] at hf; cases hf
        | some z1 =>
          rw [hg1] at hf
          dsimp only [Option.bind_some] at hf
          refine va_calli (va_runS (As := [.int ((A 16) (k1).toNatClampNeg)]) (rest := []) ⟨hx, hb, hml, hown, hts⟩ (cm_M_isTimes l dC dI  _  ((A 16) (k1).toNatClampNeg) z1 hg1) (cwS 1 hts (gd_s lk_80 lk_81 lk_46 lk_79) rfl rfl rfl (by decide +kernel) ⟨Nat.le_of_ble_eq_true rfl, Nat.le_of_ble_eq_true rfl⟩) ⟨fun a U g mk q => by obtain ⟨q0, q1, qP, qK, qD⟩ := q; exact ⟨q0, q1, qP, va_K.moved (u := U) (U := U.calling g mk a) (Vm.Alike.refl U.vm) qK, qD⟩, fun U hU hW => ⟨rfl, by rw [hU], by rw [hU]; exact hPc, va_K.moved hW.alike hKc, hDc.weaken (fun _ _ _ _ => trivial)⟩⟩ rfl rfl hl.1 rfl (lv_room (Nat.le_of_ble_eq_true rfl)) d_M_build_92 ⟨Nat.le_of_ble_eq_true rfl, Nat.le_of_ble_eq_true rfl⟩) hS (fun q _ h => hFc q h) hFc (fun r9 u t H1 locs ht hvm hw hB hz1 hk1 hS => ?_)
          obtain ⟨hP1, hK1, hD1⟩ := hB
          rw [ht] at hP1
          rw [hw]
          obtain ⟨hP, hD⟩ := va_join (wr := (mw_W h q g I A)) (w1 := []) hP hD [] [0, 1, 2, 3, 4, 5, 6, 7, 8, 9, 10, 11, 12, 13, 14, 15, 16, 17, 18, 19, 20] rfl rfl (by decide) (by decide) hk1 hFc hP1 hD1
          generalize H1 = H at hP hS ⊢
          have hP : va_P (dC, dI) vwCl (mw_W h q g I A) H := hP
          have hD : va_D B9 (mw_W h q g I A) := hD
          refine lv_if_eq (tgt := 139) hx hb d_M_build_95 (by decide) (fun hc5 => ?_) (fun hc5 => ?_)
          ·
            have hf := wk_ift hc5 hf
            refine lv_iload_n hx hb d_M_build_139 rfl (lv_at hl 2 rfl) ?_
            refine lv_bipush (v := 91) hx hb d_M_build_140 (by decide) ?_
            refine lv_icmp_ne (tgt := 192) hx hb d_M_build_142 (by decide) (fun hc6 => ?_) (fun hc6 => ?_)
            ·
              have hf := wk_iff hc6 hf
              refine lv_iload_n hx hb d_M_build_192 rfl (lv_at hl 2 rfl) ?_
              refine lv_bipush (v := 92) hx hb d_M_build_193 (by decide) ?_
              refine lv_icmp_ne (tgt := 228) hx hb d_M_build_195 (by decide) (fun hc7 => ?_) (fun hc7 => ?_)
              ·
                have hf := wk_iff hc7 hf
                refine lv_aload_n hx hb d_M_build_228 rfl (lv_at hl 3 rfl) ?_
                refine lv_iload_n hx hb d_M_build_229 rfl (lv_at hl 2 rfl) ?_
                refine lv_bipush (v := 46) hx hb d_M_build_230 (by decide) ?_
                refine lv_icmp_ne (tgt := 239) hx hb d_M_build_232 (by decide) (fun hc8 => ?_) (fun hc8 => ?_)
                ·
                  have hf := wk_iff hc8 hf
                  refine lv_iload_n hx hb d_M_build_239 rfl (lv_at hl 2 rfl) ?_
                  refine lv_bipush (v := 94) hx hb d_M_build_240 (by decide) ?_
                  refine lv_icmp_ne (tgt := 249) hx hb d_M_build_242 (by decide) (fun hc9 => ?_) (fun hc9 => ?_)
                  ·
                    have hf := wk_iff hc9 hf
                    refine lv_iload_n hx hb d_M_build_249 rfl (lv_at hl 2 rfl) ?_
                    refine lv_bipush (v := 36) hx hb d_M_build_250 (by decide) ?_
                    refine lv_icmp_ne (tgt := 259) hx hb d_M_build_252 (by decide) (fun hc10 => ?_) (fun hc10 => ?_)
                    ·
                      have hf := wk_iff hc10 hf
                      refine lv_iconst (v := 1) hx hb d_M_build_259 (by decide) ?_
                      exact blk260 _ hrc150 I A (upd (upd (upd (upd (fun _ => 0) 1 k1) 2 ((A 16) (k1).toNatClampNeg)) 3 ((I 28) - 1)) 4 (k1 + 1)) 1 _ _ _ hf (lv_sub hl [3, 4, 2, 1, 0] rfl) hP hD hS
                    ·
                      have hf := wk_ift hc10 hf
                      refine lv_iconst (v := 5) hx hb d_M_build_255 (by decide) ?_
                      refine lv_goto (tgt := 260) hx hb d_M_build_256 (by decide) ?_
                      exact blk260 _ hrc150 I A (upd (upd (upd (upd (fun _ => 0) 1 k1) 2 ((A 16) (k1).toNatClampNeg)) 3 ((I 28) - 1)) 4 (k1 + 1)) 5 _ _ _ hf (lv_sub hl [3, 4, 2, 1, 0] rfl) hP hD hS
                  ·
                    have hf := wk_ift hc9 hf
                    refine lv_iconst (v := 4) hx hb d_M_build_245 (by decide) ?_
                    refine lv_goto (tgt := 260) hx hb d_M_build_246 (by decide) ?_
                    exact blk260 _ hrc150 I A (upd (upd (upd (upd (fun _ => 0) 1 k1) 2 ((A 16) (k1).toNatClampNeg)) 3 ((I 28) - 1)) 4 (k1 + 1)) 4 _ _ _ hf (lv_sub hl [3, 4, 2, 1, 0] rfl) hP hD hS
                ·
                  have hf := wk_ift hc8 hf
                  refine lv_iconst (v := 2) hx hb d_M_build_235 (by decide) ?_
                  refine lv_goto (tgt := 260) hx hb d_M_build_236 (by decide) ?_
                  exact blk260 _ hrc150 I A (upd (upd (upd (upd (fun _ => 0) 1 k1) 2 ((A 16) (k1).toNatClampNeg)) 3 ((I 28) - 1)) 4 (k1 + 1)) 2 _ _ _ hf (lv_sub hl [3, 4, 2, 1, 0] rfl) hP hD hS
              ·
                have hf := wk_ift hc7 hf
                refine lv_aload_n hx hb d_M_build_198 rfl (lv_at hl 3 rfl) ?_
                refine lv_iconst (v := 1) hx hb d_M_build_199 (by decide) ?_
                refine lv_aload_n hx hb d_M_build_200 rfl (lv_at hl 3 rfl) ?_
                refine va_get (D := (dC, dI)) (ci := 4) (v := .ref (q 16)) (C := R_M) (T := F_M) (N := 38) hx hb hts (fun w h => List.mem_cons_of_mem _ (in_M w h)) hown hK hP 0 rfl rfl 16 (by decide) (hts _ (List.mem_cons_of_mem _ lk_77)) (fun _ h9 => h9) rfl d_M_build_201 ?_
                refine lv_iload_n hx hb d_M_build_204 rfl (lv_at hl 4 rfl) ?_
                refine lv_iconst (v := 1) hx hb d_M_build_205 (by decide) ?_
                refine lv_iadd hx hb d_M_build_206 ?_
                obtain ⟨hc8, hf⟩ := wk_if hf
                refine va_cald hx hb hK hP 7 6 rfl rfl (wk_inb_ok hc8) d_M_build_207 ?_
                refine lv_iconst (v := 0) hx hb d_M_build_208 (by decide) ?_
                have hPc := hP.sub (ws' := (mw_W h q g I A)) [0, 1, 2, 3, 4, 5, 6, 7, 8, 9, 10, 11, 12, 13, 14, 15, 16, 17, 18, 19, 20] rfl
                have hDc := hD.sub (ws' := (mw_W h q g I A)) [0, 1, 2, 3, 4, 5, 6, 7, 8, 9, 10, 11, 12, 13, 14, 15, 16, 17, 18, 19, 20] (by decide) rfl
                have hKc := hK.sub (tys' := (mw_T g)) [0, 1, 2, 3, 4, 5, 6, 7, 8, 9, 10, 11, 12, 13, 14, 15, 16, 17, 18, 19] rfl
                have hFc := va_free (wc := (mw_W h q g I A)) hD hS hA [0, 1, 2, 3, 4, 5, 6, 7, 8, 9, 10, 11, 12, 13, 14, 15, 16, 17, 18, 19, 20] rfl
                cases hg2 : f_M_single I A 1 ((A 16) ((k1 + 1)).toNatClampNeg) 0 with
                | none => rw [hg2] at hf; cases hf
                | some z2 =>
                  obtain ⟨r2, I2, A2⟩ := z2
                  rw [hg2] at hf
                  dsimp only [Option.bind_some] at hf
                  refine va_calli (va_runV (As := [.int 1, .int ((A 16) ((k1 + 1)).toNatClampNeg), .int 0]) (rest := []) ⟨hx, hb, hml, hown, hts⟩ (cm_M_single l dC dI h q g _ I A 1 ((A 16) ((k1 + 1)).toNatClampNeg) 0 r2 I2 A2 hg2) (cwV 3 hts (gd_v lk_91 lk_92 lk_93 lk_46 lk_90) rfl rfl rfl (by decide +kernel) ⟨Nat.le_of_ble_eq_true rfl, Nat.le_of_ble_eq_true rfl⟩) ⟨fun a U g mk q => by obtain ⟨q0, q1, qP, qK, qD⟩ := q; exact ⟨q0, q1, qP, va_K.moved (u := U) (U := U.calling g mk a) (Vm.Alike.refl U.vm) qK, qD⟩, va_recv (ci := 4) (q0 := 0) hK hP rfl rfl, fun U hU hW => ⟨rfl, by rw [hU], by rw [hU]; exact hPc, va_K.moved hW.alike hKc, hDc.weaken (fun _ _ _ _ => trivial)⟩⟩ rfl rfl hl.1 rfl (lv_room (Nat.le_of_ble_eq_true rfl)) d_M_build_209 ⟨Nat.le_of_ble_eq_true rfl, Nat.le_of_ble_eq_true rfl⟩) hS (fun q _ h => hFc q h) hFc (fun r9 u t H1 locs ht hvm hw hB hz1 hk1 hS => ?_)
                  obtain ⟨hP1, hK1, hD1⟩ := hB
                  rw [ht] at hP1
                  rw [hw]
                  obtain ⟨hP, hD⟩ := va_join (wr := []) (w1 := (mw_W h q g I2 A2)) hP hD [0, 1, 2, 3, 4, 5, 6, 7, 8, 9, 10, 11, 12, 13, 14, 15, 16, 17, 18, 19, 20] [] rfl rfl (by decide) (by decide) hk1 hFc hP1 hD1
                  generalize H1 = H at hP hS ⊢
                  have hP : va_P (dC, dI) vwCl (mw_W h q g I2 A2) H := hP
                  have hD : va_D B9 (mw_W h q g I2 A2) := hD
                  refine lv_istore (lv' := [(5, .int r2), (4, .int (k1 + 1)), (3, .int ((I 28) - 1)), (2, .int ((A 16) (k1).toNatClampNeg)), (0, .ref h), (1, .int k1)]) hx hb d_M_build_212 hl (by decide) rfl (fun ls hl => ?_)
                  have hl : lv_has ls 6 [(5, .int r2), (4, .int (k1 + 1)), (3, .int ((I 28) - 1)), (2, .int ((A 16) (k1).toNatClampNeg)), (0, .ref h), (1, .int k1)] := hl
                  refine lv_aload_n hx hb d_M_build_214 rfl (lv_at hl 4 rfl) ?_
                  refine lv_iload hx hb d_M_build_215 (lv_at hl 0 rfl) ?_
                  have hPc := hP.sub (ws' := (mw_W h q g I2 A2)) [0, 1, 2, 3, 4, 5, 6, 7, 8, 9, 10, 11, 12, 13, 14, 15, 16, 17, 18, 19, 20] rfl
                  have hDc := hD.sub (ws' := (mw_W h q g I2 A2)) [0, 1, 2, 3, 4, 5, 6, 7, 8, 9, 10, 11, 12, 13, 14, 15, 16, 17, 18, 19, 20] (by decide) rfl
                  have hKc := hK.sub (tys' := (mw_T g)) [0, 1, 2, 3, 4, 5, 6, 7, 8, 9, 10, 11, 12, 13, 14, 15, 16, 17, 18, 19] rfl
                  have hFc := va_free (wc := (mw_W h q g I2 A2)) hD hS hA [0, 1, 2, 3, 4, 5, 6, 7, 8, 9, 10, 11, 12, 13, 14, 15, 16, 17, 18, 19, 20] rfl
                  cases hg3 : f_M_newPart I2 A2 r2 with
                  | none => rw [hg3] at hf; cases hf
                  | some z3 =>
                    obtain ⟨r3, I3, A3⟩ := z3
                    rw [hg3] at hf
                    dsimp only [Option.bind_some] at hf
                    refine va_callv (va_runV (As := [.int r2]) (rest := []) ⟨hx, hb, hml, hown, hts⟩ (cm_M_newPart l dC dI h q g _ I2 A2 r2 r3 I3 A3 hg3) (cwV 1 hts (gd_v lk_100 lk_101 lk_102 lk_46 lk_99) rfl rfl rfl (by decide +kernel) ⟨Nat.le_of_ble_eq_true rfl, Nat.le_of_ble_eq_true rfl⟩) ⟨fun a U g mk q => by obtain ⟨q0, q1, qP, qK, qD⟩ := q; exact ⟨q0, q1, qP, va_K.moved (u := U) (U := U.calling g mk a) (Vm.Alike.refl U.vm) qK, qD⟩, va_recv (ci := 4) (q0 := 0) hK hP rfl rfl, fun U hU hW => ⟨rfl, by rw [hU], by rw [hU]; exact hPc, va_K.moved hW.alike hKc, hDc.weaken (fun _ _ _ _ => trivial)⟩⟩ rfl rfl hl.1 rfl (lv_room (Nat.le_of_ble_eq_true rfl)) d_M_build_217 ⟨Nat.le_of_ble_eq_true rfl, Nat.le_of_ble_eq_true rfl⟩) hS (fun q _ h => hFc q h) hFc (fun u t H1 locs ht hvm hw hB hz1 hk1 hS => ?_)
                    obtain ⟨hP1, hK1, hD1⟩ := hB
                    rw [ht] at hP1
                    obtain ⟨hP, hD⟩ := va_join (wr := []) (w1 := (mw_W h q g I3 A3)) hP hD [0, 1, 2, 3, 4, 5, 6, 7, 8, 9, 10, 11, 12, 13, 14, 15, 16, 17, 18, 19, 20] [] rfl rfl (by decide) (by decide) hk1 hFc hP1 hD1
                    generalize H1 = H at hP hS ⊢
                    have hP : va_P (dC, dI) vwCl (mw_W h q g I3 A3) H := hP
                    have hD : va_D B9 (mw_W h q g I3 A3) := hD
                    refine lv_iload_n hx hb d_M_build_220 rfl (lv_at hl 5 rfl) ?_
                    refine lv_iconst (v := 2) hx hb d_M_build_221 (by decide) ?_
                    refine lv_iadd hx hb d_M_build_222 ?_
                    refine lv_istore (lv' := [(4, .int (k1 + 2)), (5, .int r2), (3, .int ((I 28) - 1)), (2, .int ((A 16) (k1).toNatClampNeg)), (0, .ref h), (1, .int k1)]) hx hb d_M_build_223 hl (by decide) rfl (fun ls hl => ?_)
                    have hl : lv_has ls 6 [(4, .int (k1 + 2)), (5, .int r2), (3, .int ((I 28) - 1)), (2, .int ((A 16) (k1).toNatClampNeg)), (0, .ref h), (1, .int k1)] := hl
                    refine lv_goto (tgt := 273) hx hb d_M_build_225 (by decide) ?_
                    exact blk273 _ hrc150 I3 A3 (upd (upd (upd (upd (fun _ => 0) 1 k1) 2 ((A 16) (k1).toNatClampNeg)) 3 ((I 28) - 1)) 4 (k1 + 2)) _ _ _ hf (lv_sub hl [4, 5, 3, 2, 0] rfl) hP hD hS
            ·
              have hf := wk_ift hc6 hf
              refine lv_iload_n hx hb d_M_build_145 rfl (lv_at hl 4 rfl) ?_
              refine lv_iconst (v := 2) hx hb d_M_build_146 (by decide) ?_
              refine lv_iadd hx hb d_M_build_147 ?_
              refine lv_istore (lv' := [(4, .int (k1 + 2)), (3, .int ((I 28) - 1)), (2, .int ((A 16) (k1).toNatClampNeg)), (0, .ref h), (1, .int k1)]) hx hb d_M_build_148 hl (by decide) rfl (fun ls hl => ?_)
              have hl : lv_has ls 6 [(4, .int (k1 + 2)), (3, .int ((I 28) - 1)), (2, .int ((A 16) (k1).toNatClampNeg)), (0, .ref h), (1, .int k1)] := hl
              exact hrc150 I A (upd (upd (upd (upd (fun _ => 0) 1 k1) 2 ((A 16) (k1).toNatClampNeg)) 3 ((I 28) - 1)) 4 (k1 + 2)) _ _ _ hf (lv_sub hl [3, 4, 2, 1, 0] rfl) hP hD hS
          ·
            have hf := wk_iff hc5 hf
            refine lv_aload_n hx hb d_M_build_98 rfl (lv_at hl 3 rfl) ?_
            refine va_get (D := (dC, dI)) (ci := 4) (v := .ref (q 31)) (C := R_M) (T := F_M) (N := 38) hx hb hts (fun w h => List.mem_cons_of_mem _ (in_M w h)) hown hK hP 0 rfl rfl 31 (by decide) (hts _ (List.mem_cons_of_mem _ lk_95)) (fun _ h9 => h9) rfl d_M_build_99 ?_
            refine lv_iload_n hx hb d_M_build_102 rfl (lv_at hl 1 rfl) ?_
            refine lv_aload_n hx hb d_M_build_103 rfl (lv_at hl 3 rfl) ?_
            refine lv_aload_n hx hb d_M_build_104 rfl (lv_at hl 3 rfl) ?_
            refine va_get (D := (dC, dI)) (ci := 4) (v := .ref (q 31)) (C := R_M) (T := F_M) (N := 38) hx hb hts (fun w h => List.mem_cons_of_mem _ (in_M w h)) hown hK hP 0 rfl rfl 31 (by decide) (hts _ (List.mem_cons_of_mem _ lk_95)) (fun _ h9 => h9) rfl d_M_build_105 ?_
            refine lv_iload_n hx hb d_M_build_108 rfl (lv_at hl 1 rfl) ?_
            obtain ⟨hc6, hf⟩ := wk_if hf
            refine va_iald hx hb hK hP 17 16 rfl rfl (wk_inb_ok hc6) d_M_build_109 ?_
            refine lv_iload_n hx hb d_M_build_110 rfl (lv_at hl 2 rfl) ?_
            refine lv_bipush (v := 43) hx hb d_M_build_111 (by decide) ?_
            refine lv_icmp_eq (tgt := 120) hx hb d_M_build_113 (by decide) (fun hc7 => ?_) (fun hc7 => ?_)
            ·
              have hf := wk_ift hc7 hf
              refine lv_iconst (v := 0) hx hb d_M_build_120 (by decide) ?_
              exact blk121 _ hrc150 I A (upd (upd (upd (upd (fun _ => 0) 1 k1) 2 ((A 16) (k1).toNatClampNeg)) 3 ((I 28) - 1)) 4 (k1 + 1)) 0 ((A 31) (((I 28) - 1)).toNatClampNeg) ((I 28) - 1) _ _ _ hf (lv_sub hl [3, 4, 2, 1, 0] rfl) hP hD hS
            ·
              have hf := wk_iff hc7 hf
              refine lv_iconst (v := 1) hx hb d_M_build_116 (by decide) ?_
              refine lv_goto (tgt := 121) hx hb d_M_build_117 (by decide) ?_
              exact blk121 _ hrc150 I A (upd (upd (upd (upd (fun _ => 0) 1 k1) 2 ((A 16) (k1).toNatClampNeg)) 3 ((I 28) - 1)) 4 (k1 + 1)) 1 ((A 31) (((I 28) - 1)).toNatClampNeg) ((I 28) - 1) _ _ _ hf (lv_sub hl [3, 4, 2, 1, 0] rfl) hP hD hS
      ·
        have hf := wk_ift hc4 hf
        refine lv_aload_n hx hb d_M_build_74 rfl (lv_at hl 3 rfl) ?_
        have hPc := hP.sub (ws' := (mw_W h q g I A)) [0, 1, 2, 3, 4, 5, 6, 7, 8, 9, 10, 11, 12, 13, 14, 15, 16, 17, 18, 19, 20] rfl
        have hDc := hD.sub (ws' := (mw_W h q g I A)) [0, 1, 2, 3, 4, 5, 6, 7, 8, 9, 10, 11, 12, 13, 14, 15, 16, 17, 18, 19, 20] (by decide) rfl
        have hKc := hK.sub (tys' := (mw_T g)) [0, 1, 2, 3, 4, 5, 6, 7, 8, 9, 10, 11, 12, 13, 14, 15, 16, 17, 18, 19] rfl
        have hFc := va_free (wc := (mw_W h q g I A)) hD hS hA [0, 1, 2, 3, 4, 5, 6, 7, 8, 9, 10, 11, 12, 13, 14, 15, 16, 17, 18, 19, 20] rfl
        cases hg1 : f_M_endRow I A with
        | none => rw [hg1] at hf; cases hf
        | some z1 =>
          obtain ⟨r1, I1, A1⟩ := z1
          rw [hg1] at hf
          dsimp only [Option.bind_some] at hf
          refine va_callv (va_runV (As := []) (rest := []) ⟨hx, hb, hml, hown, hts⟩ (cm_M_endRow l dC dI h q g _ I A r1 I1 A1 hg1) (cwV 0 hts (gd_v lk_109 lk_110 lk_111 lk_46 lk_108) rfl rfl rfl (by decide +kernel) ⟨Nat.le_of_ble_eq_true rfl, Nat.le_of_ble_eq_true rfl⟩) ⟨fun a U g mk q => by obtain ⟨q0, q1, qP, qK, qD⟩ := q; exact ⟨q0, q1, qP, va_K.moved (u := U) (U := U.calling g mk a) (Vm.Alike.refl U.vm) qK, qD⟩, va_recv (ci := 4) (q0 := 0) hK hP rfl rfl, fun U hU hW => ⟨rfl, by rw [hU], by rw [hU]; exact hPc, va_K.moved hW.alike hKc, hDc.weaken (fun _ _ _ _ => trivial)⟩⟩ rfl rfl hl.1 rfl (lv_room (Nat.le_of_ble_eq_true rfl)) d_M_build_75 ⟨Nat.le_of_ble_eq_true rfl, Nat.le_of_ble_eq_true rfl⟩) hS (fun q _ h => hFc q h) hFc (fun u t H1 locs ht hvm hw hB hz1 hk1 hS => ?_)
          obtain ⟨hP1, hK1, hD1⟩ := hB
          rw [ht] at hP1
          obtain ⟨hP, hD⟩ := va_join (wr := []) (w1 := (mw_W h q g I1 A1)) hP hD [0, 1, 2, 3, 4, 5, 6, 7, 8, 9, 10, 11, 12, 13, 14, 15, 16, 17, 18, 19, 20] [] rfl rfl (by decide) (by decide) hk1 hFc hP1 hD1
          generalize H1 = H at hP hS ⊢
          have hP : va_P (dC, dI) vwCl (mw_W h q g I1 A1) H := hP
          have hD : va_D B9 (mw_W h q g I1 A1) := hD
          refine lv_aload_n hx hb d_M_build_78 rfl (lv_at hl 3 rfl) ?_
          refine va_get (D := (dC, dI)) (ci := 4) (v := .ref (q 30)) (C := R_M) (T := F_M) (N := 38) hx hb hts (fun w h => List.mem_cons_of_mem _ (in_M w h)) hown hK hP 0 rfl rfl 30 (by decide) (hts _ (List.mem_cons_of_mem _ lk_94)) (fun _ h9 => h9) rfl d_M_build_79 ?_
          refine lv_iload_n hx hb d_M_build_82 rfl (lv_at hl 1 rfl) ?_
          refine lv_aload_n hx hb d_M_build_83 rfl (lv_at hl 3 rfl) ?_
          have hPc := hP.sub (ws' := (mw_W h q g I1 A1)) [0, 1, 2, 3, 4, 5, 6, 7, 8, 9, 10, 11, 12, 13, 14, 15, 16, 17, 18, 19, 20] rfl
          have hDc := hD.sub (ws' := (mw_W h q g I1 A1)) [0, 1, 2, 3, 4, 5, 6, 7, 8, 9, 10, 11, 12, 13, 14, 15, 16, 17, 18, 19, 20] (by decide) rfl
          have hKc := hK.sub (tys' := (mw_T g)) [0, 1, 2, 3, 4, 5, 6, 7, 8, 9, 10, 11, 12, 13, 14, 15, 16, 17, 18, 19] rfl
          have hFc := va_free (wc := (mw_W h q g I1 A1)) hD hS hA [0, 1, 2, 3, 4, 5, 6, 7, 8, 9, 10, 11, 12, 13, 14, 15, 16, 17, 18, 19, 20] rfl
          cases hg2 : f_M_nothing I1 A1 with
          | none => rw [hg2] at hf; cases hf
          | some z2 =>
            obtain ⟨r2, I2, A2⟩ := z2
            rw [hg2] at hf
            dsimp only [Option.bind_some] at hf
            refine va_calli (va_runV (As := []) (rest := [.int ((I 28) - 1), .ref (q 30)]) ⟨hx, hb, hml, hown, hts⟩ (cm_M_nothing l dC dI h q g _ I1 A1 r2 I2 A2 hg2) (cwV 0 hts (gd_v lk_113 lk_114 lk_115 lk_46 lk_112) rfl rfl rfl (by decide +kernel) ⟨Nat.le_of_ble_eq_true rfl, Nat.le_of_ble_eq_true rfl⟩) ⟨fun a U g mk q => by obtain ⟨q0, q1, qP, qK, qD⟩ := q; exact ⟨q0, q1, qP, va_K.moved (u := U) (U := U.calling g mk a) (Vm.Alike.refl U.vm) qK, qD⟩, va_recv (ci := 4) (q0 := 0) hK hP rfl rfl, fun U hU hW => ⟨rfl, by rw [hU], by rw [hU]; exact hPc, va_K.moved hW.alike hKc, hDc.weaken (fun _ _ _ _ => trivial)⟩⟩ rfl rfl hl.1 rfl (lv_room (Nat.le_of_ble_eq_true rfl)) d_M_build_84 ⟨Nat.le_of_ble_eq_true rfl, Nat.le_of_ble_eq_true rfl⟩) hS (fun q _ h => hFc q h) hFc (fun r9 u t H1 locs ht hvm hw hB hz1 hk1 hS => ?_)
            obtain ⟨hP1, hK1, hD1⟩ := hB
            rw [ht] at hP1
            rw [hw]
            obtain ⟨hP, hD⟩ := va_join (wr := []) (w1 := (mw_W h q g I2 A2)) hP hD [0, 1, 2, 3, 4, 5, 6, 7, 8, 9, 10, 11, 12, 13, 14, 15, 16, 17, 18, 19, 20] [] rfl rfl (by decide) (by decide) hk1 hFc hP1 hD1
            generalize H1 = H at hP hS ⊢
            have hP : va_P (dC, dI) vwCl (mw_W h q g I2 A2) H := hP
            have hD : va_D B9 (mw_W h q g I2 A2) := hD
            obtain ⟨hc5, hf⟩ := wk_if hf
            refine va_iast hx hb hK hP hD hS 16 15 rfl rfl (wk_inb_ok hc5) d_M_build_87 (fun H locs hP hD hS => ?_)
            obtain ⟨A3, hA3, hf⟩ := wk_letE hf
            have hP : va_P (dC, dI) vwCl (mw_W h q g I2 A3) H := by rw [hA3]; exact hP
            have hD : va_D B9 (mw_W h q g I2 A3) := by rw [hA3]; exact hD
            clear hA3
            refine lv_goto (tgt := 273) hx hb d_M_build_88 (by decide) ?_
            exact blk273 _ hrc150 I2 A3 (upd (upd (upd (upd (fun _ => 0) 1 k1) 2 ((A 16) (k1).toNatClampNeg)) 3 ((I 28) - 1)) 4 (k1 + 1)) _ _ _ hf (lv_sub hl [3, 4, 2, 1, 0] rfl) hP hD hS
    ·
      have hf := wk_ift hc3 hf
      refine lv_aload_n hx hb d_M_build_38 rfl (lv_at hl 3 rfl) ?_
      have hPc := hP.sub (ws' := (mw_W h q g I A)) [0, 1, 2, 3, 4, 5, 6, 7, 8, 9, 10, 11, 12, 13, 14, 15, 16, 17, 18, 19, 20] rfl
      have hDc := hD.sub (ws' := (mw_W h q g I A)) [0, 1, 2, 3, 4, 5, 6, 7, 8, 9, 10, 11, 12, 13, 14, 15, 16, 17, 18, 19, 20] (by decide) rfl
      have hKc := hK.sub (tys' := (mw_T g)) [0, 1, 2, 3, 4, 5, 6, 7, 8, 9, 10, 11, 12, 13, 14, 15, 16, 17, 18, 19] rfl
      have hFc := va_free (wc := (mw_W h q g I A)) hD hS hA [0, 1, 2, 3, 4, 5, 6, 7, 8, 9, 10, 11, 12, 13, 14, 15, 16, 17, 18, 19, 20] rfl
      cases hg1 : f_M_endRow I A with
      | none => rw [hg1] at hf; cases hf
      | some z1 =>
        obtain ⟨r1, I1, A1⟩ := z1
        rw [hg1] at hf
        dsimp only [Option.bind_some] at hf
        refine va_callv (va_runV (As := []) (rest := []) ⟨hx, hb, hml, hown, hts⟩ (cm_M_endRow l dC dI h q g _ I A r1 I1 A1 hg1) (cwV 0 hts (gd_v lk_109 lk_110 lk_111 lk_46 lk_108) rfl rfl rfl (by decide +kernel) ⟨Nat.le_of_ble_eq_true rfl, Nat.le_of_ble_eq_true rfl⟩) ⟨fun a U g mk q => by obtain ⟨q0, q1, qP, qK, qD⟩ := q; exact ⟨q0, q1, qP, va_K.moved (u := U) (U := U.calling g mk a) (Vm.Alike.refl U.vm) qK, qD⟩, va_recv (ci := 4) (q0 := 0) hK hP rfl rfl, fun U hU hW => ⟨rfl, by rw [hU], by rw [hU]; exact hPc, va_K.moved hW.alike hKc, hDc.weaken (fun _ _ _ _ => trivial)⟩⟩ rfl rfl hl.1 rfl (lv_room (Nat.le_of_ble_eq_true rfl)) d_M_build_39 ⟨Nat.le_of_ble_eq_true rfl, Nat.le_of_ble_eq_true rfl⟩) hS (fun q _ h => hFc q h) hFc (fun u t H1 locs ht hvm hw hB hz1 hk1 hS => ?_)
        obtain ⟨hP1, hK1, hD1⟩ := hB
        rw [ht] at hP1
        obtain ⟨hP, hD⟩ := va_join (wr := []) (w1 := (mw_W h q g I1 A1)) hP hD [0, 1, 2, 3, 4, 5, 6, 7, 8, 9, 10, 11, 12, 13, 14, 15, 16, 17, 18, 19, 20] [] rfl rfl (by decide) (by decide) hk1 hFc hP1 hD1
        generalize H1 = H at hP hS ⊢
        have hP : va_P (dC, dI) vwCl (mw_W h q g I1 A1) H := hP
        have hD : va_D B9 (mw_W h q g I1 A1) := hD
        refine lv_aload_n hx hb d_M_build_42 rfl (lv_at hl 3 rfl) ?_
        refine lv_dup hx hb d_M_build_43 rfl ?_
        refine va_get (D := (dC, dI)) (ci := 4) (v := .int (I1 28)) (C := R_M) (T := F_M) (N := 38) hx hb hts (fun w h => List.mem_cons_of_mem _ (in_M w h)) hown hK hP 0 rfl rfl 28 (by decide) (hts _ (List.mem_cons_of_mem _ lk_78)) (fun _ h9 => h9) rfl d_M_build_44 ?_
        refine lv_iconst (v := 1) hx hb d_M_build_47 (by decide) ?_
        refine lv_isub hx hb d_M_build_48 ?_
        refine va_put (D := (dC, dI)) (ci := 4) (v := .int ((I1 28) - 1)) (ty := .int) (C := R_M) (T := F_M) (N := 38) hx hb hts (fun w h => List.mem_cons_of_mem _ (in_M w h)) t_M tk_M n_M hown hK hP hD hS 0 rfl rfl 28 (by decide) (hts _ (List.mem_cons_of_mem _ lk_78)) (fun _ h9 => h9) rfl (by decide +kernel) rfl rfl (Nat.le_of_ble_eq_true rfl) d_M_build_49 (fun H locs hP hD hS => ?_)
        obtain ⟨I2, hI2, hf⟩ := wk_letE hf
        have hP : va_P (dC, dI) vwCl (mw_W h q g I2 A1) H := by rw [hI2]; exact hP
        have hD : va_D B9 (mw_W h q g I2 A1) := by rw [hI2]; exact hD
        clear hI2
        refine lv_aload_n hx hb d_M_build_52 rfl (lv_at hl 3 rfl) ?_
        refine lv_aload_n hx hb d_M_build_53 rfl (lv_at hl 3 rfl) ?_
        refine va_get (D := (dC, dI)) (ci := 4) (v := .ref (q 29)) (C := R_M) (T := F_M) (N := 38) hx hb hts (fun w h => List.mem_cons_of_mem _ (in_M w h)) hown hK hP 0 rfl rfl 29 (by decide) (hts _ (List.mem_cons_of_mem _ lk_103)) (fun _ h9 => h9) rfl d_M_build_54 ?_
        refine lv_aload_n hx hb d_M_build_57 rfl (lv_at hl 3 rfl) ?_
        refine va_get (D := (dC, dI)) (ci := 4) (v := .int (I2 28)) (C := R_M) (T := F_M) (N := 38) hx hb hts (fun w h => List.mem_cons_of_mem _ (in_M w h)) hown hK hP 0 rfl rfl 28 (by decide) (hts _ (List.mem_cons_of_mem _ lk_78)) (fun _ h9 => h9) rfl d_M_build_58 ?_
        obtain ⟨hc4, hf⟩ := wk_if hf
        refine va_iald hx hb hK hP 15 14 rfl rfl (wk_inb_ok hc4) d_M_build_61 ?_
        have hPc := hP.sub (ws' := (mw_W h q g I2 A1)) [0, 1, 2, 3, 4, 5, 6, 7, 8, 9, 10, 11, 12, 13, 14, 15, 16, 17, 18, 19, 20] rfl
        have hDc := hD.sub (ws' := (mw_W h q g I2 A1)) [0, 1, 2, 3, 4, 5, 6, 7, 8, 9, 10, 11, 12, 13, 14, 15, 16, 17, 18, 19, 20] (by decide) rfl
        have hKc := hK.sub (tys' := (mw_T g)) [0, 1, 2, 3, 4, 5, 6, 7, 8, 9, 10, 11, 12, 13, 14, 15, 16, 17, 18, 19] rfl
        have hFc := va_free (wc := (mw_W h q g I2 A1)) hD hS hA [0, 1, 2, 3, 4, 5, 6, 7, 8, 9, 10, 11, 12, 13, 14, 15, 16, 17, 18, 19, 20] rfl
        cases hg3 : f_M_newPart I2 A1 ((A1 29) ((I2 28)).toNatClampNeg) with
        | none => rw [hg3] at hf; cases hf
        | some z3 =>
          obtain ⟨r3, I3, A3⟩ := z3
          rw [hg3] at hf
          dsimp only [Option.bind_some] at hf
          refine va_callv (va_runV (As := [.int ((A1 29) ((I2 28)).toNatClampNeg)]) (rest := []) ⟨hx, hb, hml, hown, hts⟩ (cm_M_newPart l dC dI h q g _ I2 A1 ((A1 29) ((I2 28)).toNatClampNeg) r3 I3 A3 hg3) (cwV 1 hts (gd_v lk_100 lk_101 lk_102 lk_46 lk_99) rfl rfl rfl (by decide +kernel) ⟨Nat.le_of_ble_eq_true rfl, Nat.le_of_ble_eq_true rfl⟩) ⟨fun a U g mk q => by obtain ⟨q0, q1, qP, qK, qD⟩ := q; exact ⟨q0, q1, qP, va_K.moved (u := U) (U := U.calling g mk a) (Vm.Alike.refl U.vm) qK, qD⟩, va_recv (ci := 4) (q0 := 0) hK hP rfl rfl, fun U hU hW => ⟨rfl, by rw [hU], by rw [hU]; exact hPc, va_K.moved hW.alike hKc, hDc.weaken (fun _ _ _ _ => trivial)⟩⟩ rfl rfl hl.1 rfl (lv_room (Nat.le_of_ble_eq_true rfl)) d_M_build_62 ⟨Nat.le_of_ble_eq_true rfl, Nat.le_of_ble_eq_true rfl⟩) hS (fun q _ h => hFc q h) hFc (fun u t H1 locs ht hvm hw hB hz1 hk1 hS => ?_)
          obtain ⟨hP1, hK1, hD1⟩ := hB
          rw [ht] at hP1
          obtain ⟨hP, hD⟩ := va_join (wr := []) (w1 := (mw_W h q g I3 A3)) hP hD [0, 1, 2, 3, 4, 5, 6, 7, 8, 9, 10, 11, 12, 13, 14, 15, 16, 17, 18, 19, 20] [] rfl rfl (by decide) (by decide) hk1 hFc hP1 hD1
          generalize H1 = H at hP hS ⊢
          have hP : va_P (dC, dI) vwCl (mw_W h q g I3 A3) H := hP
          have hD : va_D B9 (mw_W h q g I3 A3) := hD
          refine lv_goto (tgt := 273) hx hb d_M_build_65 (by decide) ?_
          exact blk273 _ hrc150 I3 A3 (upd (upd (upd (upd (fun _ => 0) 1 k1) 2 ((A 16) (k1).toNatClampNeg)) 3 ((I 28) - 1)) 4 (k1 + 1)) _ _ _ hf (lv_sub hl [3, 4, 2, 1, 0] rfl) hP hD hS
  ·
    have hf := wk_ift hc2 hf
    refine lv_aload_n hx hb d_M_build_25 rfl (lv_at hl 3 rfl) ?_
    have hPc := hP.sub (ws' := (mw_W h q g I A)) [0, 1, 2, 3, 4, 5, 6, 7, 8, 9, 10, 11, 12, 13, 14, 15, 16, 17, 18, 19, 20] rfl
    have hDc := hD.sub (ws' := (mw_W h q g I A)) [0, 1, 2, 3, 4, 5, 6, 7, 8, 9, 10, 11, 12, 13, 14, 15, 16, 17, 18, 19, 20] (by decide) rfl
    have hKc := hK.sub (tys' := (mw_T g)) [0, 1, 2, 3, 4, 5, 6, 7, 8, 9, 10, 11, 12, 13, 14, 15, 16, 17, 18, 19] rfl
    have hFc := va_free (wc := (mw_W h q g I A)) hD hS hA [0, 1, 2, 3, 4, 5, 6, 7, 8, 9, 10, 11, 12, 13, 14, 15, 16, 17, 18, 19, 20] rfl
    cases hg1 : f_M_openGroup I A with
    | none => rw [hg1] at hf; cases hf
    | some z1 =>
      obtain ⟨r1, I1, A1⟩ := z1
      rw [hg1] at hf
      dsimp only [Option.bind_some] at hf
      refine va_callv (va_runV (As := []) (rest := []) ⟨hx, hb, hml, hown, hts⟩ (cm_M_openGroup l dC dI h q g _ I A r1 I1 A1 hg1) (cwV 0 hts (gd_v lk_117 lk_118 lk_119 lk_46 lk_116) rfl rfl rfl (by decide +kernel) ⟨Nat.le_of_ble_eq_true rfl, Nat.le_of_ble_eq_true rfl⟩) ⟨fun a U g mk q => by obtain ⟨q0, q1, qP, qK, qD⟩ := q; exact ⟨q0, q1, qP, va_K.moved (u := U) (U := U.calling g mk a) (Vm.Alike.refl U.vm) qK, qD⟩, va_recv (ci := 4) (q0 := 0) hK hP rfl rfl, fun U hU hW => ⟨rfl, by rw [hU], by rw [hU]; exact hPc, va_K.moved hW.alike hKc, hDc.weaken (fun _ _ _ _ => trivial)⟩⟩ rfl rfl hl.1 rfl (lv_room (Nat.le_of_ble_eq_true rfl)) d_M_build_26 ⟨Nat.le_of_ble_eq_true rfl, Nat.le_of_ble_eq_true rfl⟩) hS (fun q _ h => hFc q h) hFc (fun u t H1 locs ht hvm hw hB hz1 hk1 hS => ?_)
      obtain ⟨hP1, hK1, hD1⟩ := hB
      rw [ht] at hP1
      obtain ⟨hP, hD⟩ := va_join (wr := []) (w1 := (mw_W h q g I1 A1)) hP hD [0, 1, 2, 3, 4, 5, 6, 7, 8, 9, 10, 11, 12, 13, 14, 15, 16, 17, 18, 19, 20] [] rfl rfl (by decide) (by decide) hk1 hFc hP1 hD1
      generalize H1 = H at hP hS ⊢
      have hP : va_P (dC, dI) vwCl (mw_W h q g I1 A1) H := hP
      have hD : va_D B9 (mw_W h q g I1 A1) := hD
      refine lv_goto (tgt := 273) hx hb d_M_build_29 (by decide) ?_
      exact blk273 _ hrc150 I1 A1 (upd (upd (upd (upd (fun _ => 0) 1 k1) 2 ((A 16) (k1).toNatClampNeg)) 3 ((I 28) - 1)) 4 (k1 + 1)) _ _ _ hf (lv_sub hl [3, 4, 2, 1, 0] rfl) hP hD hS

-- 16.mcon04
set_option maxHeartbeats 8000000 in
set_option maxRecDepth 100000 in
theorem cm_M_come (l : Launch) (dC : Nat → ClassId) (dI : Nat → Nat → Nat) (h : Nat) (q : Nat → Nat) (g : Nat → ClassId) (sz : Nat) (I : MI) (A : MA) (k1 : Int32) (r : Int32) (I' : MI) (A' : MA) (hf : f_M_come I A k1 = some (r, I', A')) : Met l y_M_come w_M_come ({ frames := 0, cells := 0, slots := 0, locals := 0 }) (va_Pc [.ref h, .int k1] (fun U => U.heap.size = sz ∧ va_P (dC, dI) vwCl (mw_W h q g I A) U.heap ∧ va_K (dC, dI) vwCl (mw_T g) U ∧ va_D (fun _ => True) (mw_W h q g I A))) (va_Qv (fun (u : Unit) => u = u) (fun (_ : Unit) t => va_P (dC, dI) vwCl (mw_W h q g I' A') t.heap ∧ va_K (dC, dI) vwCl (mw_T g) t ∧ va_D (va_A (mw_W h q g I A) sz) (mw_W h q g I' A')) (va_A (mw_W h q g I A) sz)) 0 0 (va_A (mw_W h q g I A) sz) := by
  refine Met.ofW (cc := prog_6_method_8_code) (maxL := 2) (ret := none) (by decide) rfl ?_
  intro p e s m args below meth c s₁ B hml hv
  obtain ⟨rfl, hsz, hP, hK, hD0⟩ := hv
  have hx := B.exec
  have hb := B.bytes
  have hr := B.returns
  have hts := atoms_spec (ws := w_M_come) B.pre
  have hown : s.vm.findClass R_M = some m.cls := findClass_of_methodNamed B.named
  have hlocks := B.notSynchronized
  subst hsz
  have hD := hD0.self (sz := s.heap.size)
  generalize hAe : va_A (mw_W h q g I A) s.heap.size = B9 at hD ⊢
  have hA : ∀ q : Nat, s.heap.size ≤ q → B9 q := fun q h => by rw [← hAe]; exact Or.inr h
  clear hAe
  have hS : va_S B9 s.heap s.heap [] := va_S.rf
  have hl := lv_entry ([.ref h, .int k1]) (n := 2) (Nat.le_of_ble_eq_true rfl)
  rw [lg_entry_eq]
  generalize (lg_sl ([.ref h, .int k1]) ++ List.replicate (2 - (lg_sl ([.ref h, .int k1])).length) Slot.unset).toArray = ls at hl ⊢
  have hl : lv_has ls 2 [(0, .ref h), (1, .int k1)] := hl
  unfold f_M_come at hf
  refine lv_aload_n hx hb d_M_come_0 rfl (lv_at hl 0 rfl) ?_
  refine va_get (D := (dC, dI)) (ci := 4) (v := .ref (q 7)) (C := R_M) (T := F_M) (N := 38) hx hb hts (fun w h => List.mem_cons_of_mem _ (in_M w h)) hown hK hP 0 rfl rfl 7 (by decide) (hts _ (List.mem_cons_of_mem _ lk_125)) (fun _ h9 => h9) rfl d_M_come_1 ?_
  refine lv_aload_n hx hb d_M_come_4 rfl (lv_at hl 0 rfl) ?_
  refine va_get (D := (dC, dI)) (ci := 4) (v := .int (I 4)) (C := R_M) (T := F_M) (N := 38) hx hb hts (fun w h => List.mem_cons_of_mem _ (in_M w h)) hown hK hP 0 rfl rfl 4 (by decide) (hts _ (List.mem_cons_of_mem _ lk_49)) (fun _ h9 => h9) rfl d_M_come_5 ?_
  refine lv_aload_n hx hb d_M_come_8 rfl (lv_at hl 0 rfl) ?_
  refine va_get (D := (dC, dI)) (ci := 4) (v := .int (I 11)) (C := R_M) (T := F_M) (N := 38) hx hb hts (fun w h => List.mem_cons_of_mem _ (in_M w h)) hown hK hP 0 rfl rfl 11 (by decide) (hts _ (List.mem_cons_of_mem _ lk_126)) (fun _ h9 => h9) rfl d_M_come_9 ?_
  obtain ⟨hc1, hf⟩ := wk_if hf
  refine va_iast hx hb hK hP hD hS 4 3 rfl rfl (wk_inb_ok hc1) d_M_come_12 (fun H locs hP hD hS => ?_)
  obtain ⟨A1, hA1, hf⟩ := wk_letE hf
  have hP : va_P (dC, dI) vwCl (mw_W h q g I A1) H := by rw [hA1]; exact hP
  have hD : va_D B9 (mw_W h q g I A1) := by rw [hA1]; exact hD
  clear hA1
  refine lv_aload_n hx hb d_M_come_13 rfl (lv_at hl 0 rfl) ?_
  refine lv_iload_n hx hb d_M_come_14 rfl (lv_at hl 1 rfl) ?_
  refine va_put (D := (dC, dI)) (ci := 4) (v := .int k1) (ty := .int) (C := R_M) (T := F_M) (N := 38) hx hb hts (fun w h => List.mem_cons_of_mem _ (in_M w h)) t_M tk_M n_M hown hK hP hD hS 0 rfl rfl 4 (by decide) (hts _ (List.mem_cons_of_mem _ lk_49)) (fun _ h9 => h9) rfl (by decide +kernel) rfl rfl (Nat.le_of_ble_eq_true rfl) d_M_come_15 (fun H locs hP hD hS => ?_)
  obtain ⟨I2, hI2, hf⟩ := wk_letE hf
  have hP : va_P (dC, dI) vwCl (mw_W h q g I2 A1) H := by rw [hI2]; exact hP
  have hD : va_D B9 (mw_W h q g I2 A1) := by rw [hI2]; exact hD
  clear hI2
  refine lv_aload_n hx hb d_M_come_18 rfl (lv_at hl 0 rfl) ?_
  refine lv_aload_n hx hb d_M_come_19 rfl (lv_at hl 0 rfl) ?_
  refine va_get (D := (dC, dI)) (ci := 4) (v := .ref (q 7)) (C := R_M) (T := F_M) (N := 38) hx hb hts (fun w h => List.mem_cons_of_mem _ (in_M w h)) hown hK hP 0 rfl rfl 7 (by decide) (hts _ (List.mem_cons_of_mem _ lk_125)) (fun _ h9 => h9) rfl d_M_come_20 ?_
  refine lv_iload_n hx hb d_M_come_23 rfl (lv_at hl 1 rfl) ?_
  obtain ⟨hc2, hf⟩ := wk_if hf
  refine va_iald hx hb hK hP 4 3 rfl rfl (wk_inb_ok hc2) d_M_come_24 ?_
  refine va_put (D := (dC, dI)) (ci := 4) (v := .int ((A1 7) (k1).toNatClampNeg)) (ty := .int) (C := R_M) (T := F_M) (N := 38) hx hb hts (fun w h => List.mem_cons_of_mem _ (in_M w h)) t_M tk_M n_M hown hK hP hD hS 0 rfl rfl 11 (by decide) (hts _ (List.mem_cons_of_mem _ lk_126)) (fun _ h9 => h9) rfl (by decide +kernel) rfl rfl (Nat.le_of_ble_eq_true rfl) d_M_come_25 (fun H locs hP hD hS => ?_)
  obtain ⟨I3, hI3, hf⟩ := wk_letE hf
  have hP : va_P (dC, dI) vwCl (mw_W h q g I3 A1) H := by rw [hI3]; exact hP
  have hD : va_D B9 (mw_W h q g I3 A1) := by rw [hI3]; exact hD
  clear hI3
  refine lv_aload_n hx hb d_M_come_28 rfl (lv_at hl 0 rfl) ?_
  refine lv_iconst (v := (-1)) hx hb d_M_come_29 (by decide) ?_
  refine va_put (D := (dC, dI)) (ci := 4) (v := .int (-1)) (ty := .int) (C := R_M) (T := F_M) (N := 38) hx hb hts (fun w h => List.mem_cons_of_mem _ (in_M w h)) t_M tk_M n_M hown hK hP hD hS 0 rfl rfl 12 (by decide) (hts _ (List.mem_cons_of_mem _ lk_127)) (fun _ h9 => h9) rfl (by decide +kernel) rfl rfl (Nat.le_of_ble_eq_true rfl) d_M_come_30 (fun H locs hP hD hS => ?_)
  obtain ⟨I4, hI4, hf⟩ := wk_letE hf
  have hP : va_P (dC, dI) vwCl (mw_W h q g I4 A1) H := by rw [hI4]; exact hP
  have hD : va_D B9 (mw_W h q g I4 A1) := by rw [hI4]; exact hD
  clear hI4
  refine lv_aload_n hx hb d_M_come_33 rfl (lv_at hl 0 rfl) ?_
  refine lv_dup hx hb d_M_come_34 rfl ?_
  refine va_get (D := (dC, dI)) (ci := 4) (v := .int (I4 10)) (C := R_M) (T := F_M) (N := 38) hx hb hts (fun w h => List.mem_cons_of_mem _ (in_M w h)) hown hK hP 0 rfl rfl 10 (by decide) (hts _ (List.mem_cons_of_mem _ lk_128)) (fun _ h9 => h9) rfl d_M_come_35 ?_
  refine lv_iconst (v := 1) hx hb d_M_come_38 (by decide) ?_
  refine lv_iadd hx hb d_M_come_39 ?_
  refine va_put (D := (dC, dI)) (ci := 4) (v := .int ((I4 10) + 1)) (ty := .int) (C := R_M) (T := F_M) (N := 38) hx hb hts (fun w h => List.mem_cons_of_mem _ (in_M w h)) t_M tk_M n_M hown hK hP hD hS 0 rfl rfl 10 (by decide) (hts _ (List.mem_cons_of_mem _ lk_128)) (fun _ h9 => h9) rfl (by decide +kernel) rfl rfl (Nat.le_of_ble_eq_true rfl) d_M_come_40 (fun H locs hP hD hS => ?_)
  obtain ⟨I5, hI5, hf⟩ := wk_letE hf
  have hP : va_P (dC, dI) vwCl (mw_W h q g I5 A1) H := by rw [hI5]; exact hP
  have hD : va_D B9 (mw_W h q g I5 A1) := by rw [hI5]; exact hD
  clear hI5
  refine lv_aload_n hx hb d_M_come_43 rfl (lv_at hl 0 rfl) ?_
  refine va_get (D := (dC, dI)) (ci := 4) (v := .ref (q 9)) (C := R_M) (T := F_M) (N := 38) hx hb hts (fun w h => List.mem_cons_of_mem _ (in_M w h)) hown hK hP 0 rfl rfl 9 (by decide) (hts _ (List.mem_cons_of_mem _ lk_129)) (fun _ h9 => h9) rfl d_M_come_44 ?_
  refine lv_iload_n hx hb d_M_come_47 rfl (lv_at hl 1 rfl) ?_
  refine lv_aload_n hx hb d_M_come_48 rfl (lv_at hl 0 rfl) ?_
  refine va_get (D := (dC, dI)) (ci := 4) (v := .int (I5 10)) (C := R_M) (T := F_M) (N := 38) hx hb hts (fun w h => List.mem_cons_of_mem _ (in_M w h)) hown hK hP 0 rfl rfl 10 (by decide) (hts _ (List.mem_cons_of_mem _ lk_128)) (fun _ h9 => h9) rfl d_M_come_49 ?_
  obtain ⟨hc3, hf⟩ := wk_if hf
  refine va_iast hx hb hK hP hD hS 6 5 rfl rfl (wk_inb_ok hc3) d_M_come_52 (fun H locs hP hD hS => ?_)
  obtain ⟨A6, hA6, hf⟩ := wk_letE hf
  have hP : va_P (dC, dI) vwCl (mw_W h q g I5 A6) H := by rw [hA6]; exact hP
  have hD : va_D B9 (mw_W h q g I5 A6) := by rw [hA6]; exact hD
  clear hA6
  obtain ⟨e1, e2, e3⟩ := wk_inj hf
  subst e1
  subst e2
  subst e3
  exact W.vret hx hb hr (fun t ht hW => ⟨⟨(), rfl, rfl, by rw [ht]; exact hP, va_K.moved hW.alike hK, hD⟩, hS.F ht⟩) hS.2.2 d_M_come_53

set_option maxHeartbeats 8000000 in
set_option maxRecDepth 100000 in
theorem cm_M_isPlain (l : Launch) (dC : Nat → ClassId) (dI : Nat → Nat → Nat) (sz : Nat) (k0 : Int32) (r : Int32) (hf : f_M_isPlain k0 = some r) : Met l y_M_isPlain w_M_isPlain ({ frames := 0, cells := 0, slots := 0, locals := 0 }) (va_Pc [.int k0] (fun U => U.heap.size = sz ∧ va_P (dC, dI) vwCl [] U.heap ∧ va_K (dC, dI) vwCl [] U ∧ va_D (fun _ => True) [])) (va_Qi (fun (r9 : Int32) (_ : Unit) => r9 = r) (fun (_ : Unit) t => va_P (dC, dI) vwCl [] t.heap ∧ va_K (dC, dI) vwCl [] t ∧ va_D (va_A [] sz) []) (va_A [] sz)) 0 0 (va_A [] sz) := by
  refine Met.ofW (cc := prog_6_method_21_code) (maxL := 1) (ret := (some .boolean)) (by decide) rfl ?_
  intro p e s m args below meth c s₁ B hml hv
  obtain ⟨rfl, hsz, hP, hK, hD0⟩ := hv
  have hx := B.exec
  have hb := B.bytes
  have hr := B.returns
  have hts := atoms_spec (ws := w_M_isPlain) B.pre
  have hown : s.vm.findClass R_M = some m.cls := findClass_of_methodNamed B.named
  have hlocks := B.notSynchronized
  subst hsz
  have hD := hD0.self (sz := s.heap.size)
  generalize hAe : va_A [] s.heap.size = B9 at hD ⊢
  have hA : ∀ q : Nat, s.heap.size ≤ q → B9 q := fun q h => by rw [← hAe]; exact Or.inr h
  clear hAe
  have hS : va_S B9 s.heap s.heap [] := va_S.rf
  have hl := lv_entry ([.int k0]) (n := 1) (Nat.le_of_ble_eq_true rfl)
  rw [lg_entry_eq]
  generalize (lg_sl ([.int k0]) ++ List.replicate (1 - (lg_sl ([.int k0])).length) Slot.unset).toArray = ls at hl ⊢
  have hl : lv_has ls 1 [(0, .int k0)] := hl
  have blk77 : ∀ (X : Nat → Int32) (s0 : Int32) (ls : Array Slot) (H : Heap) (locs : List Loc), f_M_isPlain_77 X s0 = some r → lv_has ls 1 [(0, .int (X 0))] → va_P (dC, dI) vwCl [] H → va_D B9 [] → va_S B9 s.heap H locs → W p l e (headSpec w_M_isPlain ({ frames := 0, cells := 0, slots := 0, locals := 0 })).room s m ([.int k0] : List Value).toArray below meth c H locs 0 0 (MQ below (va_Qi (fun (r9 : Int32) (_ : Unit) => r9 = r) (fun (_ : Unit) t => va_P (dC, dI) vwCl [] t.heap ∧ va_K (dC, dI) vwCl [] t ∧ va_D B9 []) B9) ([.int k0] : List Value).toArray s 0 0 B9) (F0 m 77 ls [.int s0]) := by
    intro X s0 ls H locs hf hl hP hD hS
    unfold f_M_isPlain_77 at hf
    obtain ⟨hn9, hf⟩ := wk_if hf
    have e1 := Option.some.inj hf
    subst e1
    exact W.zret (v := s0) hx hb hr (congrArg Value.int hn9) (fun t ht hW => ⟨⟨s0, (), rfl, rfl, by rw [ht]; exact hP, va_K.moved hW.alike hK, hD⟩, hS.F ht⟩) hS.2.2 d_M_isPlain_77
  have blk76 : ∀ (X : Nat → Int32) (ls : Array Slot) (H : Heap) (locs : List Loc), f_M_isPlain_76 X = some r → lv_has ls 1 [(0, .int (X 0))] → va_P (dC, dI) vwCl [] H → va_D B9 [] → va_S B9 s.heap H locs → W p l e (headSpec w_M_isPlain ({ frames := 0, cells := 0, slots := 0, locals := 0 })).room s m ([.int k0] : List Value).toArray below meth c H locs 0 0 (MQ below (va_Qi (fun (r9 : Int32) (_ : Unit) => r9 = r) (fun (_ : Unit) t => va_P (dC, dI) vwCl [] t.heap ∧ va_K (dC, dI) vwCl [] t ∧ va_D B9 []) B9) ([.int k0] : List Value).toArray s 0 0 B9) (F0 m 76 ls []) := by
    intro X ls H locs hf hl hP hD hS
    unfold f_M_isPlain_76 at hf
    refine lv_iconst (v := 0) hx hb d_M_isPlain_76 (by decide) ?_
    exact blk77 X 0 _ _ _ hf (lv_sub hl [0] rfl) hP hD hS
  unfold f_M_isPlain at hf
  refine lv_iload_n hx hb d_M_isPlain_0 rfl (lv_at hl 0 rfl) ?_
  refine lv_bipush (v := 40) hx hb d_M_isPlain_1 (by decide) ?_
  refine lv_icmp_eq (tgt := 76) hx hb d_M_isPlain_3 (by decide) (fun hc1 => ?_) (fun hc1 => ?_)
  ·
    have hf := wk_ift hc1 hf
    exact blk76 (upd (fun _ => 0) 0 k0) _ _ _ hf (lv_sub hl [0] rfl) hP hD hS
  ·
    have hf := wk_iff hc1 hf
    refine lv_iload_n hx hb d_M_isPlain_6 rfl (lv_at hl 0 rfl) ?_
    refine lv_bipush (v := 41) hx hb d_M_isPlain_7 (by decide) ?_
    refine lv_icmp_eq (tgt := 76) hx hb d_M_isPlain_9 (by decide) (fun hc2 => ?_) (fun hc2 => ?_)
    ·
      have hf := wk_ift hc2 hf
      exact blk76 (upd (fun _ => 0) 0 k0) _ _ _ hf (lv_sub hl [0] rfl) hP hD hS
    ·
      have hf := wk_iff hc2 hf
      refine lv_iload_n hx hb d_M_isPlain_12 rfl (lv_at hl 0 rfl) ?_
      refine lv_bipush (v := 91) hx hb d_M_isPlain_13 (by decide) ?_
      refine lv_icmp_eq (tgt := 76) hx hb d_M_isPlain_15 (by decide) (fun hc3 => ?_) (fun hc3 => ?_)
      ·
        have hf := wk_ift hc3 hf
        exact blk76 (upd (fun _ => 0) 0 k0) _ _ _ hf (lv_sub hl [0] rfl) hP hD hS
      ·
        have hf := wk_iff hc3 hf
        refine lv_iload_n hx hb d_M_isPlain_18 rfl (lv_at hl 0 rfl) ?_
        refine lv_bipush (v := 93) hx hb d_M_isPlain_19 (by decide) ?_
        refine lv_icmp_eq (tgt := 76) hx hb d_M_isPlain_21 (by decide) (fun hc4 => ?_) (fun hc4 => ?_)
        ·
          have hf := wk_ift hc4 hf
          exact blk76 (upd (fun _ => 0) 0 k0) _ _ _ hf (lv_sub hl [0] rfl) hP hD hS
        ·
          have hf := wk_iff hc4 hf
          refine lv_iload_n hx hb d_M_isPlain_24 rfl (lv_at hl 0 rfl) ?_
          refine lv_bipush (v := 124) hx hb d_M_isPlain_25 (by decide) ?_
          refine lv_icmp_eq (tgt := 76) hx hb d_M_isPlain_27 (by decide) (fun hc5 => ?_) (fun hc5 => ?_)
          ·
            have hf := wk_ift hc5 hf
            exact blk76 (upd (fun _ => 0) 0 k0) _ _ _ hf (lv_sub hl [0] rfl) hP hD hS
          ·
            have hf := wk_iff hc5 hf
            refine lv_iload_n hx hb d_M_isPlain_30 rfl (lv_at hl 0 rfl) ?_
            refine lv_bipush (v := 42) hx hb d_M_isPlain_31 (by decide) ?_
            refine lv_icmp_eq (tgt := 76) hx hb d_M_isPlain_33 (by decide) (fun hc6 => ?_) (fun hc6 => ?_)
            ·
              have hf := wk_ift hc6 hf
              exact blk76 (upd (fun _ => 0) 0 k0) _ _ _ hf (lv_sub hl [0] rfl) hP hD hS
            ·
              have hf := wk_iff hc6 hf
              refine lv_iload_n hx hb d_M_isPlain_36 rfl (lv_at hl 0 rfl) ?_
              refine lv_bipush (v := 43) hx hb d_M_isPlain_37 (by decide) ?_
              refine lv_icmp_eq (tgt := 76) hx hb d_M_isPlain_39 (by decide) (fun hc7 => ?_) (fun hc7 => ?_)
              ·
                have hf := wk_ift hc7 hf
                exact blk76 (upd (fun _ => 0) 0 k0) _ _ _ hf (lv_sub hl [0] rfl) hP hD hS
              ·
                have hf := wk_iff hc7 hf
                refine lv_iload_n hx hb d_M_isPlain_42 rfl (lv_at hl 0 rfl) ?_
                refine lv_bipush (v := 63) hx hb d_M_isPlain_43 (by decide) ?_
                refine lv_icmp_eq (tgt := 76) hx hb d_M_isPlain_45 (by decide) (fun hc8 => ?_) (fun hc8 => ?_)
                ·
                  have hf := wk_ift hc8 hf
                  exact blk76 (upd (fun _ => 0) 0 k0) _ _ _ hf (lv_sub hl [0] rfl) hP hD hS
                ·
                  have hf := wk_iff hc8 hf
                  refine lv_iload_n hx hb d_M_isPlain_48 rfl (lv_at hl 0 rfl) ?_
                  refine lv_bipush (v := 46) hx hb d_M_isPlain_49 (by decide) ?_
                  refine lv_icmp_eq (tgt := 76) hx hb d_M_isPlain_51 (by decide) (fun hc9 => ?_) (fun hc9 => ?_)
                  ·
                    have hf := wk_ift hc9 hf
                    exact blk76 (upd (fun _ => 0) 0 k0) _ _ _ hf (lv_sub hl [0] rfl) hP hD hS
                  ·
                    have hf := wk_iff hc9 hf
                    refine lv_iload_n hx hb d_M_isPlain_54 rfl (lv_at hl 0 rfl) ?_
                    refine lv_bipush (v := 94) hx hb d_M_isPlain_55 (by decide) ?_
                    refine lv_icmp_eq (tgt := 76) hx hb d_M_isPlain_57 (by decide) (fun hc10 => ?_) (fun hc10 => ?_)
                    ·
                      have hf := wk_ift hc10 hf
                      exact blk76 (upd (fun _ => 0) 0 k0) _ _ _ hf (lv_sub hl [0] rfl) hP hD hS
                    ·
                      have hf := wk_iff hc10 hf
                      refine lv_iload_n hx hb d_M_isPlain_60 rfl (lv_at hl 0 rfl) ?_
                      refine lv_bipush (v := 36) hx hb d_M_isPlain_61 (by decide) ?_
                      refine lv_icmp_eq (tgt := 76) hx hb d_M_isPlain_63 (by decide) (fun hc11 => ?_) (fun hc11 => ?_)
                      ·
                        have hf := wk_ift hc11 hf
                        exact blk76 (upd (fun _ => 0) 0 k0) _ _ _ hf (lv_sub hl [0] rfl) hP hD hS
                      ·
                        have hf := wk_iff hc11 hf
                        refine lv_iload_n hx hb d_M_isPlain_66 rfl (lv_at hl 0 rfl) ?_
                        refine lv_bipush (v := 92) hx hb d_M_isPlain_67 (by decide) ?_
                        refine lv_icmp_eq (tgt := 76) hx hb d_M_isPlain_69 (by decide) (fun hc12 => ?_) (fun hc12 => ?_)
                        ·
                          have hf := wk_ift hc12 hf
                          exact blk76 (upd (fun _ => 0) 0 k0) _ _ _ hf (lv_sub hl [0] rfl) hP hD hS
                        ·
                          have hf := wk_iff hc12 hf
                          refine lv_iconst (v := 1) hx hb d_M_isPlain_72 (by decide) ?_
                          refine lv_goto (tgt := 77) hx hb d_M_isPlain_73 (by decide) ?_
                          exact blk77 (upd (fun _ => 0) 0 k0) 1 _ _ _ hf (lv_sub hl [0] rfl) hP hD hS

set_option maxHeartbeats 8000000 in
set_option maxRecDepth 100000 in
theorem cm_M_good (l : Launch) (dC : Nat → ClassId) (dI : Nat → Nat → Nat) (h : Nat) (q : Nat → Nat) (g : Nat → ClassId) (sz : Nat) (I : MI) (A : MA) (r : Int32) (I' : MI) (A' : MA) (hf : f_M_good I A  = some (r, I', A')) : Met l y_M_good w_M_good ({ frames := 1, cells := 0, slots := 0, locals := 20 }) (va_Pc [.ref h] (fun U => U.heap.size = sz ∧ va_P (dC, dI) vwCl (mw_W h q g I A) U.heap ∧ va_K (dC, dI) vwCl (mw_T g) U ∧ va_D (fun _ => True) (mw_W h q g I A))) (va_Qi (fun (r9 : Int32) (_ : Unit) => r9 = r) (fun (_ : Unit) t => va_P (dC, dI) vwCl (mw_W h q g I' A') t.heap ∧ va_K (dC, dI) vwCl (mw_T g) t ∧ va_D (va_A (mw_W h q g I A) sz) (mw_W h q g I' A')) (va_A (mw_W h q g I A) sz)) 0 0 (va_A (mw_W h q g I A) sz) := by
  refine Met.ofW (cc := prog_6_method_23_code) (maxL := 5) (ret := (some .int)) (by decide) rfl ?_
  intro p e s m args below meth c s₁ B hml hv
  obtain ⟨rfl, hsz, hP, hK, hD0⟩ := hv
  have hx := B.exec
  have hb := B.bytes
  have hr := B.returns
  have hts := atoms_spec (ws := w_M_good) B.pre
  have hown : s.vm.findClass R_M = some m.cls := findClass_of_methodNamed B.named
  have hlocks := B.notSynchronized
  subst hsz
  have hD := hD0.self (sz := s.heap.size)
  generalize hAe : va_A (mw_W h q g I A) s.heap.size = B9 at hD ⊢
  have hA : ∀ q : Nat, s.heap.size ≤ q → B9 q := fun q h => by rw [← hAe]; exact Or.inr h
  clear hAe
  have hS : va_S B9 s.heap s.heap [] := va_S.rf
  have hl := lv_entry ([.ref h]) (n := 5) (Nat.le_of_ble_eq_true rfl)
  rw [lg_entry_eq]
  generalize (lg_sl ([.ref h]) ++ List.replicate (5 - (lg_sl ([.ref h])).length) Slot.unset).toArray = ls at hl ⊢
  have hl : lv_has ls 5 [(0, .ref h)] := hl
  have blk244 : ∀ (rc : Nat → MI → MA → (Nat → Int32) → Option (Int32 × MI × MA)) (hrc6 : ∀ (I : MI) (A : MA) (X : Nat → Int32) (ls : Array Slot) (H : Heap) (locs : List Loc), rc 6 I A X = some (r, I', A') → lv_has ls 5 [(0, .ref h), (1, .int (X 1)), (2, .int (X 2)), (3, .int (X 3))] → va_P (dC, dI) vwCl (mw_W h q g I A) H → va_D B9 (mw_W h q g I A) → va_S B9 s.heap H locs → W p l e (headSpec w_M_good ({ frames := 1, cells := 0, slots := 0, locals := 20 })).room s m ([.ref h] : List Value).toArray below meth c H locs 0 0 (MQ below (va_Qi (fun (r9 : Int32) (_ : Unit) => r9 = r) (fun (_ : Unit) t => va_P (dC, dI) vwCl (mw_W h q g I' A') t.heap ∧ va_K (dC, dI) vwCl (mw_T g) t ∧ va_D B9 (mw_W h q g I' A')) B9) ([.ref h] : List Value).toArray s 0 0 B9) (F0 m 6 ls [])), ∀ (I : MI) (A : MA) (X : Nat → Int32) (s0 : Int32) (ls : Array Slot) (H : Heap) (locs : List Loc), f_M_good_244 rc I A X s0 = some (r, I', A') → lv_has ls 5 [(0, .ref h), (1, .int (X 1)), (2, .int (X 2)), (3, .int (X 3))] → va_P (dC, dI) vwCl (mw_W h q g I A) H → va_D B9 (mw_W h q g I A) → va_S B9 s.heap H locs → W p l e (headSpec w_M_good ({ frames := 1, cells := 0, slots := 0, locals := 20 })).room s m ([.ref h] : List Value).toArray below meth c H locs 0 0 (MQ below (va_Qi (fun (r9 : Int32) (_ : Unit) => r9 = r) (fun (_ : Unit) t => va_P (dC, dI) vwCl (mw_W h q g I' A') t.heap ∧ va_K (dC, dI) vwCl (mw_T g) t ∧ va_D B9 (mw_W h q g I' A')) B9) ([.ref h] : List Value).toArray s 0 0 B9) (F0 m 244 ls [.int s0]) := by
    intro rc hrc6 I A X s0 ls H locs hf hl hP hD hS
    unfold f_M_good_244 at hf
    obtain ⟨e1, e2, e3⟩ := wk_inj hf
    subst e1
    subst e2
    subst e3
    exact W.iret (v := s0) hx hb hr (fun t ht hW => ⟨⟨s0, (), rfl, rfl, by rw [ht]; exact hP, va_K.moved hW.alike hK, hD⟩, hS.F ht⟩) hS.2.2 d_M_good_244
  have blk231 : ∀ (rc : Nat → MI → MA → (Nat → Int32) → Option (Int32 × MI × MA)) (hrc6 : ∀ (I : MI) (A : MA) (X : Nat → Int32) (ls : Array Slot) (H : Heap) (locs : List Loc), rc 6 I A X = some (r, I', A') → lv_has ls 5 [(0, .ref h), (1, .int (X 1)), (2, .int (X 2)), (3, .int (X 3))] → va_P (dC, dI) vwCl (mw_W h q g I A) H → va_D B9 (mw_W h q g I A) → va_S B9 s.heap H locs → W p l e (headSpec w_M_good ({ frames := 1, cells := 0, slots := 0, locals := 20 })).room s m ([.ref h] : List Value).toArray below meth c H locs 0 0 (MQ below (va_Qi (fun (r9 : Int32) (_ : Unit) => r9 = r) (fun (_ : Unit) t => va_P (dC, dI) vwCl (mw_W h q g I' A') t.heap ∧ va_K (dC, dI) vwCl (mw_T g) t ∧ va_D B9 (mw_W h q g I' A')) B9) ([.ref h] : List Value).toArray s 0 0 B9) (F0 m 6 ls [])), ∀ (I : MI) (A : MA) (X : Nat → Int32) (ls : Array Slot) (H : Heap) (locs : List Loc), f_M_good_231 rc I A X = some (r, I', A') → lv_has ls 5 [(0, .ref h), (1, .int (X 1)), (2, .int (X 2)), (3, .int (X 3))] → va_P (dC, dI) vwCl (mw_W h q g I A) H → va_D B9 (mw_W h q g I A) → va_S B9 s.heap H locs → W p l e (headSpec w_M_good ({ frames := 1, cells := 0, slots := 0, locals := 20 })).room s m ([.ref h] : List Value).toArray below meth c H locs 0 0 (MQ below (va_Qi (fun (r9 : Int32) (_ : Unit) => r9 = r) (fun (_ : Unit) t => va_P (dC, dI) vwCl (mw_W h q g I' A') t.heap ∧ va_K (dC, dI) vwCl (mw_T g) t ∧ va_D B9 (mw_W h q g I' A')) B9) ([.ref h] : List Value).toArray s 0 0 B9) (F0 m 231 ls []) := by
    intro rc hrc6 I A X ls H locs hf hl hP hD hS
    unfold f_M_good_231 at hf
    refine lv_iconst (v := (-1)) hx hb d_M_good_231 (by decide) ?_
    refine lv_aload_n hx hb d_M_good_232 rfl (lv_at hl 0 rfl) ?_
    refine va_get (D := (dC, dI)) (ci := 4) (v := .int (I 1)) (C := R_M) (T := F_M) (N := 38) hx hb hts (fun w h => List.mem_cons_of_mem _ (in_M w h)) hown hK hP 0 rfl rfl 1 (by decide) (hts _ (List.mem_cons_of_mem _ lk_41)) (fun _ h9 => h9) rfl d_M_good_233 ?_
    refine lv_isub hx hb d_M_good_236 ?_
    refine lv_goto (tgt := 244) hx hb d_M_good_237 (by decide) ?_
    exact blk244 rc hrc6 I A X ((-1) - (I 1)) _ _ _ hf (lv_sub hl [0, 1, 2, 3] rfl) hP hD hS
  have blk216 : ∀ (rc : Nat → MI → MA → (Nat → Int32) → Option (Int32 × MI × MA)) (hrc6 : ∀ (I : MI) (A : MA) (X : Nat → Int32) (ls : Array Slot) (H : Heap) (locs : List Loc), rc 6 I A X = some (r, I', A') → lv_has ls 5 [(0, .ref h), (1, .int (X 1)), (2, .int (X 2)), (3, .int (X 3))] → va_P (dC, dI) vwCl (mw_W h q g I A) H → va_D B9 (mw_W h q g I A) → va_S B9 s.heap H locs → W p l e (headSpec w_M_good ({ frames := 1, cells := 0, slots := 0, locals := 20 })).room s m ([.ref h] : List Value).toArray below meth c H locs 0 0 (MQ below (va_Qi (fun (r9 : Int32) (_ : Unit) => r9 = r) (fun (_ : Unit) t => va_P (dC, dI) vwCl (mw_W h q g I' A') t.heap ∧ va_K (dC, dI) vwCl (mw_T g) t ∧ va_D B9 (mw_W h q g I' A')) B9) ([.ref h] : List Value).toArray s 0 0 B9) (F0 m 6 ls [])), ∀ (I : MI) (A : MA) (X : Nat → Int32) (ls : Array Slot) (H : Heap) (locs : List Loc), f_M_good_216 rc I A X = some (r, I', A') → lv_has ls 5 [(0, .ref h), (1, .int (X 1)), (2, .int (X 2)), (3, .int (X 3)), (4, .int (X 4))] → va_P (dC, dI) vwCl (mw_W h q g I A) H → va_D B9 (mw_W h q g I A) → va_S B9 s.heap H locs → W p l e (headSpec w_M_good ({ frames := 1, cells := 0, slots := 0, locals := 20 })).room s m ([.ref h] : List Value).toArray below meth c H locs 0 0 (MQ below (va_Qi (fun (r9 : Int32) (_ : Unit) => r9 = r) (fun (_ : Unit) t => va_P (dC, dI) vwCl (mw_W h q g I' A') t.heap ∧ va_K (dC, dI) vwCl (mw_T g) t ∧ va_D B9 (mw_W h q g I' A')) B9) ([.ref h] : List Value).toArray s 0 0 B9) (F0 m 216 ls []) := by
    intro rc hrc6 I A X ls H locs hf hl hP hD hS
    unfold f_M_good_216 at hf
    refine lv_iinc (k := 3) (v := ((X 3) + 1)) (lv' := [(3, .int ((X 3) + 1)), (0, .ref h), (1, .int (X 1)), (2, .int (X 2)), (4, .int (X 4))]) hx hb d_M_good_216 hl rfl (wk_inc (by decide)) (by decide) rfl (fun ls hl => ?_)
    have hl : lv_has ls 5 [(3, .int ((X 3) + 1)), (0, .ref h), (1, .int (X 1)), (2, .int (X 2)), (4, .int (X 4))] := hl
    refine lv_goto (tgt := 6) hx hb d_M_good_219 (by decide) ?_
    exact hrc6 I A (upd X 3 ((X 3) + 1)) _ _ _ hf (lv_sub hl [1, 2, 3, 0] rfl) hP hD hS
  have blk164 : ∀ (rc : Nat → MI → MA → (Nat → Int32) → Option (Int32 × MI × MA)) (hrc6 : ∀ (I : MI) (A : MA) (X : Nat → Int32) (ls : Array Slot) (H : Heap) (locs : List Loc), rc 6 I A X = some (r, I', A') → lv_has ls 5 [(0, .ref h), (1, .int (X 1)), (2, .int (X 2)), (3, .int (X 3))] → va_P (dC, dI) vwCl (mw_W h q g I A) H → va_D B9 (mw_W h q g I A) → va_S B9 s.heap H locs → W p l e (headSpec w_M_good ({ frames := 1, cells := 0, slots := 0, locals := 20 })).room s m ([.ref h] : List Value).toArray below meth c H locs 0 0 (MQ below (va_Qi (fun (r9 : Int32) (_ : Unit) => r9 = r) (fun (_ : Unit) t => va_P (dC, dI) vwCl (mw_W h q g I' A') t.heap ∧ va_K (dC, dI) vwCl (mw_T g) t ∧ va_D B9 (mw_W h q g I' A')) B9) ([.ref h] : List Value).toArray s 0 0 B9) (F0 m 6 ls [])), ∀ (I : MI) (A : MA) (X : Nat → Int32) (s0 : Int32) (ls : Array Slot) (H : Heap) (locs : List Loc), f_M_good_164 rc I A X s0 = some (r, I', A') → lv_has ls 5 [(0, .ref h), (1, .int (X 1)), (2, .int (X 2)), (3, .int (X 3)), (4, .int (X 4))] → va_P (dC, dI) vwCl (mw_W h q g I A) H → va_D B9 (mw_W h q g I A) → va_S B9 s.heap H locs → W p l e (headSpec w_M_good ({ frames := 1, cells := 0, slots := 0, locals := 20 })).room s m ([.ref h] : List Value).toArray below meth c H locs 0 0 (MQ below (va_Qi (fun (r9 : Int32) (_ : Unit) => r9 = r) (fun (_ : Unit) t => va_P (dC, dI) vwCl (mw_W h q g I' A') t.heap ∧ va_K (dC, dI) vwCl (mw_T g) t ∧ va_D B9 (mw_W h q g I' A')) B9) ([.ref h] : List Value).toArray s 0 0 B9) (F0 m 164 ls [.int s0]) := by
    intro rc hrc6 I A X s0 ls H locs hf hl hP hD hS
    unfold f_M_good_164 at hf
    refine lv_istore_n (lv' := [(1, .int s0), (0, .ref h), (2, .int (X 2)), (3, .int (X 3)), (4, .int (X 4))]) hx hb d_M_good_164 rfl hl (by decide) rfl (fun ls hl => ?_)
    have hl : lv_has ls 5 [(1, .int s0), (0, .ref h), (2, .int (X 2)), (3, .int (X 3)), (4, .int (X 4))] := hl
    refine lv_goto (tgt := 216) hx hb d_M_good_165 (by decide) ?_
    exact blk216 rc hrc6 I A (upd X 1 s0) _ _ _ hf (lv_sub hl [1, 0, 2, 3, 4] rfl) hP hD hS
  have blk152 : ∀ (rc : Nat → MI → MA → (Nat → Int32) → Option (Int32 × MI × MA)) (hrc6 : ∀ (I : MI) (A : MA) (X : Nat → Int32) (ls : Array Slot) (H : Heap) (locs : List Loc), rc 6 I A X = some (r, I', A') → lv_has ls 5 [(0, .ref h), (1, .int (X 1)), (2, .int (X 2)), (3, .int (X 3))] → va_P (dC, dI) vwCl (mw_W h q g I A) H → va_D B9 (mw_W h q g I A) → va_S B9 s.heap H locs → W p l e (headSpec w_M_good ({ frames := 1, cells := 0, slots := 0, locals := 20 })).room s m ([.ref h] : List Value).toArray below meth c H locs 0 0 (MQ below (va_Qi (fun (r9 : Int32) (_ : Unit) => r9 = r) (fun (_ : Unit) t => va_P (dC, dI) vwCl (mw_W h q g I' A') t.heap ∧ va_K (dC, dI) vwCl (mw_T g) t ∧ va_D B9 (mw_W h q g I' A')) B9) ([.ref h] : List Value).toArray s 0 0 B9) (F0 m 6 ls [])), ∀ (I : MI) (A : MA) (X : Nat → Int32) (ls : Array Slot) (H : Heap) (locs : List Loc), f_M_good_152 rc I A X = some (r, I', A') → lv_has ls 5 [(0, .ref h), (1, .int (X 1)), (2, .int (X 2)), (3, .int (X 3)), (4, .int (X 4))] → va_P (dC, dI) vwCl (mw_W h q g I A) H → va_D B9 (mw_W h q g I A) → va_S B9 s.heap H locs → W p l e (headSpec w_M_good ({ frames := 1, cells := 0, slots := 0, locals := 20 })).room s m ([.ref h] : List Value).toArray below meth c H locs 0 0 (MQ below (va_Qi (fun (r9 : Int32) (_ : Unit) => r9 = r) (fun (_ : Unit) t => va_P (dC, dI) vwCl (mw_W h q g I' A') t.heap ∧ va_K (dC, dI) vwCl (mw_T g) t ∧ va_D B9 (mw_W h q g I' A')) B9) ([.ref h] : List Value).toArray s 0 0 B9) (F0 m 152 ls []) := by
    intro rc hrc6 I A X ls H locs hf hl hP hD hS
    unfold f_M_good_152 at hf
    refine lv_iload hx hb d_M_good_152 (lv_at hl 4 rfl) ?_
    refine lv_bipush (v := 91) hx hb d_M_good_154 (by decide) ?_
    refine lv_icmp_ne (tgt := 163) hx hb d_M_good_156 (by decide) (fun hc1 => ?_) (fun hc1 => ?_)
    ·
      have hf := wk_iff hc1 hf
      refine lv_iconst (v := 2) hx hb d_M_good_163 (by decide) ?_
      exact blk164 rc hrc6 I A X 2 _ _ _ hf (lv_sub hl [0, 1, 2, 3, 4] rfl) hP hD hS
    ·
      have hf := wk_ift hc1 hf
      refine lv_iconst (v := 3) hx hb d_M_good_159 (by decide) ?_
      refine lv_goto (tgt := 164) hx hb d_M_good_160 (by decide) ?_
      exact blk164 rc hrc6 I A X 3 _ _ _ hf (lv_sub hl [0, 1, 2, 3, 4] rfl) hP hD hS
  have blk197 : ∀ (rc : Nat → MI → MA → (Nat → Int32) → Option (Int32 × MI × MA)) (hrc6 : ∀ (I : MI) (A : MA) (X : Nat → Int32) (ls : Array Slot) (H : Heap) (locs : List Loc), rc 6 I A X = some (r, I', A') → lv_has ls 5 [(0, .ref h), (1, .int (X 1)), (2, .int (X 2)), (3, .int (X 3))] → va_P (dC, dI) vwCl (mw_W h q g I A) H → va_D B9 (mw_W h q g I A) → va_S B9 s.heap H locs → W p l e (headSpec w_M_good ({ frames := 1, cells := 0, slots := 0, locals := 20 })).room s m ([.ref h] : List Value).toArray below meth c H locs 0 0 (MQ below (va_Qi (fun (r9 : Int32) (_ : Unit) => r9 = r) (fun (_ : Unit) t => va_P (dC, dI) vwCl (mw_W h q g I' A') t.heap ∧ va_K (dC, dI) vwCl (mw_T g) t ∧ va_D B9 (mw_W h q g I' A')) B9) ([.ref h] : List Value).toArray s 0 0 B9) (F0 m 6 ls [])), ∀ (I : MI) (A : MA) (X : Nat → Int32) (ls : Array Slot) (H : Heap) (locs : List Loc), f_M_good_197 rc I A X = some (r, I', A') → lv_has ls 5 [(0, .ref h), (1, .int (X 1)), (2, .int (X 2)), (3, .int (X 3)), (4, .int (X 4))] → va_P (dC, dI) vwCl (mw_W h q g I A) H → va_D B9 (mw_W h q g I A) → va_S B9 s.heap H locs → W p l e (headSpec w_M_good ({ frames := 1, cells := 0, slots := 0, locals := 20 })).room s m ([.ref h] : List Value).toArray below meth c H locs 0 0 (MQ below (va_Qi (fun (r9 : Int32) (_ : Unit) => r9 = r) (fun (_ : Unit) t => va_P (dC, dI) vwCl (mw_W h q g I' A') t.heap ∧ va_K (dC, dI) vwCl (mw_T g) t ∧ va_D B9 (mw_W h q g I' A')) B9) ([.ref h] : List Value).toArray s 0 0 B9) (F0 m 197 ls []) := by
    intro rc hrc6 I A X ls H locs hf hl hP hD hS
    unfold f_M_good_197 at hf
    refine lv_iconst (v := 1) hx hb d_M_good_197 (by decide) ?_
    refine lv_istore_n (lv' := [(1, .int 1), (0, .ref h), (2, .int (X 2)), (3, .int (X 3)), (4, .int (X 4))]) hx hb d_M_good_198 rfl hl (by decide) rfl (fun ls hl => ?_)
    have hl : lv_has ls 5 [(1, .int 1), (0, .ref h), (2, .int (X 2)), (3, .int (X 3)), (4, .int (X 4))] := hl
    refine lv_goto (tgt := 216) hx hb d_M_good_199 (by decide) ?_
    exact blk216 rc hrc6 I A (upd X 1 1) _ _ _ hf (lv_sub hl [1, 0, 2, 3, 4] rfl) hP hD hS
  have blk214 : ∀ (rc : Nat → MI → MA → (Nat → Int32) → Option (Int32 × MI × MA)) (hrc6 : ∀ (I : MI) (A : MA) (X : Nat → Int32) (ls : Array Slot) (H : Heap) (locs : List Loc), rc 6 I A X = some (r, I', A') → lv_has ls 5 [(0, .ref h), (1, .int (X 1)), (2, .int (X 2)), (3, .int (X 3))] → va_P (dC, dI) vwCl (mw_W h q g I A) H → va_D B9 (mw_W h q g I A) → va_S B9 s.heap H locs → W p l e (headSpec w_M_good ({ frames := 1, cells := 0, slots := 0, locals := 20 })).room s m ([.ref h] : List Value).toArray below meth c H locs 0 0 (MQ below (va_Qi (fun (r9 : Int32) (_ : Unit) => r9 = r) (fun (_ : Unit) t => va_P (dC, dI) vwCl (mw_W h q g I' A') t.heap ∧ va_K (dC, dI) vwCl (mw_T g) t ∧ va_D B9 (mw_W h q g I' A')) B9) ([.ref h] : List Value).toArray s 0 0 B9) (F0 m 6 ls [])), ∀ (I : MI) (A : MA) (X : Nat → Int32) (ls : Array Slot) (H : Heap) (locs : List Loc), f_M_good_214 rc I A X = some (r, I', A') → lv_has ls 5 [(0, .ref h), (1, .int (X 1)), (2, .int (X 2)), (3, .int (X 3)), (4, .int (X 4))] → va_P (dC, dI) vwCl (mw_W h q g I A) H → va_D B9 (mw_W h q g I A) → va_S B9 s.heap H locs → W p l e (headSpec w_M_good ({ frames := 1, cells := 0, slots := 0, locals := 20 })).room s m ([.ref h] : List Value).toArray below meth c H locs 0 0 (MQ below (va_Qi (fun (r9 : Int32) (_ : Unit) => r9 = r) (fun (_ : Unit) t => va_P (dC, dI) vwCl (mw_W h q g I' A') t.heap ∧ va_K (dC, dI) vwCl (mw_T g) t ∧ va_D B9 (mw_W h q g I' A')) B9) ([.ref h] : List Value).toArray s 0 0 B9) (F0 m 214 ls []) := by
    intro rc hrc6 I A X ls H locs hf hl hP hD hS
    unfold f_M_good_214 at hf
    refine lv_iload_n hx hb d_M_good_214 rfl (lv_at hl 3 rfl) ?_
    obtain ⟨e1, e2, e3⟩ := wk_inj hf
    subst e1
    subst e2
    subst e3
    exact W.iret (v := (X 3)) hx hb hr (fun t ht hW => ⟨⟨(X 3), (), rfl, rfl, by rw [ht]; exact hP, va_K.moved hW.alike hK, hD⟩, hS.F ht⟩) hS.2.2 d_M_good_215
  have blk126 : ∀ (rc : Nat → MI → MA → (Nat → Int32) → Option (Int32 × MI × MA)) (hrc6 : ∀ (I : MI) (A : MA) (X : Nat → Int32) (ls : Array Slot) (H : Heap) (locs : List Loc), rc 6 I A X = some (r, I', A') → lv_has ls 5 [(0, .ref h), (1, .int (X 1)), (2, .int (X 2)), (3, .int (X 3))] → va_P (dC, dI) vwCl (mw_W h q g I A) H → va_D B9 (mw_W h q g I A) → va_S B9 s.heap H locs → W p l e (headSpec w_M_good ({ frames := 1, cells := 0, slots := 0, locals := 20 })).room s m ([.ref h] : List Value).toArray below meth c H locs 0 0 (MQ below (va_Qi (fun (r9 : Int32) (_ : Unit) => r9 = r) (fun (_ : Unit) t => va_P (dC, dI) vwCl (mw_W h q g I' A') t.heap ∧ va_K (dC, dI) vwCl (mw_T g) t ∧ va_D B9 (mw_W h q g I' A')) B9) ([.ref h] : List Value).toArray s 0 0 B9) (F0 m 6 ls [])), ∀ (I : MI) (A : MA) (X : Nat → Int32) (ls : Array Slot) (H : Heap) (locs : List Loc), f_M_good_126 rc I A X = some (r, I', A') → lv_has ls 5 [(0, .ref h), (1, .int (X 1)), (2, .int (X 2)), (3, .int (X 3)), (4, .int (X 4))] → va_P (dC, dI) vwCl (mw_W h q g I A) H → va_D B9 (mw_W h q g I A) → va_S B9 s.heap H locs → W p l e (headSpec w_M_good ({ frames := 1, cells := 0, slots := 0, locals := 20 })).room s m ([.ref h] : List Value).toArray below meth c H locs 0 0 (MQ below (va_Qi (fun (r9 : Int32) (_ : Unit) => r9 = r) (fun (_ : Unit) t => va_P (dC, dI) vwCl (mw_W h q g I' A') t.heap ∧ va_K (dC, dI) vwCl (mw_T g) t ∧ va_D B9 (mw_W h q g I' A')) B9) ([.ref h] : List Value).toArray s 0 0 B9) (F0 m 126 ls []) := by
    intro rc hrc6 I A X ls H locs hf hl hP hD hS
    unfold f_M_good_126 at hf
    refine lv_iload hx hb d_M_good_126 (lv_at hl 4 rfl) ?_
    refine lv_bipush (v := 124) hx hb d_M_good_128 (by decide) ?_
    refine lv_icmp_ne (tgt := 138) hx hb d_M_good_130 (by decide) (fun hc1 => ?_) (fun hc1 => ?_)
    ·
      have hf := wk_iff hc1 hf
      refine lv_iload hx hb d_M_good_138 (lv_at hl 4 rfl) ?_
      refine lv_bipush (v := 91) hx hb d_M_good_140 (by decide) ?_
      refine lv_icmp_eq (tgt := 152) hx hb d_M_good_142 (by decide) (fun hc2 => ?_) (fun hc2 => ?_)
      ·
        have hf := wk_ift hc2 hf
        exact blk152 rc hrc6 I A X _ _ _ hf (lv_sub hl [0, 1, 2, 3, 4] rfl) hP hD hS
      ·
        have hf := wk_iff hc2 hf
        refine lv_iload hx hb d_M_good_145 (lv_at hl 4 rfl) ?_
        refine lv_bipush (v := 92) hx hb d_M_good_147 (by decide) ?_
        refine lv_icmp_ne (tgt := 168) hx hb d_M_good_149 (by decide) (fun hc3 => ?_) (fun hc3 => ?_)
        ·
          have hf := wk_iff hc3 hf
          refine lv_iload hx hb d_M_good_168 (lv_at hl 4 rfl) ?_
          have hPc := hP.sub (ws' := []) [] rfl
          have hDc := hD.sub (ws' := []) [] (by decide) rfl
          have hKc := hK.sub (tys' := []) [] rfl
          have hFc := va_free (wc := []) hD hS hA [] rfl
          cases hg1 : f_M_isPlain  (X 4) with
          | none => rw [hg1] at hf; cases hf
          | some z1 =>
            rw [hg1] at hf
            dsimp only [Option.bind_some] at hf
            refine va_calli (va_runS (As := [.int (X 4)]) (rest := []) ⟨hx, hb, hml, hown, hts⟩ (cm_M_isPlain l dC dI  _  (X 4) z1 hg1) (cwS 1 hts (gd_s lk_132 lk_133 lk_46 lk_131) rfl rfl rfl (by decide +kernel) ⟨Nat.le_of_ble_eq_true rfl, Nat.le_of_ble_eq_true rfl⟩) ⟨fun a U g mk q => by obtain ⟨q0, q1, qP, qK, qD⟩ := q; exact ⟨q0, q1, qP, va_K.moved (u := U) (U := U.calling g mk a) (Vm.Alike.refl U.vm) qK, qD⟩, fun U hU hW => ⟨rfl, by rw [hU], by rw [hU]; exact hPc, va_K.moved hW.alike hKc, hDc.weaken (fun _ _ _ _ => trivial)⟩⟩ rfl rfl hl.1 rfl (lv_room (Nat.le_of_ble_eq_true rfl)) d_M_good_170 ⟨Nat.le_of_ble_eq_true rfl, Nat.le_of_ble_eq_true rfl⟩) hS (fun q _ h => hFc q h) hFc (fun r9 u t H1 locs ht hvm hw hB hz1 hk1 hS => ?_)
            obtain ⟨hP1, hK1, hD1⟩ := hB
            rw [ht] at hP1
            rw [hw]
            obtain ⟨hP, hD⟩ := va_join (wr := (mw_W h q g I A)) (w1 := []) hP hD [] [0, 1, 2, 3, 4, 5, 6, 7, 8, 9, 10, 11, 12, 13, 14, 15, 16, 17, 18, 19, 20] rfl rfl (by decide) (by decide) hk1 hFc hP1 hD1
            generalize H1 = H at hP hS ⊢
            have hP : va_P (dC, dI) vwCl (mw_W h q g I A) H := hP
            have hD : va_D B9 (mw_W h q g I A) := hD
            refine lv_if_ne (tgt := 197) hx hb d_M_good_173 (by decide) (fun hc4 => ?_) (fun hc4 => ?_)
            ·
              have hf := wk_iff hc4 hf
              exact blk197 rc hrc6 I A X _ _ _ hf (lv_sub hl [0, 1, 2, 3, 4] rfl) hP hD hS
            ·
              have hf := wk_ift hc4 hf
              refine lv_iload hx hb d_M_good_176 (lv_at hl 4 rfl) ?_
              refine lv_bipush (v := 46) hx hb d_M_good_178 (by decide) ?_
              refine lv_icmp_eq (tgt := 197) hx hb d_M_good_180 (by decide) (fun hc5 => ?_) (fun hc5 => ?_)
              ·
                have hf := wk_ift hc5 hf
                exact blk197 rc hrc6 I A X _ _ _ hf (lv_sub hl [0, 1, 2, 3, 4] rfl) hP hD hS
              ·
                have hf := wk_iff hc5 hf
                refine lv_iload hx hb d_M_good_183 (lv_at hl 4 rfl) ?_
                refine lv_bipush (v := 94) hx hb d_M_good_185 (by decide) ?_
                refine lv_icmp_eq (tgt := 197) hx hb d_M_good_187 (by decide) (fun hc6 => ?_) (fun hc6 => ?_)
                ·
                  have hf := wk_ift hc6 hf
                  exact blk197 rc hrc6 I A X _ _ _ hf (lv_sub hl [0, 1, 2, 3, 4] rfl) hP hD hS
                ·
                  have hf := wk_iff hc6 hf
                  refine lv_iload hx hb d_M_good_190 (lv_at hl 4 rfl) ?_
                  refine lv_bipush (v := 36) hx hb d_M_good_192 (by decide) ?_
                  refine lv_icmp_ne (tgt := 202) hx hb d_M_good_194 (by decide) (fun hc7 => ?_) (fun hc7 => ?_)
                  ·
                    have hf := wk_iff hc7 hf
                    refine lv_iload hx hb d_M_good_202 (lv_at hl 4 rfl) ?_
                    have hPc := hP.sub (ws' := []) [] rfl
                    have hDc := hD.sub (ws' := []) [] (by decide) rfl
                    have hKc := hK.sub (tys' := []) [] rfl
                    have hFc := va_free (wc := []) hD hS hA [] rfl
                    cases hg2 : f_M_isTimes  (X 4) with
                    | none => rw [hg2] at hf; cases hf
                    | some z2 =>
                      rw [hg2] at hf
                      dsimp only [Option.bind_some] at hf
                      refine va_calli (va_runS (As := [.int (X 4)]) (rest := []) ⟨hx, hb, hml, hown, hts⟩ (cm_M_isTimes l dC dI  _  (X 4) z2 hg2) (cwS 1 hts (gd_s lk_80 lk_81 lk_46 lk_79) rfl rfl rfl (by decide +kernel) ⟨Nat.le_of_ble_eq_true rfl, Nat.le_of_ble_eq_true rfl⟩) ⟨fun a U g mk q => by obtain ⟨q0, q1, qP, qK, qD⟩ := q; exact ⟨q0, q1, qP, va_K.moved (u := U) (U := U.calling g mk a) (Vm.Alike.refl U.vm) qK, qD⟩, fun U hU hW => ⟨rfl, by rw [hU], by rw [hU]; exact hPc, va_K.moved hW.alike hKc, hDc.weaken (fun _ _ _ _ => trivial)⟩⟩ rfl rfl hl.1 rfl (lv_room (Nat.le_of_ble_eq_true rfl)) d_M_good_204 ⟨Nat.le_of_ble_eq_true rfl, Nat.le_of_ble_eq_true rfl⟩) hS (fun q _ h => hFc q h) hFc (fun r9 u t H1 locs ht hvm hw hB hz1 hk1 hS => ?_)
                      obtain ⟨hP1, hK1, hD1⟩ := hB
                      rw [ht] at hP1
                      rw [hw]
                      obtain ⟨hP, hD⟩ := va_join (wr := (mw_W h q g I A)) (w1 := []) hP hD [] [0, 1, 2, 3, 4, 5, 6, 7, 8, 9, 10, 11, 12, 13, 14, 15, 16, 17, 18, 19, 20] rfl rfl (by decide) (by decide) hk1 hFc hP1 hD1
                      generalize H1 = H at hP hS ⊢
                      have hP : va_P (dC, dI) vwCl (mw_W h q g I A) H := hP
                      have hD : va_D B9 (mw_W h q g I A) := hD
                      refine lv_if_eq (tgt := 214) hx hb d_M_good_207 (by decide) (fun hc8 => ?_) (fun hc8 => ?_)
                      ·
                        have hf := wk_ift hc8 hf
                        exact blk214 rc hrc6 I A X _ _ _ hf (lv_sub hl [0, 1, 2, 3, 4] rfl) hP hD hS
                      ·
                        have hf := wk_iff hc8 hf
                        refine lv_iload_n hx hb d_M_good_210 rfl (lv_at hl 1 rfl) ?_
                        refine lv_if_ne (tgt := 216) hx hb d_M_good_211 (by decide) (fun hc9 => ?_) (fun hc9 => ?_)
                        ·
                          have hf := wk_iff hc9 hf
                          exact blk216 rc hrc6 I A X _ _ _ hf (lv_sub hl [0, 1, 2, 3, 4] rfl) hP hD hS
                        ·
                          have hf := wk_ift hc9 hf
                          exact blk214 rc hrc6 I A X _ _ _ hf (lv_sub hl [0, 1, 2, 3, 4] rfl) hP hD hS
                  ·
                    have hf := wk_ift hc7 hf
                    exact blk197 rc hrc6 I A X _ _ _ hf (lv_sub hl [0, 1, 2, 3, 4] rfl) hP hD hS
        ·
          have hf := wk_ift hc3 hf
          exact blk152 rc hrc6 I A X _ _ _ hf (lv_sub hl [0, 1, 2, 3, 4] rfl) hP hD hS
    ·
      have hf := wk_ift hc1 hf
      refine lv_iconst (v := 0) hx hb d_M_good_133 (by decide) ?_
      refine lv_istore_n (lv' := [(1, .int 0), (0, .ref h), (2, .int (X 2)), (3, .int (X 3)), (4, .int (X 4))]) hx hb d_M_good_134 rfl hl (by decide) rfl (fun ls hl => ?_)
      have hl : lv_has ls 5 [(1, .int 0), (0, .ref h), (2, .int (X 2)), (3, .int (X 3)), (4, .int (X 4))] := hl
      refine lv_goto (tgt := 216) hx hb d_M_good_135 (by decide) ?_
      exact blk216 rc hrc6 I A (upd X 1 0) _ _ _ hf (lv_sub hl [1, 0, 2, 3, 4] rfl) hP hD hS
  have blk80 : ∀ (rc : Nat → MI → MA → (Nat → Int32) → Option (Int32 × MI × MA)) (hrc6 : ∀ (I : MI) (A : MA) (X : Nat → Int32) (ls : Array Slot) (H : Heap) (locs : List Loc), rc 6 I A X = some (r, I', A') → lv_has ls 5 [(0, .ref h), (1, .int (X 1)), (2, .int (X 2)), (3, .int (X 3))] → va_P (dC, dI) vwCl (mw_W h q g I A) H → va_D B9 (mw_W h q g I A) → va_S B9 s.heap H locs → W p l e (headSpec w_M_good ({ frames := 1, cells := 0, slots := 0, locals := 20 })).room s m ([.ref h] : List Value).toArray below meth c H locs 0 0 (MQ below (va_Qi (fun (r9 : Int32) (_ : Unit) => r9 = r) (fun (_ : Unit) t => va_P (dC, dI) vwCl (mw_W h q g I' A') t.heap ∧ va_K (dC, dI) vwCl (mw_T g) t ∧ va_D B9 (mw_W h q g I' A')) B9) ([.ref h] : List Value).toArray s 0 0 B9) (F0 m 6 ls [])), ∀ (I : MI) (A : MA) (X : Nat → Int32) (s0 : Int32) (ls : Array Slot) (H : Heap) (locs : List Loc), f_M_good_80 rc I A X s0 = some (r, I', A') → lv_has ls 5 [(0, .ref h), (1, .int (X 1)), (2, .int (X 2)), (3, .int (X 3)), (4, .int (X 4))] → va_P (dC, dI) vwCl (mw_W h q g I A) H → va_D B9 (mw_W h q g I A) → va_S B9 s.heap H locs → W p l e (headSpec w_M_good ({ frames := 1, cells := 0, slots := 0, locals := 20 })).room s m ([.ref h] : List Value).toArray below meth c H locs 0 0 (MQ below (va_Qi (fun (r9 : Int32) (_ : Unit) => r9 = r) (fun (_ : Unit) t => va_P (dC, dI) vwCl (mw_W h q g I' A') t.heap ∧ va_K (dC, dI) vwCl (mw_T g) t ∧ va_D B9 (mw_W h q g I' A')) B9) ([.ref h] : List Value).toArray s 0 0 B9) (F0 m 80 ls [.int s0]) := by
    intro rc hrc6 I A X s0 ls H locs hf hl hP hD hS
    unfold f_M_good_80 at hf
    refine lv_istore_n (lv' := [(1, .int s0), (0, .ref h), (2, .int (X 2)), (3, .int (X 3)), (4, .int (X 4))]) hx hb d_M_good_80 rfl hl (by decide) rfl (fun ls hl => ?_)
    have hl : lv_has ls 5 [(1, .int s0), (0, .ref h), (2, .int (X 2)), (3, .int (X 3)), (4, .int (X 4))] := hl
    refine lv_goto (tgt := 216) hx hb d_M_good_81 (by decide) ?_
    exact blk216 rc hrc6 I A (upd X 1 s0) _ _ _ hf (lv_sub hl [1, 0, 2, 3, 4] rfl) hP hD hS
  have blk68 : ∀ (rc : Nat → MI → MA → (Nat → Int32) → Option (Int32 × MI × MA)) (hrc6 : ∀ (I : MI) (A : MA) (X : Nat → Int32) (ls : Array Slot) (H : Heap) (locs : List Loc), rc 6 I A X = some (r, I', A') → lv_has ls 5 [(0, .ref h), (1, .int (X 1)), (2, .int (X 2)), (3, .int (X 3))] → va_P (dC, dI) vwCl (mw_W h q g I A) H → va_D B9 (mw_W h q g I A) → va_S B9 s.heap H locs → W p l e (headSpec w_M_good ({ frames := 1, cells := 0, slots := 0, locals := 20 })).room s m ([.ref h] : List Value).toArray below meth c H locs 0 0 (MQ below (va_Qi (fun (r9 : Int32) (_ : Unit) => r9 = r) (fun (_ : Unit) t => va_P (dC, dI) vwCl (mw_W h q g I' A') t.heap ∧ va_K (dC, dI) vwCl (mw_T g) t ∧ va_D B9 (mw_W h q g I' A')) B9) ([.ref h] : List Value).toArray s 0 0 B9) (F0 m 6 ls [])), ∀ (I : MI) (A : MA) (X : Nat → Int32) (ls : Array Slot) (H : Heap) (locs : List Loc), f_M_good_68 rc I A X = some (r, I', A') → lv_has ls 5 [(0, .ref h), (1, .int (X 1)), (2, .int (X 2)), (3, .int (X 3)), (4, .int (X 4))] → va_P (dC, dI) vwCl (mw_W h q g I A) H → va_D B9 (mw_W h q g I A) → va_S B9 s.heap H locs → W p l e (headSpec w_M_good ({ frames := 1, cells := 0, slots := 0, locals := 20 })).room s m ([.ref h] : List Value).toArray below meth c H locs 0 0 (MQ below (va_Qi (fun (r9 : Int32) (_ : Unit) => r9 = r) (fun (_ : Unit) t => va_P (dC, dI) vwCl (mw_W h q g I' A') t.heap ∧ va_K (dC, dI) vwCl (mw_T g) t ∧ va_D B9 (mw_W h q g I' A')) B9) ([.ref h] : List Value).toArray s 0 0 B9) (F0 m 68 ls []) := by
    intro rc hrc6 I A X ls H locs hf hl hP hD hS
    unfold f_M_good_68 at hf
    refine lv_iload hx hb d_M_good_68 (lv_at hl 4 rfl) ?_
    refine lv_bipush (v := 93) hx hb d_M_good_70 (by decide) ?_
    refine lv_icmp_ne (tgt := 79) hx hb d_M_good_72 (by decide) (fun hc1 => ?_) (fun hc1 => ?_)
    ·
      have hf := wk_iff hc1 hf
      refine lv_iconst (v := 5) hx hb d_M_good_79 (by decide) ?_
      exact blk80 rc hrc6 I A X 5 _ _ _ hf (lv_sub hl [0, 1, 2, 3, 4] rfl) hP hD hS
    ·
      have hf := wk_ift hc1 hf
      refine lv_iconst (v := 1) hx hb d_M_good_75 (by decide) ?_
      refine lv_goto (tgt := 80) hx hb d_M_good_76 (by decide) ?_
      exact blk80 rc hrc6 I A X 1 _ _ _ hf (lv_sub hl [0, 1, 2, 3, 4] rfl) hP hD hS
  have blk49 : ∀ (rc : Nat → MI → MA → (Nat → Int32) → Option (Int32 × MI × MA)) (hrc6 : ∀ (I : MI) (A : MA) (X : Nat → Int32) (ls : Array Slot) (H : Heap) (locs : List Loc), rc 6 I A X = some (r, I', A') → lv_has ls 5 [(0, .ref h), (1, .int (X 1)), (2, .int (X 2)), (3, .int (X 3))] → va_P (dC, dI) vwCl (mw_W h q g I A) H → va_D B9 (mw_W h q g I A) → va_S B9 s.heap H locs → W p l e (headSpec w_M_good ({ frames := 1, cells := 0, slots := 0, locals := 20 })).room s m ([.ref h] : List Value).toArray below meth c H locs 0 0 (MQ below (va_Qi (fun (r9 : Int32) (_ : Unit) => r9 = r) (fun (_ : Unit) t => va_P (dC, dI) vwCl (mw_W h q g I' A') t.heap ∧ va_K (dC, dI) vwCl (mw_T g) t ∧ va_D B9 (mw_W h q g I' A')) B9) ([.ref h] : List Value).toArray s 0 0 B9) (F0 m 6 ls [])), ∀ (I : MI) (A : MA) (X : Nat → Int32) (ls : Array Slot) (H : Heap) (locs : List Loc), f_M_good_49 rc I A X = some (r, I', A') → lv_has ls 5 [(0, .ref h), (1, .int (X 1)), (2, .int (X 2)), (3, .int (X 3)), (4, .int (X 4))] → va_P (dC, dI) vwCl (mw_W h q g I A) H → va_D B9 (mw_W h q g I A) → va_S B9 s.heap H locs → W p l e (headSpec w_M_good ({ frames := 1, cells := 0, slots := 0, locals := 20 })).room s m ([.ref h] : List Value).toArray below meth c H locs 0 0 (MQ below (va_Qi (fun (r9 : Int32) (_ : Unit) => r9 = r) (fun (_ : Unit) t => va_P (dC, dI) vwCl (mw_W h q g I' A') t.heap ∧ va_K (dC, dI) vwCl (mw_T g) t ∧ va_D B9 (mw_W h q g I' A')) B9) ([.ref h] : List Value).toArray s 0 0 B9) (F0 m 49 ls []) := by
    intro rc hrc6 I A X ls H locs hf hl hP hD hS
    unfold f_M_good_49 at hf
    refine lv_iload_n hx hb d_M_good_49 rfl (lv_at hl 1 rfl) ?_
    refine lv_iconst (v := 2) hx hb d_M_good_50 (by decide) ?_
    refine lv_icmp_le (tgt := 84) hx hb d_M_good_51 (by decide) (fun hc1 => ?_) (fun hc1 => ?_)
    ·
      have hf := wk_ift hc1 hf
      refine lv_iload hx hb d_M_good_84 (lv_at hl 4 rfl) ?_
      refine lv_bipush (v := 40) hx hb d_M_good_86 (by decide) ?_
      refine lv_icmp_ne (tgt := 107) hx hb d_M_good_88 (by decide) (fun hc2 => ?_) (fun hc2 => ?_)
      ·
        have hf := wk_iff hc2 hf
        refine lv_iload hx hb d_M_good_107 (lv_at hl 4 rfl) ?_
        refine lv_bipush (v := 41) hx hb d_M_good_109 (by decide) ?_
        refine lv_icmp_ne (tgt := 126) hx hb d_M_good_111 (by decide) (fun hc3 => ?_) (fun hc3 => ?_)
        ·
          have hf := wk_iff hc3 hf
          exact blk126 rc hrc6 I A X _ _ _ hf (lv_sub hl [0, 1, 2, 3, 4] rfl) hP hD hS
        ·
          have hf := wk_ift hc3 hf
          refine lv_iload_n hx hb d_M_good_114 rfl (lv_at hl 2 rfl) ?_
          refine lv_if_le (tgt := 126) hx hb d_M_good_115 (by decide) (fun hc4 => ?_) (fun hc4 => ?_)
          ·
            have hf := wk_ift hc4 hf
            exact blk126 rc hrc6 I A X _ _ _ hf (lv_sub hl [0, 1, 2, 3, 4] rfl) hP hD hS
          ·
            have hf := wk_iff hc4 hf
            refine lv_iinc (k := 2) (v := ((X 2) + (-1))) (lv' := [(2, .int ((X 2) + (-1))), (0, .ref h), (1, .int (X 1)), (3, .int (X 3)), (4, .int (X 4))]) hx hb d_M_good_118 hl rfl (wk_inc (by decide)) (by decide) rfl (fun ls hl => ?_)
            have hl : lv_has ls 5 [(2, .int ((X 2) + (-1))), (0, .ref h), (1, .int (X 1)), (3, .int (X 3)), (4, .int (X 4))] := hl
            refine lv_iconst (v := 1) hx hb d_M_good_121 (by decide) ?_
            refine lv_istore_n (lv' := [(1, .int 1), (2, .int ((X 2) + (-1))), (0, .ref h), (3, .int (X 3)), (4, .int (X 4))]) hx hb d_M_good_122 rfl hl (by decide) rfl (fun ls hl => ?_)
            have hl : lv_has ls 5 [(1, .int 1), (2, .int ((X 2) + (-1))), (0, .ref h), (3, .int (X 3)), (4, .int (X 4))] := hl
            refine lv_goto (tgt := 216) hx hb d_M_good_123 (by decide) ?_
            exact blk216 rc hrc6 I A (upd (upd X 1 1) 2 ((X 2) + (-1))) _ _ _ hf (lv_sub hl [2, 0, 1, 3, 4] rfl) hP hD hS
      ·
        have hf := wk_ift hc2 hf
        refine lv_iload_n hx hb d_M_good_91 rfl (lv_at hl 2 rfl) ?_
        refine lv_bipush (v := 8) hx hb d_M_good_92 (by decide) ?_
        refine lv_icmp_ne (tgt := 99) hx hb d_M_good_94 (by decide) (fun hc3 => ?_) (fun hc3 => ?_)
        ·
          have hf := wk_iff hc3 hf
          refine lv_iinc (k := 2) (v := ((X 2) + 1)) (lv' := [(2, .int ((X 2) + 1)), (0, .ref h), (1, .int (X 1)), (3, .int (X 3)), (4, .int (X 4))]) hx hb d_M_good_99 hl rfl (wk_inc (by decide)) (by decide) rfl (fun ls hl => ?_)
          have hl : lv_has ls 5 [(2, .int ((X 2) + 1)), (0, .ref h), (1, .int (X 1)), (3, .int (X 3)), (4, .int (X 4))] := hl
          refine lv_iconst (v := 0) hx hb d_M_good_102 (by decide) ?_
          refine lv_istore_n (lv' := [(1, .int 0), (2, .int ((X 2) + 1)), (0, .ref h), (3, .int (X 3)), (4, .int (X 4))]) hx hb d_M_good_103 rfl hl (by decide) rfl (fun ls hl => ?_)
          have hl : lv_has ls 5 [(1, .int 0), (2, .int ((X 2) + 1)), (0, .ref h), (3, .int (X 3)), (4, .int (X 4))] := hl
          refine lv_goto (tgt := 216) hx hb d_M_good_104 (by decide) ?_
          exact blk216 rc hrc6 I A (upd (upd X 1 0) 2 ((X 2) + 1)) _ _ _ hf (lv_sub hl [2, 0, 1, 3, 4] rfl) hP hD hS
        ·
          have hf := wk_ift hc3 hf
          refine lv_iload_n hx hb d_M_good_97 rfl (lv_at hl 3 rfl) ?_
          obtain ⟨e1, e2, e3⟩ := wk_inj hf
          subst e1
          subst e2
          subst e3
          exact W.iret (v := (X 3)) hx hb hr (fun t ht hW => ⟨⟨(X 3), (), rfl, rfl, by rw [ht]; exact hP, va_K.moved hW.alike hK, hD⟩, hS.F ht⟩) hS.2.2 d_M_good_98
    ·
      have hf := wk_iff hc1 hf
      refine lv_iload hx hb d_M_good_54 (lv_at hl 4 rfl) ?_
      refine lv_bipush (v := 93) hx hb d_M_good_56 (by decide) ?_
      refine lv_icmp_ne (tgt := 68) hx hb d_M_good_58 (by decide) (fun hc2 => ?_) (fun hc2 => ?_)
      ·
        have hf := wk_iff hc2 hf
        exact blk68 rc hrc6 I A X _ _ _ hf (lv_sub hl [0, 1, 2, 3, 4] rfl) hP hD hS
      ·
        have hf := wk_ift hc2 hf
        refine lv_iload_n hx hb d_M_good_61 rfl (lv_at hl 1 rfl) ?_
        refine lv_iconst (v := 5) hx hb d_M_good_62 (by decide) ?_
        refine lv_icmp_ge (tgt := 68) hx hb d_M_good_63 (by decide) (fun hc3 => ?_) (fun hc3 => ?_)
        ·
          have hf := wk_ift hc3 hf
          exact blk68 rc hrc6 I A X _ _ _ hf (lv_sub hl [0, 1, 2, 3, 4] rfl) hP hD hS
        ·
          have hf := wk_iff hc3 hf
          refine lv_iload_n hx hb d_M_good_66 rfl (lv_at hl 3 rfl) ?_
          obtain ⟨e1, e2, e3⟩ := wk_inj hf
          subst e1
          subst e2
          subst e3
          exact W.iret (v := (X 3)) hx hb hr (fun t ht hW => ⟨⟨(X 3), (), rfl, rfl, by rw [ht]; exact hP, va_K.moved hW.alike hK, hD⟩, hS.F ht⟩) hS.2.2 d_M_good_67
  have stp6 : ∀ (rc : Nat → MI → MA → (Nat → Int32) → Option (Int32 × MI × MA)) (hrc6 : ∀ (I : MI) (A : MA) (X : Nat → Int32) (ls : Array Slot) (H : Heap) (locs : List Loc), rc 6 I A X = some (r, I', A') → lv_has ls 5 [(0, .ref h), (1, .int (X 1)), (2, .int (X 2)), (3, .int (X 3))] → va_P (dC, dI) vwCl (mw_W h q g I A) H → va_D B9 (mw_W h q g I A) → va_S B9 s.heap H locs → W p l e (headSpec w_M_good ({ frames := 1, cells := 0, slots := 0, locals := 20 })).room s m ([.ref h] : List Value).toArray below meth c H locs 0 0 (MQ below (va_Qi (fun (r9 : Int32) (_ : Unit) => r9 = r) (fun (_ : Unit) t => va_P (dC, dI) vwCl (mw_W h q g I' A') t.heap ∧ va_K (dC, dI) vwCl (mw_T g) t ∧ va_D B9 (mw_W h q g I' A')) B9) ([.ref h] : List Value).toArray s 0 0 B9) (F0 m 6 ls [])), ∀ (I : MI) (A : MA) (X : Nat → Int32) (ls : Array Slot) (H : Heap) (locs : List Loc), f_M_good_6 rc I A X = some (r, I', A') → lv_has ls 5 [(0, .ref h), (1, .int (X 1)), (2, .int (X 2)), (3, .int (X 3))] → va_P (dC, dI) vwCl (mw_W h q g I A) H → va_D B9 (mw_W h q g I A) → va_S B9 s.heap H locs → W p l e (headSpec w_M_good ({ frames := 1, cells := 0, slots := 0, locals := 20 })).room s m ([.ref h] : List Value).toArray below meth c H locs 0 0 (MQ below (va_Qi (fun (r9 : Int32) (_ : Unit) => r9 = r) (fun (_ : Unit) t => va_P (dC, dI) vwCl (mw_W h q g I' A') t.heap ∧ va_K (dC, dI) vwCl (mw_T g) t ∧ va_D B9 (mw_W h q g I' A')) B9) ([.ref h] : List Value).toArray s 0 0 B9) (F0 m 6 ls []) := by
    intro rc hrc6 I A X ls H locs hf hl hP hD hS
    unfold f_M_good_6 at hf
    refine lv_iload_n hx hb d_M_good_6 rfl (lv_at hl 3 rfl) ?_
    refine lv_aload_n hx hb d_M_good_7 rfl (lv_at hl 0 rfl) ?_
    refine va_get (D := (dC, dI)) (ci := 4) (v := .int (I 1)) (C := R_M) (T := F_M) (N := 38) hx hb hts (fun w h => List.mem_cons_of_mem _ (in_M w h)) hown hK hP 0 rfl rfl 1 (by decide) (hts _ (List.mem_cons_of_mem _ lk_41)) (fun _ h9 => h9) rfl d_M_good_8 ?_
    refine lv_icmp_ge (tgt := 222) hx hb d_M_good_11 (by decide) (fun hc1 => ?_) (fun hc1 => ?_)
    ·
      have hf := wk_ift hc1 hf
      refine lv_iload_n hx hb d_M_good_222 rfl (lv_at hl 1 rfl) ?_
      refine lv_iconst (v := 1) hx hb d_M_good_223 (by decide) ?_
      refine lv_icmp_gt (tgt := 231) hx hb d_M_good_224 (by decide) (fun hc2 => ?_) (fun hc2 => ?_)
      ·
        have hf := wk_ift hc2 hf
        exact blk231 rc hrc6 I A X _ _ _ hf (lv_sub hl [0, 1, 2, 3] rfl) hP hD hS
      ·
        have hf := wk_iff hc2 hf
        refine lv_iload_n hx hb d_M_good_227 rfl (lv_at hl 2 rfl) ?_
        refine lv_if_le (tgt := 240) hx hb d_M_good_228 (by decide) (fun hc3 => ?_) (fun hc3 => ?_)
        ·
          have hf := wk_ift hc3 hf
          refine lv_aload_n hx hb d_M_good_240 rfl (lv_at hl 0 rfl) ?_
          refine va_get (D := (dC, dI)) (ci := 4) (v := .int (I 1)) (C := R_M) (T := F_M) (N := 38) hx hb hts (fun w h => List.mem_cons_of_mem _ (in_M w h)) hown hK hP 0 rfl rfl 1 (by decide) (hts _ (List.mem_cons_of_mem _ lk_41)) (fun _ h9 => h9) rfl d_M_good_241 ?_
          exact blk244 rc hrc6 I A X (I 1) _ _ _ hf (lv_sub hl [0, 1, 2, 3] rfl) hP hD hS
        ·
          have hf := wk_iff hc3 hf
          exact blk231 rc hrc6 I A X _ _ _ hf (lv_sub hl [0, 1, 2, 3] rfl) hP hD hS
    ·
      have hf := wk_iff hc1 hf
      refine lv_aload_n hx hb d_M_good_14 rfl (lv_at hl 0 rfl) ?_
      refine va_get (D := (dC, dI)) (ci := 4) (v := .ref (q 2)) (C := R_M) (T := F_M) (N := 38) hx hb hts (fun w h => List.mem_cons_of_mem _ (in_M w h)) hown hK hP 0 rfl rfl 2 (by decide) (hts _ (List.mem_cons_of_mem _ lk_42)) (fun _ h9 => h9) rfl d_M_good_15 ?_
      refine lv_iload_n hx hb d_M_good_18 rfl (lv_at hl 3 rfl) ?_
      obtain ⟨hc2, hf⟩ := wk_if hf
      refine va_cald hx hb hK hP 1 0 rfl rfl (wk_inb_ok hc2) d_M_good_19 ?_
      refine lv_istore (lv' := [(4, .int ((A 2) ((X 3)).toNatClampNeg)), (0, .ref h), (1, .int (X 1)), (2, .int (X 2)), (3, .int (X 3))]) hx hb d_M_good_20 hl (by decide) rfl (fun ls hl => ?_)
      have hl : lv_has ls 5 [(4, .int ((A 2) ((X 3)).toNatClampNeg)), (0, .ref h), (1, .int (X 1)), (2, .int (X 2)), (3, .int (X 3))] := hl
      refine lv_iload_n hx hb d_M_good_22 rfl (lv_at hl 2 rfl) ?_
      refine lv_iconst (v := 2) hx hb d_M_good_23 (by decide) ?_
      refine lv_icmp_ne (tgt := 32) hx hb d_M_good_24 (by decide) (fun hc3 => ?_) (fun hc3 => ?_)
      ·
        have hf := wk_iff hc3 hf
        refine lv_iload_n hx hb d_M_good_32 rfl (lv_at hl 2 rfl) ?_
        refine lv_iconst (v := 3) hx hb d_M_good_33 (by decide) ?_
        refine lv_icmp_ne (tgt := 49) hx hb d_M_good_34 (by decide) (fun hc4 => ?_) (fun hc4 => ?_)
        ·
          have hf := wk_iff hc4 hf
          exact blk49 rc hrc6 I A (upd X 4 ((A 2) ((X 3)).toNatClampNeg)) _ _ _ hf (lv_sub hl [1, 2, 3, 4, 0] rfl) hP hD hS
        ·
          have hf := wk_ift hc4 hf
          refine lv_iload hx hb d_M_good_37 (lv_at hl 0 rfl) ?_
          refine lv_bipush (v := 94) hx hb d_M_good_39 (by decide) ?_
          refine lv_icmp_ne (tgt := 49) hx hb d_M_good_41 (by decide) (fun hc5 => ?_) (fun hc5 => ?_)
          ·
            have hf := wk_iff hc5 hf
            exact blk49 rc hrc6 I A (upd X 4 ((A 2) ((X 3)).toNatClampNeg)) _ _ _ hf (lv_sub hl [1, 2, 3, 4, 0] rfl) hP hD hS
          ·
            have hf := wk_ift hc5 hf
            refine lv_iconst (v := 4) hx hb d_M_good_44 (by decide) ?_
            refine lv_istore_n (lv' := [(1, .int 4), (4, .int ((A 2) ((X 3)).toNatClampNeg)), (0, .ref h), (2, .int (X 2)), (3, .int (X 3))]) hx hb d_M_good_45 rfl hl (by decide) rfl (fun ls hl => ?_)
            have hl : lv_has ls 5 [(1, .int 4), (4, .int ((A 2) ((X 3)).toNatClampNeg)), (0, .ref h), (2, .int (X 2)), (3, .int (X 3))] := hl
            refine lv_goto (tgt := 216) hx hb d_M_good_46 (by decide) ?_
            exact blk216 rc hrc6 I A (upd (upd X 1 4) 4 ((A 2) ((X 3)).toNatClampNeg)) _ _ _ hf (lv_sub hl [2, 0, 3, 4, 1] rfl) hP hD hS
      ·
        have hf := wk_ift hc3 hf
        refine lv_iconst (v := 1) hx hb d_M_good_27 (by decide) ?_
        refine lv_istore_n (lv' := [(1, .int 1), (4, .int ((A 2) ((X 3)).toNatClampNeg)), (0, .ref h), (2, .int (X 2)), (3, .int (X 3))]) hx hb d_M_good_28 rfl hl (by decide) rfl (fun ls hl => ?_)
        have hl : lv_has ls 5 [(1, .int 1), (4, .int ((A 2) ((X 3)).toNatClampNeg)), (0, .ref h), (2, .int (X 2)), (3, .int (X 3))] := hl
        refine lv_goto (tgt := 216) hx hb d_M_good_29 (by decide) ?_
        exact blk216 rc hrc6 I A (upd (upd X 1 1) 4 ((A 2) ((X 3)).toNatClampNeg)) _ _ _ hf (lv_sub hl [2, 0, 3, 4, 1] rfl) hP hD hS
  have key : ∀ n : Nat, (∀ (I : MI) (A : MA) (X : Nat → Int32) (ls : Array Slot) (H : Heap) (locs : List Loc), f_M_good_go n 6 I A X = some (r, I', A') → lv_has ls 5 [(0, .ref h), (1, .int (X 1)), (2, .int (X 2)), (3, .int (X 3))] → va_P (dC, dI) vwCl (mw_W h q g I A) H → va_D B9 (mw_W h q g I A) → va_S B9 s.heap H locs → W p l e (headSpec w_M_good ({ frames := 1, cells := 0, slots := 0, locals := 20 })).room s m ([.ref h] : List Value).toArray below meth c H locs 0 0 (MQ below (va_Qi (fun (r9 : Int32) (_ : Unit) => r9 = r) (fun (_ : Unit) t => va_P (dC, dI) vwCl (mw_W h q g I' A') t.heap ∧ va_K (dC, dI) vwCl (mw_T g) t ∧ va_D B9 (mw_W h q g I' A')) B9) ([.ref h] : List Value).toArray s 0 0 B9) (F0 m 6 ls [])) := by
    intro n
    induction n with
    | zero => exact fun I A X ls H locs hf => (by cases hf)
    | succ n ih =>
      have ih6 := ih
      exact stp6 (f_M_good_go n) ih6
  unfold f_M_good f_M_good_e at hf
  have hrc6 := key wk_FUEL
  refine lv_iconst (v := 0) hx hb d_M_good_0 (by decide) ?_
  refine lv_istore_n (lv' := [(1, .int 0), (0, .ref h)]) hx hb d_M_good_1 rfl hl (by decide) rfl (fun ls hl => ?_)
  have hl : lv_has ls 5 [(1, .int 0), (0, .ref h)] := hl
  refine lv_iconst (v := 0) hx hb d_M_good_2 (by decide) ?_
  refine lv_istore_n (lv' := [(2, .int 0), (1, .int 0), (0, .ref h)]) hx hb d_M_good_3 rfl hl (by decide) rfl (fun ls hl => ?_)
  have hl : lv_has ls 5 [(2, .int 0), (1, .int 0), (0, .ref h)] := hl
  refine lv_iconst (v := 0) hx hb d_M_good_4 (by decide) ?_
  refine lv_istore_n (lv' := [(3, .int 0), (2, .int 0), (1, .int 0), (0, .ref h)]) hx hb d_M_good_5 rfl hl (by decide) rfl (fun ls hl => ?_)
  have hl : lv_has ls 5 [(3, .int 0), (2, .int 0), (1, .int 0), (0, .ref h)] := hl
  exact hrc6 I A (upd (upd (upd (fun _ => 0) 1 0) 2 0) 3 0) _ _ _ hf (lv_sub hl [3, 2, 1, 0] rfl) hP hD hS

-- 16.mcon05
set_option maxHeartbeats 8000000 in
set_option maxRecDepth 100000 in
theorem cm_M_compile (l : Launch) (dC : Nat → ClassId) (dI : Nat → Nat → Nat) (h : Nat) (q : Nat → Nat) (g : Nat → ClassId) (sz : Nat) (I : MI) (A : MA) (r : Int32) (I' : MI) (A' : MA) (hf : f_M_compile I A  = some (r, I', A')) : Met l y_M_compile w_M_compile ({ frames := 4, cells := 0, slots := 0, locals := 94 }) (va_Pc [.ref h] (fun U => U.heap.size = sz ∧ va_P (dC, dI) vwCl (mw_W h q g I A) U.heap ∧ va_K (dC, dI) vwCl (mw_T g) U ∧ va_D (fun _ => True) (mw_W h q g I A))) (va_Qv (fun (u : Unit) => u = u) (fun (_ : Unit) t => va_P (dC, dI) vwCl (mw_W h q g I' A') t.heap ∧ va_K (dC, dI) vwCl (mw_T g) t ∧ va_D (va_A (mw_W h q g I A) sz) (mw_W h q g I' A')) (va_A (mw_W h q g I A) sz)) 0 0 (va_A (mw_W h q g I A) sz) := by
  refine Met.ofW (cc := prog_6_method_36_code) (maxL := 4) (ret := none) (by decide) rfl ?_
  intro p e s m args below meth c s₁ B hml hv
  obtain ⟨rfl, hsz, hP, hK, hD0⟩ := hv
  have hx := B.exec
  have hb := B.bytes
  have hr := B.returns
  have hts := atoms_spec (ws := w_M_compile) B.pre
  have hown : s.vm.findClass R_M = some m.cls := findClass_of_methodNamed B.named
  have hlocks := B.notSynchronized
  subst hsz
  have hD := hD0.self (sz := s.heap.size)
  generalize hAe : va_A (mw_W h q g I A) s.heap.size = B9 at hD ⊢
  have hA : ∀ q : Nat, s.heap.size ≤ q → B9 q := fun q h => by rw [← hAe]; exact Or.inr h
  clear hAe
  have hS : va_S B9 s.heap s.heap [] := va_S.rf
  have hl := lv_entry ([.ref h]) (n := 4) (Nat.le_of_ble_eq_true rfl)
  rw [lg_entry_eq]
  generalize (lg_sl ([.ref h]) ++ List.replicate (4 - (lg_sl ([.ref h])).length) Slot.unset).toArray = ls at hl ⊢
  have hl : lv_has ls 4 [(0, .ref h)] := hl
  have blk52 : ∀ (rc : Nat → MI → MA → (Nat → Int32) → Option (Int32 × MI × MA)) (hrc70 : ∀ (I : MI) (A : MA) (X : Nat → Int32) (ls : Array Slot) (H : Heap) (locs : List Loc), rc 70 I A X = some (r, I', A') → lv_has ls 4 [(0, .ref h), (1, .int (X 1)), (2, .int (X 2)), (3, .int (X 3))] → va_P (dC, dI) vwCl (mw_W h q g I A) H → va_D B9 (mw_W h q g I A) → va_S B9 s.heap H locs → W p l e (headSpec w_M_compile ({ frames := 4, cells := 0, slots := 0, locals := 94 })).room s m ([.ref h] : List Value).toArray below meth c H locs 0 0 (MQ below (va_Qv (fun (u : Unit) => u = u) (fun (_ : Unit) t => va_P (dC, dI) vwCl (mw_W h q g I' A') t.heap ∧ va_K (dC, dI) vwCl (mw_T g) t ∧ va_D B9 (mw_W h q g I' A')) B9) ([.ref h] : List Value).toArray s 0 0 B9) (F0 m 70 ls [])) (hrc122 : ∀ (I : MI) (A : MA) (X : Nat → Int32) (ls : Array Slot) (H : Heap) (locs : List Loc), rc 122 I A X = some (r, I', A') → lv_has ls 4 [(0, .ref h), (1, .int (X 1)), (2, .int (X 2)), (3, .int (X 3))] → va_P (dC, dI) vwCl (mw_W h q g I A) H → va_D B9 (mw_W h q g I A) → va_S B9 s.heap H locs → W p l e (headSpec w_M_compile ({ frames := 4, cells := 0, slots := 0, locals := 94 })).room s m ([.ref h] : List Value).toArray below meth c H locs 0 0 (MQ below (va_Qv (fun (u : Unit) => u = u) (fun (_ : Unit) t => va_P (dC, dI) vwCl (mw_W h q g I' A') t.heap ∧ va_K (dC, dI) vwCl (mw_T g) t ∧ va_D B9 (mw_W h q g I' A')) B9) ([.ref h] : List Value).toArray s 0 0 B9) (F0 m 122 ls [])), ∀ (I : MI) (A : MA) (X : Nat → Int32) (s0 : Int32) (ls : Array Slot) (H : Heap) (locs : List Loc), f_M_compile_52 rc I A X s0 = some (r, I', A') → lv_has ls 4 [(0, .ref h), (1, .int (X 1)), (2, .int (X 2))] → va_P (dC, dI) vwCl (mw_W h q g I A) H → va_D B9 (mw_W h q g I A) → va_S B9 s.heap H locs → W p l e (headSpec w_M_compile ({ frames := 4, cells := 0, slots := 0, locals := 94 })).room s m ([.ref h] : List Value).toArray below meth c H locs 0 0 (MQ below (va_Qv (fun (u : Unit) => u = u) (fun (_ : Unit) t => va_P (dC, dI) vwCl (mw_W h q g I' A') t.heap ∧ va_K (dC, dI) vwCl (mw_T g) t ∧ va_D B9 (mw_W h q g I' A')) B9) ([.ref h] : List Value).toArray s 0 0 B9) (F0 m 52 ls [.int s0, .ref h]) := by
    intro rc hrc70 hrc122 I A X s0 ls H locs hf hl hP hD hS
    unfold f_M_compile_52 at hf
    refine va_put (D := (dC, dI)) (ci := 4) (v := .int s0) (ty := .int) (C := R_M) (T := F_M) (N := 38) hx hb hts (fun w h => List.mem_cons_of_mem _ (in_M w h)) t_M tk_M n_M hown hK hP hD hS 0 rfl rfl 14 (by decide) (hts _ (List.mem_cons_of_mem _ lk_138)) (fun _ h9 => h9) rfl (by decide +kernel) rfl rfl (Nat.le_of_ble_eq_true rfl) d_M_compile_52 (fun H locs hP hD hS => ?_)
    obtain ⟨I1, hI1, hf⟩ := wk_letE hf
    have hP : va_P (dC, dI) vwCl (mw_W h q g I1 A) H := by rw [hI1]; exact hP
    have hD : va_D B9 (mw_W h q g I1 A) := by rw [hI1]; exact hD
    clear hI1
    refine lv_iload_n hx hb d_M_compile_55 rfl (lv_at hl 2 rfl) ?_
    refine lv_if_ne (tgt := 60) hx hb d_M_compile_56 (by decide) (fun hc1 => ?_) (fun hc1 => ?_)
    ·
      have hf := wk_iff hc1 hf
      refine lv_aload_n hx hb d_M_compile_60 rfl (lv_at hl 0 rfl) ?_
      refine lv_aload_n hx hb d_M_compile_61 rfl (lv_at hl 0 rfl) ?_
      refine va_get (D := (dC, dI)) (ci := 4) (v := .int (I1 1)) (C := R_M) (T := F_M) (N := 38) hx hb hts (fun w h => List.mem_cons_of_mem _ (in_M w h)) hown hK hP 0 rfl rfl 1 (by decide) (hts _ (List.mem_cons_of_mem _ lk_41)) (fun _ h9 => h9) rfl d_M_compile_62 ?_
      refine va_put (D := (dC, dI)) (ci := 4) (v := .int (I1 1)) (ty := .int) (C := R_M) (T := F_M) (N := 38) hx hb hts (fun w h => List.mem_cons_of_mem _ (in_M w h)) t_M tk_M n_M hown hK hP hD hS 0 rfl rfl 15 (by decide) (hts _ (List.mem_cons_of_mem _ lk_139)) (fun _ h9 => h9) rfl (by decide +kernel) rfl rfl (Nat.le_of_ble_eq_true rfl) d_M_compile_65 (fun H locs hP hD hS => ?_)
      obtain ⟨I2, hI2, hf⟩ := wk_letE hf
      have hP : va_P (dC, dI) vwCl (mw_W h q g I2 A) H := by rw [hI2]; exact hP
      have hD : va_D B9 (mw_W h q g I2 A) := by rw [hI2]; exact hD
      clear hI2
      refine lv_iconst (v := 0) hx hb d_M_compile_68 (by decide) ?_
      refine lv_istore_n (lv' := [(3, .int 0), (0, .ref h), (1, .int (X 1)), (2, .int (X 2))]) hx hb d_M_compile_69 rfl hl (by decide) rfl (fun ls hl => ?_)
      have hl : lv_has ls 4 [(3, .int 0), (0, .ref h), (1, .int (X 1)), (2, .int (X 2))] := hl
      exact hrc70 I2 A (upd X 3 0) _ _ _ hf (lv_sub hl [1, 2, 3, 0] rfl) hP hD hS
    ·
      have hf := wk_ift hc1 hf
      obtain ⟨e1, e2, e3⟩ := wk_inj hf
      subst e1
      subst e2
      subst e3
      exact W.vret hx hb hr (fun t ht hW => ⟨⟨(), rfl, rfl, by rw [ht]; exact hP, va_K.moved hW.alike hK, hD⟩, hS.F ht⟩) hS.2.2 d_M_compile_59
  have blk29 : ∀ (rc : Nat → MI → MA → (Nat → Int32) → Option (Int32 × MI × MA)) (hrc70 : ∀ (I : MI) (A : MA) (X : Nat → Int32) (ls : Array Slot) (H : Heap) (locs : List Loc), rc 70 I A X = some (r, I', A') → lv_has ls 4 [(0, .ref h), (1, .int (X 1)), (2, .int (X 2)), (3, .int (X 3))] → va_P (dC, dI) vwCl (mw_W h q g I A) H → va_D B9 (mw_W h q g I A) → va_S B9 s.heap H locs → W p l e (headSpec w_M_compile ({ frames := 4, cells := 0, slots := 0, locals := 94 })).room s m ([.ref h] : List Value).toArray below meth c H locs 0 0 (MQ below (va_Qv (fun (u : Unit) => u = u) (fun (_ : Unit) t => va_P (dC, dI) vwCl (mw_W h q g I' A') t.heap ∧ va_K (dC, dI) vwCl (mw_T g) t ∧ va_D B9 (mw_W h q g I' A')) B9) ([.ref h] : List Value).toArray s 0 0 B9) (F0 m 70 ls [])) (hrc122 : ∀ (I : MI) (A : MA) (X : Nat → Int32) (ls : Array Slot) (H : Heap) (locs : List Loc), rc 122 I A X = some (r, I', A') → lv_has ls 4 [(0, .ref h), (1, .int (X 1)), (2, .int (X 2)), (3, .int (X 3))] → va_P (dC, dI) vwCl (mw_W h q g I A) H → va_D B9 (mw_W h q g I A) → va_S B9 s.heap H locs → W p l e (headSpec w_M_compile ({ frames := 4, cells := 0, slots := 0, locals := 94 })).room s m ([.ref h] : List Value).toArray below meth c H locs 0 0 (MQ below (va_Qv (fun (u : Unit) => u = u) (fun (_ : Unit) t => va_P (dC, dI) vwCl (mw_W h q g I' A') t.heap ∧ va_K (dC, dI) vwCl (mw_T g) t ∧ va_D B9 (mw_W h q g I' A')) B9) ([.ref h] : List Value).toArray s 0 0 B9) (F0 m 122 ls [])), ∀ (I : MI) (A : MA) (X : Nat → Int32) (s0 : Int32) (ls : Array Slot) (H : Heap) (locs : List Loc), f_M_compile_29 rc I A X s0 = some (r, I', A') → lv_has ls 4 [(0, .ref h), (1, .int (X 1)), (2, .int (X 2))] → va_P (dC, dI) vwCl (mw_W h q g I A) H → va_D B9 (mw_W h q g I A) → va_S B9 s.heap H locs → W p l e (headSpec w_M_compile ({ frames := 4, cells := 0, slots := 0, locals := 94 })).room s m ([.ref h] : List Value).toArray below meth c H locs 0 0 (MQ below (va_Qv (fun (u : Unit) => u = u) (fun (_ : Unit) t => va_P (dC, dI) vwCl (mw_W h q g I' A') t.heap ∧ va_K (dC, dI) vwCl (mw_T g) t ∧ va_D B9 (mw_W h q g I' A')) B9) ([.ref h] : List Value).toArray s 0 0 B9) (F0 m 29 ls [.int s0, .ref h]) := by
    intro rc hrc70 hrc122 I A X s0 ls H locs hf hl hP hD hS
    unfold f_M_compile_29 at hf
    refine va_put (D := (dC, dI)) (ci := 4) (v := .int s0) (ty := .int) (C := R_M) (T := F_M) (N := 38) hx hb hts (fun w h => List.mem_cons_of_mem _ (in_M w h)) t_M tk_M n_M hown hK hP hD hS 0 rfl rfl 0 (by decide) (hts _ (List.mem_cons_of_mem _ lk_60)) (fun _ h9 => h9) rfl (by decide +kernel) rfl rfl (Nat.le_of_ble_eq_true rfl) d_M_compile_29 (fun H locs hP hD hS => ?_)
    obtain ⟨I1, hI1, hf⟩ := wk_letE hf
    have hP : va_P (dC, dI) vwCl (mw_W h q g I1 A) H := by rw [hI1]; exact hP
    have hD : va_D B9 (mw_W h q g I1 A) := by rw [hI1]; exact hD
    clear hI1
    refine lv_aload_n hx hb d_M_compile_32 rfl (lv_at hl 0 rfl) ?_
    refine lv_iload_n hx hb d_M_compile_33 rfl (lv_at hl 2 rfl) ?_
    refine lv_if_eq (tgt := 41) hx hb d_M_compile_34 (by decide) (fun hc1 => ?_) (fun hc1 => ?_)
    ·
      have hf := wk_ift hc1 hf
      refine lv_iload_n hx hb d_M_compile_41 rfl (lv_at hl 1 rfl) ?_
      refine lv_if_ge (tgt := 51) hx hb d_M_compile_42 (by decide) (fun hc2 => ?_) (fun hc2 => ?_)
      ·
        have hf := wk_ift hc2 hf
        refine lv_iload_n hx hb d_M_compile_51 rfl (lv_at hl 1 rfl) ?_
        exact blk52 rc hrc70 hrc122 I1 A X (X 1) _ _ _ hf (lv_sub hl [0, 1, 2] rfl) hP hD hS
      ·
        have hf := wk_iff hc2 hf
        refine lv_iconst (v := (-1)) hx hb d_M_compile_45 (by decide) ?_
        refine lv_iload_n hx hb d_M_compile_46 rfl (lv_at hl 1 rfl) ?_
        refine lv_isub hx hb d_M_compile_47 ?_
        refine lv_goto (tgt := 52) hx hb d_M_compile_48 (by decide) ?_
        exact blk52 rc hrc70 hrc122 I1 A X ((-1) - (X 1)) _ _ _ hf (lv_sub hl [0, 1, 2] rfl) hP hD hS
    ·
      have hf := wk_iff hc1 hf
      refine lv_iconst (v := (-1)) hx hb d_M_compile_37 (by decide) ?_
      refine lv_goto (tgt := 52) hx hb d_M_compile_38 (by decide) ?_
      exact blk52 rc hrc70 hrc122 I1 A X (-1) _ _ _ hf (lv_sub hl [0, 1, 2] rfl) hP hD hS
  have blk18 : ∀ (rc : Nat → MI → MA → (Nat → Int32) → Option (Int32 × MI × MA)) (hrc70 : ∀ (I : MI) (A : MA) (X : Nat → Int32) (ls : Array Slot) (H : Heap) (locs : List Loc), rc 70 I A X = some (r, I', A') → lv_has ls 4 [(0, .ref h), (1, .int (X 1)), (2, .int (X 2)), (3, .int (X 3))] → va_P (dC, dI) vwCl (mw_W h q g I A) H → va_D B9 (mw_W h q g I A) → va_S B9 s.heap H locs → W p l e (headSpec w_M_compile ({ frames := 4, cells := 0, slots := 0, locals := 94 })).room s m ([.ref h] : List Value).toArray below meth c H locs 0 0 (MQ below (va_Qv (fun (u : Unit) => u = u) (fun (_ : Unit) t => va_P (dC, dI) vwCl (mw_W h q g I' A') t.heap ∧ va_K (dC, dI) vwCl (mw_T g) t ∧ va_D B9 (mw_W h q g I' A')) B9) ([.ref h] : List Value).toArray s 0 0 B9) (F0 m 70 ls [])) (hrc122 : ∀ (I : MI) (A : MA) (X : Nat → Int32) (ls : Array Slot) (H : Heap) (locs : List Loc), rc 122 I A X = some (r, I', A') → lv_has ls 4 [(0, .ref h), (1, .int (X 1)), (2, .int (X 2)), (3, .int (X 3))] → va_P (dC, dI) vwCl (mw_W h q g I A) H → va_D B9 (mw_W h q g I A) → va_S B9 s.heap H locs → W p l e (headSpec w_M_compile ({ frames := 4, cells := 0, slots := 0, locals := 94 })).room s m ([.ref h] : List Value).toArray below meth c H locs 0 0 (MQ below (va_Qv (fun (u : Unit) => u = u) (fun (_ : Unit) t => va_P (dC, dI) vwCl (mw_W h q g I' A') t.heap ∧ va_K (dC, dI) vwCl (mw_T g) t ∧ va_D B9 (mw_W h q g I' A')) B9) ([.ref h] : List Value).toArray s 0 0 B9) (F0 m 122 ls [])), ∀ (I : MI) (A : MA) (X : Nat → Int32) (s0 : Int32) (ls : Array Slot) (H : Heap) (locs : List Loc), f_M_compile_18 rc I A X s0 = some (r, I', A') → lv_has ls 4 [(0, .ref h), (1, .int (X 1))] → va_P (dC, dI) vwCl (mw_W h q g I A) H → va_D B9 (mw_W h q g I A) → va_S B9 s.heap H locs → W p l e (headSpec w_M_compile ({ frames := 4, cells := 0, slots := 0, locals := 94 })).room s m ([.ref h] : List Value).toArray below meth c H locs 0 0 (MQ below (va_Qv (fun (u : Unit) => u = u) (fun (_ : Unit) t => va_P (dC, dI) vwCl (mw_W h q g I' A') t.heap ∧ va_K (dC, dI) vwCl (mw_T g) t ∧ va_D B9 (mw_W h q g I' A')) B9) ([.ref h] : List Value).toArray s 0 0 B9) (F0 m 18 ls [.int s0]) := by
    intro rc hrc70 hrc122 I A X s0 ls H locs hf hl hP hD hS
    unfold f_M_compile_18 at hf
    refine lv_istore_n (lv' := [(2, .int s0), (0, .ref h), (1, .int (X 1))]) hx hb d_M_compile_18 rfl hl (by decide) rfl (fun ls hl => ?_)
    have hl : lv_has ls 4 [(2, .int s0), (0, .ref h), (1, .int (X 1))] := hl
    refine lv_aload_n hx hb d_M_compile_19 rfl (lv_at hl 1 rfl) ?_
    refine lv_iload_n hx hb d_M_compile_20 rfl (lv_at hl 0 rfl) ?_
    refine lv_if_eq (tgt := 28) hx hb d_M_compile_21 (by decide) (fun hc1 => ?_) (fun hc1 => ?_)
    ·
      have hf := wk_ift hc1 hf
      refine lv_iconst (v := 1) hx hb d_M_compile_28 (by decide) ?_
      exact blk29 rc hrc70 hrc122 I A (upd X 2 s0) 1 _ _ _ hf (lv_sub hl [1, 2, 0] rfl) hP hD hS
    ·
      have hf := wk_iff hc1 hf
      refine lv_iconst (v := 0) hx hb d_M_compile_24 (by decide) ?_
      refine lv_goto (tgt := 29) hx hb d_M_compile_25 (by decide) ?_
      exact blk29 rc hrc70 hrc122 I A (upd X 2 s0) 0 _ _ _ hf (lv_sub hl [1, 2, 0] rfl) hP hD hS
  have stp70 : ∀ (rc : Nat → MI → MA → (Nat → Int32) → Option (Int32 × MI × MA)) (hrc70 : ∀ (I : MI) (A : MA) (X : Nat → Int32) (ls : Array Slot) (H : Heap) (locs : List Loc), rc 70 I A X = some (r, I', A') → lv_has ls 4 [(0, .ref h), (1, .int (X 1)), (2, .int (X 2)), (3, .int (X 3))] → va_P (dC, dI) vwCl (mw_W h q g I A) H → va_D B9 (mw_W h q g I A) → va_S B9 s.heap H locs → W p l e (headSpec w_M_compile ({ frames := 4, cells := 0, slots := 0, locals := 94 })).room s m ([.ref h] : List Value).toArray below meth c H locs 0 0 (MQ below (va_Qv (fun (u : Unit) => u = u) (fun (_ : Unit) t => va_P (dC, dI) vwCl (mw_W h q g I' A') t.heap ∧ va_K (dC, dI) vwCl (mw_T g) t ∧ va_D B9 (mw_W h q g I' A')) B9) ([.ref h] : List Value).toArray s 0 0 B9) (F0 m 70 ls [])) (hrc122 : ∀ (I : MI) (A : MA) (X : Nat → Int32) (ls : Array Slot) (H : Heap) (locs : List Loc), rc 122 I A X = some (r, I', A') → lv_has ls 4 [(0, .ref h), (1, .int (X 1)), (2, .int (X 2)), (3, .int (X 3))] → va_P (dC, dI) vwCl (mw_W h q g I A) H → va_D B9 (mw_W h q g I A) → va_S B9 s.heap H locs → W p l e (headSpec w_M_compile ({ frames := 4, cells := 0, slots := 0, locals := 94 })).room s m ([.ref h] : List Value).toArray below meth c H locs 0 0 (MQ below (va_Qv (fun (u : Unit) => u = u) (fun (_ : Unit) t => va_P (dC, dI) vwCl (mw_W h q g I' A') t.heap ∧ va_K (dC, dI) vwCl (mw_T g) t ∧ va_D B9 (mw_W h q g I' A')) B9) ([.ref h] : List Value).toArray s 0 0 B9) (F0 m 122 ls [])), ∀ (I : MI) (A : MA) (X : Nat → Int32) (ls : Array Slot) (H : Heap) (locs : List Loc), f_M_compile_70 rc I A X = some (r, I', A') → lv_has ls 4 [(0, .ref h), (1, .int (X 1)), (2, .int (X 2)), (3, .int (X 3))] → va_P (dC, dI) vwCl (mw_W h q g I A) H → va_D B9 (mw_W h q g I A) → va_S B9 s.heap H locs → W p l e (headSpec w_M_compile ({ frames := 4, cells := 0, slots := 0, locals := 94 })).room s m ([.ref h] : List Value).toArray below meth c H locs 0 0 (MQ below (va_Qv (fun (u : Unit) => u = u) (fun (_ : Unit) t => va_P (dC, dI) vwCl (mw_W h q g I' A') t.heap ∧ va_K (dC, dI) vwCl (mw_T g) t ∧ va_D B9 (mw_W h q g I' A')) B9) ([.ref h] : List Value).toArray s 0 0 B9) (F0 m 70 ls []) := by
    intro rc hrc70 hrc122 I A X ls H locs hf hl hP hD hS
    unfold f_M_compile_70 at hf
    refine lv_iload_n hx hb d_M_compile_70 rfl (lv_at hl 3 rfl) ?_
    refine lv_aload_n hx hb d_M_compile_71 rfl (lv_at hl 0 rfl) ?_
    refine va_get (D := (dC, dI)) (ci := 4) (v := .int (I 1)) (C := R_M) (T := F_M) (N := 38) hx hb hts (fun w h => List.mem_cons_of_mem _ (in_M w h)) hown hK hP 0 rfl rfl 1 (by decide) (hts _ (List.mem_cons_of_mem _ lk_41)) (fun _ h9 => h9) rfl d_M_compile_72 ?_
    refine lv_icmp_ge (tgt := 96) hx hb d_M_compile_75 (by decide) (fun hc1 => ?_) (fun hc1 => ?_)
    ·
      have hf := wk_ift hc1 hf
      refine lv_aload_n hx hb d_M_compile_96 rfl (lv_at hl 0 rfl) ?_
      refine lv_iconst (v := 0) hx hb d_M_compile_97 (by decide) ?_
      refine va_put (D := (dC, dI)) (ci := 4) (v := .int 0) (ty := .int) (C := R_M) (T := F_M) (N := 38) hx hb hts (fun w h => List.mem_cons_of_mem _ (in_M w h)) t_M tk_M n_M hown hK hP hD hS 0 rfl rfl 1 (by decide) (hts _ (List.mem_cons_of_mem _ lk_41)) (fun _ h9 => h9) rfl (by decide +kernel) rfl rfl (Nat.le_of_ble_eq_true rfl) d_M_compile_98 (fun H locs hP hD hS => ?_)
      obtain ⟨I1, hI1, hf⟩ := wk_letE hf
      have hP : va_P (dC, dI) vwCl (mw_W h q g I1 A) H := by rw [hI1]; exact hP
      have hD : va_D B9 (mw_W h q g I1 A) := by rw [hI1]; exact hD
      clear hI1
      refine lv_aload_n hx hb d_M_compile_101 rfl (lv_at hl 0 rfl) ?_
      refine lv_iconst (v := 0) hx hb d_M_compile_102 (by decide) ?_
      refine va_put (D := (dC, dI)) (ci := 4) (v := .int 0) (ty := .int) (C := R_M) (T := F_M) (N := 38) hx hb hts (fun w h => List.mem_cons_of_mem _ (in_M w h)) t_M tk_M n_M hown hK hP hD hS 0 rfl rfl 17 (by decide) (hts _ (List.mem_cons_of_mem _ lk_83)) (fun _ h9 => h9) rfl (by decide +kernel) rfl rfl (Nat.le_of_ble_eq_true rfl) d_M_compile_103 (fun H locs hP hD hS => ?_)
      obtain ⟨I2, hI2, hf⟩ := wk_letE hf
      have hP : va_P (dC, dI) vwCl (mw_W h q g I2 A) H := by rw [hI2]; exact hP
      have hD : va_D B9 (mw_W h q g I2 A) := by rw [hI2]; exact hD
      clear hI2
      refine lv_aload_n hx hb d_M_compile_106 rfl (lv_at hl 0 rfl) ?_
      refine lv_iconst (v := 0) hx hb d_M_compile_107 (by decide) ?_
      refine va_put (D := (dC, dI)) (ci := 4) (v := .int 0) (ty := .int) (C := R_M) (T := F_M) (N := 38) hx hb hts (fun w h => List.mem_cons_of_mem _ (in_M w h)) t_M tk_M n_M hown hK hP hD hS 0 rfl rfl 25 (by decide) (hts _ (List.mem_cons_of_mem _ lk_70)) (fun _ h9 => h9) rfl (by decide +kernel) rfl rfl (Nat.le_of_ble_eq_true rfl) d_M_compile_108 (fun H locs hP hD hS => ?_)
      obtain ⟨I3, hI3, hf⟩ := wk_letE hf
      have hP : va_P (dC, dI) vwCl (mw_W h q g I3 A) H := by rw [hI3]; exact hP
      have hD : va_D B9 (mw_W h q g I3 A) := by rw [hI3]; exact hD
      clear hI3
      refine lv_aload_n hx hb d_M_compile_111 rfl (lv_at hl 0 rfl) ?_
      refine lv_iconst (v := 0) hx hb d_M_compile_112 (by decide) ?_
      refine va_put (D := (dC, dI)) (ci := 4) (v := .int 0) (ty := .int) (C := R_M) (T := F_M) (N := 38) hx hb hts (fun w h => List.mem_cons_of_mem _ (in_M w h)) t_M tk_M n_M hown hK hP hD hS 0 rfl rfl 28 (by decide) (hts _ (List.mem_cons_of_mem _ lk_78)) (fun _ h9 => h9) rfl (by decide +kernel) rfl rfl (Nat.le_of_ble_eq_true rfl) d_M_compile_113 (fun H locs hP hD hS => ?_)
      obtain ⟨I4, hI4, hf⟩ := wk_letE hf
      have hP : va_P (dC, dI) vwCl (mw_W h q g I4 A) H := by rw [hI4]; exact hP
      have hD : va_D B9 (mw_W h q g I4 A) := by rw [hI4]; exact hD
      clear hI4
      refine lv_aload_n hx hb d_M_compile_116 rfl (lv_at hl 0 rfl) ?_
      have hPc := hP.sub (ws' := (mw_W h q g I4 A)) [0, 1, 2, 3, 4, 5, 6, 7, 8, 9, 10, 11, 12, 13, 14, 15, 16, 17, 18, 19, 20] rfl
      have hDc := hD.sub (ws' := (mw_W h q g I4 A)) [0, 1, 2, 3, 4, 5, 6, 7, 8, 9, 10, 11, 12, 13, 14, 15, 16, 17, 18, 19, 20] (by decide) rfl
      have hKc := hK.sub (tys' := (mw_T g)) [0, 1, 2, 3, 4, 5, 6, 7, 8, 9, 10, 11, 12, 13, 14, 15, 16, 17, 18, 19] rfl
      have hFc := va_free (wc := (mw_W h q g I4 A)) hD hS hA [0, 1, 2, 3, 4, 5, 6, 7, 8, 9, 10, 11, 12, 13, 14, 15, 16, 17, 18, 19, 20] rfl
      cases hg5 : f_M_openGroup I4 A with
      | none => rw [hg5] at hf; cases hf
      | some z5 =>
        obtain ⟨r5, I5, A5⟩ := z5
        rw [hg5] at hf
        dsimp only [Option.bind_some] at hf
        refine va_callv (va_runV (As := []) (rest := []) ⟨hx, hb, hml, hown, hts⟩ (cm_M_openGroup l dC dI h q g _ I4 A r5 I5 A5 hg5) (cwV 0 hts (gd_v lk_117 lk_118 lk_119 lk_46 lk_116) rfl rfl rfl (by decide +kernel) ⟨Nat.le_of_ble_eq_true rfl, Nat.le_of_ble_eq_true rfl⟩) ⟨fun a U g mk q => by obtain ⟨q0, q1, qP, qK, qD⟩ := q; exact ⟨q0, q1, qP, va_K.moved (u := U) (U := U.calling g mk a) (Vm.Alike.refl U.vm) qK, qD⟩, va_recv (ci := 4) (q0 := 0) hK hP rfl rfl, fun U hU hW => ⟨rfl, by rw [hU], by rw [hU]; exact hPc, va_K.moved hW.alike hKc, hDc.weaken (fun _ _ _ _ => trivial)⟩⟩ rfl rfl hl.1 rfl (lv_room (Nat.le_of_ble_eq_true rfl)) d_M_compile_117 ⟨Nat.le_of_ble_eq_true rfl, Nat.le_of_ble_eq_true rfl⟩) hS (fun q _ h => hFc q h) hFc (fun u t H1 locs ht hvm hw hB hz1 hk1 hS => ?_)
        obtain ⟨hP1, hK1, hD1⟩ := hB
        rw [ht] at hP1
        obtain ⟨hP, hD⟩ := va_join (wr := []) (w1 := (mw_W h q g I5 A5)) hP hD [0, 1, 2, 3, 4, 5, 6, 7, 8, 9, 10, 11, 12, 13, 14, 15, 16, 17, 18, 19, 20] [] rfl rfl (by decide) (by decide) hk1 hFc hP1 hD1
        generalize H1 = H at hP hS ⊢
        have hP : va_P (dC, dI) vwCl (mw_W h q g I5 A5) H := hP
        have hD : va_D B9 (mw_W h q g I5 A5) := hD
        refine lv_iconst (v := 0) hx hb d_M_compile_120 (by decide) ?_
        refine lv_istore_n (lv' := [(3, .int 0), (0, .ref h), (1, .int (X 1)), (2, .int (X 2))]) hx hb d_M_compile_121 rfl hl (by decide) rfl (fun ls hl => ?_)
        have hl : lv_has ls 4 [(3, .int 0), (0, .ref h), (1, .int (X 1)), (2, .int (X 2))] := hl
        exact hrc122 I5 A5 (upd X 3 0) _ _ _ hf (lv_sub hl [1, 2, 3, 0] rfl) hP hD hS
    ·
      have hf := wk_iff hc1 hf
      refine lv_aload_n hx hb d_M_compile_78 rfl (lv_at hl 0 rfl) ?_
      refine va_get (D := (dC, dI)) (ci := 4) (v := .ref (q 16)) (C := R_M) (T := F_M) (N := 38) hx hb hts (fun w h => List.mem_cons_of_mem _ (in_M w h)) hown hK hP 0 rfl rfl 16 (by decide) (hts _ (List.mem_cons_of_mem _ lk_77)) (fun _ h9 => h9) rfl d_M_compile_79 ?_
      refine lv_iload_n hx hb d_M_compile_82 rfl (lv_at hl 3 rfl) ?_
      refine lv_aload_n hx hb d_M_compile_83 rfl (lv_at hl 0 rfl) ?_
      refine va_get (D := (dC, dI)) (ci := 4) (v := .ref (q 2)) (C := R_M) (T := F_M) (N := 38) hx hb hts (fun w h => List.mem_cons_of_mem _ (in_M w h)) hown hK hP 0 rfl rfl 2 (by decide) (hts _ (List.mem_cons_of_mem _ lk_42)) (fun _ h9 => h9) rfl d_M_compile_84 ?_
      refine lv_iload_n hx hb d_M_compile_87 rfl (lv_at hl 3 rfl) ?_
      obtain ⟨hc2, hf⟩ := wk_if hf
      refine va_cald hx hb hK hP 1 0 rfl rfl (wk_inb_ok hc2) d_M_compile_88 ?_
      obtain ⟨hc3, hf⟩ := wk_if hf
      refine va_cast hx hb hK hP hD hS 7 6 rfl rfl (wk_inb_ok hc3) d_M_compile_89 (fun H locs hP hD hS => ?_)
      obtain ⟨A1, hA1, hf⟩ := wk_letE hf
      have hP : va_P (dC, dI) vwCl (mw_W h q g I A1) H := by rw [hA1]; exact hP
      have hD : va_D B9 (mw_W h q g I A1) := by rw [hA1]; exact hD
      clear hA1
      refine lv_iinc (k := 3) (v := ((X 3) + 1)) (lv' := [(3, .int ((X 3) + 1)), (0, .ref h), (1, .int (X 1)), (2, .int (X 2))]) hx hb d_M_compile_90 hl rfl (wk_inc (by decide)) (by decide) rfl (fun ls hl => ?_)
      have hl : lv_has ls 4 [(3, .int ((X 3) + 1)), (0, .ref h), (1, .int (X 1)), (2, .int (X 2))] := hl
      refine lv_goto (tgt := 70) hx hb d_M_compile_93 (by decide) ?_
      exact hrc70 I A1 (upd X 3 ((X 3) + 1)) _ _ _ hf (lv_sub hl [1, 2, 3, 0] rfl) hP hD hS
  have stp122 : ∀ (rc : Nat → MI → MA → (Nat → Int32) → Option (Int32 × MI × MA)) (hrc70 : ∀ (I : MI) (A : MA) (X : Nat → Int32) (ls : Array Slot) (H : Heap) (locs : List Loc), rc 70 I A X = some (r, I', A') → lv_has ls 4 [(0, .ref h), (1, .int (X 1)), (2, .int (X 2)), (3, .int (X 3))] → va_P (dC, dI) vwCl (mw_W h q g I A) H → va_D B9 (mw_W h q g I A) → va_S B9 s.heap H locs → W p l e (headSpec w_M_compile ({ frames := 4, cells := 0, slots := 0, locals := 94 })).room s m ([.ref h] : List Value).toArray below meth c H locs 0 0 (MQ below (va_Qv (fun (u : Unit) => u = u) (fun (_ : Unit) t => va_P (dC, dI) vwCl (mw_W h q g I' A') t.heap ∧ va_K (dC, dI) vwCl (mw_T g) t ∧ va_D B9 (mw_W h q g I' A')) B9) ([.ref h] : List Value).toArray s 0 0 B9) (F0 m 70 ls [])) (hrc122 : ∀ (I : MI) (A : MA) (X : Nat → Int32) (ls : Array Slot) (H : Heap) (locs : List Loc), rc 122 I A X = some (r, I', A') → lv_has ls 4 [(0, .ref h), (1, .int (X 1)), (2, .int (X 2)), (3, .int (X 3))] → va_P (dC, dI) vwCl (mw_W h q g I A) H → va_D B9 (mw_W h q g I A) → va_S B9 s.heap H locs → W p l e (headSpec w_M_compile ({ frames := 4, cells := 0, slots := 0, locals := 94 })).room s m ([.ref h] : List Value).toArray below meth c H locs 0 0 (MQ below (va_Qv (fun (u : Unit) => u = u) (fun (_ : Unit) t => va_P (dC, dI) vwCl (mw_W h q g I' A') t.heap ∧ va_K (dC, dI) vwCl (mw_T g) t ∧ va_D B9 (mw_W h q g I' A')) B9) ([.ref h] : List Value).toArray s 0 0 B9) (F0 m 122 ls [])), ∀ (I : MI) (A : MA) (X : Nat → Int32) (ls : Array Slot) (H : Heap) (locs : List Loc), f_M_compile_122 rc I A X = some (r, I', A') → lv_has ls 4 [(0, .ref h), (1, .int (X 1)), (2, .int (X 2)), (3, .int (X 3))] → va_P (dC, dI) vwCl (mw_W h q g I A) H → va_D B9 (mw_W h q g I A) → va_S B9 s.heap H locs → W p l e (headSpec w_M_compile ({ frames := 4, cells := 0, slots := 0, locals := 94 })).room s m ([.ref h] : List Value).toArray below meth c H locs 0 0 (MQ below (va_Qv (fun (u : Unit) => u = u) (fun (_ : Unit) t => va_P (dC, dI) vwCl (mw_W h q g I' A') t.heap ∧ va_K (dC, dI) vwCl (mw_T g) t ∧ va_D B9 (mw_W h q g I' A')) B9) ([.ref h] : List Value).toArray s 0 0 B9) (F0 m 122 ls []) := by
    intro rc hrc70 hrc122 I A X ls H locs hf hl hP hD hS
    unfold f_M_compile_122 at hf
    refine lv_iload_n hx hb d_M_compile_122 rfl (lv_at hl 3 rfl) ?_
    refine lv_aload_n hx hb d_M_compile_123 rfl (lv_at hl 0 rfl) ?_
    refine va_get (D := (dC, dI)) (ci := 4) (v := .int (I 15)) (C := R_M) (T := F_M) (N := 38) hx hb hts (fun w h => List.mem_cons_of_mem _ (in_M w h)) hown hK hP 0 rfl rfl 15 (by decide) (hts _ (List.mem_cons_of_mem _ lk_139)) (fun _ h9 => h9) rfl d_M_compile_124 ?_
    refine lv_icmp_ge (tgt := 139) hx hb d_M_compile_127 (by decide) (fun hc1 => ?_) (fun hc1 => ?_)
    ·
      have hf := wk_ift hc1 hf
      refine lv_aload_n hx hb d_M_compile_139 rfl (lv_at hl 0 rfl) ?_
      have hPc := hP.sub (ws' := (mw_W h q g I A)) [0, 1, 2, 3, 4, 5, 6, 7, 8, 9, 10, 11, 12, 13, 14, 15, 16, 17, 18, 19, 20] rfl
      have hDc := hD.sub (ws' := (mw_W h q g I A)) [0, 1, 2, 3, 4, 5, 6, 7, 8, 9, 10, 11, 12, 13, 14, 15, 16, 17, 18, 19, 20] (by decide) rfl
      have hKc := hK.sub (tys' := (mw_T g)) [0, 1, 2, 3, 4, 5, 6, 7, 8, 9, 10, 11, 12, 13, 14, 15, 16, 17, 18, 19] rfl
      have hFc := va_free (wc := (mw_W h q g I A)) hD hS hA [0, 1, 2, 3, 4, 5, 6, 7, 8, 9, 10, 11, 12, 13, 14, 15, 16, 17, 18, 19, 20] rfl
      cases hg1 : f_M_endRow I A with
      | none => rw [hg1] at hf; cases hf
      | some z1 =>
        obtain ⟨r1, I1, A1⟩ := z1
        rw [hg1] at hf
        dsimp only [Option.bind_some] at hf
        refine va_callv (va_runV (As := []) (rest := []) ⟨hx, hb, hml, hown, hts⟩ (cm_M_endRow l dC dI h q g _ I A r1 I1 A1 hg1) (cwV 0 hts (gd_v lk_109 lk_110 lk_111 lk_46 lk_108) rfl rfl rfl (by decide +kernel) ⟨Nat.le_of_ble_eq_true rfl, Nat.le_of_ble_eq_true rfl⟩) ⟨fun a U g mk q => by obtain ⟨q0, q1, qP, qK, qD⟩ := q; exact ⟨q0, q1, qP, va_K.moved (u := U) (U := U.calling g mk a) (Vm.Alike.refl U.vm) qK, qD⟩, va_recv (ci := 4) (q0 := 0) hK hP rfl rfl, fun U hU hW => ⟨rfl, by rw [hU], by rw [hU]; exact hPc, va_K.moved hW.alike hKc, hDc.weaken (fun _ _ _ _ => trivial)⟩⟩ rfl rfl hl.1 rfl (lv_room (Nat.le_of_ble_eq_true rfl)) d_M_compile_140 ⟨Nat.le_of_ble_eq_true rfl, Nat.le_of_ble_eq_true rfl⟩) hS (fun q _ h => hFc q h) hFc (fun u t H1 locs ht hvm hw hB hz1 hk1 hS => ?_)
        obtain ⟨hP1, hK1, hD1⟩ := hB
        rw [ht] at hP1
        obtain ⟨hP, hD⟩ := va_join (wr := []) (w1 := (mw_W h q g I1 A1)) hP hD [0, 1, 2, 3, 4, 5, 6, 7, 8, 9, 10, 11, 12, 13, 14, 15, 16, 17, 18, 19, 20] [] rfl rfl (by decide) (by decide) hk1 hFc hP1 hD1
        generalize H1 = H at hP hS ⊢
        have hP : va_P (dC, dI) vwCl (mw_W h q g I1 A1) H := hP
        have hD : va_D B9 (mw_W h q g I1 A1) := hD
        refine lv_aload_n hx hb d_M_compile_143 rfl (lv_at hl 0 rfl) ?_
        refine lv_aload_n hx hb d_M_compile_144 rfl (lv_at hl 0 rfl) ?_
        refine va_get (D := (dC, dI)) (ci := 4) (v := .ref (q 26)) (C := R_M) (T := F_M) (N := 38) hx hb hts (fun w h => List.mem_cons_of_mem _ (in_M w h)) hown hK hP 0 rfl rfl 26 (by decide) (hts _ (List.mem_cons_of_mem _ lk_63)) (fun _ h9 => h9) rfl d_M_compile_145 ?_
        refine lv_aload_n hx hb d_M_compile_148 rfl (lv_at hl 0 rfl) ?_
        refine va_get (D := (dC, dI)) (ci := 4) (v := .ref (q 29)) (C := R_M) (T := F_M) (N := 38) hx hb hts (fun w h => List.mem_cons_of_mem _ (in_M w h)) hown hK hP 0 rfl rfl 29 (by decide) (hts _ (List.mem_cons_of_mem _ lk_103)) (fun _ h9 => h9) rfl d_M_compile_149 ?_
        refine lv_iconst (v := 0) hx hb d_M_compile_152 (by decide) ?_
        obtain ⟨hc2, hf⟩ := wk_if hf
        refine va_iald hx hb hK hP 15 14 rfl rfl (wk_inb_ok hc2) d_M_compile_153 ?_
        obtain ⟨hc3, hf⟩ := wk_if hf
        refine va_iald hx hb hK hP 13 12 rfl rfl (wk_inb_ok hc3) d_M_compile_154 ?_
        refine va_put (D := (dC, dI)) (ci := 4) (v := .int ((A1 26) (((A1 29) (0 : Int32).toNatClampNeg)).toNatClampNeg)) (ty := .int) (C := R_M) (T := F_M) (N := 38) hx hb hts (fun w h => List.mem_cons_of_mem _ (in_M w h)) t_M tk_M n_M hown hK hP hD hS 0 rfl rfl 23 (by decide) (hts _ (List.mem_cons_of_mem _ lk_140)) (fun _ h9 => h9) rfl (by decide +kernel) rfl rfl (Nat.le_of_ble_eq_true rfl) d_M_compile_155 (fun H locs hP hD hS => ?_)
        obtain ⟨I2, hI2, hf⟩ := wk_letE hf
        have hP : va_P (dC, dI) vwCl (mw_W h q g I2 A1) H := by rw [hI2]; exact hP
        have hD : va_D B9 (mw_W h q g I2 A1) := by rw [hI2]; exact hD
        clear hI2
        refine lv_aload_n hx hb d_M_compile_158 rfl (lv_at hl 0 rfl) ?_
        refine lv_aload_n hx hb d_M_compile_159 rfl (lv_at hl 0 rfl) ?_
        refine va_get (D := (dC, dI)) (ci := 4) (v := .ref (q 27)) (C := R_M) (T := F_M) (N := 38) hx hb hts (fun w h => List.mem_cons_of_mem _ (in_M w h)) hown hK hP 0 rfl rfl 27 (by decide) (hts _ (List.mem_cons_of_mem _ lk_62)) (fun _ h9 => h9) rfl d_M_compile_160 ?_
        refine lv_aload_n hx hb d_M_compile_163 rfl (lv_at hl 0 rfl) ?_
        refine va_get (D := (dC, dI)) (ci := 4) (v := .ref (q 29)) (C := R_M) (T := F_M) (N := 38) hx hb hts (fun w h => List.mem_cons_of_mem _ (in_M w h)) hown hK hP 0 rfl rfl 29 (by decide) (hts _ (List.mem_cons_of_mem _ lk_103)) (fun _ h9 => h9) rfl d_M_compile_164 ?_
        refine lv_iconst (v := 0) hx hb d_M_compile_167 (by decide) ?_
        obtain ⟨hc4, hf⟩ := wk_if hf
        refine va_iald hx hb hK hP 15 14 rfl rfl (wk_inb_ok hc4) d_M_compile_168 ?_
        obtain ⟨hc5, hf⟩ := wk_if hf
        refine va_iald hx hb hK hP 14 13 rfl rfl (wk_inb_ok hc5) d_M_compile_169 ?_
        refine va_put (D := (dC, dI)) (ci := 4) (v := .int ((A1 27) (((A1 29) (0 : Int32).toNatClampNeg)).toNatClampNeg)) (ty := .int) (C := R_M) (T := F_M) (N := 38) hx hb hts (fun w h => List.mem_cons_of_mem _ (in_M w h)) t_M tk_M n_M hown hK hP hD hS 0 rfl rfl 24 (by decide) (hts _ (List.mem_cons_of_mem _ lk_141)) (fun _ h9 => h9) rfl (by decide +kernel) rfl rfl (Nat.le_of_ble_eq_true rfl) d_M_compile_170 (fun H locs hP hD hS => ?_)
        obtain ⟨I3, hI3, hf⟩ := wk_letE hf
        have hP : va_P (dC, dI) vwCl (mw_W h q g I3 A1) H := by rw [hI3]; exact hP
        have hD : va_D B9 (mw_W h q g I3 A1) := by rw [hI3]; exact hD
        clear hI3
        refine lv_aload_n hx hb d_M_compile_173 rfl (lv_at hl 0 rfl) ?_
        refine lv_iconst (v := 1) hx hb d_M_compile_174 (by decide) ?_
        refine va_put (D := (dC, dI)) (ci := 4) (v := .int 1) (ty := .boolean) (C := R_M) (T := F_M) (N := 38) hx hb hts (fun w h => List.mem_cons_of_mem _ (in_M w h)) t_M tk_M n_M hown hK hP hD hS 0 rfl rfl 13 (by decide) (hts _ (List.mem_cons_of_mem _ lk_142)) (fun _ h9 => h9) rfl (by decide +kernel) rfl rfl (Nat.le_of_ble_eq_true rfl) d_M_compile_175 (fun H locs hP hD hS => ?_)
        obtain ⟨I4, hI4, hf⟩ := wk_letE hf
        have hP : va_P (dC, dI) vwCl (mw_W h q g I4 A1) H := by rw [hI4]; exact hP
        have hD : va_D B9 (mw_W h q g I4 A1) := by rw [hI4]; exact hD
        clear hI4
        obtain ⟨e1, e2, e3⟩ := wk_inj hf
        subst e1
        subst e2
        subst e3
        exact W.vret hx hb hr (fun t ht hW => ⟨⟨(), rfl, rfl, by rw [ht]; exact hP, va_K.moved hW.alike hK, hD⟩, hS.F ht⟩) hS.2.2 d_M_compile_178
    ·
      have hf := wk_iff hc1 hf
      refine lv_aload_n hx hb d_M_compile_130 rfl (lv_at hl 0 rfl) ?_
      refine lv_iload_n hx hb d_M_compile_131 rfl (lv_at hl 3 rfl) ?_
      have hPc := hP.sub (ws' := (mw_W h q g I A)) [0, 1, 2, 3, 4, 5, 6, 7, 8, 9, 10, 11, 12, 13, 14, 15, 16, 17, 18, 19, 20] rfl
      have hDc := hD.sub (ws' := (mw_W h q g I A)) [0, 1, 2, 3, 4, 5, 6, 7, 8, 9, 10, 11, 12, 13, 14, 15, 16, 17, 18, 19, 20] (by decide) rfl
      have hKc := hK.sub (tys' := (mw_T g)) [0, 1, 2, 3, 4, 5, 6, 7, 8, 9, 10, 11, 12, 13, 14, 15, 16, 17, 18, 19] rfl
      have hFc := va_free (wc := (mw_W h q g I A)) hD hS hA [0, 1, 2, 3, 4, 5, 6, 7, 8, 9, 10, 11, 12, 13, 14, 15, 16, 17, 18, 19, 20] rfl
      cases hg1 : f_M_build I A (X 3) with
      | none => rw [hg1] at hf; cases hf
      | some z1 =>
        obtain ⟨r1, I1, A1⟩ := z1
        rw [hg1] at hf
        dsimp only [Option.bind_some] at hf
        refine va_calli (va_runV (As := [.int (X 3)]) (rest := []) ⟨hx, hb, hml, hown, hts⟩ (cm_M_build l dC dI h q g _ I A (X 3) r1 I1 A1 hg1) (cwV 1 hts (gd_v lk_143 lk_144 lk_145 lk_46 lk_124) rfl rfl rfl (by decide +kernel) ⟨Nat.le_of_ble_eq_true rfl, Nat.le_of_ble_eq_true rfl⟩) ⟨fun a U g mk q => by obtain ⟨q0, q1, qP, qK, qD⟩ := q; exact ⟨q0, q1, qP, va_K.moved (u := U) (U := U.calling g mk a) (Vm.Alike.refl U.vm) qK, qD⟩, va_recv (ci := 4) (q0 := 0) hK hP rfl rfl, fun U hU hW => ⟨rfl, by rw [hU], by rw [hU]; exact hPc, va_K.moved hW.alike hKc, hDc.weaken (fun _ _ _ _ => trivial)⟩⟩ rfl rfl hl.1 rfl (lv_room (Nat.le_of_ble_eq_true rfl)) d_M_compile_132 ⟨Nat.le_of_ble_eq_true rfl, Nat.le_of_ble_eq_true rfl⟩) hS (fun q _ h => hFc q h) hFc (fun r9 u t H1 locs ht hvm hw hB hz1 hk1 hS => ?_)
        obtain ⟨hP1, hK1, hD1⟩ := hB
        rw [ht] at hP1
        rw [hw]
        obtain ⟨hP, hD⟩ := va_join (wr := []) (w1 := (mw_W h q g I1 A1)) hP hD [0, 1, 2, 3, 4, 5, 6, 7, 8, 9, 10, 11, 12, 13, 14, 15, 16, 17, 18, 19, 20] [] rfl rfl (by decide) (by decide) hk1 hFc hP1 hD1
        generalize H1 = H at hP hS ⊢
        have hP : va_P (dC, dI) vwCl (mw_W h q g I1 A1) H := hP
        have hD : va_D B9 (mw_W h q g I1 A1) := hD
        refine lv_istore_n (lv' := [(3, .int r1), (0, .ref h), (1, .int (X 1)), (2, .int (X 2))]) hx hb d_M_compile_135 rfl hl (by decide) rfl (fun ls hl => ?_)
        have hl : lv_has ls 4 [(3, .int r1), (0, .ref h), (1, .int (X 1)), (2, .int (X 2))] := hl
        refine lv_goto (tgt := 122) hx hb d_M_compile_136 (by decide) ?_
        exact hrc122 I1 A1 (upd X 3 r1) _ _ _ hf (lv_sub hl [1, 2, 3, 0] rfl) hP hD hS
  have key : ∀ n : Nat, (∀ (I : MI) (A : MA) (X : Nat → Int32) (ls : Array Slot) (H : Heap) (locs : List Loc), f_M_compile_go n 70 I A X = some (r, I', A') → lv_has ls 4 [(0, .ref h), (1, .int (X 1)), (2, .int (X 2)), (3, .int (X 3))] → va_P (dC, dI) vwCl (mw_W h q g I A) H → va_D B9 (mw_W h q g I A) → va_S B9 s.heap H locs → W p l e (headSpec w_M_compile ({ frames := 4, cells := 0, slots := 0, locals := 94 })).room s m ([.ref h] : List Value).toArray below meth c H locs 0 0 (MQ below (va_Qv (fun (u : Unit) => u = u) (fun (_ : Unit) t => va_P (dC, dI) vwCl (mw_W h q g I' A') t.heap ∧ va_K (dC, dI) vwCl (mw_T g) t ∧ va_D B9 (mw_W h q g I' A')) B9) ([.ref h] : List Value).toArray s 0 0 B9) (F0 m 70 ls [])) ∧ (∀ (I : MI) (A : MA) (X : Nat → Int32) (ls : Array Slot) (H : Heap) (locs : List Loc), f_M_compile_go n 122 I A X = some (r, I', A') → lv_has ls 4 [(0, .ref h), (1, .int (X 1)), (2, .int (X 2)), (3, .int (X 3))] → va_P (dC, dI) vwCl (mw_W h q g I A) H → va_D B9 (mw_W h q g I A) → va_S B9 s.heap H locs → W p l e (headSpec w_M_compile ({ frames := 4, cells := 0, slots := 0, locals := 94 })).room s m ([.ref h] : List Value).toArray below meth c H locs 0 0 (MQ below (va_Qv (fun (u : Unit) => u = u) (fun (_ : Unit) t => va_P (dC, dI) vwCl (mw_W h q g I' A') t.heap ∧ va_K (dC, dI) vwCl (mw_T g) t ∧ va_D B9 (mw_W h q g I' A')) B9) ([.ref h] : List Value).toArray s 0 0 B9) (F0 m 122 ls [])) := by
    intro n
    induction n with
    | zero => exact ⟨fun I A X ls H locs hf => (by cases hf), fun I A X ls H locs hf => (by cases hf)⟩
    | succ n ih =>
      obtain ⟨ih70, ih122⟩ := ih
      exact ⟨stp70 (f_M_compile_go n) ih70 ih122, stp122 (f_M_compile_go n) ih70 ih122⟩
  unfold f_M_compile f_M_compile_e at hf
  have hrc70 := (key wk_FUEL).1
  have hrc122 := (key wk_FUEL).2
  refine lv_aload_n hx hb d_M_compile_0 rfl (lv_at hl 0 rfl) ?_
  have hPc := hP.sub (ws' := (mw_W h q g I A)) [0, 1, 2, 3, 4, 5, 6, 7, 8, 9, 10, 11, 12, 13, 14, 15, 16, 17, 18, 19, 20] rfl
  have hDc := hD.sub (ws' := (mw_W h q g I A)) [0, 1, 2, 3, 4, 5, 6, 7, 8, 9, 10, 11, 12, 13, 14, 15, 16, 17, 18, 19, 20] (by decide) rfl
  have hKc := hK.sub (tys' := (mw_T g)) [0, 1, 2, 3, 4, 5, 6, 7, 8, 9, 10, 11, 12, 13, 14, 15, 16, 17, 18, 19] rfl
  have hFc := va_free (wc := (mw_W h q g I A)) hD hS hA [0, 1, 2, 3, 4, 5, 6, 7, 8, 9, 10, 11, 12, 13, 14, 15, 16, 17, 18, 19, 20] rfl
  cases hg1 : f_M_good I A with
  | none => rw [hg1] at hf; cases hf
  | some z1 =>
    obtain ⟨r1, I1, A1⟩ := z1
    rw [hg1] at hf
    dsimp only [Option.bind_some] at hf
    refine va_calli (va_runV (As := []) (rest := []) ⟨hx, hb, hml, hown, hts⟩ (cm_M_good l dC dI h q g _ I A r1 I1 A1 hg1) (cwV 0 hts (gd_v lk_135 lk_136 lk_137 lk_46 lk_134) rfl rfl rfl (by decide +kernel) ⟨Nat.le_of_ble_eq_true rfl, Nat.le_of_ble_eq_true rfl⟩) ⟨fun a U g mk q => by obtain ⟨q0, q1, qP, qK, qD⟩ := q; exact ⟨q0, q1, qP, va_K.moved (u := U) (U := U.calling g mk a) (Vm.Alike.refl U.vm) qK, qD⟩, va_recv (ci := 4) (q0 := 0) hK hP rfl rfl, fun U hU hW => ⟨rfl, by rw [hU], by rw [hU]; exact hPc, va_K.moved hW.alike hKc, hDc.weaken (fun _ _ _ _ => trivial)⟩⟩ rfl rfl hl.1 rfl (lv_room (Nat.le_of_ble_eq_true rfl)) d_M_compile_1 ⟨Nat.le_of_ble_eq_true rfl, Nat.le_of_ble_eq_true rfl⟩) hS (fun q _ h => hFc q h) hFc (fun r9 u t H1 locs ht hvm hw hB hz1 hk1 hS => ?_)
    obtain ⟨hP1, hK1, hD1⟩ := hB
    rw [ht] at hP1
    rw [hw]
    obtain ⟨hP, hD⟩ := va_join (wr := []) (w1 := (mw_W h q g I1 A1)) hP hD [0, 1, 2, 3, 4, 5, 6, 7, 8, 9, 10, 11, 12, 13, 14, 15, 16, 17, 18, 19, 20] [] rfl rfl (by decide) (by decide) hk1 hFc hP1 hD1
    generalize H1 = H at hP hS ⊢
    have hP : va_P (dC, dI) vwCl (mw_W h q g I1 A1) H := hP
    have hD : va_D B9 (mw_W h q g I1 A1) := hD
    refine lv_istore_n (lv' := [(1, .int r1), (0, .ref h)]) hx hb d_M_compile_4 rfl hl (by decide) rfl (fun ls hl => ?_)
    have hl : lv_has ls 4 [(1, .int r1), (0, .ref h)] := hl
    refine lv_iload_n hx hb d_M_compile_5 rfl (lv_at hl 0 rfl) ?_
    refine lv_aload_n hx hb d_M_compile_6 rfl (lv_at hl 1 rfl) ?_
    refine va_get (D := (dC, dI)) (ci := 4) (v := .int (I1 1)) (C := R_M) (T := F_M) (N := 38) hx hb hts (fun w h => List.mem_cons_of_mem _ (in_M w h)) hown hK hP 0 rfl rfl 1 (by decide) (hts _ (List.mem_cons_of_mem _ lk_41)) (fun _ h9 => h9) rfl d_M_compile_7 ?_
    refine lv_icmp_ne (tgt := 17) hx hb d_M_compile_10 (by decide) (fun hc1 => ?_) (fun hc1 => ?_)
    ·
      have hf := wk_iff hc1 hf
      refine lv_iconst (v := 0) hx hb d_M_compile_17 (by decide) ?_
      exact blk18 _ hrc70 hrc122 I1 A1 (upd (fun _ => 0) 1 r1) 0 _ _ _ hf (lv_sub hl [1, 0] rfl) hP hD hS
    ·
      have hf := wk_ift hc1 hf
      refine lv_iconst (v := 1) hx hb d_M_compile_13 (by decide) ?_
      refine lv_goto (tgt := 18) hx hb d_M_compile_14 (by decide) ?_
      exact blk18 _ hrc70 hrc122 I1 A1 (upd (fun _ => 0) 1 r1) 1 _ _ _ hf (lv_sub hl [1, 0] rfl) hP hD hS

set_option maxHeartbeats 8000000 in
set_option maxRecDepth 100000 in
theorem cm_M_edit (l : Launch) (dC : Nat → ClassId) (dI : Nat → Nat → Nat) (h : Nat) (q : Nat → Nat) (g : Nat → ClassId) (sz : Nat) (I : MI) (A : MA) (k1 : Int32) (r : Int32) (I' : MI) (A' : MA) (hf : f_M_edit I A k1 = some (r, I', A')) : Met l y_M_edit w_M_edit ({ frames := 1, cells := 0, slots := 0, locals := 21 }) (va_Pc [.ref h, .int k1] (fun U => U.heap.size = sz ∧ va_P (dC, dI) vwCl (mw_W h q g I A) U.heap ∧ va_K (dC, dI) vwCl (mw_T g) U ∧ va_D (fun _ => True) (mw_W h q g I A))) (va_Qv (fun (u : Unit) => u = u) (fun (_ : Unit) t => va_P (dC, dI) vwCl (mw_W h q g I' A') t.heap ∧ va_K (dC, dI) vwCl (mw_T g) t ∧ va_D (va_A (mw_W h q g I A) sz) (mw_W h q g I' A')) (va_A (mw_W h q g I A) sz)) 0 0 (va_A (mw_W h q g I A) sz) := by
  refine Met.ofW (cc := prog_6_method_12_code) (maxL := 4) (ret := none) (by decide) rfl ?_
  intro p e s m args below meth c s₁ B hml hv
  obtain ⟨rfl, hsz, hP, hK, hD0⟩ := hv
  have hx := B.exec
  have hb := B.bytes
  have hr := B.returns
  have hts := atoms_spec (ws := w_M_edit) B.pre
  have hown : s.vm.findClass R_M = some m.cls := findClass_of_methodNamed B.named
  have hlocks := B.notSynchronized
  subst hsz
  have hD := hD0.self (sz := s.heap.size)
  generalize hAe : va_A (mw_W h q g I A) s.heap.size = B9 at hD ⊢
  have hA : ∀ q : Nat, s.heap.size ≤ q → B9 q := fun q h => by rw [← hAe]; exact Or.inr h
  clear hAe
  have hS : va_S B9 s.heap s.heap [] := va_S.rf
  have hl := lv_entry ([.ref h, .int k1]) (n := 4) (Nat.le_of_ble_eq_true rfl)
  rw [lg_entry_eq]
  generalize (lg_sl ([.ref h, .int k1]) ++ List.replicate (4 - (lg_sl ([.ref h, .int k1])).length) Slot.unset).toArray = ls at hl ⊢
  have hl : lv_has ls 4 [(0, .ref h), (1, .int k1)] := hl
  have stp17 : ∀ (rc : Nat → MI → MA → (Nat → Int32) → Option (Int32 × MI × MA)) (hrc17 : ∀ (I : MI) (A : MA) (X : Nat → Int32) (ls : Array Slot) (H : Heap) (locs : List Loc), rc 17 I A X = some (r, I', A') → lv_has ls 4 [(0, .ref h), (1, .int (X 1)), (2, .int (X 2)), (3, .int (X 3))] → va_P (dC, dI) vwCl (mw_W h q g I A) H → va_D B9 (mw_W h q g I A) → va_S B9 s.heap H locs → W p l e (headSpec w_M_edit ({ frames := 1, cells := 0, slots := 0, locals := 21 })).room s m ([.ref h, .int k1] : List Value).toArray below meth c H locs 0 0 (MQ below (va_Qv (fun (u : Unit) => u = u) (fun (_ : Unit) t => va_P (dC, dI) vwCl (mw_W h q g I' A') t.heap ∧ va_K (dC, dI) vwCl (mw_T g) t ∧ va_D B9 (mw_W h q g I' A')) B9) ([.ref h, .int k1] : List Value).toArray s 0 0 B9) (F0 m 17 ls [])), ∀ (I : MI) (A : MA) (X : Nat → Int32) (ls : Array Slot) (H : Heap) (locs : List Loc), f_M_edit_17 rc I A X = some (r, I', A') → lv_has ls 4 [(0, .ref h), (1, .int (X 1)), (2, .int (X 2)), (3, .int (X 3))] → va_P (dC, dI) vwCl (mw_W h q g I A) H → va_D B9 (mw_W h q g I A) → va_S B9 s.heap H locs → W p l e (headSpec w_M_edit ({ frames := 1, cells := 0, slots := 0, locals := 21 })).room s m ([.ref h, .int k1] : List Value).toArray below meth c H locs 0 0 (MQ below (va_Qv (fun (u : Unit) => u = u) (fun (_ : Unit) t => va_P (dC, dI) vwCl (mw_W h q g I' A') t.heap ∧ va_K (dC, dI) vwCl (mw_T g) t ∧ va_D B9 (mw_W h q g I' A')) B9) ([.ref h, .int k1] : List Value).toArray s 0 0 B9) (F0 m 17 ls []) := by
    intro rc hrc17 I A X ls H locs hf hl hP hD hS
    unfold f_M_edit_17 at hf
    refine lv_iload_n hx hb d_M_edit_17 rfl (lv_at hl 3 rfl) ?_
    refine lv_aload_n hx hb d_M_edit_18 rfl (lv_at hl 0 rfl) ?_
    refine va_get (D := (dC, dI)) (ci := 4) (v := .int (I 36)) (C := R_M) (T := F_M) (N := 38) hx hb hts (fun w h => List.mem_cons_of_mem _ (in_M w h)) hown hK hP 0 rfl rfl 36 (by decide) (hts _ (List.mem_cons_of_mem _ lk_39)) (fun _ h9 => h9) rfl d_M_edit_19 ?_
    refine lv_icmp_ge (tgt := 49) hx hb d_M_edit_22 (by decide) (fun hc1 => ?_) (fun hc1 => ?_)
    ·
      have hf := wk_ift hc1 hf
      refine lv_aload_n hx hb d_M_edit_49 rfl (lv_at hl 0 rfl) ?_
      refine va_get (D := (dC, dI)) (ci := 4) (v := .ref (q 6)) (C := R_M) (T := F_M) (N := 38) hx hb hts (fun w h => List.mem_cons_of_mem _ (in_M w h)) hown hK hP 0 rfl rfl 6 (by decide) (hts _ (List.mem_cons_of_mem _ lk_55)) (fun _ h9 => h9) rfl d_M_edit_50 ?_
      refine lv_iload_n hx hb d_M_edit_53 rfl (lv_at hl 2 rfl) ?_
      refine lv_aload_n hx hb d_M_edit_54 rfl (lv_at hl 0 rfl) ?_
      refine va_get (D := (dC, dI)) (ci := 4) (v := .int (I 36)) (C := R_M) (T := F_M) (N := 38) hx hb hts (fun w h => List.mem_cons_of_mem _ (in_M w h)) hown hK hP 0 rfl rfl 36 (by decide) (hts _ (List.mem_cons_of_mem _ lk_39)) (fun _ h9 => h9) rfl d_M_edit_55 ?_
      obtain ⟨hc2, hf⟩ := wk_if hf
      refine va_iast hx hb hK hP hD hS 3 2 rfl rfl (wk_inb_ok hc2) d_M_edit_58 (fun H locs hP hD hS => ?_)
      obtain ⟨A1, hA1, hf⟩ := wk_letE hf
      have hP : va_P (dC, dI) vwCl (mw_W h q g I A1) H := by rw [hA1]; exact hP
      have hD : va_D B9 (mw_W h q g I A1) := by rw [hA1]; exact hD
      clear hA1
      refine lv_aload_n hx hb d_M_edit_59 rfl (lv_at hl 0 rfl) ?_
      refine va_get (D := (dC, dI)) (ci := 4) (v := .ref (q 7)) (C := R_M) (T := F_M) (N := 38) hx hb hts (fun w h => List.mem_cons_of_mem _ (in_M w h)) hown hK hP 0 rfl rfl 7 (by decide) (hts _ (List.mem_cons_of_mem _ lk_125)) (fun _ h9 => h9) rfl d_M_edit_60 ?_
      refine lv_iload_n hx hb d_M_edit_63 rfl (lv_at hl 2 rfl) ?_
      refine lv_iload_n hx hb d_M_edit_64 rfl (lv_at hl 1 rfl) ?_
      obtain ⟨hc3, hf⟩ := wk_if hf
      refine va_iast hx hb hK hP hD hS 4 3 rfl rfl (wk_inb_ok hc3) d_M_edit_65 (fun H locs hP hD hS => ?_)
      obtain ⟨A2, hA2, hf⟩ := wk_letE hf
      have hP : va_P (dC, dI) vwCl (mw_W h q g I A2) H := by rw [hA2]; exact hP
      have hD : va_D B9 (mw_W h q g I A2) := by rw [hA2]; exact hD
      clear hA2
      refine lv_aload_n hx hb d_M_edit_66 rfl (lv_at hl 0 rfl) ?_
      refine va_get (D := (dC, dI)) (ci := 4) (v := .ref (q 8)) (C := R_M) (T := F_M) (N := 38) hx hb hts (fun w h => List.mem_cons_of_mem _ (in_M w h)) hown hK hP 0 rfl rfl 8 (by decide) (hts _ (List.mem_cons_of_mem _ lk_148)) (fun _ h9 => h9) rfl d_M_edit_67 ?_
      refine lv_iload_n hx hb d_M_edit_70 rfl (lv_at hl 2 rfl) ?_
      refine lv_aload_n hx hb d_M_edit_71 rfl (lv_at hl 0 rfl) ?_
      refine va_get (D := (dC, dI)) (ci := 4) (v := .int (I 4)) (C := R_M) (T := F_M) (N := 38) hx hb hts (fun w h => List.mem_cons_of_mem _ (in_M w h)) hown hK hP 0 rfl rfl 4 (by decide) (hts _ (List.mem_cons_of_mem _ lk_49)) (fun _ h9 => h9) rfl d_M_edit_72 ?_
      obtain ⟨hc4, hf⟩ := wk_if hf
      refine va_iast hx hb hK hP hD hS 5 4 rfl rfl (wk_inb_ok hc4) d_M_edit_75 (fun H locs hP hD hS => ?_)
      obtain ⟨A3, hA3, hf⟩ := wk_letE hf
      have hP : va_P (dC, dI) vwCl (mw_W h q g I A3) H := by rw [hA3]; exact hP
      have hD : va_D B9 (mw_W h q g I A3) := by rw [hA3]; exact hD
      clear hA3
      refine lv_aload_n hx hb d_M_edit_76 rfl (lv_at hl 0 rfl) ?_
      refine lv_iload_n hx hb d_M_edit_77 rfl (lv_at hl 2 rfl) ?_
      have hPc := hP.sub (ws' := (mw_W h q g I A3)) [0, 1, 2, 3, 4, 5, 6, 7, 8, 9, 10, 11, 12, 13, 14, 15, 16, 17, 18, 19, 20] rfl
      have hDc := hD.sub (ws' := (mw_W h q g I A3)) [0, 1, 2, 3, 4, 5, 6, 7, 8, 9, 10, 11, 12, 13, 14, 15, 16, 17, 18, 19, 20] (by decide) rfl
      have hKc := hK.sub (tys' := (mw_T g)) [0, 1, 2, 3, 4, 5, 6, 7, 8, 9, 10, 11, 12, 13, 14, 15, 16, 17, 18, 19] rfl
      have hFc := va_free (wc := (mw_W h q g I A3)) hD hS hA [0, 1, 2, 3, 4, 5, 6, 7, 8, 9, 10, 11, 12, 13, 14, 15, 16, 17, 18, 19, 20] rfl
      cases hg4 : f_M_come I A3 (X 2) with
      | none => rw [hg4] at hf; cases hf
      | some z4 =>
        obtain ⟨r4, I4, A4⟩ := z4
        rw [hg4] at hf
        dsimp only [Option.bind_some] at hf
        refine va_callv (va_runV (As := [.int (X 2)]) (rest := []) ⟨hx, hb, hml, hown, hts⟩ (cm_M_come l dC dI h q g _ I A3 (X 2) r4 I4 A4 hg4) (cwV 1 hts (gd_v lk_149 lk_150 lk_151 lk_46 lk_130) rfl rfl rfl (by decide +kernel) ⟨Nat.le_of_ble_eq_true rfl, Nat.le_of_ble_eq_true rfl⟩) ⟨fun a U g mk q => by obtain ⟨q0, q1, qP, qK, qD⟩ := q; exact ⟨q0, q1, qP, va_K.moved (u := U) (U := U.calling g mk a) (Vm.Alike.refl U.vm) qK, qD⟩, va_recv (ci := 4) (q0 := 0) hK hP rfl rfl, fun U hU hW => ⟨rfl, by rw [hU], by rw [hU]; exact hPc, va_K.moved hW.alike hKc, hDc.weaken (fun _ _ _ _ => trivial)⟩⟩ rfl rfl hl.1 rfl (lv_room (Nat.le_of_ble_eq_true rfl)) d_M_edit_78 ⟨Nat.le_of_ble_eq_true rfl, Nat.le_of_ble_eq_true rfl⟩) hS (fun q _ h => hFc q h) hFc (fun u t H1 locs ht hvm hw hB hz1 hk1 hS => ?_)
        obtain ⟨hP1, hK1, hD1⟩ := hB
        rw [ht] at hP1
        obtain ⟨hP, hD⟩ := va_join (wr := []) (w1 := (mw_W h q g I4 A4)) hP hD [0, 1, 2, 3, 4, 5, 6, 7, 8, 9, 10, 11, 12, 13, 14, 15, 16, 17, 18, 19, 20] [] rfl rfl (by decide) (by decide) hk1 hFc hP1 hD1
        generalize H1 = H at hP hS ⊢
        have hP : va_P (dC, dI) vwCl (mw_W h q g I4 A4) H := hP
        have hD : va_D B9 (mw_W h q g I4 A4) := hD
        obtain ⟨e1, e2, e3⟩ := wk_inj hf
        subst e1
        subst e2
        subst e3
        exact W.vret hx hb hr (fun t ht hW => ⟨⟨(), rfl, rfl, by rw [ht]; exact hP, va_K.moved hW.alike hK, hD⟩, hS.F ht⟩) hS.2.2 d_M_edit_81
    ·
      have hf := wk_iff hc1 hf
      refine lv_aload_n hx hb d_M_edit_25 rfl (lv_at hl 0 rfl) ?_
      refine va_get (D := (dC, dI)) (ci := 4) (v := .ref (q 5)) (C := R_M) (T := F_M) (N := 38) hx hb hts (fun w h => List.mem_cons_of_mem _ (in_M w h)) hown hK hP 0 rfl rfl 5 (by decide) (hts _ (List.mem_cons_of_mem _ lk_48)) (fun _ h9 => h9) rfl d_M_edit_26 ?_
      refine lv_sipush (v := 160) hx hb d_M_edit_29 (by decide) ?_
      refine lv_iload_n hx hb d_M_edit_32 rfl (lv_at hl 2 rfl) ?_
      refine lv_imul hx hb d_M_edit_33 ?_
      refine lv_iload_n hx hb d_M_edit_34 rfl (lv_at hl 3 rfl) ?_
      refine lv_iadd hx hb d_M_edit_35 ?_
      refine lv_aload_n hx hb d_M_edit_36 rfl (lv_at hl 0 rfl) ?_
      refine va_get (D := (dC, dI)) (ci := 4) (v := .ref (q 37)) (C := R_M) (T := F_M) (N := 38) hx hb hts (fun w h => List.mem_cons_of_mem _ (in_M w h)) hown hK hP 0 rfl rfl 37 (by decide) (hts _ (List.mem_cons_of_mem _ lk_38)) (fun _ h9 => h9) rfl d_M_edit_37 ?_
      refine lv_iload_n hx hb d_M_edit_40 rfl (lv_at hl 3 rfl) ?_
      obtain ⟨hc2, hf⟩ := wk_if hf
      refine va_cald hx hb hK hP 20 19 rfl rfl (wk_inb_ok hc2) d_M_edit_41 ?_
      obtain ⟨hc3, hf⟩ := wk_if hf
      refine va_cast hx hb hK hP hD hS 2 1 rfl rfl (wk_inb_ok hc3) d_M_edit_42 (fun H locs hP hD hS => ?_)
      obtain ⟨A1, hA1, hf⟩ := wk_letE hf
      have hP : va_P (dC, dI) vwCl (mw_W h q g I A1) H := by rw [hA1]; exact hP
      have hD : va_D B9 (mw_W h q g I A1) := by rw [hA1]; exact hD
      clear hA1
      refine lv_iinc (k := 3) (v := ((X 3) + 1)) (lv' := [(3, .int ((X 3) + 1)), (0, .ref h), (1, .int (X 1)), (2, .int (X 2))]) hx hb d_M_edit_43 hl rfl (wk_inc (by decide)) (by decide) rfl (fun ls hl => ?_)
      have hl : lv_has ls 4 [(3, .int ((X 3) + 1)), (0, .ref h), (1, .int (X 1)), (2, .int (X 2))] := hl
      refine lv_goto (tgt := 17) hx hb d_M_edit_46 (by decide) ?_
      exact hrc17 I A1 (upd X 3 ((X 3) + 1)) _ _ _ hf (lv_sub hl [1, 2, 3, 0] rfl) hP hD hS
  have key : ∀ n : Nat, (∀ (I : MI) (A : MA) (X : Nat → Int32) (ls : Array Slot) (H : Heap) (locs : List Loc), f_M_edit_go n 17 I A X = some (r, I', A') → lv_has ls 4 [(0, .ref h), (1, .int (X 1)), (2, .int (X 2)), (3, .int (X 3))] → va_P (dC, dI) vwCl (mw_W h q g I A) H → va_D B9 (mw_W h q g I A) → va_S B9 s.heap H locs → W p l e (headSpec w_M_edit ({ frames := 1, cells := 0, slots := 0, locals := 21 })).room s m ([.ref h, .int k1] : List Value).toArray below meth c H locs 0 0 (MQ below (va_Qv (fun (u : Unit) => u = u) (fun (_ : Unit) t => va_P (dC, dI) vwCl (mw_W h q g I' A') t.heap ∧ va_K (dC, dI) vwCl (mw_T g) t ∧ va_D B9 (mw_W h q g I' A')) B9) ([.ref h, .int k1] : List Value).toArray s 0 0 B9) (F0 m 17 ls [])) := by
    intro n
    induction n with
    | zero => exact fun I A X ls H locs hf => (by cases hf)
    | succ n ih =>
      have ih17 := ih
      exact stp17 (f_M_edit_go n) ih17
  unfold f_M_edit f_M_edit_e at hf
  have hrc17 := key wk_FUEL
  refine lv_aload_n hx hb d_M_edit_0 rfl (lv_at hl 0 rfl) ?_
  refine va_get (D := (dC, dI)) (ci := 4) (v := .int (I 3)) (C := R_M) (T := F_M) (N := 38) hx hb hts (fun w h => List.mem_cons_of_mem _ (in_M w h)) hown hK hP 0 rfl rfl 3 (by decide) (hts _ (List.mem_cons_of_mem _ lk_147)) (fun _ h9 => h9) rfl d_M_edit_1 ?_
  refine lv_istore_n (lv' := [(2, .int (I 3)), (0, .ref h), (1, .int k1)]) hx hb d_M_edit_4 rfl hl (by decide) rfl (fun ls hl => ?_)
  have hl : lv_has ls 4 [(2, .int (I 3)), (0, .ref h), (1, .int k1)] := hl
  refine lv_aload_n hx hb d_M_edit_5 rfl (lv_at hl 1 rfl) ?_
  refine lv_dup hx hb d_M_edit_6 rfl ?_
  refine va_get (D := (dC, dI)) (ci := 4) (v := .int (I 3)) (C := R_M) (T := F_M) (N := 38) hx hb hts (fun w h => List.mem_cons_of_mem _ (in_M w h)) hown hK hP 0 rfl rfl 3 (by decide) (hts _ (List.mem_cons_of_mem _ lk_147)) (fun _ h9 => h9) rfl d_M_edit_7 ?_
  refine lv_iconst (v := 1) hx hb d_M_edit_10 (by decide) ?_
  refine lv_iadd hx hb d_M_edit_11 ?_
  refine va_put (D := (dC, dI)) (ci := 4) (v := .int ((I 3) + 1)) (ty := .int) (C := R_M) (T := F_M) (N := 38) hx hb hts (fun w h => List.mem_cons_of_mem _ (in_M w h)) t_M tk_M n_M hown hK hP hD hS 0 rfl rfl 3 (by decide) (hts _ (List.mem_cons_of_mem _ lk_147)) (fun _ h9 => h9) rfl (by decide +kernel) rfl rfl (Nat.le_of_ble_eq_true rfl) d_M_edit_12 (fun H locs hP hD hS => ?_)
  obtain ⟨I1, hI1, hf⟩ := wk_letE hf
  have hP : va_P (dC, dI) vwCl (mw_W h q g I1 A) H := by rw [hI1]; exact hP
  have hD : va_D B9 (mw_W h q g I1 A) := by rw [hI1]; exact hD
  clear hI1
  refine lv_iconst (v := 0) hx hb d_M_edit_15 (by decide) ?_
  refine lv_istore_n (lv' := [(3, .int 0), (2, .int (I 3)), (0, .ref h), (1, .int k1)]) hx hb d_M_edit_16 rfl hl (by decide) rfl (fun ls hl => ?_)
  have hl : lv_has ls 4 [(3, .int 0), (2, .int (I 3)), (0, .ref h), (1, .int k1)] := hl
  exact hrc17 I1 A (upd (upd (upd (fun _ => 0) 1 k1) 2 (I 3)) 3 0) _ _ _ hf (lv_sub hl [2, 3, 1, 0] rfl) hP hD hS

set_option maxHeartbeats 8000000 in
set_option maxRecDepth 100000 in
theorem cm_M_low (l : Launch) (dC : Nat → ClassId) (dI : Nat → Nat → Nat) (h : Nat) (q : Nat → Nat) (g : Nat → ClassId) (sz : Nat) (I : MI) (A : MA) (r : Int32) (I' : MI) (A' : MA) (hf : f_M_low I A  = some (r, I', A')) : Met l y_M_low w_M_low ({ frames := 0, cells := 0, slots := 0, locals := 0 }) (va_Pc [.ref h] (fun U => U.heap.size = sz ∧ va_P (dC, dI) vwCl (mw_W h q g I A) U.heap ∧ va_K (dC, dI) vwCl (mw_T g) U ∧ va_D (fun _ => True) (mw_W h q g I A))) (va_Qi (fun (r9 : Int32) (_ : Unit) => r9 = r) (fun (_ : Unit) t => va_P (dC, dI) vwCl (mw_W h q g I' A') t.heap ∧ va_K (dC, dI) vwCl (mw_T g) t ∧ va_D (va_A (mw_W h q g I A) sz) (mw_W h q g I' A')) (va_A (mw_W h q g I A) sz)) 0 0 (va_A (mw_W h q g I A) sz) := by
  refine Met.ofW (cc := prog_6_method_13_code) (maxL := 1) (ret := (some .int)) (by decide) rfl ?_
  intro p e s m args below meth c s₁ B hml hv
  obtain ⟨rfl, hsz, hP, hK, hD0⟩ := hv
  have hx := B.exec
  have hb := B.bytes
  have hr := B.returns
  have hts := atoms_spec (ws := w_M_low) B.pre
  have hown : s.vm.findClass R_M = some m.cls := findClass_of_methodNamed B.named
  have hlocks := B.notSynchronized
  subst hsz
  have hD := hD0.self (sz := s.heap.size)
  generalize hAe : va_A (mw_W h q g I A) s.heap.size = B9 at hD ⊢
  have hA : ∀ q : Nat, s.heap.size ≤ q → B9 q := fun q h => by rw [← hAe]; exact Or.inr h
  clear hAe
  have hS : va_S B9 s.heap s.heap [] := va_S.rf
  have hl := lv_entry ([.ref h]) (n := 1) (Nat.le_of_ble_eq_true rfl)
  rw [lg_entry_eq]
  generalize (lg_sl ([.ref h]) ++ List.replicate (1 - (lg_sl ([.ref h])).length) Slot.unset).toArray = ls at hl ⊢
  have hl : lv_has ls 1 [(0, .ref h)] := hl
  have blk29 : ∀ (I : MI) (A : MA) (X : Nat → Int32) (s0 : Int32) (ls : Array Slot) (H : Heap) (locs : List Loc), f_M_low_29 I A X s0 = some (r, I', A') → lv_has ls 1 [(0, .ref h)] → va_P (dC, dI) vwCl (mw_W h q g I A) H → va_D B9 (mw_W h q g I A) → va_S B9 s.heap H locs → W p l e (headSpec w_M_low ({ frames := 0, cells := 0, slots := 0, locals := 0 })).room s m ([.ref h] : List Value).toArray below meth c H locs 0 0 (MQ below (va_Qi (fun (r9 : Int32) (_ : Unit) => r9 = r) (fun (_ : Unit) t => va_P (dC, dI) vwCl (mw_W h q g I' A') t.heap ∧ va_K (dC, dI) vwCl (mw_T g) t ∧ va_D B9 (mw_W h q g I' A')) B9) ([.ref h] : List Value).toArray s 0 0 B9) (F0 m 29 ls [.int s0]) := by
    intro I A X s0 ls H locs hf hl hP hD hS
    unfold f_M_low_29 at hf
    obtain ⟨e1, e2, e3⟩ := wk_inj hf
    subst e1
    subst e2
    subst e3
    exact W.iret (v := s0) hx hb hr (fun t ht hW => ⟨⟨s0, (), rfl, rfl, by rw [ht]; exact hP, va_K.moved hW.alike hK, hD⟩, hS.F ht⟩) hS.2.2 d_M_low_29
  have blk25 : ∀ (I : MI) (A : MA) (X : Nat → Int32) (ls : Array Slot) (H : Heap) (locs : List Loc), f_M_low_25 I A X = some (r, I', A') → lv_has ls 1 [(0, .ref h)] → va_P (dC, dI) vwCl (mw_W h q g I A) H → va_D B9 (mw_W h q g I A) → va_S B9 s.heap H locs → W p l e (headSpec w_M_low ({ frames := 0, cells := 0, slots := 0, locals := 0 })).room s m ([.ref h] : List Value).toArray below meth c H locs 0 0 (MQ below (va_Qi (fun (r9 : Int32) (_ : Unit) => r9 = r) (fun (_ : Unit) t => va_P (dC, dI) vwCl (mw_W h q g I' A') t.heap ∧ va_K (dC, dI) vwCl (mw_T g) t ∧ va_D B9 (mw_W h q g I' A')) B9) ([.ref h] : List Value).toArray s 0 0 B9) (F0 m 25 ls []) := by
    intro I A X ls H locs hf hl hP hD hS
    unfold f_M_low_25 at hf
    refine lv_aload_n hx hb d_M_low_25 rfl (lv_at hl 0 rfl) ?_
    refine va_get (D := (dC, dI)) (ci := 4) (v := .int (I 11)) (C := R_M) (T := F_M) (N := 38) hx hb hts (fun w h => List.mem_cons_of_mem _ (in_M w h)) hown hK hP 0 rfl rfl 11 (by decide) (hts _ (List.mem_cons_of_mem _ lk_126)) (fun _ h9 => h9) rfl d_M_low_26 ?_
    exact blk29 I A X (I 11) _ _ _ hf (lv_sub hl [0] rfl) hP hD hS
  unfold f_M_low at hf
  refine lv_aload_n hx hb d_M_low_0 rfl (lv_at hl 0 rfl) ?_
  refine va_get (D := (dC, dI)) (ci := 4) (v := .int (I 12)) (C := R_M) (T := F_M) (N := 38) hx hb hts (fun w h => List.mem_cons_of_mem _ (in_M w h)) hown hK hP 0 rfl rfl 12 (by decide) (hts _ (List.mem_cons_of_mem _ lk_127)) (fun _ h9 => h9) rfl d_M_low_1 ?_
  refine lv_if_lt (tgt := 25) hx hb d_M_low_4 (by decide) (fun hc1 => ?_) (fun hc1 => ?_)
  ·
    have hf := wk_ift hc1 hf
    exact blk25 I A (fun _ => 0) _ _ _ hf (lv_sub hl [0] rfl) hP hD hS
  ·
    have hf := wk_iff hc1 hf
    refine lv_aload_n hx hb d_M_low_7 rfl (lv_at hl 0 rfl) ?_
    refine va_get (D := (dC, dI)) (ci := 4) (v := .int (I 12)) (C := R_M) (T := F_M) (N := 38) hx hb hts (fun w h => List.mem_cons_of_mem _ (in_M w h)) hown hK hP 0 rfl rfl 12 (by decide) (hts _ (List.mem_cons_of_mem _ lk_127)) (fun _ h9 => h9) rfl d_M_low_8 ?_
    refine lv_aload_n hx hb d_M_low_11 rfl (lv_at hl 0 rfl) ?_
    refine va_get (D := (dC, dI)) (ci := 4) (v := .int (I 11)) (C := R_M) (T := F_M) (N := 38) hx hb hts (fun w h => List.mem_cons_of_mem _ (in_M w h)) hown hK hP 0 rfl rfl 11 (by decide) (hts _ (List.mem_cons_of_mem _ lk_126)) (fun _ h9 => h9) rfl d_M_low_12 ?_
    refine lv_icmp_ge (tgt := 25) hx hb d_M_low_15 (by decide) (fun hc2 => ?_) (fun hc2 => ?_)
    ·
      have hf := wk_ift hc2 hf
      exact blk25 I A (fun _ => 0) _ _ _ hf (lv_sub hl [0] rfl) hP hD hS
    ·
      have hf := wk_iff hc2 hf
      refine lv_aload_n hx hb d_M_low_18 rfl (lv_at hl 0 rfl) ?_
      refine va_get (D := (dC, dI)) (ci := 4) (v := .int (I 12)) (C := R_M) (T := F_M) (N := 38) hx hb hts (fun w h => List.mem_cons_of_mem _ (in_M w h)) hown hK hP 0 rfl rfl 12 (by decide) (hts _ (List.mem_cons_of_mem _ lk_127)) (fun _ h9 => h9) rfl d_M_low_19 ?_
      refine lv_goto (tgt := 29) hx hb d_M_low_22 (by decide) ?_
      exact blk29 I A (fun _ => 0) (I 12) _ _ _ hf (lv_sub hl [0] rfl) hP hD hS

-- 16.mcon06
set_option maxHeartbeats 8000000 in
set_option maxRecDepth 100000 in
theorem cm_M_high (l : Launch) (dC : Nat → ClassId) (dI : Nat → Nat → Nat) (h : Nat) (q : Nat → Nat) (g : Nat → ClassId) (sz : Nat) (I : MI) (A : MA) (r : Int32) (I' : MI) (A' : MA) (hf : f_M_high I A  = some (r, I', A')) : Met l y_M_high w_M_high ({ frames := 0, cells := 0, slots := 0, locals := 0 }) (va_Pc [.ref h] (fun U => U.heap.size = sz ∧ va_P (dC, dI) vwCl (mw_W h q g I A) U.heap ∧ va_K (dC, dI) vwCl (mw_T g) U ∧ va_D (fun _ => True) (mw_W h q g I A))) (va_Qi (fun (r9 : Int32) (_ : Unit) => r9 = r) (fun (_ : Unit) t => va_P (dC, dI) vwCl (mw_W h q g I' A') t.heap ∧ va_K (dC, dI) vwCl (mw_T g) t ∧ va_D (va_A (mw_W h q g I A) sz) (mw_W h q g I' A')) (va_A (mw_W h q g I A) sz)) 0 0 (va_A (mw_W h q g I A) sz) := by
  refine Met.ofW (cc := prog_6_method_14_code) (maxL := 1) (ret := (some .int)) (by decide) rfl ?_
  intro p e s m args below meth c s₁ B hml hv
  obtain ⟨rfl, hsz, hP, hK, hD0⟩ := hv
  have hx := B.exec
  have hb := B.bytes
  have hr := B.returns
  have hts := atoms_spec (ws := w_M_high) B.pre
  have hown : s.vm.findClass R_M = some m.cls := findClass_of_methodNamed B.named
  have hlocks := B.notSynchronized
  subst hsz
  have hD := hD0.self (sz := s.heap.size)
  generalize hAe : va_A (mw_W h q g I A) s.heap.size = B9 at hD ⊢
  have hA : ∀ q : Nat, s.heap.size ≤ q → B9 q := fun q h => by rw [← hAe]; exact Or.inr h
  clear hAe
  have hS : va_S B9 s.heap s.heap [] := va_S.rf
  have hl := lv_entry ([.ref h]) (n := 1) (Nat.le_of_ble_eq_true rfl)
  rw [lg_entry_eq]
  generalize (lg_sl ([.ref h]) ++ List.replicate (1 - (lg_sl ([.ref h])).length) Slot.unset).toArray = ls at hl ⊢
  have hl : lv_has ls 1 [(0, .ref h)] := hl
  have blk22 : ∀ (I : MI) (A : MA) (X : Nat → Int32) (s0 : Int32) (ls : Array Slot) (H : Heap) (locs : List Loc), f_M_high_22 I A X s0 = some (r, I', A') → lv_has ls 1 [(0, .ref h)] → va_P (dC, dI) vwCl (mw_W h q g I A) H → va_D B9 (mw_W h q g I A) → va_S B9 s.heap H locs → W p l e (headSpec w_M_high ({ frames := 0, cells := 0, slots := 0, locals := 0 })).room s m ([.ref h] : List Value).toArray below meth c H locs 0 0 (MQ below (va_Qi (fun (r9 : Int32) (_ : Unit) => r9 = r) (fun (_ : Unit) t => va_P (dC, dI) vwCl (mw_W h q g I' A') t.heap ∧ va_K (dC, dI) vwCl (mw_T g) t ∧ va_D B9 (mw_W h q g I' A')) B9) ([.ref h] : List Value).toArray s 0 0 B9) (F0 m 22 ls [.int s0]) := by
    intro I A X s0 ls H locs hf hl hP hD hS
    unfold f_M_high_22 at hf
    obtain ⟨e1, e2, e3⟩ := wk_inj hf
    subst e1
    subst e2
    subst e3
    exact W.iret (v := s0) hx hb hr (fun t ht hW => ⟨⟨s0, (), rfl, rfl, by rw [ht]; exact hP, va_K.moved hW.alike hK, hD⟩, hS.F ht⟩) hS.2.2 d_M_high_22
  unfold f_M_high at hf
  refine lv_aload_n hx hb d_M_high_0 rfl (lv_at hl 0 rfl) ?_
  refine va_get (D := (dC, dI)) (ci := 4) (v := .int (I 12)) (C := R_M) (T := F_M) (N := 38) hx hb hts (fun w h => List.mem_cons_of_mem _ (in_M w h)) hown hK hP 0 rfl rfl 12 (by decide) (hts _ (List.mem_cons_of_mem _ lk_127)) (fun _ h9 => h9) rfl d_M_high_1 ?_
  refine lv_aload_n hx hb d_M_high_4 rfl (lv_at hl 0 rfl) ?_
  refine va_get (D := (dC, dI)) (ci := 4) (v := .int (I 11)) (C := R_M) (T := F_M) (N := 38) hx hb hts (fun w h => List.mem_cons_of_mem _ (in_M w h)) hown hK hP 0 rfl rfl 11 (by decide) (hts _ (List.mem_cons_of_mem _ lk_126)) (fun _ h9 => h9) rfl d_M_high_5 ?_
  refine lv_icmp_le (tgt := 18) hx hb d_M_high_8 (by decide) (fun hc1 => ?_) (fun hc1 => ?_)
  ·
    have hf := wk_ift hc1 hf
    refine lv_aload_n hx hb d_M_high_18 rfl (lv_at hl 0 rfl) ?_
    refine va_get (D := (dC, dI)) (ci := 4) (v := .int (I 11)) (C := R_M) (T := F_M) (N := 38) hx hb hts (fun w h => List.mem_cons_of_mem _ (in_M w h)) hown hK hP 0 rfl rfl 11 (by decide) (hts _ (List.mem_cons_of_mem _ lk_126)) (fun _ h9 => h9) rfl d_M_high_19 ?_
    exact blk22 I A (fun _ => 0) (I 11) _ _ _ hf (lv_sub hl [0] rfl) hP hD hS
  ·
    have hf := wk_iff hc1 hf
    refine lv_aload_n hx hb d_M_high_11 rfl (lv_at hl 0 rfl) ?_
    refine va_get (D := (dC, dI)) (ci := 4) (v := .int (I 12)) (C := R_M) (T := F_M) (N := 38) hx hb hts (fun w h => List.mem_cons_of_mem _ (in_M w h)) hown hK hP 0 rfl rfl 12 (by decide) (hts _ (List.mem_cons_of_mem _ lk_127)) (fun _ h9 => h9) rfl d_M_high_12 ?_
    refine lv_goto (tgt := 22) hx hb d_M_high_15 (by decide) ?_
    exact blk22 I A (fun _ => 0) (I 12) _ _ _ hf (lv_sub hl [0] rfl) hP hD hS

set_option maxHeartbeats 8000000 in
set_option maxRecDepth 100000 in
theorem cm_M_erase (l : Launch) (dC : Nat → ClassId) (dI : Nat → Nat → Nat) (h : Nat) (q : Nat → Nat) (g : Nat → ClassId) (sz : Nat) (I : MI) (A : MA) (k1 : Int32) (r : Int32) (I' : MI) (A' : MA) (hf : f_M_erase I A k1 = some (r, I', A')) : Met l y_M_erase w_M_erase ({ frames := 2, cells := 0, slots := 0, locals := 45 }) (va_Pc [.ref h, .int k1] (fun U => U.heap.size = sz ∧ va_P (dC, dI) vwCl (mw_W h q g I A) U.heap ∧ va_K (dC, dI) vwCl (mw_T g) U ∧ va_D (fun _ => True) (mw_W h q g I A))) (va_Qi (fun (r9 : Int32) (_ : Unit) => r9 = r) (fun (_ : Unit) t => va_P (dC, dI) vwCl (mw_W h q g I' A') t.heap ∧ va_K (dC, dI) vwCl (mw_T g) t ∧ va_D (va_A (mw_W h q g I A) sz) (mw_W h q g I' A')) (va_A (mw_W h q g I A) sz)) 0 0 (va_A (mw_W h q g I A) sz) := by
  refine Met.ofW (cc := prog_6_method_16_code) (maxL := 5) (ret := (some .int)) (by decide) rfl ?_
  intro p e s m args below meth c s₁ B hml hv
  obtain ⟨rfl, hsz, hP, hK, hD0⟩ := hv
  have hx := B.exec
  have hb := B.bytes
  have hr := B.returns
  have hts := atoms_spec (ws := w_M_erase) B.pre
  have hown : s.vm.findClass R_M = some m.cls := findClass_of_methodNamed B.named
  have hlocks := B.notSynchronized
  subst hsz
  have hD := hD0.self (sz := s.heap.size)
  generalize hAe : va_A (mw_W h q g I A) s.heap.size = B9 at hD ⊢
  have hA : ∀ q : Nat, s.heap.size ≤ q → B9 q := fun q h => by rw [← hAe]; exact Or.inr h
  clear hAe
  have hS : va_S B9 s.heap s.heap [] := va_S.rf
  have hl := lv_entry ([.ref h, .int k1]) (n := 5) (Nat.le_of_ble_eq_true rfl)
  rw [lg_entry_eq]
  generalize (lg_sl ([.ref h, .int k1]) ++ List.replicate (5 - (lg_sl ([.ref h, .int k1])).length) Slot.unset).toArray = ls at hl ⊢
  have hl : lv_has ls 5 [(0, .ref h), (1, .int k1)] := hl
  have blk123 : ∀ (I : MI) (A : MA) (X : Nat → Int32) (ls : Array Slot) (H : Heap) (locs : List Loc), f_M_erase_123 I A X = some (r, I', A') → lv_has ls 5 [(0, .ref h), (1, .int (X 1)), (2, .int (X 2)), (3, .int (X 3))] → va_P (dC, dI) vwCl (mw_W h q g I A) H → va_D B9 (mw_W h q g I A) → va_S B9 s.heap H locs → W p l e (headSpec w_M_erase ({ frames := 2, cells := 0, slots := 0, locals := 45 })).room s m ([.ref h, .int k1] : List Value).toArray below meth c H locs 0 0 (MQ below (va_Qi (fun (r9 : Int32) (_ : Unit) => r9 = r) (fun (_ : Unit) t => va_P (dC, dI) vwCl (mw_W h q g I' A') t.heap ∧ va_K (dC, dI) vwCl (mw_T g) t ∧ va_D B9 (mw_W h q g I' A')) B9) ([.ref h, .int k1] : List Value).toArray s 0 0 B9) (F0 m 123 ls []) := by
    intro I A X ls H locs hf hl hP hD hS
    unfold f_M_erase_123 at hf
    refine lv_iconst (v := 0) hx hb d_M_erase_123 (by decide) ?_
    obtain ⟨e1, e2, e3⟩ := wk_inj hf
    subst e1
    subst e2
    subst e3
    exact W.iret (v := 0) hx hb hr (fun t ht hW => ⟨⟨0, (), rfl, rfl, by rw [ht]; exact hP, va_K.moved hW.alike hK, hD⟩, hS.F ht⟩) hS.2.2 d_M_erase_124
  have blk108 : ∀ (I : MI) (A : MA) (X : Nat → Int32) (s0 : Int32) (ls : Array Slot) (H : Heap) (locs : List Loc), f_M_erase_108 I A X s0 = some (r, I', A') → lv_has ls 5 [(0, .ref h), (1, .int (X 1)), (2, .int (X 2)), (3, .int (X 3))] → va_P (dC, dI) vwCl (mw_W h q g I A) H → va_D B9 (mw_W h q g I A) → va_S B9 s.heap H locs → W p l e (headSpec w_M_erase ({ frames := 2, cells := 0, slots := 0, locals := 45 })).room s m ([.ref h, .int k1] : List Value).toArray below meth c H locs 0 0 (MQ below (va_Qi (fun (r9 : Int32) (_ : Unit) => r9 = r) (fun (_ : Unit) t => va_P (dC, dI) vwCl (mw_W h q g I' A') t.heap ∧ va_K (dC, dI) vwCl (mw_T g) t ∧ va_D B9 (mw_W h q g I' A')) B9) ([.ref h, .int k1] : List Value).toArray s 0 0 B9) (F0 m 108 ls [.int s0, .ref h]) := by
    intro I A X s0 ls H locs hf hl hP hD hS
    unfold f_M_erase_108 at hf
    refine va_put (D := (dC, dI)) (ci := 4) (v := .int s0) (ty := .int) (C := R_M) (T := F_M) (N := 38) hx hb hts (fun w h => List.mem_cons_of_mem _ (in_M w h)) t_M tk_M n_M hown hK hP hD hS 0 rfl rfl 0 (by decide) (hts _ (List.mem_cons_of_mem _ lk_60)) (fun _ h9 => h9) rfl (by decide +kernel) rfl rfl (Nat.le_of_ble_eq_true rfl) d_M_erase_108 (fun H locs hP hD hS => ?_)
    obtain ⟨I1, hI1, hf⟩ := wk_letE hf
    have hP : va_P (dC, dI) vwCl (mw_W h q g I1 A) H := by rw [hI1]; exact hP
    have hD : va_D B9 (mw_W h q g I1 A) := by rw [hI1]; exact hD
    clear hI1
    refine lv_aload_n hx hb d_M_erase_111 rfl (lv_at hl 0 rfl) ?_
    refine va_get (D := (dC, dI)) (ci := 4) (v := .int (I1 0)) (C := R_M) (T := F_M) (N := 38) hx hb hts (fun w h => List.mem_cons_of_mem _ (in_M w h)) hown hK hP 0 rfl rfl 0 (by decide) (hts _ (List.mem_cons_of_mem _ lk_60)) (fun _ h9 => h9) rfl d_M_erase_112 ?_
    refine lv_if_gt (tgt := 123) hx hb d_M_erase_115 (by decide) (fun hc1 => ?_) (fun hc1 => ?_)
    ·
      have hf := wk_ift hc1 hf
      exact blk123 I1 A X _ _ _ hf (lv_sub hl [0, 1, 2, 3] rfl) hP hD hS
    ·
      have hf := wk_iff hc1 hf
      refine lv_iload_n hx hb d_M_erase_118 rfl (lv_at hl 2 rfl) ?_
      refine lv_iload_n hx hb d_M_erase_119 rfl (lv_at hl 3 rfl) ?_
      refine lv_icmp_ne (tgt := 125) hx hb d_M_erase_120 (by decide) (fun hc2 => ?_) (fun hc2 => ?_)
      ·
        have hf := wk_iff hc2 hf
        refine lv_aload_n hx hb d_M_erase_125 rfl (lv_at hl 0 rfl) ?_
        refine lv_iconst (v := 0) hx hb d_M_erase_126 (by decide) ?_
        refine va_put (D := (dC, dI)) (ci := 4) (v := .int 0) (ty := .int) (C := R_M) (T := F_M) (N := 38) hx hb hts (fun w h => List.mem_cons_of_mem _ (in_M w h)) t_M tk_M n_M hown hK hP hD hS 0 rfl rfl 36 (by decide) (hts _ (List.mem_cons_of_mem _ lk_39)) (fun _ h9 => h9) rfl (by decide +kernel) rfl rfl (Nat.le_of_ble_eq_true rfl) d_M_erase_127 (fun H locs hP hD hS => ?_)
        obtain ⟨I2, hI2, hf⟩ := wk_letE hf
        have hP : va_P (dC, dI) vwCl (mw_W h q g I2 A) H := by rw [hI2]; exact hP
        have hD : va_D B9 (mw_W h q g I2 A) := by rw [hI2]; exact hD
        clear hI2
        refine lv_aload_n hx hb d_M_erase_130 rfl (lv_at hl 0 rfl) ?_
        refine lv_iconst (v := 0) hx hb d_M_erase_131 (by decide) ?_
        refine lv_iload_n hx hb d_M_erase_132 rfl (lv_at hl 2 rfl) ?_
        have hPc := hP.sub (ws' := (mw_W h q g I2 A)) [0, 1, 2, 3, 4, 5, 6, 7, 8, 9, 10, 11, 12, 13, 14, 15, 16, 17, 18, 19, 20] rfl
        have hDc := hD.sub (ws' := (mw_W h q g I2 A)) [0, 1, 2, 3, 4, 5, 6, 7, 8, 9, 10, 11, 12, 13, 14, 15, 16, 17, 18, 19, 20] (by decide) rfl
        have hKc := hK.sub (tys' := (mw_T g)) [0, 1, 2, 3, 4, 5, 6, 7, 8, 9, 10, 11, 12, 13, 14, 15, 16, 17, 18, 19] rfl
        have hFc := va_free (wc := (mw_W h q g I2 A)) hD hS hA [0, 1, 2, 3, 4, 5, 6, 7, 8, 9, 10, 11, 12, 13, 14, 15, 16, 17, 18, 19, 20] rfl
        cases hg3 : f_M_addText I2 A 0 (X 2) with
        | none => rw [hg3] at hf; cases hf
        | some z3 =>
          obtain ⟨r3, I3, A3⟩ := z3
          rw [hg3] at hf
          dsimp only [Option.bind_some] at hf
          refine va_callv (va_runV (As := [.int 0, .int (X 2)]) (rest := []) ⟨hx, hb, hml, hown, hts⟩ (cm_M_addText l dC dI h q g _ I2 A 0 (X 2) r3 I3 A3 hg3) (cwV 2 hts (gd_v lk_161 lk_162 lk_163 lk_46 lk_54) rfl rfl rfl (by decide +kernel) ⟨Nat.le_of_ble_eq_true rfl, Nat.le_of_ble_eq_true rfl⟩) ⟨fun a U g mk q => by obtain ⟨q0, q1, qP, qK, qD⟩ := q; exact ⟨q0, q1, qP, va_K.moved (u := U) (U := U.calling g mk a) (Vm.Alike.refl U.vm) qK, qD⟩, va_recv (ci := 4) (q0 := 0) hK hP rfl rfl, fun U hU hW => ⟨rfl, by rw [hU], by rw [hU]; exact hPc, va_K.moved hW.alike hKc, hDc.weaken (fun _ _ _ _ => trivial)⟩⟩ rfl rfl hl.1 rfl (lv_room (Nat.le_of_ble_eq_true rfl)) d_M_erase_133 ⟨Nat.le_of_ble_eq_true rfl, Nat.le_of_ble_eq_true rfl⟩) hS (fun q _ h => hFc q h) hFc (fun u t H1 locs ht hvm hw hB hz1 hk1 hS => ?_)
          obtain ⟨hP1, hK1, hD1⟩ := hB
          rw [ht] at hP1
          obtain ⟨hP, hD⟩ := va_join (wr := []) (w1 := (mw_W h q g I3 A3)) hP hD [0, 1, 2, 3, 4, 5, 6, 7, 8, 9, 10, 11, 12, 13, 14, 15, 16, 17, 18, 19, 20] [] rfl rfl (by decide) (by decide) hk1 hFc hP1 hD1
          generalize H1 = H at hP hS ⊢
          have hP : va_P (dC, dI) vwCl (mw_W h q g I3 A3) H := hP
          have hD : va_D B9 (mw_W h q g I3 A3) := hD
          refine lv_aload_n hx hb d_M_erase_136 rfl (lv_at hl 0 rfl) ?_
          refine lv_iload_n hx hb d_M_erase_137 rfl (lv_at hl 3 rfl) ?_
          refine lv_aload_n hx hb d_M_erase_138 rfl (lv_at hl 0 rfl) ?_
          have hPc := hP.sub (ws' := (mw_W h q g I3 A3)) [0, 1, 2, 3, 4, 5, 6, 7, 8, 9, 10, 11, 12, 13, 14, 15, 16, 17, 18, 19, 20] rfl
          have hDc := hD.sub (ws' := (mw_W h q g I3 A3)) [0, 1, 2, 3, 4, 5, 6, 7, 8, 9, 10, 11, 12, 13, 14, 15, 16, 17, 18, 19, 20] (by decide) rfl
          have hKc := hK.sub (tys' := (mw_T g)) [0, 1, 2, 3, 4, 5, 6, 7, 8, 9, 10, 11, 12, 13, 14, 15, 16, 17, 18, 19] rfl
          have hFc := va_free (wc := (mw_W h q g I3 A3)) hD hS hA [0, 1, 2, 3, 4, 5, 6, 7, 8, 9, 10, 11, 12, 13, 14, 15, 16, 17, 18, 19, 20] rfl
          cases hg4 : f_M_textLength I3 A3 with
          | none => rw [hg4] at hf; cases hf
          | some z4 =>
            obtain ⟨r4, I4, A4⟩ := z4
            rw [hg4] at hf
            dsimp only [Option.bind_some] at hf
            refine va_calli (va_runV (As := []) (rest := [.int (X 3), .ref h]) ⟨hx, hb, hml, hown, hts⟩ (cm_M_textLength l dC dI h q g _ I3 A3 r4 I4 A4 hg4) (cwV 0 hts (gd_v lk_57 lk_58 lk_59 lk_46 lk_56) rfl rfl rfl (by decide +kernel) ⟨Nat.le_of_ble_eq_true rfl, Nat.le_of_ble_eq_true rfl⟩) ⟨fun a U g mk q => by obtain ⟨q0, q1, qP, qK, qD⟩ := q; exact ⟨q0, q1, qP, va_K.moved (u := U) (U := U.calling g mk a) (Vm.Alike.refl U.vm) qK, qD⟩, va_recv (ci := 4) (q0 := 0) hK hP rfl rfl, fun U hU hW => ⟨rfl, by rw [hU], by rw [hU]; exact hPc, va_K.moved hW.alike hKc, hDc.weaken (fun _ _ _ _ => trivial)⟩⟩ rfl rfl hl.1 rfl (lv_room (Nat.le_of_ble_eq_true rfl)) d_M_erase_139 ⟨Nat.le_of_ble_eq_true rfl, Nat.le_of_ble_eq_true rfl⟩) hS (fun q _ h => hFc q h) hFc (fun r9 u t H1 locs ht hvm hw hB hz1 hk1 hS => ?_)
            obtain ⟨hP1, hK1, hD1⟩ := hB
            rw [ht] at hP1
            rw [hw]
            obtain ⟨hP, hD⟩ := va_join (wr := []) (w1 := (mw_W h q g I4 A4)) hP hD [0, 1, 2, 3, 4, 5, 6, 7, 8, 9, 10, 11, 12, 13, 14, 15, 16, 17, 18, 19, 20] [] rfl rfl (by decide) (by decide) hk1 hFc hP1 hD1
            generalize H1 = H at hP hS ⊢
            have hP : va_P (dC, dI) vwCl (mw_W h q g I4 A4) H := hP
            have hD : va_D B9 (mw_W h q g I4 A4) := hD
            have hPc := hP.sub (ws' := (mw_W h q g I4 A4)) [0, 1, 2, 3, 4, 5, 6, 7, 8, 9, 10, 11, 12, 13, 14, 15, 16, 17, 18, 19, 20] rfl
            have hDc := hD.sub (ws' := (mw_W h q g I4 A4)) [0, 1, 2, 3, 4, 5, 6, 7, 8, 9, 10, 11, 12, 13, 14, 15, 16, 17, 18, 19, 20] (by decide) rfl
            have hKc := hK.sub (tys' := (mw_T g)) [0, 1, 2, 3, 4, 5, 6, 7, 8, 9, 10, 11, 12, 13, 14, 15, 16, 17, 18, 19] rfl
            have hFc := va_free (wc := (mw_W h q g I4 A4)) hD hS hA [0, 1, 2, 3, 4, 5, 6, 7, 8, 9, 10, 11, 12, 13, 14, 15, 16, 17, 18, 19, 20] rfl
            cases hg5 : f_M_addText I4 A4 (X 3) r4 with
            | none => rw [hg5] at hf; cases hf
            | some z5 =>
              obtain ⟨r5, I5, A5⟩ := z5
              rw [hg5] at hf
              dsimp only [Option.bind_some] at hf
              refine va_callv (va_runV (As := [.int (X 3), .int r4]) (rest := []) ⟨hx, hb, hml, hown, hts⟩ (cm_M_addText l dC dI h q g _ I4 A4 (X 3) r4 r5 I5 A5 hg5) (cwV 2 hts (gd_v lk_161 lk_162 lk_163 lk_46 lk_54) rfl rfl rfl (by decide +kernel) ⟨Nat.le_of_ble_eq_true rfl, Nat.le_of_ble_eq_true rfl⟩) ⟨fun a U g mk q => by obtain ⟨q0, q1, qP, qK, qD⟩ := q; exact ⟨q0, q1, qP, va_K.moved (u := U) (U := U.calling g mk a) (Vm.Alike.refl U.vm) qK, qD⟩, va_recv (ci := 4) (q0 := 0) hK hP rfl rfl, fun U hU hW => ⟨rfl, by rw [hU], by rw [hU]; exact hPc, va_K.moved hW.alike hKc, hDc.weaken (fun _ _ _ _ => trivial)⟩⟩ rfl rfl hl.1 rfl (lv_room (Nat.le_of_ble_eq_true rfl)) d_M_erase_142 ⟨Nat.le_of_ble_eq_true rfl, Nat.le_of_ble_eq_true rfl⟩) hS (fun q _ h => hFc q h) hFc (fun u t H1 locs ht hvm hw hB hz1 hk1 hS => ?_)
              obtain ⟨hP1, hK1, hD1⟩ := hB
              rw [ht] at hP1
              obtain ⟨hP, hD⟩ := va_join (wr := []) (w1 := (mw_W h q g I5 A5)) hP hD [0, 1, 2, 3, 4, 5, 6, 7, 8, 9, 10, 11, 12, 13, 14, 15, 16, 17, 18, 19, 20] [] rfl rfl (by decide) (by decide) hk1 hFc hP1 hD1
              generalize H1 = H at hP hS ⊢
              have hP : va_P (dC, dI) vwCl (mw_W h q g I5 A5) H := hP
              have hD : va_D B9 (mw_W h q g I5 A5) := hD
              refine lv_aload_n hx hb d_M_erase_145 rfl (lv_at hl 0 rfl) ?_
              refine lv_iload_n hx hb d_M_erase_146 rfl (lv_at hl 2 rfl) ?_
              have hPc := hP.sub (ws' := (mw_W h q g I5 A5)) [0, 1, 2, 3, 4, 5, 6, 7, 8, 9, 10, 11, 12, 13, 14, 15, 16, 17, 18, 19, 20] rfl
              have hDc := hD.sub (ws' := (mw_W h q g I5 A5)) [0, 1, 2, 3, 4, 5, 6, 7, 8, 9, 10, 11, 12, 13, 14, 15, 16, 17, 18, 19, 20] (by decide) rfl
              have hKc := hK.sub (tys' := (mw_T g)) [0, 1, 2, 3, 4, 5, 6, 7, 8, 9, 10, 11, 12, 13, 14, 15, 16, 17, 18, 19] rfl
              have hFc := va_free (wc := (mw_W h q g I5 A5)) hD hS hA [0, 1, 2, 3, 4, 5, 6, 7, 8, 9, 10, 11, 12, 13, 14, 15, 16, 17, 18, 19, 20] rfl
              cases hg6 : f_M_edit I5 A5 (X 2) with
              | none => rw [hg6] at hf; cases hf
              | some z6 =>
                obtain ⟨r6, I6, A6⟩ := z6
                rw [hg6] at hf
                dsimp only [Option.bind_some] at hf
                refine va_callv (va_runV (As := [.int (X 2)]) (rest := []) ⟨hx, hb, hml, hown, hts⟩ (cm_M_edit l dC dI h q g _ I5 A5 (X 2) r6 I6 A6 hg6) (cwV 1 hts (gd_v lk_164 lk_165 lk_166 lk_46 lk_152) rfl rfl rfl (by decide +kernel) ⟨Nat.le_of_ble_eq_true rfl, Nat.le_of_ble_eq_true rfl⟩) ⟨fun a U g mk q => by obtain ⟨q0, q1, qP, qK, qD⟩ := q; exact ⟨q0, q1, qP, va_K.moved (u := U) (U := U.calling g mk a) (Vm.Alike.refl U.vm) qK, qD⟩, va_recv (ci := 4) (q0 := 0) hK hP rfl rfl, fun U hU hW => ⟨rfl, by rw [hU], by rw [hU]; exact hPc, va_K.moved hW.alike hKc, hDc.weaken (fun _ _ _ _ => trivial)⟩⟩ rfl rfl hl.1 rfl (lv_room (Nat.le_of_ble_eq_true rfl)) d_M_erase_147 ⟨Nat.le_of_ble_eq_true rfl, Nat.le_of_ble_eq_true rfl⟩) hS (fun q _ h => hFc q h) hFc (fun u t H1 locs ht hvm hw hB hz1 hk1 hS => ?_)
                obtain ⟨hP1, hK1, hD1⟩ := hB
                rw [ht] at hP1
                obtain ⟨hP, hD⟩ := va_join (wr := []) (w1 := (mw_W h q g I6 A6)) hP hD [0, 1, 2, 3, 4, 5, 6, 7, 8, 9, 10, 11, 12, 13, 14, 15, 16, 17, 18, 19, 20] [] rfl rfl (by decide) (by decide) hk1 hFc hP1 hD1
                generalize H1 = H at hP hS ⊢
                have hP : va_P (dC, dI) vwCl (mw_W h q g I6 A6) H := hP
                have hD : va_D B9 (mw_W h q g I6 A6) := hD
                refine lv_iload_n hx hb d_M_erase_150 rfl (lv_at hl 3 rfl) ?_
                refine lv_iload_n hx hb d_M_erase_151 rfl (lv_at hl 2 rfl) ?_
                refine lv_isub hx hb d_M_erase_152 ?_
                obtain ⟨e1, e2, e3⟩ := wk_inj hf
                subst e1
                subst e2
                subst e3
                exact W.iret (v := ((X 3) - (X 2))) hx hb hr (fun t ht hW => ⟨⟨((X 3) - (X 2)), (), rfl, rfl, by rw [ht]; exact hP, va_K.moved hW.alike hK, hD⟩, hS.F ht⟩) hS.2.2 d_M_erase_153
      ·
        have hf := wk_ift hc2 hf
        exact blk123 I1 A X _ _ _ hf (lv_sub hl [0, 1, 2, 3] rfl) hP hD hS
  have blk107 : ∀ (I : MI) (A : MA) (X : Nat → Int32) (ls : Array Slot) (H : Heap) (locs : List Loc), f_M_erase_107 I A X = some (r, I', A') → lv_has ls 5 [(0, .ref h), (1, .int (X 1)), (2, .int (X 2)), (3, .int (X 3))] → va_P (dC, dI) vwCl (mw_W h q g I A) H → va_D B9 (mw_W h q g I A) → va_S B9 s.heap H locs → W p l e (headSpec w_M_erase ({ frames := 2, cells := 0, slots := 0, locals := 45 })).room s m ([.ref h, .int k1] : List Value).toArray below meth c H locs 0 0 (MQ below (va_Qi (fun (r9 : Int32) (_ : Unit) => r9 = r) (fun (_ : Unit) t => va_P (dC, dI) vwCl (mw_W h q g I' A') t.heap ∧ va_K (dC, dI) vwCl (mw_T g) t ∧ va_D B9 (mw_W h q g I' A')) B9) ([.ref h, .int k1] : List Value).toArray s 0 0 B9) (F0 m 107 ls [.ref h]) := by
    intro I A X ls H locs hf hl hP hD hS
    unfold f_M_erase_107 at hf
    refine lv_iconst (v := 0) hx hb d_M_erase_107 (by decide) ?_
    exact blk108 I A X 0 _ _ _ hf (lv_sub hl [0, 1, 2, 3] rfl) hP hD hS
  have blk88 : ∀ (I : MI) (A : MA) (X : Nat → Int32) (ls : Array Slot) (H : Heap) (locs : List Loc), f_M_erase_88 I A X = some (r, I', A') → lv_has ls 5 [(0, .ref h), (1, .int (X 1)), (2, .int (X 2)), (3, .int (X 3))] → va_P (dC, dI) vwCl (mw_W h q g I A) H → va_D B9 (mw_W h q g I A) → va_S B9 s.heap H locs → W p l e (headSpec w_M_erase ({ frames := 2, cells := 0, slots := 0, locals := 45 })).room s m ([.ref h, .int k1] : List Value).toArray below meth c H locs 0 0 (MQ below (va_Qi (fun (r9 : Int32) (_ : Unit) => r9 = r) (fun (_ : Unit) t => va_P (dC, dI) vwCl (mw_W h q g I' A') t.heap ∧ va_K (dC, dI) vwCl (mw_T g) t ∧ va_D B9 (mw_W h q g I' A')) B9) ([.ref h, .int k1] : List Value).toArray s 0 0 B9) (F0 m 88 ls []) := by
    intro I A X ls H locs hf hl hP hD hS
    unfold f_M_erase_88 at hf
    refine lv_aload_n hx hb d_M_erase_88 rfl (lv_at hl 0 rfl) ?_
    refine lv_iload_n hx hb d_M_erase_89 rfl (lv_at hl 3 rfl) ?_
    refine lv_iload_n hx hb d_M_erase_90 rfl (lv_at hl 2 rfl) ?_
    refine lv_icmp_le (tgt := 107) hx hb d_M_erase_91 (by decide) (fun hc1 => ?_) (fun hc1 => ?_)
    ·
      have hf := wk_ift hc1 hf
      exact blk107 I A X _ _ _ hf (lv_sub hl [0, 1, 2, 3] rfl) hP hD hS
    ·
      have hf := wk_iff hc1 hf
      refine lv_aload_n hx hb d_M_erase_94 rfl (lv_at hl 0 rfl) ?_
      refine va_get (D := (dC, dI)) (ci := 4) (v := .int (I 3)) (C := R_M) (T := F_M) (N := 38) hx hb hts (fun w h => List.mem_cons_of_mem _ (in_M w h)) hown hK hP 0 rfl rfl 3 (by decide) (hts _ (List.mem_cons_of_mem _ lk_147)) (fun _ h9 => h9) rfl d_M_erase_95 ?_
      refine lv_bipush (v := 40) hx hb d_M_erase_98 (by decide) ?_
      refine lv_icmp_ne (tgt := 107) hx hb d_M_erase_100 (by decide) (fun hc2 => ?_) (fun hc2 => ?_)
      ·
        have hf := wk_iff hc2 hf
        exact blk107 I A X _ _ _ hf (lv_sub hl [0, 1, 2, 3] rfl) hP hD hS
      ·
        have hf := wk_ift hc2 hf
        refine lv_iconst (v := 1) hx hb d_M_erase_103 (by decide) ?_
        refine lv_goto (tgt := 108) hx hb d_M_erase_104 (by decide) ?_
        exact blk108 I A X 1 _ _ _ hf (lv_sub hl [0, 1, 2, 3] rfl) hP hD hS
  have blk87 : ∀ (I : MI) (A : MA) (X : Nat → Int32) (s0 : Int32) (ls : Array Slot) (H : Heap) (locs : List Loc), f_M_erase_87 I A X s0 = some (r, I', A') → lv_has ls 5 [(0, .ref h), (1, .int (X 1)), (2, .int (X 2)), (3, .int (X 3)), (4, .int (X 4))] → va_P (dC, dI) vwCl (mw_W h q g I A) H → va_D B9 (mw_W h q g I A) → va_S B9 s.heap H locs → W p l e (headSpec w_M_erase ({ frames := 2, cells := 0, slots := 0, locals := 45 })).room s m ([.ref h, .int k1] : List Value).toArray below meth c H locs 0 0 (MQ below (va_Qi (fun (r9 : Int32) (_ : Unit) => r9 = r) (fun (_ : Unit) t => va_P (dC, dI) vwCl (mw_W h q g I' A') t.heap ∧ va_K (dC, dI) vwCl (mw_T g) t ∧ va_D B9 (mw_W h q g I' A')) B9) ([.ref h, .int k1] : List Value).toArray s 0 0 B9) (F0 m 87 ls [.int s0]) := by
    intro I A X s0 ls H locs hf hl hP hD hS
    unfold f_M_erase_87 at hf
    refine lv_istore_n (lv' := [(3, .int s0), (0, .ref h), (1, .int (X 1)), (2, .int (X 2)), (4, .int (X 4))]) hx hb d_M_erase_87 rfl hl (by decide) rfl (fun ls hl => ?_)
    have hl : lv_has ls 5 [(3, .int s0), (0, .ref h), (1, .int (X 1)), (2, .int (X 2)), (4, .int (X 4))] := hl
    exact blk88 I A (upd X 3 s0) _ _ _ hf (lv_sub hl [1, 2, 3, 0] rfl) hP hD hS
  have blk56 : ∀ (I : MI) (A : MA) (X : Nat → Int32) (s0 : Int32) (ls : Array Slot) (H : Heap) (locs : List Loc), f_M_erase_56 I A X s0 = some (r, I', A') → lv_has ls 5 [(0, .ref h), (1, .int (X 1)), (2, .int (X 2)), (3, .int (X 3)), (4, .int (X 4))] → va_P (dC, dI) vwCl (mw_W h q g I A) H → va_D B9 (mw_W h q g I A) → va_S B9 s.heap H locs → W p l e (headSpec w_M_erase ({ frames := 2, cells := 0, slots := 0, locals := 45 })).room s m ([.ref h, .int k1] : List Value).toArray below meth c H locs 0 0 (MQ below (va_Qi (fun (r9 : Int32) (_ : Unit) => r9 = r) (fun (_ : Unit) t => va_P (dC, dI) vwCl (mw_W h q g I' A') t.heap ∧ va_K (dC, dI) vwCl (mw_T g) t ∧ va_D B9 (mw_W h q g I' A')) B9) ([.ref h, .int k1] : List Value).toArray s 0 0 B9) (F0 m 56 ls [.int s0]) := by
    intro I A X s0 ls H locs hf hl hP hD hS
    unfold f_M_erase_56 at hf
    refine lv_istore_n (lv' := [(2, .int s0), (0, .ref h), (1, .int (X 1)), (3, .int (X 3)), (4, .int (X 4))]) hx hb d_M_erase_56 rfl hl (by decide) rfl (fun ls hl => ?_)
    have hl : lv_has ls 5 [(2, .int s0), (0, .ref h), (1, .int (X 1)), (3, .int (X 3)), (4, .int (X 4))] := hl
    refine lv_iload_n hx hb d_M_erase_57 rfl (lv_at hl 2 rfl) ?_
    refine lv_if_ge (tgt := 68) hx hb d_M_erase_58 (by decide) (fun hc1 => ?_) (fun hc1 => ?_)
    ·
      have hf := wk_ift hc1 hf
      refine lv_iload_n hx hb d_M_erase_68 rfl (lv_at hl 2 rfl) ?_
      refine lv_iload hx hb d_M_erase_69 (lv_at hl 4 rfl) ?_
      refine lv_icmp_le (tgt := 81) hx hb d_M_erase_71 (by decide) (fun hc2 => ?_) (fun hc2 => ?_)
      ·
        have hf := wk_ift hc2 hf
        refine lv_aload_n hx hb d_M_erase_81 rfl (lv_at hl 1 rfl) ?_
        refine va_get (D := (dC, dI)) (ci := 4) (v := .int (I 11)) (C := R_M) (T := F_M) (N := 38) hx hb hts (fun w h => List.mem_cons_of_mem _ (in_M w h)) hown hK hP 0 rfl rfl 11 (by decide) (hts _ (List.mem_cons_of_mem _ lk_126)) (fun _ h9 => h9) rfl d_M_erase_82 ?_
        refine lv_iload_n hx hb d_M_erase_85 rfl (lv_at hl 2 rfl) ?_
        refine lv_iadd hx hb d_M_erase_86 ?_
        exact blk87 I A (upd X 2 s0) ((I 11) + (X 1)) _ _ _ hf (lv_sub hl [1, 2, 0, 3, 4] rfl) hP hD hS
      ·
        have hf := wk_iff hc2 hf
        refine lv_aload_n hx hb d_M_erase_74 rfl (lv_at hl 1 rfl) ?_
        have hPc := hP.sub (ws' := (mw_W h q g I A)) [0, 1, 2, 3, 4, 5, 6, 7, 8, 9, 10, 11, 12, 13, 14, 15, 16, 17, 18, 19, 20] rfl
        have hDc := hD.sub (ws' := (mw_W h q g I A)) [0, 1, 2, 3, 4, 5, 6, 7, 8, 9, 10, 11, 12, 13, 14, 15, 16, 17, 18, 19, 20] (by decide) rfl
        have hKc := hK.sub (tys' := (mw_T g)) [0, 1, 2, 3, 4, 5, 6, 7, 8, 9, 10, 11, 12, 13, 14, 15, 16, 17, 18, 19] rfl
        have hFc := va_free (wc := (mw_W h q g I A)) hD hS hA [0, 1, 2, 3, 4, 5, 6, 7, 8, 9, 10, 11, 12, 13, 14, 15, 16, 17, 18, 19, 20] rfl
        cases hg1 : f_M_textLength I A with
        | none => rw [hg1] at hf; cases hf
        | some z1 =>
          obtain ⟨r1, I1, A1⟩ := z1
          rw [hg1] at hf
          dsimp only [Option.bind_some] at hf
          refine va_calli (va_runV (As := []) (rest := []) ⟨hx, hb, hml, hown, hts⟩ (cm_M_textLength l dC dI h q g _ I A r1 I1 A1 hg1) (cwV 0 hts (gd_v lk_57 lk_58 lk_59 lk_46 lk_56) rfl rfl rfl (by decide +kernel) ⟨Nat.le_of_ble_eq_true rfl, Nat.le_of_ble_eq_true rfl⟩) ⟨fun a U g mk q => by obtain ⟨q0, q1, qP, qK, qD⟩ := q; exact ⟨q0, q1, qP, va_K.moved (u := U) (U := U.calling g mk a) (Vm.Alike.refl U.vm) qK, qD⟩, va_recv (ci := 4) (q0 := 0) hK hP rfl rfl, fun U hU hW => ⟨rfl, by rw [hU], by rw [hU]; exact hPc, va_K.moved hW.alike hKc, hDc.weaken (fun _ _ _ _ => trivial)⟩⟩ rfl rfl hl.1 rfl (lv_room (Nat.le_of_ble_eq_true rfl)) d_M_erase_75 ⟨Nat.le_of_ble_eq_true rfl, Nat.le_of_ble_eq_true rfl⟩) hS (fun q _ h => hFc q h) hFc (fun r9 u t H1 locs ht hvm hw hB hz1 hk1 hS => ?_)
          obtain ⟨hP1, hK1, hD1⟩ := hB
          rw [ht] at hP1
          rw [hw]
          obtain ⟨hP, hD⟩ := va_join (wr := []) (w1 := (mw_W h q g I1 A1)) hP hD [0, 1, 2, 3, 4, 5, 6, 7, 8, 9, 10, 11, 12, 13, 14, 15, 16, 17, 18, 19, 20] [] rfl rfl (by decide) (by decide) hk1 hFc hP1 hD1
          generalize H1 = H at hP hS ⊢
          have hP : va_P (dC, dI) vwCl (mw_W h q g I1 A1) H := hP
          have hD : va_D B9 (mw_W h q g I1 A1) := hD
          refine lv_goto (tgt := 87) hx hb d_M_erase_78 (by decide) ?_
          exact blk87 I1 A1 (upd X 2 s0) r1 _ _ _ hf (lv_sub hl [1, 2, 0, 3, 4] rfl) hP hD hS
    ·
      have hf := wk_iff hc1 hf
      refine lv_aload_n hx hb d_M_erase_61 rfl (lv_at hl 1 rfl) ?_
      refine va_get (D := (dC, dI)) (ci := 4) (v := .int (I 11)) (C := R_M) (T := F_M) (N := 38) hx hb hts (fun w h => List.mem_cons_of_mem _ (in_M w h)) hown hK hP 0 rfl rfl 11 (by decide) (hts _ (List.mem_cons_of_mem _ lk_126)) (fun _ h9 => h9) rfl d_M_erase_62 ?_
      refine lv_goto (tgt := 87) hx hb d_M_erase_65 (by decide) ?_
      exact blk87 I A (upd X 2 s0) (I 11) _ _ _ hf (lv_sub hl [1, 2, 0, 3, 4] rfl) hP hD hS
  unfold f_M_erase at hf
  refine lv_aload_n hx hb d_M_erase_0 rfl (lv_at hl 0 rfl) ?_
  have hPc := hP.sub (ws' := (mw_W h q g I A)) [0, 1, 2, 3, 4, 5, 6, 7, 8, 9, 10, 11, 12, 13, 14, 15, 16, 17, 18, 19, 20] rfl
  have hDc := hD.sub (ws' := (mw_W h q g I A)) [0, 1, 2, 3, 4, 5, 6, 7, 8, 9, 10, 11, 12, 13, 14, 15, 16, 17, 18, 19, 20] (by decide) rfl
  have hKc := hK.sub (tys' := (mw_T g)) [0, 1, 2, 3, 4, 5, 6, 7, 8, 9, 10, 11, 12, 13, 14, 15, 16, 17, 18, 19] rfl
  have hFc := va_free (wc := (mw_W h q g I A)) hD hS hA [0, 1, 2, 3, 4, 5, 6, 7, 8, 9, 10, 11, 12, 13, 14, 15, 16, 17, 18, 19, 20] rfl
  cases hg1 : f_M_low I A with
  | none => rw [hg1] at hf; cases hf
  | some z1 =>
    obtain ⟨r1, I1, A1⟩ := z1
    rw [hg1] at hf
    dsimp only [Option.bind_some] at hf
    refine va_calli (va_runV (As := []) (rest := []) ⟨hx, hb, hml, hown, hts⟩ (cm_M_low l dC dI h q g _ I A r1 I1 A1 hg1) (cwV 0 hts (gd_v lk_154 lk_155 lk_156 lk_46 lk_153) rfl rfl rfl (by decide +kernel) ⟨Nat.le_of_ble_eq_true rfl, Nat.le_of_ble_eq_true rfl⟩) ⟨fun a U g mk q => by obtain ⟨q0, q1, qP, qK, qD⟩ := q; exact ⟨q0, q1, qP, va_K.moved (u := U) (U := U.calling g mk a) (Vm.Alike.refl U.vm) qK, qD⟩, va_recv (ci := 4) (q0 := 0) hK hP rfl rfl, fun U hU hW => ⟨rfl, by rw [hU], by rw [hU]; exact hPc, va_K.moved hW.alike hKc, hDc.weaken (fun _ _ _ _ => trivial)⟩⟩ rfl rfl hl.1 rfl (lv_room (Nat.le_of_ble_eq_true rfl)) d_M_erase_1 ⟨Nat.le_of_ble_eq_true rfl, Nat.le_of_ble_eq_true rfl⟩) hS (fun q _ h => hFc q h) hFc (fun r9 u t H1 locs ht hvm hw hB hz1 hk1 hS => ?_)
    obtain ⟨hP1, hK1, hD1⟩ := hB
    rw [ht] at hP1
    rw [hw]
    obtain ⟨hP, hD⟩ := va_join (wr := []) (w1 := (mw_W h q g I1 A1)) hP hD [0, 1, 2, 3, 4, 5, 6, 7, 8, 9, 10, 11, 12, 13, 14, 15, 16, 17, 18, 19, 20] [] rfl rfl (by decide) (by decide) hk1 hFc hP1 hD1
    generalize H1 = H at hP hS ⊢
    have hP : va_P (dC, dI) vwCl (mw_W h q g I1 A1) H := hP
    have hD : va_D B9 (mw_W h q g I1 A1) := hD
    refine lv_istore_n (lv' := [(2, .int r1), (0, .ref h), (1, .int k1)]) hx hb d_M_erase_4 rfl hl (by decide) rfl (fun ls hl => ?_)
    have hl : lv_has ls 5 [(2, .int r1), (0, .ref h), (1, .int k1)] := hl
    refine lv_aload_n hx hb d_M_erase_5 rfl (lv_at hl 1 rfl) ?_
    have hPc := hP.sub (ws' := (mw_W h q g I1 A1)) [0, 1, 2, 3, 4, 5, 6, 7, 8, 9, 10, 11, 12, 13, 14, 15, 16, 17, 18, 19, 20] rfl
    have hDc := hD.sub (ws' := (mw_W h q g I1 A1)) [0, 1, 2, 3, 4, 5, 6, 7, 8, 9, 10, 11, 12, 13, 14, 15, 16, 17, 18, 19, 20] (by decide) rfl
    have hKc := hK.sub (tys' := (mw_T g)) [0, 1, 2, 3, 4, 5, 6, 7, 8, 9, 10, 11, 12, 13, 14, 15, 16, 17, 18, 19] rfl
    have hFc := va_free (wc := (mw_W h q g I1 A1)) hD hS hA [0, 1, 2, 3, 4, 5, 6, 7, 8, 9, 10, 11, 12, 13, 14, 15, 16, 17, 18, 19, 20] rfl
    cases hg2 : f_M_high I1 A1 with
    | none => rw [hg2] at hf; cases hf
    | some z2 =>
      obtain ⟨r2, I2, A2⟩ := z2
      rw [hg2] at hf
      dsimp only [Option.bind_some] at hf
      refine va_calli (va_runV (As := []) (rest := []) ⟨hx, hb, hml, hown, hts⟩ (cm_M_high l dC dI h q g _ I1 A1 r2 I2 A2 hg2) (cwV 0 hts (gd_v lk_158 lk_159 lk_160 lk_46 lk_157) rfl rfl rfl (by decide +kernel) ⟨Nat.le_of_ble_eq_true rfl, Nat.le_of_ble_eq_true rfl⟩) ⟨fun a U g mk q => by obtain ⟨q0, q1, qP, qK, qD⟩ := q; exact ⟨q0, q1, qP, va_K.moved (u := U) (U := U.calling g mk a) (Vm.Alike.refl U.vm) qK, qD⟩, va_recv (ci := 4) (q0 := 0) hK hP rfl rfl, fun U hU hW => ⟨rfl, by rw [hU], by rw [hU]; exact hPc, va_K.moved hW.alike hKc, hDc.weaken (fun _ _ _ _ => trivial)⟩⟩ rfl rfl hl.1 rfl (lv_room (Nat.le_of_ble_eq_true rfl)) d_M_erase_6 ⟨Nat.le_of_ble_eq_true rfl, Nat.le_of_ble_eq_true rfl⟩) hS (fun q _ h => hFc q h) hFc (fun r9 u t H1 locs ht hvm hw hB hz1 hk1 hS => ?_)
      obtain ⟨hP1, hK1, hD1⟩ := hB
      rw [ht] at hP1
      rw [hw]
      obtain ⟨hP, hD⟩ := va_join (wr := []) (w1 := (mw_W h q g I2 A2)) hP hD [0, 1, 2, 3, 4, 5, 6, 7, 8, 9, 10, 11, 12, 13, 14, 15, 16, 17, 18, 19, 20] [] rfl rfl (by decide) (by decide) hk1 hFc hP1 hD1
      generalize H1 = H at hP hS ⊢
      have hP : va_P (dC, dI) vwCl (mw_W h q g I2 A2) H := hP
      have hD : va_D B9 (mw_W h q g I2 A2) := hD
      refine lv_istore_n (lv' := [(3, .int r2), (2, .int r1), (0, .ref h), (1, .int k1)]) hx hb d_M_erase_9 rfl hl (by decide) rfl (fun ls hl => ?_)
      have hl : lv_has ls 5 [(3, .int r2), (2, .int r1), (0, .ref h), (1, .int k1)] := hl
      refine lv_iload_n hx hb d_M_erase_10 rfl (lv_at hl 1 rfl) ?_
      refine lv_iload_n hx hb d_M_erase_11 rfl (lv_at hl 0 rfl) ?_
      refine lv_icmp_ne (tgt := 88) hx hb d_M_erase_12 (by decide) (fun hc1 => ?_) (fun hc1 => ?_)
      ·
        have hf := wk_iff hc1 hf
        exact blk88 I2 A2 (upd (upd (upd (fun _ => 0) 1 k1) 2 r1) 3 r2) _ _ _ hf (lv_sub hl [2, 3, 1, 0] rfl) hP hD hS
      ·
        have hf := wk_ift hc1 hf
        refine lv_aload_n hx hb d_M_erase_15 rfl (lv_at hl 2 rfl) ?_
        have hPc := hP.sub (ws' := (mw_W h q g I2 A2)) [0, 1, 2, 3, 4, 5, 6, 7, 8, 9, 10, 11, 12, 13, 14, 15, 16, 17, 18, 19, 20] rfl
        have hDc := hD.sub (ws' := (mw_W h q g I2 A2)) [0, 1, 2, 3, 4, 5, 6, 7, 8, 9, 10, 11, 12, 13, 14, 15, 16, 17, 18, 19, 20] (by decide) rfl
        have hKc := hK.sub (tys' := (mw_T g)) [0, 1, 2, 3, 4, 5, 6, 7, 8, 9, 10, 11, 12, 13, 14, 15, 16, 17, 18, 19] rfl
        have hFc := va_free (wc := (mw_W h q g I2 A2)) hD hS hA [0, 1, 2, 3, 4, 5, 6, 7, 8, 9, 10, 11, 12, 13, 14, 15, 16, 17, 18, 19, 20] rfl
        cases hg3 : f_M_textLength I2 A2 with
        | none => rw [hg3] at hf; cases hf
        | some z3 =>
          obtain ⟨r3, I3, A3⟩ := z3
          rw [hg3] at hf
          dsimp only [Option.bind_some] at hf
          refine va_calli (va_runV (As := []) (rest := []) ⟨hx, hb, hml, hown, hts⟩ (cm_M_textLength l dC dI h q g _ I2 A2 r3 I3 A3 hg3) (cwV 0 hts (gd_v lk_57 lk_58 lk_59 lk_46 lk_56) rfl rfl rfl (by decide +kernel) ⟨Nat.le_of_ble_eq_true rfl, Nat.le_of_ble_eq_true rfl⟩) ⟨fun a U g mk q => by obtain ⟨q0, q1, qP, qK, qD⟩ := q; exact ⟨q0, q1, qP, va_K.moved (u := U) (U := U.calling g mk a) (Vm.Alike.refl U.vm) qK, qD⟩, va_recv (ci := 4) (q0 := 0) hK hP rfl rfl, fun U hU hW => ⟨rfl, by rw [hU], by rw [hU]; exact hPc, va_K.moved hW.alike hKc, hDc.weaken (fun _ _ _ _ => trivial)⟩⟩ rfl rfl hl.1 rfl (lv_room (Nat.le_of_ble_eq_true rfl)) d_M_erase_16 ⟨Nat.le_of_ble_eq_true rfl, Nat.le_of_ble_eq_true rfl⟩) hS (fun q _ h => hFc q h) hFc (fun r9 u t H1 locs ht hvm hw hB hz1 hk1 hS => ?_)
          obtain ⟨hP1, hK1, hD1⟩ := hB
          rw [ht] at hP1
          rw [hw]
          obtain ⟨hP, hD⟩ := va_join (wr := []) (w1 := (mw_W h q g I3 A3)) hP hD [0, 1, 2, 3, 4, 5, 6, 7, 8, 9, 10, 11, 12, 13, 14, 15, 16, 17, 18, 19, 20] [] rfl rfl (by decide) (by decide) hk1 hFc hP1 hD1
          generalize H1 = H at hP hS ⊢
          have hP : va_P (dC, dI) vwCl (mw_W h q g I3 A3) H := hP
          have hD : va_D B9 (mw_W h q g I3 A3) := hD
          refine lv_aload_n hx hb d_M_erase_19 rfl (lv_at hl 2 rfl) ?_
          refine va_get (D := (dC, dI)) (ci := 4) (v := .int (I3 11)) (C := R_M) (T := F_M) (N := 38) hx hb hts (fun w h => List.mem_cons_of_mem _ (in_M w h)) hown hK hP 0 rfl rfl 11 (by decide) (hts _ (List.mem_cons_of_mem _ lk_126)) (fun _ h9 => h9) rfl d_M_erase_20 ?_
          refine lv_isub hx hb d_M_erase_23 ?_
          refine lv_istore (lv' := [(4, .int (r3 - (I3 11))), (3, .int r2), (2, .int r1), (0, .ref h), (1, .int k1)]) hx hb d_M_erase_24 hl (by decide) rfl (fun ls hl => ?_)
          have hl : lv_has ls 5 [(4, .int (r3 - (I3 11))), (3, .int r2), (2, .int r1), (0, .ref h), (1, .int k1)] := hl
          refine lv_iload_n hx hb d_M_erase_26 rfl (lv_at hl 4 rfl) ?_
          refine lv_if_lt (tgt := 37) hx hb d_M_erase_27 (by decide) (fun hc2 => ?_) (fun hc2 => ?_)
          ·
            have hf := wk_ift hc2 hf
            refine lv_iload_n hx hb d_M_erase_37 rfl (lv_at hl 4 rfl) ?_
            refine lv_aload_n hx hb d_M_erase_38 rfl (lv_at hl 3 rfl) ?_
            refine va_get (D := (dC, dI)) (ci := 4) (v := .int (I3 11)) (C := R_M) (T := F_M) (N := 38) hx hb hts (fun w h => List.mem_cons_of_mem _ (in_M w h)) hown hK hP 0 rfl rfl 11 (by decide) (hts _ (List.mem_cons_of_mem _ lk_126)) (fun _ h9 => h9) rfl d_M_erase_39 ?_
            refine lv_ineg hx hb d_M_erase_42 ?_
            refine lv_icmp_ge (tgt := 50) hx hb d_M_erase_43 (by decide) (fun hc3 => ?_) (fun hc3 => ?_)
            ·
              have hf := wk_ift hc3 hf
              refine lv_aload_n hx hb d_M_erase_50 rfl (lv_at hl 3 rfl) ?_
              refine va_get (D := (dC, dI)) (ci := 4) (v := .int (I3 11)) (C := R_M) (T := F_M) (N := 38) hx hb hts (fun w h => List.mem_cons_of_mem _ (in_M w h)) hown hK hP 0 rfl rfl 11 (by decide) (hts _ (List.mem_cons_of_mem _ lk_126)) (fun _ h9 => h9) rfl d_M_erase_51 ?_
              refine lv_iload_n hx hb d_M_erase_54 rfl (lv_at hl 4 rfl) ?_
              refine lv_iadd hx hb d_M_erase_55 ?_
              exact blk56 I3 A3 (upd (upd (upd (upd (fun _ => 0) 1 k1) 2 r1) 3 r2) 4 (r3 - (I3 11))) ((I3 11) + k1) _ _ _ hf (lv_sub hl [3, 4, 2, 1, 0] rfl) hP hD hS
            ·
              have hf := wk_iff hc3 hf
              refine lv_iconst (v := 0) hx hb d_M_erase_46 (by decide) ?_
              refine lv_goto (tgt := 56) hx hb d_M_erase_47 (by decide) ?_
              exact blk56 I3 A3 (upd (upd (upd (upd (fun _ => 0) 1 k1) 2 r1) 3 r2) 4 (r3 - (I3 11))) 0 _ _ _ hf (lv_sub hl [3, 4, 2, 1, 0] rfl) hP hD hS
          ·
            have hf := wk_iff hc2 hf
            refine lv_aload_n hx hb d_M_erase_30 rfl (lv_at hl 3 rfl) ?_
            refine va_get (D := (dC, dI)) (ci := 4) (v := .int (I3 11)) (C := R_M) (T := F_M) (N := 38) hx hb hts (fun w h => List.mem_cons_of_mem _ (in_M w h)) hown hK hP 0 rfl rfl 11 (by decide) (hts _ (List.mem_cons_of_mem _ lk_126)) (fun _ h9 => h9) rfl d_M_erase_31 ?_
            refine lv_goto (tgt := 56) hx hb d_M_erase_34 (by decide) ?_
            exact blk56 I3 A3 (upd (upd (upd (upd (fun _ => 0) 1 k1) 2 r1) 3 r2) 4 (r3 - (I3 11))) (I3 11) _ _ _ hf (lv_sub hl [3, 4, 2, 1, 0] rfl) hP hD hS

set_option maxHeartbeats 8000000 in
set_option maxRecDepth 100000 in
theorem cm_M_fault (l : Launch) (dC : Nat → ClassId) (dI : Nat → Nat → Nat) (h : Nat) (q : Nat → Nat) (g : Nat → ClassId) (sz : Nat) (I : MI) (A : MA) (r : Int32) (I' : MI) (A' : MA) (hf : f_M_fault I A  = some (r, I', A')) : Met l y_M_fault w_M_fault ({ frames := 0, cells := 0, slots := 0, locals := 0 }) (va_Pc [.ref h] (fun U => U.heap.size = sz ∧ va_P (dC, dI) vwCl (mw_W h q g I A) U.heap ∧ va_K (dC, dI) vwCl (mw_T g) U ∧ va_D (fun _ => True) (mw_W h q g I A))) (va_Qi (fun (r9 : Int32) (_ : Unit) => r9 = r) (fun (_ : Unit) t => va_P (dC, dI) vwCl (mw_W h q g I' A') t.heap ∧ va_K (dC, dI) vwCl (mw_T g) t ∧ va_D (va_A (mw_W h q g I A) sz) (mw_W h q g I' A')) (va_A (mw_W h q g I A) sz)) 0 0 (va_A (mw_W h q g I A) sz) := by
  refine Met.ofW (cc := prog_6_method_37_code) (maxL := 1) (ret := (some .int)) (by decide) rfl ?_
  intro p e s m args below meth c s₁ B hml hv
  obtain ⟨rfl, hsz, hP, hK, hD0⟩ := hv
  have hx := B.exec
  have hb := B.bytes
  have hr := B.returns
  have hts := atoms_spec (ws := w_M_fault) B.pre
  have hown : s.vm.findClass R_M = some m.cls := findClass_of_methodNamed B.named
  have hlocks := B.notSynchronized
  subst hsz
  have hD := hD0.self (sz := s.heap.size)
  generalize hAe : va_A (mw_W h q g I A) s.heap.size = B9 at hD ⊢
  have hA : ∀ q : Nat, s.heap.size ≤ q → B9 q := fun q h => by rw [← hAe]; exact Or.inr h
  clear hAe
  have hS : va_S B9 s.heap s.heap [] := va_S.rf
  have hl := lv_entry ([.ref h]) (n := 1) (Nat.le_of_ble_eq_true rfl)
  rw [lg_entry_eq]
  generalize (lg_sl ([.ref h]) ++ List.replicate (1 - (lg_sl ([.ref h])).length) Slot.unset).toArray = ls at hl ⊢
  have hl : lv_has ls 1 [(0, .ref h)] := hl
  unfold f_M_fault at hf
  refine lv_aload_n hx hb d_M_fault_0 rfl (lv_at hl 0 rfl) ?_
  refine lv_iconst (v := 0) hx hb d_M_fault_1 (by decide) ?_
  refine va_put (D := (dC, dI)) (ci := 4) (v := .int 0) (ty := .int) (C := R_M) (T := F_M) (N := 38) hx hb hts (fun w h => List.mem_cons_of_mem _ (in_M w h)) t_M tk_M n_M hown hK hP hD hS 0 rfl rfl 0 (by decide) (hts _ (List.mem_cons_of_mem _ lk_60)) (fun _ h9 => h9) rfl (by decide +kernel) rfl rfl (Nat.le_of_ble_eq_true rfl) d_M_fault_2 (fun H locs hP hD hS => ?_)
  obtain ⟨I1, hI1, hf⟩ := wk_letE hf
  have hP : va_P (dC, dI) vwCl (mw_W h q g I1 A) H := by rw [hI1]; exact hP
  have hD : va_D B9 (mw_W h q g I1 A) := by rw [hI1]; exact hD
  clear hI1
  refine lv_aload_n hx hb d_M_fault_5 rfl (lv_at hl 0 rfl) ?_
  refine va_get (D := (dC, dI)) (ci := 4) (v := .int (I1 14)) (C := R_M) (T := F_M) (N := 38) hx hb hts (fun w h => List.mem_cons_of_mem _ (in_M w h)) hown hK hP 0 rfl rfl 14 (by decide) (hts _ (List.mem_cons_of_mem _ lk_138)) (fun _ h9 => h9) rfl d_M_fault_6 ?_
  obtain ⟨e1, e2, e3⟩ := wk_inj hf
  subst e1
  subst e2
  subst e3
  exact W.iret (v := (I1 14)) hx hb hr (fun t ht hW => ⟨⟨(I1 14), (), rfl, rfl, by rw [ht]; exact hP, va_K.moved hW.alike hK, hD⟩, hS.F ht⟩) hS.2.2 d_M_fault_9

set_option maxHeartbeats 8000000 in
set_option maxRecDepth 100000 in
theorem cm_M_figure (l : Launch) (dC : Nat → ClassId) (dI : Nat → Nat → Nat) (h : Nat) (q : Nat → Nat) (g : Nat → ClassId) (sz : Nat) (I : MI) (A : MA) (k1 : Int32) (r : Int32) (I' : MI) (A' : MA) (hf : f_M_figure I A k1 = some (r, I', A')) : Met l y_M_figure w_M_figure ({ frames := 0, cells := 0, slots := 0, locals := 0 }) (va_Pc [.ref h, .int k1] (fun U => U.heap.size = sz ∧ va_P (dC, dI) vwCl (mw_W h q g I A) U.heap ∧ va_K (dC, dI) vwCl (mw_T g) U ∧ va_D (fun _ => True) (mw_W h q g I A))) (va_Qi (fun (r9 : Int32) (_ : Unit) => r9 = r) (fun (_ : Unit) t => va_P (dC, dI) vwCl (mw_W h q g I' A') t.heap ∧ va_K (dC, dI) vwCl (mw_T g) t ∧ va_D (va_A (mw_W h q g I A) sz) (mw_W h q g I' A')) (va_A (mw_W h q g I A) sz)) 0 0 (va_A (mw_W h q g I A) sz) := by
  refine Met.ofW (cc := prog_6_method_52_code) (maxL := 2) (ret := (some .int)) (by decide) rfl ?_
  intro p e s m args below meth c s₁ B hml hv
  obtain ⟨rfl, hsz, hP, hK, hD0⟩ := hv
  have hx := B.exec
  have hb := B.bytes
  have hr := B.returns
  have hts := atoms_spec (ws := w_M_figure) B.pre
  have hown : s.vm.findClass R_M = some m.cls := findClass_of_methodNamed B.named
  have hlocks := B.notSynchronized
  subst hsz
  have hD := hD0.self (sz := s.heap.size)
  generalize hAe : va_A (mw_W h q g I A) s.heap.size = B9 at hD ⊢
  have hA : ∀ q : Nat, s.heap.size ≤ q → B9 q := fun q h => by rw [← hAe]; exact Or.inr h
  clear hAe
  have hS : va_S B9 s.heap s.heap [] := va_S.rf
  have hl := lv_entry ([.ref h, .int k1]) (n := 2) (Nat.le_of_ble_eq_true rfl)
  rw [lg_entry_eq]
  generalize (lg_sl ([.ref h, .int k1]) ++ List.replicate (2 - (lg_sl ([.ref h, .int k1])).length) Slot.unset).toArray = ls at hl ⊢
  have hl : lv_has ls 2 [(0, .ref h), (1, .int k1)] := hl
  have blk80 : ∀ (I : MI) (A : MA) (X : Nat → Int32) (s0 : Int32) (ls : Array Slot) (H : Heap) (locs : List Loc), f_M_figure_80 I A X s0 = some (r, I', A') → lv_has ls 2 [(0, .ref h), (1, .int (X 1))] → va_P (dC, dI) vwCl (mw_W h q g I A) H → va_D B9 (mw_W h q g I A) → va_S B9 s.heap H locs → W p l e (headSpec w_M_figure ({ frames := 0, cells := 0, slots := 0, locals := 0 })).room s m ([.ref h, .int k1] : List Value).toArray below meth c H locs 0 0 (MQ below (va_Qi (fun (r9 : Int32) (_ : Unit) => r9 = r) (fun (_ : Unit) t => va_P (dC, dI) vwCl (mw_W h q g I' A') t.heap ∧ va_K (dC, dI) vwCl (mw_T g) t ∧ va_D B9 (mw_W h q g I' A')) B9) ([.ref h, .int k1] : List Value).toArray s 0 0 B9) (F0 m 80 ls [.int s0]) := by
    intro I A X s0 ls H locs hf hl hP hD hS
    unfold f_M_figure_80 at hf
    obtain ⟨e1, e2, e3⟩ := wk_inj hf
    subst e1
    subst e2
    subst e3
    exact W.iret (v := s0) hx hb hr (fun t ht hW => ⟨⟨s0, (), rfl, rfl, by rw [ht]; exact hP, va_K.moved hW.alike hK, hD⟩, hS.F ht⟩) hS.2.2 d_M_figure_80
  have blk15 : ∀ (I : MI) (A : MA) (X : Nat → Int32) (s0 : Int32) (ls : Array Slot) (H : Heap) (locs : List Loc), f_M_figure_15 I A X s0 = some (r, I', A') → lv_has ls 2 [(0, .ref h), (1, .int (X 1))] → va_P (dC, dI) vwCl (mw_W h q g I A) H → va_D B9 (mw_W h q g I A) → va_S B9 s.heap H locs → W p l e (headSpec w_M_figure ({ frames := 0, cells := 0, slots := 0, locals := 0 })).room s m ([.ref h, .int k1] : List Value).toArray below meth c H locs 0 0 (MQ below (va_Qi (fun (r9 : Int32) (_ : Unit) => r9 = r) (fun (_ : Unit) t => va_P (dC, dI) vwCl (mw_W h q g I' A') t.heap ∧ va_K (dC, dI) vwCl (mw_T g) t ∧ va_D B9 (mw_W h q g I' A')) B9) ([.ref h, .int k1] : List Value).toArray s 0 0 B9) (F0 m 15 ls [.int s0, .ref h]) := by
    intro I A X s0 ls H locs hf hl hP hD hS
    unfold f_M_figure_15 at hf
    refine va_put (D := (dC, dI)) (ci := 4) (v := .int s0) (ty := .int) (C := R_M) (T := F_M) (N := 38) hx hb hts (fun w h => List.mem_cons_of_mem _ (in_M w h)) t_M tk_M n_M hown hK hP hD hS 0 rfl rfl 0 (by decide) (hts _ (List.mem_cons_of_mem _ lk_60)) (fun _ h9 => h9) rfl (by decide +kernel) rfl rfl (Nat.le_of_ble_eq_true rfl) d_M_figure_15 (fun H locs hP hD hS => ?_)
    obtain ⟨I1, hI1, hf⟩ := wk_letE hf
    have hP : va_P (dC, dI) vwCl (mw_W h q g I1 A) H := by rw [hI1]; exact hP
    have hD : va_D B9 (mw_W h q g I1 A) := by rw [hI1]; exact hD
    clear hI1
    refine lv_aload_n hx hb d_M_figure_18 rfl (lv_at hl 0 rfl) ?_
    refine va_get (D := (dC, dI)) (ci := 4) (v := .int (I1 0)) (C := R_M) (T := F_M) (N := 38) hx hb hts (fun w h => List.mem_cons_of_mem _ (in_M w h)) hown hK hP 0 rfl rfl 0 (by decide) (hts _ (List.mem_cons_of_mem _ lk_60)) (fun _ h9 => h9) rfl d_M_figure_19 ?_
    refine lv_if_le (tgt := 29) hx hb d_M_figure_22 (by decide) (fun hc1 => ?_) (fun hc1 => ?_)
    ·
      have hf := wk_ift hc1 hf
      refine lv_iload_n hx hb d_M_figure_29 rfl (lv_at hl 1 rfl) ?_
      refine lv_if_ne (tgt := 40) hx hb d_M_figure_30 (by decide) (fun hc2 => ?_) (fun hc2 => ?_)
      ·
        have hf := wk_iff hc2 hf
        refine lv_iload_n hx hb d_M_figure_40 rfl (lv_at hl 1 rfl) ?_
        refine lv_iconst (v := 1) hx hb d_M_figure_41 (by decide) ?_
        refine lv_icmp_ne (tgt := 52) hx hb d_M_figure_42 (by decide) (fun hc3 => ?_) (fun hc3 => ?_)
        ·
          have hf := wk_iff hc3 hf
          refine lv_iload_n hx hb d_M_figure_52 rfl (lv_at hl 1 rfl) ?_
          refine lv_iconst (v := 2) hx hb d_M_figure_53 (by decide) ?_
          refine lv_icmp_ne (tgt := 64) hx hb d_M_figure_54 (by decide) (fun hc4 => ?_) (fun hc4 => ?_)
          ·
            have hf := wk_iff hc4 hf
            refine lv_iload_n hx hb d_M_figure_64 rfl (lv_at hl 1 rfl) ?_
            refine lv_iconst (v := 3) hx hb d_M_figure_65 (by decide) ?_
            refine lv_icmp_ne (tgt := 76) hx hb d_M_figure_66 (by decide) (fun hc5 => ?_) (fun hc5 => ?_)
            ·
              have hf := wk_iff hc5 hf
              refine lv_aload_n hx hb d_M_figure_76 rfl (lv_at hl 0 rfl) ?_
              refine va_get (D := (dC, dI)) (ci := 4) (v := .int (I1 1)) (C := R_M) (T := F_M) (N := 38) hx hb hts (fun w h => List.mem_cons_of_mem _ (in_M w h)) hown hK hP 0 rfl rfl 1 (by decide) (hts _ (List.mem_cons_of_mem _ lk_41)) (fun _ h9 => h9) rfl d_M_figure_77 ?_
              exact blk80 I1 A X (I1 1) _ _ _ hf (lv_sub hl [0, 1] rfl) hP hD hS
            ·
              have hf := wk_ift hc5 hf
              refine lv_aload_n hx hb d_M_figure_69 rfl (lv_at hl 0 rfl) ?_
              refine va_get (D := (dC, dI)) (ci := 4) (v := .int (I1 12)) (C := R_M) (T := F_M) (N := 38) hx hb hts (fun w h => List.mem_cons_of_mem _ (in_M w h)) hown hK hP 0 rfl rfl 12 (by decide) (hts _ (List.mem_cons_of_mem _ lk_127)) (fun _ h9 => h9) rfl d_M_figure_70 ?_
              refine lv_goto (tgt := 80) hx hb d_M_figure_73 (by decide) ?_
              exact blk80 I1 A X (I1 12) _ _ _ hf (lv_sub hl [0, 1] rfl) hP hD hS
          ·
            have hf := wk_ift hc4 hf
            refine lv_aload_n hx hb d_M_figure_57 rfl (lv_at hl 0 rfl) ?_
            refine va_get (D := (dC, dI)) (ci := 4) (v := .int (I1 11)) (C := R_M) (T := F_M) (N := 38) hx hb hts (fun w h => List.mem_cons_of_mem _ (in_M w h)) hown hK hP 0 rfl rfl 11 (by decide) (hts _ (List.mem_cons_of_mem _ lk_126)) (fun _ h9 => h9) rfl d_M_figure_58 ?_
            refine lv_goto (tgt := 80) hx hb d_M_figure_61 (by decide) ?_
            exact blk80 I1 A X (I1 11) _ _ _ hf (lv_sub hl [0, 1] rfl) hP hD hS
        ·
          have hf := wk_ift hc3 hf
          refine lv_aload_n hx hb d_M_figure_45 rfl (lv_at hl 0 rfl) ?_
          refine va_get (D := (dC, dI)) (ci := 4) (v := .int (I1 3)) (C := R_M) (T := F_M) (N := 38) hx hb hts (fun w h => List.mem_cons_of_mem _ (in_M w h)) hown hK hP 0 rfl rfl 3 (by decide) (hts _ (List.mem_cons_of_mem _ lk_147)) (fun _ h9 => h9) rfl d_M_figure_46 ?_
          refine lv_goto (tgt := 80) hx hb d_M_figure_49 (by decide) ?_
          exact blk80 I1 A X (I1 3) _ _ _ hf (lv_sub hl [0, 1] rfl) hP hD hS
      ·
        have hf := wk_ift hc2 hf
        refine lv_aload_n hx hb d_M_figure_33 rfl (lv_at hl 0 rfl) ?_
        refine va_get (D := (dC, dI)) (ci := 4) (v := .int (I1 4)) (C := R_M) (T := F_M) (N := 38) hx hb hts (fun w h => List.mem_cons_of_mem _ (in_M w h)) hown hK hP 0 rfl rfl 4 (by decide) (hts _ (List.mem_cons_of_mem _ lk_49)) (fun _ h9 => h9) rfl d_M_figure_34 ?_
        refine lv_goto (tgt := 80) hx hb d_M_figure_37 (by decide) ?_
        exact blk80 I1 A X (I1 4) _ _ _ hf (lv_sub hl [0, 1] rfl) hP hD hS
    ·
      have hf := wk_iff hc1 hf
      refine lv_iconst (v := 0) hx hb d_M_figure_25 (by decide) ?_
      refine lv_goto (tgt := 80) hx hb d_M_figure_26 (by decide) ?_
      exact blk80 I1 A X 0 _ _ _ hf (lv_sub hl [0, 1] rfl) hP hD hS
  have blk10 : ∀ (I : MI) (A : MA) (X : Nat → Int32) (ls : Array Slot) (H : Heap) (locs : List Loc), f_M_figure_10 I A X = some (r, I', A') → lv_has ls 2 [(0, .ref h), (1, .int (X 1))] → va_P (dC, dI) vwCl (mw_W h q g I A) H → va_D B9 (mw_W h q g I A) → va_S B9 s.heap H locs → W p l e (headSpec w_M_figure ({ frames := 0, cells := 0, slots := 0, locals := 0 })).room s m ([.ref h, .int k1] : List Value).toArray below meth c H locs 0 0 (MQ below (va_Qi (fun (r9 : Int32) (_ : Unit) => r9 = r) (fun (_ : Unit) t => va_P (dC, dI) vwCl (mw_W h q g I' A') t.heap ∧ va_K (dC, dI) vwCl (mw_T g) t ∧ va_D B9 (mw_W h q g I' A')) B9) ([.ref h, .int k1] : List Value).toArray s 0 0 B9) (F0 m 10 ls [.ref h]) := by
    intro I A X ls H locs hf hl hP hD hS
    unfold f_M_figure_10 at hf
    refine lv_iconst (v := 1) hx hb d_M_figure_10 (by decide) ?_
    refine lv_goto (tgt := 15) hx hb d_M_figure_11 (by decide) ?_
    exact blk15 I A X 1 _ _ _ hf (lv_sub hl [0, 1] rfl) hP hD hS
  unfold f_M_figure at hf
  refine lv_aload_n hx hb d_M_figure_0 rfl (lv_at hl 0 rfl) ?_
  refine lv_iload_n hx hb d_M_figure_1 rfl (lv_at hl 1 rfl) ?_
  refine lv_if_lt (tgt := 10) hx hb d_M_figure_2 (by decide) (fun hc1 => ?_) (fun hc1 => ?_)
  ·
    have hf := wk_ift hc1 hf
    exact blk10 I A (upd (fun _ => 0) 1 k1) _ _ _ hf (lv_sub hl [0, 1] rfl) hP hD hS
  ·
    have hf := wk_iff hc1 hf
    refine lv_iload_n hx hb d_M_figure_5 rfl (lv_at hl 1 rfl) ?_
    refine lv_iconst (v := 4) hx hb d_M_figure_6 (by decide) ?_
    refine lv_icmp_le (tgt := 14) hx hb d_M_figure_7 (by decide) (fun hc2 => ?_) (fun hc2 => ?_)
    ·
      have hf := wk_ift hc2 hf
      refine lv_iconst (v := 0) hx hb d_M_figure_14 (by decide) ?_
      exact blk15 I A (upd (fun _ => 0) 1 k1) 0 _ _ _ hf (lv_sub hl [0, 1] rfl) hP hD hS
    ·
      have hf := wk_iff hc2 hf
      exact blk10 I A (upd (fun _ => 0) 1 k1) _ _ _ hf (lv_sub hl [0, 1] rfl) hP hD hS

-- 16.mcon07
set_option maxHeartbeats 8000000 in
set_option maxRecDepth 100000 in
theorem cm_M_passes (l : Launch) (dC : Nat → ClassId) (dI : Nat → Nat → Nat) (h : Nat) (q : Nat → Nat) (g : Nat → ClassId) (sz : Nat) (I : MI) (A : MA) (k1 k2 : Int32) (r : Int32) (I' : MI) (A' : MA) (hf : f_M_passes I A k1 k2 = some (r, I', A')) : Met l y_M_passes w_M_passes ({ frames := 1, cells := 0, slots := 0, locals := 21 }) (va_Pc [.ref h, .int k1, .int k2] (fun U => U.heap.size = sz ∧ va_P (dC, dI) vwCl (mw_W h q g I A) U.heap ∧ va_K (dC, dI) vwCl (mw_T g) U ∧ va_D (fun _ => True) (mw_W h q g I A))) (va_Qi (fun (r9 : Int32) (_ : Unit) => r9 = r) (fun (_ : Unit) t => va_P (dC, dI) vwCl (mw_W h q g I' A') t.heap ∧ va_K (dC, dI) vwCl (mw_T g) t ∧ va_D (va_A (mw_W h q g I A) sz) (mw_W h q g I' A')) (va_A (mw_W h q g I A) sz)) 0 0 (va_A (mw_W h q g I A) sz) := by
  refine Met.ofW (cc := prog_6_method_40_code) (maxL := 5) (ret := (some .boolean)) (by decide) rfl ?_
  intro p e s m args below meth c s₁ B hml hv
  obtain ⟨rfl, hsz, hP, hK, hD0⟩ := hv
  have hx := B.exec
  have hb := B.bytes
  have hr := B.returns
  have hts := atoms_spec (ws := w_M_passes) B.pre
  have hown : s.vm.findClass R_M = some m.cls := findClass_of_methodNamed B.named
  have hlocks := B.notSynchronized
  subst hsz
  have hD := hD0.self (sz := s.heap.size)
  generalize hAe : va_A (mw_W h q g I A) s.heap.size = B9 at hD ⊢
  have hA : ∀ q : Nat, s.heap.size ≤ q → B9 q := fun q h => by rw [← hAe]; exact Or.inr h
  clear hAe
  have hS : va_S B9 s.heap s.heap [] := va_S.rf
  have hl := lv_entry ([.ref h, .int k1, .int k2]) (n := 5) (Nat.le_of_ble_eq_true rfl)
  rw [lg_entry_eq]
  generalize (lg_sl ([.ref h, .int k1, .int k2]) ++ List.replicate (5 - (lg_sl ([.ref h, .int k1, .int k2])).length) Slot.unset).toArray = ls at hl ⊢
  have hl : lv_has ls 5 [(0, .ref h), (1, .int k1), (2, .int k2)] := hl
  have blk90 : ∀ (I : MI) (A : MA) (X : Nat → Int32) (s0 : Int32) (ls : Array Slot) (H : Heap) (locs : List Loc), f_M_passes_90 I A X s0 = some (r, I', A') → lv_has ls 5 [(0, .ref h), (1, .int (X 1)), (2, .int (X 2)), (3, .int (X 3)), (4, .int (X 4))] → va_P (dC, dI) vwCl (mw_W h q g I A) H → va_D B9 (mw_W h q g I A) → va_S B9 s.heap H locs → W p l e (headSpec w_M_passes ({ frames := 1, cells := 0, slots := 0, locals := 21 })).room s m ([.ref h, .int k1, .int k2] : List Value).toArray below meth c H locs 0 0 (MQ below (va_Qi (fun (r9 : Int32) (_ : Unit) => r9 = r) (fun (_ : Unit) t => va_P (dC, dI) vwCl (mw_W h q g I' A') t.heap ∧ va_K (dC, dI) vwCl (mw_T g) t ∧ va_D B9 (mw_W h q g I' A')) B9) ([.ref h, .int k1, .int k2] : List Value).toArray s 0 0 B9) (F0 m 90 ls [.int s0]) := by
    intro I A X s0 ls H locs hf hl hP hD hS
    unfold f_M_passes_90 at hf
    obtain ⟨hn9, hf⟩ := wk_if hf
    obtain ⟨e1, e2, e3⟩ := wk_inj hf
    subst e1
    subst e2
    subst e3
    exact W.zret (v := s0) hx hb hr (congrArg Value.int hn9) (fun t ht hW => ⟨⟨s0, (), rfl, rfl, by rw [ht]; exact hP, va_K.moved hW.alike hK, hD⟩, hS.F ht⟩) hS.2.2 d_M_passes_90
  have blk85 : ∀ (I : MI) (A : MA) (X : Nat → Int32) (ls : Array Slot) (H : Heap) (locs : List Loc), f_M_passes_85 I A X = some (r, I', A') → lv_has ls 5 [(0, .ref h), (1, .int (X 1)), (2, .int (X 2)), (3, .int (X 3)), (4, .int (X 4))] → va_P (dC, dI) vwCl (mw_W h q g I A) H → va_D B9 (mw_W h q g I A) → va_S B9 s.heap H locs → W p l e (headSpec w_M_passes ({ frames := 1, cells := 0, slots := 0, locals := 21 })).room s m ([.ref h, .int k1, .int k2] : List Value).toArray below meth c H locs 0 0 (MQ below (va_Qi (fun (r9 : Int32) (_ : Unit) => r9 = r) (fun (_ : Unit) t => va_P (dC, dI) vwCl (mw_W h q g I' A') t.heap ∧ va_K (dC, dI) vwCl (mw_T g) t ∧ va_D B9 (mw_W h q g I' A')) B9) ([.ref h, .int k1, .int k2] : List Value).toArray s 0 0 B9) (F0 m 85 ls []) := by
    intro I A X ls H locs hf hl hP hD hS
    unfold f_M_passes_85 at hf
    refine lv_iconst (v := 1) hx hb d_M_passes_85 (by decide) ?_
    refine lv_goto (tgt := 90) hx hb d_M_passes_86 (by decide) ?_
    exact blk90 I A X 1 _ _ _ hf (lv_sub hl [0, 1, 2, 3, 4] rfl) hP hD hS
  have blk89 : ∀ (I : MI) (A : MA) (X : Nat → Int32) (ls : Array Slot) (H : Heap) (locs : List Loc), f_M_passes_89 I A X = some (r, I', A') → lv_has ls 5 [(0, .ref h), (1, .int (X 1)), (2, .int (X 2)), (3, .int (X 3)), (4, .int (X 4))] → va_P (dC, dI) vwCl (mw_W h q g I A) H → va_D B9 (mw_W h q g I A) → va_S B9 s.heap H locs → W p l e (headSpec w_M_passes ({ frames := 1, cells := 0, slots := 0, locals := 21 })).room s m ([.ref h, .int k1, .int k2] : List Value).toArray below meth c H locs 0 0 (MQ below (va_Qi (fun (r9 : Int32) (_ : Unit) => r9 = r) (fun (_ : Unit) t => va_P (dC, dI) vwCl (mw_W h q g I' A') t.heap ∧ va_K (dC, dI) vwCl (mw_T g) t ∧ va_D B9 (mw_W h q g I' A')) B9) ([.ref h, .int k1, .int k2] : List Value).toArray s 0 0 B9) (F0 m 89 ls []) := by
    intro I A X ls H locs hf hl hP hD hS
    unfold f_M_passes_89 at hf
    refine lv_iconst (v := 0) hx hb d_M_passes_89 (by decide) ?_
    exact blk90 I A X 0 _ _ _ hf (lv_sub hl [0, 1, 2, 3, 4] rfl) hP hD hS
  have blk70 : ∀ (I : MI) (A : MA) (X : Nat → Int32) (ls : Array Slot) (H : Heap) (locs : List Loc), f_M_passes_70 I A X = some (r, I', A') → lv_has ls 5 [(0, .ref h), (1, .int (X 1)), (2, .int (X 2)), (3, .int (X 3)), (4, .int (X 4))] → va_P (dC, dI) vwCl (mw_W h q g I A) H → va_D B9 (mw_W h q g I A) → va_S B9 s.heap H locs → W p l e (headSpec w_M_passes ({ frames := 1, cells := 0, slots := 0, locals := 21 })).room s m ([.ref h, .int k1, .int k2] : List Value).toArray below meth c H locs 0 0 (MQ below (va_Qi (fun (r9 : Int32) (_ : Unit) => r9 = r) (fun (_ : Unit) t => va_P (dC, dI) vwCl (mw_W h q g I' A') t.heap ∧ va_K (dC, dI) vwCl (mw_T g) t ∧ va_D B9 (mw_W h q g I' A')) B9) ([.ref h, .int k1, .int k2] : List Value).toArray s 0 0 B9) (F0 m 70 ls []) := by
    intro I A X ls H locs hf hl hP hD hS
    unfold f_M_passes_70 at hf
    refine lv_aload_n hx hb d_M_passes_70 rfl (lv_at hl 0 rfl) ?_
    refine va_get (D := (dC, dI)) (ci := 4) (v := .ref (q 18)) (C := R_M) (T := F_M) (N := 38) hx hb hts (fun w h => List.mem_cons_of_mem _ (in_M w h)) hown hK hP 0 rfl rfl 18 (by decide) (hts _ (List.mem_cons_of_mem _ lk_82)) (fun _ h9 => h9) rfl d_M_passes_71 ?_
    refine lv_iload_n hx hb d_M_passes_74 rfl (lv_at hl 1 rfl) ?_
    obtain ⟨hc1, hf⟩ := wk_if hf
    refine va_iald hx hb hK hP 8 7 rfl rfl (wk_inb_ok hc1) d_M_passes_75 ?_
    refine lv_iconst (v := 5) hx hb d_M_passes_76 (by decide) ?_
    refine lv_icmp_ne (tgt := 89) hx hb d_M_passes_77 (by decide) (fun hc2 => ?_) (fun hc2 => ?_)
    ·
      have hf := wk_iff hc2 hf
      exact blk89 I A X _ _ _ hf (lv_sub hl [0, 1, 2, 3, 4] rfl) hP hD hS
    ·
      have hf := wk_ift hc2 hf
      refine lv_iload hx hb d_M_passes_80 (lv_at hl 4 rfl) ?_
      refine lv_if_eq (tgt := 89) hx hb d_M_passes_82 (by decide) (fun hc3 => ?_) (fun hc3 => ?_)
      ·
        have hf := wk_ift hc3 hf
        exact blk89 I A X _ _ _ hf (lv_sub hl [0, 1, 2, 3, 4] rfl) hP hD hS
      ·
        have hf := wk_iff hc3 hf
        exact blk85 I A X _ _ _ hf (lv_sub hl [0, 1, 2, 3, 4] rfl) hP hD hS
  have blk45 : ∀ (I : MI) (A : MA) (X : Nat → Int32) (s0 : Int32) (ls : Array Slot) (H : Heap) (locs : List Loc), f_M_passes_45 I A X s0 = some (r, I', A') → lv_has ls 5 [(0, .ref h), (1, .int (X 1)), (2, .int (X 2)), (3, .int (X 3))] → va_P (dC, dI) vwCl (mw_W h q g I A) H → va_D B9 (mw_W h q g I A) → va_S B9 s.heap H locs → W p l e (headSpec w_M_passes ({ frames := 1, cells := 0, slots := 0, locals := 21 })).room s m ([.ref h, .int k1, .int k2] : List Value).toArray below meth c H locs 0 0 (MQ below (va_Qi (fun (r9 : Int32) (_ : Unit) => r9 = r) (fun (_ : Unit) t => va_P (dC, dI) vwCl (mw_W h q g I' A') t.heap ∧ va_K (dC, dI) vwCl (mw_T g) t ∧ va_D B9 (mw_W h q g I' A')) B9) ([.ref h, .int k1, .int k2] : List Value).toArray s 0 0 B9) (F0 m 45 ls [.int s0]) := by
    intro I A X s0 ls H locs hf hl hP hD hS
    unfold f_M_passes_45 at hf
    refine lv_istore (lv' := [(4, .int s0), (0, .ref h), (1, .int (X 1)), (2, .int (X 2)), (3, .int (X 3))]) hx hb d_M_passes_45 hl (by decide) rfl (fun ls hl => ?_)
    have hl : lv_has ls 5 [(4, .int s0), (0, .ref h), (1, .int (X 1)), (2, .int (X 2)), (3, .int (X 3))] := hl
    refine lv_aload_n hx hb d_M_passes_47 rfl (lv_at hl 1 rfl) ?_
    refine va_get (D := (dC, dI)) (ci := 4) (v := .ref (q 18)) (C := R_M) (T := F_M) (N := 38) hx hb hts (fun w h => List.mem_cons_of_mem _ (in_M w h)) hown hK hP 0 rfl rfl 18 (by decide) (hts _ (List.mem_cons_of_mem _ lk_82)) (fun _ h9 => h9) rfl d_M_passes_48 ?_
    refine lv_iload_n hx hb d_M_passes_51 rfl (lv_at hl 2 rfl) ?_
    obtain ⟨hc1, hf⟩ := wk_if hf
    refine va_iald hx hb hK hP 8 7 rfl rfl (wk_inb_ok hc1) d_M_passes_52 ?_
    refine lv_if_eq (tgt := 85) hx hb d_M_passes_53 (by decide) (fun hc2 => ?_) (fun hc2 => ?_)
    ·
      have hf := wk_ift hc2 hf
      exact blk85 I A (upd X 4 s0) _ _ _ hf (lv_sub hl [1, 2, 3, 4, 0] rfl) hP hD hS
    ·
      have hf := wk_iff hc2 hf
      refine lv_aload_n hx hb d_M_passes_56 rfl (lv_at hl 1 rfl) ?_
      refine va_get (D := (dC, dI)) (ci := 4) (v := .ref (q 18)) (C := R_M) (T := F_M) (N := 38) hx hb hts (fun w h => List.mem_cons_of_mem _ (in_M w h)) hown hK hP 0 rfl rfl 18 (by decide) (hts _ (List.mem_cons_of_mem _ lk_82)) (fun _ h9 => h9) rfl d_M_passes_57 ?_
      refine lv_iload_n hx hb d_M_passes_60 rfl (lv_at hl 2 rfl) ?_
      obtain ⟨hc3, hf⟩ := wk_if hf
      refine va_iald hx hb hK hP 8 7 rfl rfl (wk_inb_ok hc3) d_M_passes_61 ?_
      refine lv_iconst (v := 4) hx hb d_M_passes_62 (by decide) ?_
      refine lv_icmp_ne (tgt := 70) hx hb d_M_passes_63 (by decide) (fun hc4 => ?_) (fun hc4 => ?_)
      ·
        have hf := wk_iff hc4 hf
        exact blk70 I A (upd X 4 s0) _ _ _ hf (lv_sub hl [1, 2, 3, 4, 0] rfl) hP hD hS
      ·
        have hf := wk_ift hc4 hf
        refine lv_iload_n hx hb d_M_passes_66 rfl (lv_at hl 4 rfl) ?_
        refine lv_if_ne (tgt := 85) hx hb d_M_passes_67 (by decide) (fun hc5 => ?_) (fun hc5 => ?_)
        ·
          have hf := wk_iff hc5 hf
          exact blk85 I A (upd X 4 s0) _ _ _ hf (lv_sub hl [1, 2, 3, 4, 0] rfl) hP hD hS
        ·
          have hf := wk_ift hc5 hf
          exact blk70 I A (upd X 4 s0) _ _ _ hf (lv_sub hl [1, 2, 3, 4, 0] rfl) hP hD hS
  have blk40 : ∀ (I : MI) (A : MA) (X : Nat → Int32) (ls : Array Slot) (H : Heap) (locs : List Loc), f_M_passes_40 I A X = some (r, I', A') → lv_has ls 5 [(0, .ref h), (1, .int (X 1)), (2, .int (X 2)), (3, .int (X 3))] → va_P (dC, dI) vwCl (mw_W h q g I A) H → va_D B9 (mw_W h q g I A) → va_S B9 s.heap H locs → W p l e (headSpec w_M_passes ({ frames := 1, cells := 0, slots := 0, locals := 21 })).room s m ([.ref h, .int k1, .int k2] : List Value).toArray below meth c H locs 0 0 (MQ below (va_Qi (fun (r9 : Int32) (_ : Unit) => r9 = r) (fun (_ : Unit) t => va_P (dC, dI) vwCl (mw_W h q g I' A') t.heap ∧ va_K (dC, dI) vwCl (mw_T g) t ∧ va_D B9 (mw_W h q g I' A')) B9) ([.ref h, .int k1, .int k2] : List Value).toArray s 0 0 B9) (F0 m 40 ls []) := by
    intro I A X ls H locs hf hl hP hD hS
    unfold f_M_passes_40 at hf
    refine lv_iconst (v := 1) hx hb d_M_passes_40 (by decide) ?_
    refine lv_goto (tgt := 45) hx hb d_M_passes_41 (by decide) ?_
    exact blk45 I A X 1 _ _ _ hf (lv_sub hl [0, 1, 2, 3] rfl) hP hD hS
  have blk21 : ∀ (I : MI) (A : MA) (X : Nat → Int32) (s0 : Int32) (ls : Array Slot) (H : Heap) (locs : List Loc), f_M_passes_21 I A X s0 = some (r, I', A') → lv_has ls 5 [(0, .ref h), (1, .int (X 1)), (2, .int (X 2))] → va_P (dC, dI) vwCl (mw_W h q g I A) H → va_D B9 (mw_W h q g I A) → va_S B9 s.heap H locs → W p l e (headSpec w_M_passes ({ frames := 1, cells := 0, slots := 0, locals := 21 })).room s m ([.ref h, .int k1, .int k2] : List Value).toArray below meth c H locs 0 0 (MQ below (va_Qi (fun (r9 : Int32) (_ : Unit) => r9 = r) (fun (_ : Unit) t => va_P (dC, dI) vwCl (mw_W h q g I' A') t.heap ∧ va_K (dC, dI) vwCl (mw_T g) t ∧ va_D B9 (mw_W h q g I' A')) B9) ([.ref h, .int k1, .int k2] : List Value).toArray s 0 0 B9) (F0 m 21 ls [.int s0]) := by
    intro I A X s0 ls H locs hf hl hP hD hS
    unfold f_M_passes_21 at hf
    refine lv_istore_n (lv' := [(3, .int s0), (0, .ref h), (1, .int (X 1)), (2, .int (X 2))]) hx hb d_M_passes_21 rfl hl (by decide) rfl (fun ls hl => ?_)
    have hl : lv_has ls 5 [(3, .int s0), (0, .ref h), (1, .int (X 1)), (2, .int (X 2))] := hl
    refine lv_iload_n hx hb d_M_passes_22 rfl (lv_at hl 3 rfl) ?_
    refine lv_aload_n hx hb d_M_passes_23 rfl (lv_at hl 1 rfl) ?_
    have hPc := hP.sub (ws' := (mw_W h q g I A)) [0, 1, 2, 3, 4, 5, 6, 7, 8, 9, 10, 11, 12, 13, 14, 15, 16, 17, 18, 19, 20] rfl
    have hDc := hD.sub (ws' := (mw_W h q g I A)) [0, 1, 2, 3, 4, 5, 6, 7, 8, 9, 10, 11, 12, 13, 14, 15, 16, 17, 18, 19, 20] (by decide) rfl
    have hKc := hK.sub (tys' := (mw_T g)) [0, 1, 2, 3, 4, 5, 6, 7, 8, 9, 10, 11, 12, 13, 14, 15, 16, 17, 18, 19] rfl
    have hFc := va_free (wc := (mw_W h q g I A)) hD hS hA [0, 1, 2, 3, 4, 5, 6, 7, 8, 9, 10, 11, 12, 13, 14, 15, 16, 17, 18, 19, 20] rfl
    cases hg1 : f_M_textLength I A with
    | none => rw [hg1] at hf; cases hf
    | some z1 =>
      obtain ⟨r1, I1, A1⟩ := z1
      rw [hg1] at hf
      dsimp only [Option.bind_some] at hf
      refine va_calli (va_runV (As := []) (rest := [.int (X 2)]) ⟨hx, hb, hml, hown, hts⟩ (cm_M_textLength l dC dI h q g _ I A r1 I1 A1 hg1) (cwV 0 hts (gd_v lk_57 lk_58 lk_59 lk_46 lk_56) rfl rfl rfl (by decide +kernel) ⟨Nat.le_of_ble_eq_true rfl, Nat.le_of_ble_eq_true rfl⟩) ⟨fun a U g mk q => by obtain ⟨q0, q1, qP, qK, qD⟩ := q; exact ⟨q0, q1, qP, va_K.moved (u := U) (U := U.calling g mk a) (Vm.Alike.refl U.vm) qK, qD⟩, va_recv (ci := 4) (q0 := 0) hK hP rfl rfl, fun U hU hW => ⟨rfl, by rw [hU], by rw [hU]; exact hPc, va_K.moved hW.alike hKc, hDc.weaken (fun _ _ _ _ => trivial)⟩⟩ rfl rfl hl.1 rfl (lv_room (Nat.le_of_ble_eq_true rfl)) d_M_passes_24 ⟨Nat.le_of_ble_eq_true rfl, Nat.le_of_ble_eq_true rfl⟩) hS (fun q _ h => hFc q h) hFc (fun r9 u t H1 locs ht hvm hw hB hz1 hk1 hS => ?_)
      obtain ⟨hP1, hK1, hD1⟩ := hB
      rw [ht] at hP1
      rw [hw]
      obtain ⟨hP, hD⟩ := va_join (wr := []) (w1 := (mw_W h q g I1 A1)) hP hD [0, 1, 2, 3, 4, 5, 6, 7, 8, 9, 10, 11, 12, 13, 14, 15, 16, 17, 18, 19, 20] [] rfl rfl (by decide) (by decide) hk1 hFc hP1 hD1
      generalize H1 = H at hP hS ⊢
      have hP : va_P (dC, dI) vwCl (mw_W h q g I1 A1) H := hP
      have hD : va_D B9 (mw_W h q g I1 A1) := hD
      refine lv_icmp_eq (tgt := 40) hx hb d_M_passes_27 (by decide) (fun hc1 => ?_) (fun hc1 => ?_)
      ·
        have hf := wk_ift hc1 hf
        exact blk40 I1 A1 (upd X 3 s0) _ _ _ hf (lv_sub hl [1, 2, 3, 0] rfl) hP hD hS
      ·
        have hf := wk_iff hc1 hf
        refine lv_aload_n hx hb d_M_passes_30 rfl (lv_at hl 1 rfl) ?_
        refine lv_iload_n hx hb d_M_passes_31 rfl (lv_at hl 3 rfl) ?_
        have hPc := hP.sub (ws' := (mw_W h q g I1 A1)) [0, 1, 2, 3, 4, 5, 6, 7, 8, 9, 10, 11, 12, 13, 14, 15, 16, 17, 18, 19, 20] rfl
        have hDc := hD.sub (ws' := (mw_W h q g I1 A1)) [0, 1, 2, 3, 4, 5, 6, 7, 8, 9, 10, 11, 12, 13, 14, 15, 16, 17, 18, 19, 20] (by decide) rfl
        have hKc := hK.sub (tys' := (mw_T g)) [0, 1, 2, 3, 4, 5, 6, 7, 8, 9, 10, 11, 12, 13, 14, 15, 16, 17, 18, 19] rfl
        have hFc := va_free (wc := (mw_W h q g I1 A1)) hD hS hA [0, 1, 2, 3, 4, 5, 6, 7, 8, 9, 10, 11, 12, 13, 14, 15, 16, 17, 18, 19, 20] rfl
        cases hg2 : f_M_charAt I1 A1 (X 2) with
        | none => rw [hg2] at hf; cases hf
        | some z2 =>
          obtain ⟨r2, I2, A2⟩ := z2
          rw [hg2] at hf
          dsimp only [Option.bind_some] at hf
          refine va_calli (va_runV (As := [.int (X 2)]) (rest := []) ⟨hx, hb, hml, hown, hts⟩ (cm_M_charAt l dC dI h q g _ I1 A1 (X 2) r2 I2 A2 hg2) (cwV 1 hts (gd_v lk_51 lk_52 lk_53 lk_46 lk_50) rfl rfl rfl (by decide +kernel) ⟨Nat.le_of_ble_eq_true rfl, Nat.le_of_ble_eq_true rfl⟩) ⟨fun a U g mk q => by obtain ⟨q0, q1, qP, qK, qD⟩ := q; exact ⟨q0, q1, qP, va_K.moved (u := U) (U := U.calling g mk a) (Vm.Alike.refl U.vm) qK, qD⟩, va_recv (ci := 4) (q0 := 0) hK hP rfl rfl, fun U hU hW => ⟨rfl, by rw [hU], by rw [hU]; exact hPc, va_K.moved hW.alike hKc, hDc.weaken (fun _ _ _ _ => trivial)⟩⟩ rfl rfl hl.1 rfl (lv_room (Nat.le_of_ble_eq_true rfl)) d_M_passes_32 ⟨Nat.le_of_ble_eq_true rfl, Nat.le_of_ble_eq_true rfl⟩) hS (fun q _ h => hFc q h) hFc (fun r9 u t H1 locs ht hvm hw hB hz1 hk1 hS => ?_)
          obtain ⟨hP1, hK1, hD1⟩ := hB
          rw [ht] at hP1
          rw [hw]
          obtain ⟨hP, hD⟩ := va_join (wr := []) (w1 := (mw_W h q g I2 A2)) hP hD [0, 1, 2, 3, 4, 5, 6, 7, 8, 9, 10, 11, 12, 13, 14, 15, 16, 17, 18, 19, 20] [] rfl rfl (by decide) (by decide) hk1 hFc hP1 hD1
          generalize H1 = H at hP hS ⊢
          have hP : va_P (dC, dI) vwCl (mw_W h q g I2 A2) H := hP
          have hD : va_D B9 (mw_W h q g I2 A2) := hD
          refine lv_bipush (v := 10) hx hb d_M_passes_35 (by decide) ?_
          refine lv_icmp_ne (tgt := 44) hx hb d_M_passes_37 (by decide) (fun hc2 => ?_) (fun hc2 => ?_)
          ·
            have hf := wk_iff hc2 hf
            refine lv_iconst (v := 0) hx hb d_M_passes_44 (by decide) ?_
            exact blk45 I2 A2 (upd X 3 s0) 0 _ _ _ hf (lv_sub hl [1, 2, 3, 0] rfl) hP hD hS
          ·
            have hf := wk_ift hc2 hf
            exact blk40 I2 A2 (upd X 3 s0) _ _ _ hf (lv_sub hl [1, 2, 3, 0] rfl) hP hD hS
  have blk16 : ∀ (I : MI) (A : MA) (X : Nat → Int32) (ls : Array Slot) (H : Heap) (locs : List Loc), f_M_passes_16 I A X = some (r, I', A') → lv_has ls 5 [(0, .ref h), (1, .int (X 1)), (2, .int (X 2))] → va_P (dC, dI) vwCl (mw_W h q g I A) H → va_D B9 (mw_W h q g I A) → va_S B9 s.heap H locs → W p l e (headSpec w_M_passes ({ frames := 1, cells := 0, slots := 0, locals := 21 })).room s m ([.ref h, .int k1, .int k2] : List Value).toArray below meth c H locs 0 0 (MQ below (va_Qi (fun (r9 : Int32) (_ : Unit) => r9 = r) (fun (_ : Unit) t => va_P (dC, dI) vwCl (mw_W h q g I' A') t.heap ∧ va_K (dC, dI) vwCl (mw_T g) t ∧ va_D B9 (mw_W h q g I' A')) B9) ([.ref h, .int k1, .int k2] : List Value).toArray s 0 0 B9) (F0 m 16 ls []) := by
    intro I A X ls H locs hf hl hP hD hS
    unfold f_M_passes_16 at hf
    refine lv_iconst (v := 1) hx hb d_M_passes_16 (by decide) ?_
    refine lv_goto (tgt := 21) hx hb d_M_passes_17 (by decide) ?_
    exact blk21 I A X 1 _ _ _ hf (lv_sub hl [0, 1, 2] rfl) hP hD hS
  unfold f_M_passes at hf
  refine lv_iload_n hx hb d_M_passes_0 rfl (lv_at hl 2 rfl) ?_
  refine lv_if_eq (tgt := 16) hx hb d_M_passes_1 (by decide) (fun hc1 => ?_) (fun hc1 => ?_)
  ·
    have hf := wk_ift hc1 hf
    exact blk16 I A (upd (upd (fun _ => 0) 1 k1) 2 k2) _ _ _ hf (lv_sub hl [0, 1, 2] rfl) hP hD hS
  ·
    have hf := wk_iff hc1 hf
    refine lv_aload_n hx hb d_M_passes_4 rfl (lv_at hl 0 rfl) ?_
    refine lv_iload_n hx hb d_M_passes_5 rfl (lv_at hl 2 rfl) ?_
    refine lv_iconst (v := 1) hx hb d_M_passes_6 (by decide) ?_
    refine lv_isub hx hb d_M_passes_7 ?_
    have hPc := hP.sub (ws' := (mw_W h q g I A)) [0, 1, 2, 3, 4, 5, 6, 7, 8, 9, 10, 11, 12, 13, 14, 15, 16, 17, 18, 19, 20] rfl
    have hDc := hD.sub (ws' := (mw_W h q g I A)) [0, 1, 2, 3, 4, 5, 6, 7, 8, 9, 10, 11, 12, 13, 14, 15, 16, 17, 18, 19, 20] (by decide) rfl
    have hKc := hK.sub (tys' := (mw_T g)) [0, 1, 2, 3, 4, 5, 6, 7, 8, 9, 10, 11, 12, 13, 14, 15, 16, 17, 18, 19] rfl
    have hFc := va_free (wc := (mw_W h q g I A)) hD hS hA [0, 1, 2, 3, 4, 5, 6, 7, 8, 9, 10, 11, 12, 13, 14, 15, 16, 17, 18, 19, 20] rfl
    cases hg1 : f_M_charAt I A (k2 - 1) with
    | none => rw [hg1] at hf; cases hf
    | some z1 =>
      obtain ⟨r1, I1, A1⟩ := z1
      rw [hg1] at hf
      dsimp only [Option.bind_some] at hf
      refine va_calli (va_runV (As := [.int (k2 - 1)]) (rest := []) ⟨hx, hb, hml, hown, hts⟩ (cm_M_charAt l dC dI h q g _ I A (k2 - 1) r1 I1 A1 hg1) (cwV 1 hts (gd_v lk_51 lk_52 lk_53 lk_46 lk_50) rfl rfl rfl (by decide +kernel) ⟨Nat.le_of_ble_eq_true rfl, Nat.le_of_ble_eq_true rfl⟩) ⟨fun a U g mk q => by obtain ⟨q0, q1, qP, qK, qD⟩ := q; exact ⟨q0, q1, qP, va_K.moved (u := U) (U := U.calling g mk a) (Vm.Alike.refl U.vm) qK, qD⟩, va_recv (ci := 4) (q0 := 0) hK hP rfl rfl, fun U hU hW => ⟨rfl, by rw [hU], by rw [hU]; exact hPc, va_K.moved hW.alike hKc, hDc.weaken (fun _ _ _ _ => trivial)⟩⟩ rfl rfl hl.1 rfl (lv_room (Nat.le_of_ble_eq_true rfl)) d_M_passes_8 ⟨Nat.le_of_ble_eq_true rfl, Nat.le_of_ble_eq_true rfl⟩) hS (fun q _ h => hFc q h) hFc (fun r9 u t H1 locs ht hvm hw hB hz1 hk1 hS => ?_)
      obtain ⟨hP1, hK1, hD1⟩ := hB
      rw [ht] at hP1
      rw [hw]
      obtain ⟨hP, hD⟩ := va_join (wr := []) (w1 := (mw_W h q g I1 A1)) hP hD [0, 1, 2, 3, 4, 5, 6, 7, 8, 9, 10, 11, 12, 13, 14, 15, 16, 17, 18, 19, 20] [] rfl rfl (by decide) (by decide) hk1 hFc hP1 hD1
      generalize H1 = H at hP hS ⊢
      have hP : va_P (dC, dI) vwCl (mw_W h q g I1 A1) H := hP
      have hD : va_D B9 (mw_W h q g I1 A1) := hD
      refine lv_bipush (v := 10) hx hb d_M_passes_11 (by decide) ?_
      refine lv_icmp_ne (tgt := 20) hx hb d_M_passes_13 (by decide) (fun hc2 => ?_) (fun hc2 => ?_)
      ·
        have hf := wk_iff hc2 hf
        refine lv_iconst (v := 0) hx hb d_M_passes_20 (by decide) ?_
        exact blk21 I1 A1 (upd (upd (fun _ => 0) 1 k1) 2 k2) 0 _ _ _ hf (lv_sub hl [0, 1, 2] rfl) hP hD hS
      ·
        have hf := wk_ift hc2 hf
        exact blk16 I1 A1 (upd (upd (fun _ => 0) 1 k1) 2 k2) _ _ _ hf (lv_sub hl [0, 1, 2] rfl) hP hD hS

set_option maxHeartbeats 8000000 in
set_option maxRecDepth 100000 in
theorem cm_M_reach (l : Launch) (dC : Nat → ClassId) (dI : Nat → Nat → Nat) (h : Nat) (q : Nat → Nat) (g : Nat → ClassId) (sz : Nat) (I : MI) (A : MA) (k1 : Int32) (r : Int32) (I' : MI) (A' : MA) (hf : f_M_reach I A k1 = some (r, I', A')) : Met l y_M_reach w_M_reach ({ frames := 0, cells := 0, slots := 0, locals := 0 }) (va_Pc [.ref h, .int k1] (fun U => U.heap.size = sz ∧ va_P (dC, dI) vwCl (mw_W h q g I A) U.heap ∧ va_K (dC, dI) vwCl (mw_T g) U ∧ va_D (fun _ => True) (mw_W h q g I A))) (va_Qi (fun (r9 : Int32) (_ : Unit) => r9 = r) (fun (_ : Unit) t => va_P (dC, dI) vwCl (mw_W h q g I' A') t.heap ∧ va_K (dC, dI) vwCl (mw_T g) t ∧ va_D (va_A (mw_W h q g I A) sz) (mw_W h q g I' A')) (va_A (mw_W h q g I A) sz)) 0 0 (va_A (mw_W h q g I A) sz) := by
  refine Met.ofW (cc := prog_6_method_42_code) (maxL := 3) (ret := (some .boolean)) (by decide) rfl ?_
  intro p e s m args below meth c s₁ B hml hv
  obtain ⟨rfl, hsz, hP, hK, hD0⟩ := hv
  have hx := B.exec
  have hb := B.bytes
  have hr := B.returns
  have hts := atoms_spec (ws := w_M_reach) B.pre
  have hown : s.vm.findClass R_M = some m.cls := findClass_of_methodNamed B.named
  have hlocks := B.notSynchronized
  subst hsz
  have hD := hD0.self (sz := s.heap.size)
  generalize hAe : va_A (mw_W h q g I A) s.heap.size = B9 at hD ⊢
  have hA : ∀ q : Nat, s.heap.size ≤ q → B9 q := fun q h => by rw [← hAe]; exact Or.inr h
  clear hAe
  have hS : va_S B9 s.heap s.heap [] := va_S.rf
  have hl := lv_entry ([.ref h, .int k1]) (n := 3) (Nat.le_of_ble_eq_true rfl)
  rw [lg_entry_eq]
  generalize (lg_sl ([.ref h, .int k1]) ++ List.replicate (3 - (lg_sl ([.ref h, .int k1])).length) Slot.unset).toArray = ls at hl ⊢
  have hl : lv_has ls 3 [(0, .ref h), (1, .int k1)] := hl
  have blk30 : ∀ (I : MI) (A : MA) (X : Nat → Int32) (ls : Array Slot) (H : Heap) (locs : List Loc), f_M_reach_30 I A X = some (r, I', A') → lv_has ls 3 [(0, .ref h), (1, .int (X 1)), (2, .int (X 2))] → va_P (dC, dI) vwCl (mw_W h q g I A) H → va_D B9 (mw_W h q g I A) → va_S B9 s.heap H locs → W p l e (headSpec w_M_reach ({ frames := 0, cells := 0, slots := 0, locals := 0 })).room s m ([.ref h, .int k1] : List Value).toArray below meth c H locs 0 0 (MQ below (va_Qi (fun (r9 : Int32) (_ : Unit) => r9 = r) (fun (_ : Unit) t => va_P (dC, dI) vwCl (mw_W h q g I' A') t.heap ∧ va_K (dC, dI) vwCl (mw_T g) t ∧ va_D B9 (mw_W h q g I' A')) B9) ([.ref h, .int k1] : List Value).toArray s 0 0 B9) (F0 m 30 ls []) := by
    intro I A X ls H locs hf hl hP hD hS
    unfold f_M_reach_30 at hf
    refine lv_iload_n hx hb d_M_reach_30 rfl (lv_at hl 2 rfl) ?_
    obtain ⟨hn9, hf⟩ := wk_if hf
    obtain ⟨e1, e2, e3⟩ := wk_inj hf
    subst e1
    subst e2
    subst e3
    exact W.zret (v := (X 2)) hx hb hr (congrArg Value.int hn9) (fun t ht hW => ⟨⟨(X 2), (), rfl, rfl, by rw [ht]; exact hP, va_K.moved hW.alike hK, hD⟩, hS.F ht⟩) hS.2.2 d_M_reach_31
  have blk18 : ∀ (I : MI) (A : MA) (X : Nat → Int32) (s0 : Int32) (ls : Array Slot) (H : Heap) (locs : List Loc), f_M_reach_18 I A X s0 = some (r, I', A') → lv_has ls 3 [(0, .ref h), (1, .int (X 1))] → va_P (dC, dI) vwCl (mw_W h q g I A) H → va_D B9 (mw_W h q g I A) → va_S B9 s.heap H locs → W p l e (headSpec w_M_reach ({ frames := 0, cells := 0, slots := 0, locals := 0 })).room s m ([.ref h, .int k1] : List Value).toArray below meth c H locs 0 0 (MQ below (va_Qi (fun (r9 : Int32) (_ : Unit) => r9 = r) (fun (_ : Unit) t => va_P (dC, dI) vwCl (mw_W h q g I' A') t.heap ∧ va_K (dC, dI) vwCl (mw_T g) t ∧ va_D B9 (mw_W h q g I' A')) B9) ([.ref h, .int k1] : List Value).toArray s 0 0 B9) (F0 m 18 ls [.int s0]) := by
    intro I A X s0 ls H locs hf hl hP hD hS
    unfold f_M_reach_18 at hf
    refine lv_istore_n (lv' := [(2, .int s0), (0, .ref h), (1, .int (X 1))]) hx hb d_M_reach_18 rfl hl (by decide) rfl (fun ls hl => ?_)
    have hl : lv_has ls 3 [(2, .int s0), (0, .ref h), (1, .int (X 1))] := hl
    refine lv_iload_n hx hb d_M_reach_19 rfl (lv_at hl 0 rfl) ?_
    refine lv_if_eq (tgt := 30) hx hb d_M_reach_20 (by decide) (fun hc1 => ?_) (fun hc1 => ?_)
    ·
      have hf := wk_ift hc1 hf
      exact blk30 I A (upd X 2 s0) _ _ _ hf (lv_sub hl [1, 2, 0] rfl) hP hD hS
    ·
      have hf := wk_iff hc1 hf
      refine lv_aload_n hx hb d_M_reach_23 rfl (lv_at hl 1 rfl) ?_
      refine va_get (D := (dC, dI)) (ci := 4) (v := .ref (q 32)) (C := R_M) (T := F_M) (N := 38) hx hb hts (fun w h => List.mem_cons_of_mem _ (in_M w h)) hown hK hP 0 rfl rfl 32 (by decide) (hts _ (List.mem_cons_of_mem _ lk_172)) (fun _ h9 => h9) rfl d_M_reach_24 ?_
      refine lv_iload_n hx hb d_M_reach_27 rfl (lv_at hl 2 rfl) ?_
      refine lv_iconst (v := 1) hx hb d_M_reach_28 (by decide) ?_
      obtain ⟨hc2, hf⟩ := wk_if hf
      refine va_zast hx hb hK hP hD hS 18 17 rfl rfl (wk_inb_ok hc2) d_M_reach_29 (fun H locs hP hD hS => ?_)
      obtain ⟨A1, hA1, hf⟩ := wk_letE hf
      have hP : va_P (dC, dI) vwCl (mw_W h q g I A1) H := by rw [hA1]; exact hP
      have hD : va_D B9 (mw_W h q g I A1) := by rw [hA1]; exact hD
      clear hA1
      exact blk30 I A1 (upd X 2 s0) _ _ _ hf (lv_sub hl [1, 2, 0] rfl) hP hD hS
  have blk17 : ∀ (I : MI) (A : MA) (X : Nat → Int32) (ls : Array Slot) (H : Heap) (locs : List Loc), f_M_reach_17 I A X = some (r, I', A') → lv_has ls 3 [(0, .ref h), (1, .int (X 1))] → va_P (dC, dI) vwCl (mw_W h q g I A) H → va_D B9 (mw_W h q g I A) → va_S B9 s.heap H locs → W p l e (headSpec w_M_reach ({ frames := 0, cells := 0, slots := 0, locals := 0 })).room s m ([.ref h, .int k1] : List Value).toArray below meth c H locs 0 0 (MQ below (va_Qi (fun (r9 : Int32) (_ : Unit) => r9 = r) (fun (_ : Unit) t => va_P (dC, dI) vwCl (mw_W h q g I' A') t.heap ∧ va_K (dC, dI) vwCl (mw_T g) t ∧ va_D B9 (mw_W h q g I' A')) B9) ([.ref h, .int k1] : List Value).toArray s 0 0 B9) (F0 m 17 ls []) := by
    intro I A X ls H locs hf hl hP hD hS
    unfold f_M_reach_17 at hf
    refine lv_iconst (v := 0) hx hb d_M_reach_17 (by decide) ?_
    exact blk18 I A X 0 _ _ _ hf (lv_sub hl [0, 1] rfl) hP hD hS
  unfold f_M_reach at hf
  refine lv_iload_n hx hb d_M_reach_0 rfl (lv_at hl 1 rfl) ?_
  refine lv_if_lt (tgt := 17) hx hb d_M_reach_1 (by decide) (fun hc1 => ?_) (fun hc1 => ?_)
  ·
    have hf := wk_ift hc1 hf
    exact blk17 I A (upd (fun _ => 0) 1 k1) _ _ _ hf (lv_sub hl [0, 1] rfl) hP hD hS
  ·
    have hf := wk_iff hc1 hf
    refine lv_aload_n hx hb d_M_reach_4 rfl (lv_at hl 0 rfl) ?_
    refine va_get (D := (dC, dI)) (ci := 4) (v := .ref (q 32)) (C := R_M) (T := F_M) (N := 38) hx hb hts (fun w h => List.mem_cons_of_mem _ (in_M w h)) hown hK hP 0 rfl rfl 32 (by decide) (hts _ (List.mem_cons_of_mem _ lk_172)) (fun _ h9 => h9) rfl d_M_reach_5 ?_
    refine lv_iload_n hx hb d_M_reach_8 rfl (lv_at hl 1 rfl) ?_
    obtain ⟨hc2, hf⟩ := wk_if hf
    refine va_zald hx hb hK hP 18 17 rfl rfl (wk_inb_ok hc2) d_M_reach_9 ?_
    refine lv_if_ne (tgt := 17) hx hb d_M_reach_10 (by decide) (fun hc3 => ?_) (fun hc3 => ?_)
    ·
      have hf := wk_iff hc3 hf
      exact blk17 I A (upd (fun _ => 0) 1 k1) _ _ _ hf (lv_sub hl [0, 1] rfl) hP hD hS
    ·
      have hf := wk_ift hc3 hf
      refine lv_iconst (v := 1) hx hb d_M_reach_13 (by decide) ?_
      refine lv_goto (tgt := 18) hx hb d_M_reach_14 (by decide) ?_
      exact blk18 I A (upd (fun _ => 0) 1 k1) 1 _ _ _ hf (lv_sub hl [0, 1] rfl) hP hD hS

set_option maxHeartbeats 8000000 in
set_option maxRecDepth 100000 in
theorem cm_M_spread (l : Launch) (dC : Nat → ClassId) (dI : Nat → Nat → Nat) (h : Nat) (q : Nat → Nat) (g : Nat → ClassId) (sz : Nat) (I : MI) (A : MA) (k1 : Int32) (r : Int32) (I' : MI) (A' : MA) (hf : f_M_spread I A k1 = some (r, I', A')) : Met l y_M_spread w_M_spread ({ frames := 2, cells := 0, slots := 0, locals := 45 }) (va_Pc [.ref h, .int k1] (fun U => U.heap.size = sz ∧ va_P (dC, dI) vwCl (mw_W h q g I A) U.heap ∧ va_K (dC, dI) vwCl (mw_T g) U ∧ va_D (fun _ => True) (mw_W h q g I A))) (va_Qv (fun (u : Unit) => u = u) (fun (_ : Unit) t => va_P (dC, dI) vwCl (mw_W h q g I' A') t.heap ∧ va_K (dC, dI) vwCl (mw_T g) t ∧ va_D (va_A (mw_W h q g I A) sz) (mw_W h q g I' A')) (va_A (mw_W h q g I A) sz)) 0 0 (va_A (mw_W h q g I A) sz) := by
  refine Met.ofW (cc := prog_6_method_41_code) (maxL := 4) (ret := none) (by decide) rfl ?_
  intro p e s m args below meth c s₁ B hml hv
  obtain ⟨rfl, hsz, hP, hK, hD0⟩ := hv
  have hx := B.exec
  have hb := B.bytes
  have hr := B.returns
  have hts := atoms_spec (ws := w_M_spread) B.pre
  have hown : s.vm.findClass R_M = some m.cls := findClass_of_methodNamed B.named
  have hlocks := B.notSynchronized
  subst hsz
  have hD := hD0.self (sz := s.heap.size)
  generalize hAe : va_A (mw_W h q g I A) s.heap.size = B9 at hD ⊢
  have hA : ∀ q : Nat, s.heap.size ≤ q → B9 q := fun q h => by rw [← hAe]; exact Or.inr h
  clear hAe
  have hS : va_S B9 s.heap s.heap [] := va_S.rf
  have hl := lv_entry ([.ref h, .int k1]) (n := 4) (Nat.le_of_ble_eq_true rfl)
  rw [lg_entry_eq]
  generalize (lg_sl ([.ref h, .int k1]) ++ List.replicate (4 - (lg_sl ([.ref h, .int k1])).length) Slot.unset).toArray = ls at hl ⊢
  have hl : lv_has ls 4 [(0, .ref h), (1, .int k1)] := hl
  have stp2 : ∀ (rc : Nat → MI → MA → (Nat → Int32) → Option (Int32 × MI × MA)) (hrc2 : ∀ (I : MI) (A : MA) (X : Nat → Int32) (ls : Array Slot) (H : Heap) (locs : List Loc), rc 2 I A X = some (r, I', A') → lv_has ls 4 [(0, .ref h), (1, .int (X 1)), (2, .int (X 2))] → va_P (dC, dI) vwCl (mw_W h q g I A) H → va_D B9 (mw_W h q g I A) → va_S B9 s.heap H locs → W p l e (headSpec w_M_spread ({ frames := 2, cells := 0, slots := 0, locals := 45 })).room s m ([.ref h, .int k1] : List Value).toArray below meth c H locs 0 0 (MQ below (va_Qv (fun (u : Unit) => u = u) (fun (_ : Unit) t => va_P (dC, dI) vwCl (mw_W h q g I' A') t.heap ∧ va_K (dC, dI) vwCl (mw_T g) t ∧ va_D B9 (mw_W h q g I' A')) B9) ([.ref h, .int k1] : List Value).toArray s 0 0 B9) (F0 m 2 ls [])) (hrc10 : ∀ (I : MI) (A : MA) (X : Nat → Int32) (ls : Array Slot) (H : Heap) (locs : List Loc), rc 10 I A X = some (r, I', A') → lv_has ls 4 [(0, .ref h), (1, .int (X 1)), (2, .int (X 2)), (3, .int (X 3))] → va_P (dC, dI) vwCl (mw_W h q g I A) H → va_D B9 (mw_W h q g I A) → va_S B9 s.heap H locs → W p l e (headSpec w_M_spread ({ frames := 2, cells := 0, slots := 0, locals := 45 })).room s m ([.ref h, .int k1] : List Value).toArray below meth c H locs 0 0 (MQ below (va_Qv (fun (u : Unit) => u = u) (fun (_ : Unit) t => va_P (dC, dI) vwCl (mw_W h q g I' A') t.heap ∧ va_K (dC, dI) vwCl (mw_T g) t ∧ va_D B9 (mw_W h q g I' A')) B9) ([.ref h, .int k1] : List Value).toArray s 0 0 B9) (F0 m 10 ls [])), ∀ (I : MI) (A : MA) (X : Nat → Int32) (ls : Array Slot) (H : Heap) (locs : List Loc), f_M_spread_2 rc I A X = some (r, I', A') → lv_has ls 4 [(0, .ref h), (1, .int (X 1)), (2, .int (X 2))] → va_P (dC, dI) vwCl (mw_W h q g I A) H → va_D B9 (mw_W h q g I A) → va_S B9 s.heap H locs → W p l e (headSpec w_M_spread ({ frames := 2, cells := 0, slots := 0, locals := 45 })).room s m ([.ref h, .int k1] : List Value).toArray below meth c H locs 0 0 (MQ below (va_Qv (fun (u : Unit) => u = u) (fun (_ : Unit) t => va_P (dC, dI) vwCl (mw_W h q g I' A') t.heap ∧ va_K (dC, dI) vwCl (mw_T g) t ∧ va_D B9 (mw_W h q g I' A')) B9) ([.ref h, .int k1] : List Value).toArray s 0 0 B9) (F0 m 2 ls []) := by
    intro rc hrc2 hrc10 I A X ls H locs hf hl hP hD hS
    unfold f_M_spread_2 at hf
    refine lv_iload_n hx hb d_M_spread_2 rfl (lv_at hl 2 rfl) ?_
    refine lv_if_eq (tgt := 91) hx hb d_M_spread_3 (by decide) (fun hc1 => ?_) (fun hc1 => ?_)
    ·
      have hf := wk_ift hc1 hf
      obtain ⟨e1, e2, e3⟩ := wk_inj hf
      subst e1
      subst e2
      subst e3
      exact W.vret hx hb hr (fun t ht hW => ⟨⟨(), rfl, rfl, by rw [ht]; exact hP, va_K.moved hW.alike hK, hD⟩, hS.F ht⟩) hS.2.2 d_M_spread_91
    ·
      have hf := wk_iff hc1 hf
      refine lv_iconst (v := 0) hx hb d_M_spread_6 (by decide) ?_
      refine lv_istore_n (lv' := [(2, .int 0), (0, .ref h), (1, .int (X 1))]) hx hb d_M_spread_7 rfl hl (by decide) rfl (fun ls hl => ?_)
      have hl : lv_has ls 4 [(2, .int 0), (0, .ref h), (1, .int (X 1))] := hl
      refine lv_iconst (v := 0) hx hb d_M_spread_8 (by decide) ?_
      refine lv_istore_n (lv' := [(3, .int 0), (2, .int 0), (0, .ref h), (1, .int (X 1))]) hx hb d_M_spread_9 rfl hl (by decide) rfl (fun ls hl => ?_)
      have hl : lv_has ls 4 [(3, .int 0), (2, .int 0), (0, .ref h), (1, .int (X 1))] := hl
      exact hrc10 I A (upd (upd X 2 0) 3 0) _ _ _ hf (lv_sub hl [2, 3, 1, 0] rfl) hP hD hS
  have blk82 : ∀ (rc : Nat → MI → MA → (Nat → Int32) → Option (Int32 × MI × MA)) (hrc2 : ∀ (I : MI) (A : MA) (X : Nat → Int32) (ls : Array Slot) (H : Heap) (locs : List Loc), rc 2 I A X = some (r, I', A') → lv_has ls 4 [(0, .ref h), (1, .int (X 1)), (2, .int (X 2))] → va_P (dC, dI) vwCl (mw_W h q g I A) H → va_D B9 (mw_W h q g I A) → va_S B9 s.heap H locs → W p l e (headSpec w_M_spread ({ frames := 2, cells := 0, slots := 0, locals := 45 })).room s m ([.ref h, .int k1] : List Value).toArray below meth c H locs 0 0 (MQ below (va_Qv (fun (u : Unit) => u = u) (fun (_ : Unit) t => va_P (dC, dI) vwCl (mw_W h q g I' A') t.heap ∧ va_K (dC, dI) vwCl (mw_T g) t ∧ va_D B9 (mw_W h q g I' A')) B9) ([.ref h, .int k1] : List Value).toArray s 0 0 B9) (F0 m 2 ls [])) (hrc10 : ∀ (I : MI) (A : MA) (X : Nat → Int32) (ls : Array Slot) (H : Heap) (locs : List Loc), rc 10 I A X = some (r, I', A') → lv_has ls 4 [(0, .ref h), (1, .int (X 1)), (2, .int (X 2)), (3, .int (X 3))] → va_P (dC, dI) vwCl (mw_W h q g I A) H → va_D B9 (mw_W h q g I A) → va_S B9 s.heap H locs → W p l e (headSpec w_M_spread ({ frames := 2, cells := 0, slots := 0, locals := 45 })).room s m ([.ref h, .int k1] : List Value).toArray below meth c H locs 0 0 (MQ below (va_Qv (fun (u : Unit) => u = u) (fun (_ : Unit) t => va_P (dC, dI) vwCl (mw_W h q g I' A') t.heap ∧ va_K (dC, dI) vwCl (mw_T g) t ∧ va_D B9 (mw_W h q g I' A')) B9) ([.ref h, .int k1] : List Value).toArray s 0 0 B9) (F0 m 10 ls [])), ∀ (I : MI) (A : MA) (X : Nat → Int32) (ls : Array Slot) (H : Heap) (locs : List Loc), f_M_spread_82 rc I A X = some (r, I', A') → lv_has ls 4 [(0, .ref h), (1, .int (X 1)), (2, .int (X 2)), (3, .int (X 3))] → va_P (dC, dI) vwCl (mw_W h q g I A) H → va_D B9 (mw_W h q g I A) → va_S B9 s.heap H locs → W p l e (headSpec w_M_spread ({ frames := 2, cells := 0, slots := 0, locals := 45 })).room s m ([.ref h, .int k1] : List Value).toArray below meth c H locs 0 0 (MQ below (va_Qv (fun (u : Unit) => u = u) (fun (_ : Unit) t => va_P (dC, dI) vwCl (mw_W h q g I' A') t.heap ∧ va_K (dC, dI) vwCl (mw_T g) t ∧ va_D B9 (mw_W h q g I' A')) B9) ([.ref h, .int k1] : List Value).toArray s 0 0 B9) (F0 m 82 ls []) := by
    intro rc hrc2 hrc10 I A X ls H locs hf hl hP hD hS
    unfold f_M_spread_82 at hf
    refine lv_iinc (k := 3) (v := ((X 3) + 1)) (lv' := [(3, .int ((X 3) + 1)), (0, .ref h), (1, .int (X 1)), (2, .int (X 2))]) hx hb d_M_spread_82 hl rfl (wk_inc (by decide)) (by decide) rfl (fun ls hl => ?_)
    have hl : lv_has ls 4 [(3, .int ((X 3) + 1)), (0, .ref h), (1, .int (X 1)), (2, .int (X 2))] := hl
    refine lv_goto (tgt := 10) hx hb d_M_spread_85 (by decide) ?_
    exact hrc10 I A (upd X 3 ((X 3) + 1)) _ _ _ hf (lv_sub hl [1, 2, 3, 0] rfl) hP hD hS
  have blk81 : ∀ (rc : Nat → MI → MA → (Nat → Int32) → Option (Int32 × MI × MA)) (hrc2 : ∀ (I : MI) (A : MA) (X : Nat → Int32) (ls : Array Slot) (H : Heap) (locs : List Loc), rc 2 I A X = some (r, I', A') → lv_has ls 4 [(0, .ref h), (1, .int (X 1)), (2, .int (X 2))] → va_P (dC, dI) vwCl (mw_W h q g I A) H → va_D B9 (mw_W h q g I A) → va_S B9 s.heap H locs → W p l e (headSpec w_M_spread ({ frames := 2, cells := 0, slots := 0, locals := 45 })).room s m ([.ref h, .int k1] : List Value).toArray below meth c H locs 0 0 (MQ below (va_Qv (fun (u : Unit) => u = u) (fun (_ : Unit) t => va_P (dC, dI) vwCl (mw_W h q g I' A') t.heap ∧ va_K (dC, dI) vwCl (mw_T g) t ∧ va_D B9 (mw_W h q g I' A')) B9) ([.ref h, .int k1] : List Value).toArray s 0 0 B9) (F0 m 2 ls [])) (hrc10 : ∀ (I : MI) (A : MA) (X : Nat → Int32) (ls : Array Slot) (H : Heap) (locs : List Loc), rc 10 I A X = some (r, I', A') → lv_has ls 4 [(0, .ref h), (1, .int (X 1)), (2, .int (X 2)), (3, .int (X 3))] → va_P (dC, dI) vwCl (mw_W h q g I A) H → va_D B9 (mw_W h q g I A) → va_S B9 s.heap H locs → W p l e (headSpec w_M_spread ({ frames := 2, cells := 0, slots := 0, locals := 45 })).room s m ([.ref h, .int k1] : List Value).toArray below meth c H locs 0 0 (MQ below (va_Qv (fun (u : Unit) => u = u) (fun (_ : Unit) t => va_P (dC, dI) vwCl (mw_W h q g I' A') t.heap ∧ va_K (dC, dI) vwCl (mw_T g) t ∧ va_D B9 (mw_W h q g I' A')) B9) ([.ref h, .int k1] : List Value).toArray s 0 0 B9) (F0 m 10 ls [])), ∀ (I : MI) (A : MA) (X : Nat → Int32) (s0 : Int32) (ls : Array Slot) (H : Heap) (locs : List Loc), f_M_spread_81 rc I A X s0 = some (r, I', A') → lv_has ls 4 [(0, .ref h), (1, .int (X 1)), (2, .int (X 2)), (3, .int (X 3))] → va_P (dC, dI) vwCl (mw_W h q g I A) H → va_D B9 (mw_W h q g I A) → va_S B9 s.heap H locs → W p l e (headSpec w_M_spread ({ frames := 2, cells := 0, slots := 0, locals := 45 })).room s m ([.ref h, .int k1] : List Value).toArray below meth c H locs 0 0 (MQ below (va_Qv (fun (u : Unit) => u = u) (fun (_ : Unit) t => va_P (dC, dI) vwCl (mw_W h q g I' A') t.heap ∧ va_K (dC, dI) vwCl (mw_T g) t ∧ va_D B9 (mw_W h q g I' A')) B9) ([.ref h, .int k1] : List Value).toArray s 0 0 B9) (F0 m 81 ls [.int s0]) := by
    intro rc hrc2 hrc10 I A X s0 ls H locs hf hl hP hD hS
    unfold f_M_spread_81 at hf
    refine lv_istore_n (lv' := [(2, .int s0), (0, .ref h), (1, .int (X 1)), (3, .int (X 3))]) hx hb d_M_spread_81 rfl hl (by decide) rfl (fun ls hl => ?_)
    have hl : lv_has ls 4 [(2, .int s0), (0, .ref h), (1, .int (X 1)), (3, .int (X 3))] := hl
    exact blk82 rc hrc2 hrc10 I A (upd X 2 s0) _ _ _ hf (lv_sub hl [1, 2, 0, 3] rfl) hP hD hS
  have blk76 : ∀ (rc : Nat → MI → MA → (Nat → Int32) → Option (Int32 × MI × MA)) (hrc2 : ∀ (I : MI) (A : MA) (X : Nat → Int32) (ls : Array Slot) (H : Heap) (locs : List Loc), rc 2 I A X = some (r, I', A') → lv_has ls 4 [(0, .ref h), (1, .int (X 1)), (2, .int (X 2))] → va_P (dC, dI) vwCl (mw_W h q g I A) H → va_D B9 (mw_W h q g I A) → va_S B9 s.heap H locs → W p l e (headSpec w_M_spread ({ frames := 2, cells := 0, slots := 0, locals := 45 })).room s m ([.ref h, .int k1] : List Value).toArray below meth c H locs 0 0 (MQ below (va_Qv (fun (u : Unit) => u = u) (fun (_ : Unit) t => va_P (dC, dI) vwCl (mw_W h q g I' A') t.heap ∧ va_K (dC, dI) vwCl (mw_T g) t ∧ va_D B9 (mw_W h q g I' A')) B9) ([.ref h, .int k1] : List Value).toArray s 0 0 B9) (F0 m 2 ls [])) (hrc10 : ∀ (I : MI) (A : MA) (X : Nat → Int32) (ls : Array Slot) (H : Heap) (locs : List Loc), rc 10 I A X = some (r, I', A') → lv_has ls 4 [(0, .ref h), (1, .int (X 1)), (2, .int (X 2)), (3, .int (X 3))] → va_P (dC, dI) vwCl (mw_W h q g I A) H → va_D B9 (mw_W h q g I A) → va_S B9 s.heap H locs → W p l e (headSpec w_M_spread ({ frames := 2, cells := 0, slots := 0, locals := 45 })).room s m ([.ref h, .int k1] : List Value).toArray below meth c H locs 0 0 (MQ below (va_Qv (fun (u : Unit) => u = u) (fun (_ : Unit) t => va_P (dC, dI) vwCl (mw_W h q g I' A') t.heap ∧ va_K (dC, dI) vwCl (mw_T g) t ∧ va_D B9 (mw_W h q g I' A')) B9) ([.ref h, .int k1] : List Value).toArray s 0 0 B9) (F0 m 10 ls [])), ∀ (I : MI) (A : MA) (X : Nat → Int32) (ls : Array Slot) (H : Heap) (locs : List Loc), f_M_spread_76 rc I A X = some (r, I', A') → lv_has ls 4 [(0, .ref h), (1, .int (X 1)), (2, .int (X 2)), (3, .int (X 3))] → va_P (dC, dI) vwCl (mw_W h q g I A) H → va_D B9 (mw_W h q g I A) → va_S B9 s.heap H locs → W p l e (headSpec w_M_spread ({ frames := 2, cells := 0, slots := 0, locals := 45 })).room s m ([.ref h, .int k1] : List Value).toArray below meth c H locs 0 0 (MQ below (va_Qv (fun (u : Unit) => u = u) (fun (_ : Unit) t => va_P (dC, dI) vwCl (mw_W h q g I' A') t.heap ∧ va_K (dC, dI) vwCl (mw_T g) t ∧ va_D B9 (mw_W h q g I' A')) B9) ([.ref h, .int k1] : List Value).toArray s 0 0 B9) (F0 m 76 ls []) := by
    intro rc hrc2 hrc10 I A X ls H locs hf hl hP hD hS
    unfold f_M_spread_76 at hf
    refine lv_iconst (v := 1) hx hb d_M_spread_76 (by decide) ?_
    refine lv_goto (tgt := 81) hx hb d_M_spread_77 (by decide) ?_
    exact blk81 rc hrc2 hrc10 I A X 1 _ _ _ hf (lv_sub hl [0, 1, 2, 3] rfl) hP hD hS
  have blk58 : ∀ (rc : Nat → MI → MA → (Nat → Int32) → Option (Int32 × MI × MA)) (hrc2 : ∀ (I : MI) (A : MA) (X : Nat → Int32) (ls : Array Slot) (H : Heap) (locs : List Loc), rc 2 I A X = some (r, I', A') → lv_has ls 4 [(0, .ref h), (1, .int (X 1)), (2, .int (X 2))] → va_P (dC, dI) vwCl (mw_W h q g I A) H → va_D B9 (mw_W h q g I A) → va_S B9 s.heap H locs → W p l e (headSpec w_M_spread ({ frames := 2, cells := 0, slots := 0, locals := 45 })).room s m ([.ref h, .int k1] : List Value).toArray below meth c H locs 0 0 (MQ below (va_Qv (fun (u : Unit) => u = u) (fun (_ : Unit) t => va_P (dC, dI) vwCl (mw_W h q g I' A') t.heap ∧ va_K (dC, dI) vwCl (mw_T g) t ∧ va_D B9 (mw_W h q g I' A')) B9) ([.ref h, .int k1] : List Value).toArray s 0 0 B9) (F0 m 2 ls [])) (hrc10 : ∀ (I : MI) (A : MA) (X : Nat → Int32) (ls : Array Slot) (H : Heap) (locs : List Loc), rc 10 I A X = some (r, I', A') → lv_has ls 4 [(0, .ref h), (1, .int (X 1)), (2, .int (X 2)), (3, .int (X 3))] → va_P (dC, dI) vwCl (mw_W h q g I A) H → va_D B9 (mw_W h q g I A) → va_S B9 s.heap H locs → W p l e (headSpec w_M_spread ({ frames := 2, cells := 0, slots := 0, locals := 45 })).room s m ([.ref h, .int k1] : List Value).toArray below meth c H locs 0 0 (MQ below (va_Qv (fun (u : Unit) => u = u) (fun (_ : Unit) t => va_P (dC, dI) vwCl (mw_W h q g I' A') t.heap ∧ va_K (dC, dI) vwCl (mw_T g) t ∧ va_D B9 (mw_W h q g I' A')) B9) ([.ref h, .int k1] : List Value).toArray s 0 0 B9) (F0 m 10 ls [])), ∀ (I : MI) (A : MA) (X : Nat → Int32) (s0 : Int32) (ls : Array Slot) (H : Heap) (locs : List Loc), f_M_spread_58 rc I A X s0 = some (r, I', A') → lv_has ls 4 [(0, .ref h), (1, .int (X 1)), (2, .int (X 2)), (3, .int (X 3))] → va_P (dC, dI) vwCl (mw_W h q g I A) H → va_D B9 (mw_W h q g I A) → va_S B9 s.heap H locs → W p l e (headSpec w_M_spread ({ frames := 2, cells := 0, slots := 0, locals := 45 })).room s m ([.ref h, .int k1] : List Value).toArray below meth c H locs 0 0 (MQ below (va_Qv (fun (u : Unit) => u = u) (fun (_ : Unit) t => va_P (dC, dI) vwCl (mw_W h q g I' A') t.heap ∧ va_K (dC, dI) vwCl (mw_T g) t ∧ va_D B9 (mw_W h q g I' A')) B9) ([.ref h, .int k1] : List Value).toArray s 0 0 B9) (F0 m 58 ls [.int s0]) := by
    intro rc hrc2 hrc10 I A X s0 ls H locs hf hl hP hD hS
    unfold f_M_spread_58 at hf
    refine lv_istore_n (lv' := [(2, .int s0), (0, .ref h), (1, .int (X 1)), (3, .int (X 3))]) hx hb d_M_spread_58 rfl hl (by decide) rfl (fun ls hl => ?_)
    have hl : lv_has ls 4 [(2, .int s0), (0, .ref h), (1, .int (X 1)), (3, .int (X 3))] := hl
    refine lv_aload_n hx hb d_M_spread_59 rfl (lv_at hl 1 rfl) ?_
    refine lv_aload_n hx hb d_M_spread_60 rfl (lv_at hl 1 rfl) ?_
    refine va_get (D := (dC, dI)) (ci := 4) (v := .ref (q 22)) (C := R_M) (T := F_M) (N := 38) hx hb hts (fun w h => List.mem_cons_of_mem _ (in_M w h)) hown hK hP 0 rfl rfl 22 (by decide) (hts _ (List.mem_cons_of_mem _ lk_65)) (fun _ h9 => h9) rfl d_M_spread_61 ?_
    refine lv_iload_n hx hb d_M_spread_64 rfl (lv_at hl 3 rfl) ?_
    obtain ⟨hc1, hf⟩ := wk_if hf
    refine va_iald hx hb hK hP 12 11 rfl rfl (wk_inb_ok hc1) d_M_spread_65 ?_
    have hPc := hP.sub (ws' := (mw_W h q g I A)) [0, 1, 2, 3, 4, 5, 6, 7, 8, 9, 10, 11, 12, 13, 14, 15, 16, 17, 18, 19, 20] rfl
    have hDc := hD.sub (ws' := (mw_W h q g I A)) [0, 1, 2, 3, 4, 5, 6, 7, 8, 9, 10, 11, 12, 13, 14, 15, 16, 17, 18, 19, 20] (by decide) rfl
    have hKc := hK.sub (tys' := (mw_T g)) [0, 1, 2, 3, 4, 5, 6, 7, 8, 9, 10, 11, 12, 13, 14, 15, 16, 17, 18, 19] rfl
    have hFc := va_free (wc := (mw_W h q g I A)) hD hS hA [0, 1, 2, 3, 4, 5, 6, 7, 8, 9, 10, 11, 12, 13, 14, 15, 16, 17, 18, 19, 20] rfl
    cases hg1 : f_M_reach I A ((A 22) ((X 3)).toNatClampNeg) with
    | none => rw [hg1] at hf; cases hf
    | some z1 =>
      obtain ⟨r1, I1, A1⟩ := z1
      rw [hg1] at hf
      dsimp only [Option.bind_some] at hf
      refine va_calli (va_runV (As := [.int ((A 22) ((X 3)).toNatClampNeg)]) (rest := []) ⟨hx, hb, hml, hown, hts⟩ (cm_M_reach l dC dI h q g _ I A ((A 22) ((X 3)).toNatClampNeg) r1 I1 A1 hg1) (cwV 1 hts (gd_v lk_178 lk_179 lk_180 lk_46 lk_177) rfl rfl rfl (by decide +kernel) ⟨Nat.le_of_ble_eq_true rfl, Nat.le_of_ble_eq_true rfl⟩) ⟨fun a U g mk q => by obtain ⟨q0, q1, qP, qK, qD⟩ := q; exact ⟨q0, q1, qP, va_K.moved (u := U) (U := U.calling g mk a) (Vm.Alike.refl U.vm) qK, qD⟩, va_recv (ci := 4) (q0 := 0) hK hP rfl rfl, fun U hU hW => ⟨rfl, by rw [hU], by rw [hU]; exact hPc, va_K.moved hW.alike hKc, hDc.weaken (fun _ _ _ _ => trivial)⟩⟩ rfl rfl hl.1 rfl (lv_room (Nat.le_of_ble_eq_true rfl)) d_M_spread_66 ⟨Nat.le_of_ble_eq_true rfl, Nat.le_of_ble_eq_true rfl⟩) hS (fun q _ h => hFc q h) hFc (fun r9 u t H1 locs ht hvm hw hB hz1 hk1 hS => ?_)
      obtain ⟨hP1, hK1, hD1⟩ := hB
      rw [ht] at hP1
      rw [hw]
      obtain ⟨hP, hD⟩ := va_join (wr := []) (w1 := (mw_W h q g I1 A1)) hP hD [0, 1, 2, 3, 4, 5, 6, 7, 8, 9, 10, 11, 12, 13, 14, 15, 16, 17, 18, 19, 20] [] rfl rfl (by decide) (by decide) hk1 hFc hP1 hD1
      generalize H1 = H at hP hS ⊢
      have hP : va_P (dC, dI) vwCl (mw_W h q g I1 A1) H := hP
      have hD : va_D B9 (mw_W h q g I1 A1) := hD
      refine lv_if_ne (tgt := 76) hx hb d_M_spread_69 (by decide) (fun hc2 => ?_) (fun hc2 => ?_)
      ·
        have hf := wk_iff hc2 hf
        exact blk76 rc hrc2 hrc10 I1 A1 (upd X 2 s0) _ _ _ hf (lv_sub hl [1, 2, 0, 3] rfl) hP hD hS
      ·
        have hf := wk_ift hc2 hf
        refine lv_iload_n hx hb d_M_spread_72 rfl (lv_at hl 0 rfl) ?_
        refine lv_if_eq (tgt := 80) hx hb d_M_spread_73 (by decide) (fun hc3 => ?_) (fun hc3 => ?_)
        ·
          have hf := wk_ift hc3 hf
          refine lv_iconst (v := 0) hx hb d_M_spread_80 (by decide) ?_
          exact blk81 rc hrc2 hrc10 I1 A1 (upd X 2 s0) 0 _ _ _ hf (lv_sub hl [1, 2, 0, 3] rfl) hP hD hS
        ·
          have hf := wk_iff hc3 hf
          exact blk76 rc hrc2 hrc10 I1 A1 (upd X 2 s0) _ _ _ hf (lv_sub hl [1, 2, 0, 3] rfl) hP hD hS
  have blk53 : ∀ (rc : Nat → MI → MA → (Nat → Int32) → Option (Int32 × MI × MA)) (hrc2 : ∀ (I : MI) (A : MA) (X : Nat → Int32) (ls : Array Slot) (H : Heap) (locs : List Loc), rc 2 I A X = some (r, I', A') → lv_has ls 4 [(0, .ref h), (1, .int (X 1)), (2, .int (X 2))] → va_P (dC, dI) vwCl (mw_W h q g I A) H → va_D B9 (mw_W h q g I A) → va_S B9 s.heap H locs → W p l e (headSpec w_M_spread ({ frames := 2, cells := 0, slots := 0, locals := 45 })).room s m ([.ref h, .int k1] : List Value).toArray below meth c H locs 0 0 (MQ below (va_Qv (fun (u : Unit) => u = u) (fun (_ : Unit) t => va_P (dC, dI) vwCl (mw_W h q g I' A') t.heap ∧ va_K (dC, dI) vwCl (mw_T g) t ∧ va_D B9 (mw_W h q g I' A')) B9) ([.ref h, .int k1] : List Value).toArray s 0 0 B9) (F0 m 2 ls [])) (hrc10 : ∀ (I : MI) (A : MA) (X : Nat → Int32) (ls : Array Slot) (H : Heap) (locs : List Loc), rc 10 I A X = some (r, I', A') → lv_has ls 4 [(0, .ref h), (1, .int (X 1)), (2, .int (X 2)), (3, .int (X 3))] → va_P (dC, dI) vwCl (mw_W h q g I A) H → va_D B9 (mw_W h q g I A) → va_S B9 s.heap H locs → W p l e (headSpec w_M_spread ({ frames := 2, cells := 0, slots := 0, locals := 45 })).room s m ([.ref h, .int k1] : List Value).toArray below meth c H locs 0 0 (MQ below (va_Qv (fun (u : Unit) => u = u) (fun (_ : Unit) t => va_P (dC, dI) vwCl (mw_W h q g I' A') t.heap ∧ va_K (dC, dI) vwCl (mw_T g) t ∧ va_D B9 (mw_W h q g I' A')) B9) ([.ref h, .int k1] : List Value).toArray s 0 0 B9) (F0 m 10 ls [])), ∀ (I : MI) (A : MA) (X : Nat → Int32) (ls : Array Slot) (H : Heap) (locs : List Loc), f_M_spread_53 rc I A X = some (r, I', A') → lv_has ls 4 [(0, .ref h), (1, .int (X 1)), (2, .int (X 2)), (3, .int (X 3))] → va_P (dC, dI) vwCl (mw_W h q g I A) H → va_D B9 (mw_W h q g I A) → va_S B9 s.heap H locs → W p l e (headSpec w_M_spread ({ frames := 2, cells := 0, slots := 0, locals := 45 })).room s m ([.ref h, .int k1] : List Value).toArray below meth c H locs 0 0 (MQ below (va_Qv (fun (u : Unit) => u = u) (fun (_ : Unit) t => va_P (dC, dI) vwCl (mw_W h q g I' A') t.heap ∧ va_K (dC, dI) vwCl (mw_T g) t ∧ va_D B9 (mw_W h q g I' A')) B9) ([.ref h, .int k1] : List Value).toArray s 0 0 B9) (F0 m 53 ls []) := by
    intro rc hrc2 hrc10 I A X ls H locs hf hl hP hD hS
    unfold f_M_spread_53 at hf
    refine lv_iconst (v := 1) hx hb d_M_spread_53 (by decide) ?_
    refine lv_goto (tgt := 58) hx hb d_M_spread_54 (by decide) ?_
    exact blk58 rc hrc2 hrc10 I A X 1 _ _ _ hf (lv_sub hl [0, 1, 2, 3] rfl) hP hD hS
  have stp10 : ∀ (rc : Nat → MI → MA → (Nat → Int32) → Option (Int32 × MI × MA)) (hrc2 : ∀ (I : MI) (A : MA) (X : Nat → Int32) (ls : Array Slot) (H : Heap) (locs : List Loc), rc 2 I A X = some (r, I', A') → lv_has ls 4 [(0, .ref h), (1, .int (X 1)), (2, .int (X 2))] → va_P (dC, dI) vwCl (mw_W h q g I A) H → va_D B9 (mw_W h q g I A) → va_S B9 s.heap H locs → W p l e (headSpec w_M_spread ({ frames := 2, cells := 0, slots := 0, locals := 45 })).room s m ([.ref h, .int k1] : List Value).toArray below meth c H locs 0 0 (MQ below (va_Qv (fun (u : Unit) => u = u) (fun (_ : Unit) t => va_P (dC, dI) vwCl (mw_W h q g I' A') t.heap ∧ va_K (dC, dI) vwCl (mw_T g) t ∧ va_D B9 (mw_W h q g I' A')) B9) ([.ref h, .int k1] : List Value).toArray s 0 0 B9) (F0 m 2 ls [])) (hrc10 : ∀ (I : MI) (A : MA) (X : Nat → Int32) (ls : Array Slot) (H : Heap) (locs : List Loc), rc 10 I A X = some (r, I', A') → lv_has ls 4 [(0, .ref h), (1, .int (X 1)), (2, .int (X 2)), (3, .int (X 3))] → va_P (dC, dI) vwCl (mw_W h q g I A) H → va_D B9 (mw_W h q g I A) → va_S B9 s.heap H locs → W p l e (headSpec w_M_spread ({ frames := 2, cells := 0, slots := 0, locals := 45 })).room s m ([.ref h, .int k1] : List Value).toArray below meth c H locs 0 0 (MQ below (va_Qv (fun (u : Unit) => u = u) (fun (_ : Unit) t => va_P (dC, dI) vwCl (mw_W h q g I' A') t.heap ∧ va_K (dC, dI) vwCl (mw_T g) t ∧ va_D B9 (mw_W h q g I' A')) B9) ([.ref h, .int k1] : List Value).toArray s 0 0 B9) (F0 m 10 ls [])), ∀ (I : MI) (A : MA) (X : Nat → Int32) (ls : Array Slot) (H : Heap) (locs : List Loc), f_M_spread_10 rc I A X = some (r, I', A') → lv_has ls 4 [(0, .ref h), (1, .int (X 1)), (2, .int (X 2)), (3, .int (X 3))] → va_P (dC, dI) vwCl (mw_W h q g I A) H → va_D B9 (mw_W h q g I A) → va_S B9 s.heap H locs → W p l e (headSpec w_M_spread ({ frames := 2, cells := 0, slots := 0, locals := 45 })).room s m ([.ref h, .int k1] : List Value).toArray below meth c H locs 0 0 (MQ below (va_Qv (fun (u : Unit) => u = u) (fun (_ : Unit) t => va_P (dC, dI) vwCl (mw_W h q g I' A') t.heap ∧ va_K (dC, dI) vwCl (mw_T g) t ∧ va_D B9 (mw_W h q g I' A')) B9) ([.ref h, .int k1] : List Value).toArray s 0 0 B9) (F0 m 10 ls []) := by
    intro rc hrc2 hrc10 I A X ls H locs hf hl hP hD hS
    unfold f_M_spread_10 at hf
    refine lv_iload_n hx hb d_M_spread_10 rfl (lv_at hl 3 rfl) ?_
    refine lv_aload_n hx hb d_M_spread_11 rfl (lv_at hl 0 rfl) ?_
    refine va_get (D := (dC, dI)) (ci := 4) (v := .int (I 17)) (C := R_M) (T := F_M) (N := 38) hx hb hts (fun w h => List.mem_cons_of_mem _ (in_M w h)) hown hK hP 0 rfl rfl 17 (by decide) (hts _ (List.mem_cons_of_mem _ lk_83)) (fun _ h9 => h9) rfl d_M_spread_12 ?_
    refine lv_icmp_ge (tgt := 88) hx hb d_M_spread_15 (by decide) (fun hc1 => ?_) (fun hc1 => ?_)
    ·
      have hf := wk_ift hc1 hf
      refine lv_goto (tgt := 2) hx hb d_M_spread_88 (by decide) ?_
      exact hrc2 I A X _ _ _ hf (lv_sub hl [0, 1, 2] rfl) hP hD hS
    ·
      have hf := wk_iff hc1 hf
      refine lv_aload_n hx hb d_M_spread_18 rfl (lv_at hl 0 rfl) ?_
      refine va_get (D := (dC, dI)) (ci := 4) (v := .ref (q 32)) (C := R_M) (T := F_M) (N := 38) hx hb hts (fun w h => List.mem_cons_of_mem _ (in_M w h)) hown hK hP 0 rfl rfl 32 (by decide) (hts _ (List.mem_cons_of_mem _ lk_172)) (fun _ h9 => h9) rfl d_M_spread_19 ?_
      refine lv_iload_n hx hb d_M_spread_22 rfl (lv_at hl 3 rfl) ?_
      obtain ⟨hc2, hf⟩ := wk_if hf
      refine va_zald hx hb hK hP 18 17 rfl rfl (wk_inb_ok hc2) d_M_spread_23 ?_
      refine lv_if_eq (tgt := 82) hx hb d_M_spread_24 (by decide) (fun hc3 => ?_) (fun hc3 => ?_)
      ·
        have hf := wk_ift hc3 hf
        exact blk82 rc hrc2 hrc10 I A X _ _ _ hf (lv_sub hl [0, 1, 2, 3] rfl) hP hD hS
      ·
        have hf := wk_iff hc3 hf
        refine lv_aload_n hx hb d_M_spread_27 rfl (lv_at hl 0 rfl) ?_
        refine lv_iload_n hx hb d_M_spread_28 rfl (lv_at hl 3 rfl) ?_
        refine lv_iload_n hx hb d_M_spread_29 rfl (lv_at hl 1 rfl) ?_
        have hPc := hP.sub (ws' := (mw_W h q g I A)) [0, 1, 2, 3, 4, 5, 6, 7, 8, 9, 10, 11, 12, 13, 14, 15, 16, 17, 18, 19, 20] rfl
        have hDc := hD.sub (ws' := (mw_W h q g I A)) [0, 1, 2, 3, 4, 5, 6, 7, 8, 9, 10, 11, 12, 13, 14, 15, 16, 17, 18, 19, 20] (by decide) rfl
        have hKc := hK.sub (tys' := (mw_T g)) [0, 1, 2, 3, 4, 5, 6, 7, 8, 9, 10, 11, 12, 13, 14, 15, 16, 17, 18, 19] rfl
        have hFc := va_free (wc := (mw_W h q g I A)) hD hS hA [0, 1, 2, 3, 4, 5, 6, 7, 8, 9, 10, 11, 12, 13, 14, 15, 16, 17, 18, 19, 20] rfl
        cases hg1 : f_M_passes I A (X 3) (X 1) with
        | none => rw [hg1] at hf; cases hf
        | some z1 =>
          obtain ⟨r1, I1, A1⟩ := z1
          rw [hg1] at hf
          dsimp only [Option.bind_some] at hf
          refine va_calli (va_runV (As := [.int (X 3), .int (X 1)]) (rest := []) ⟨hx, hb, hml, hown, hts⟩ (cm_M_passes l dC dI h q g _ I A (X 3) (X 1) r1 I1 A1 hg1) (cwV 2 hts (gd_v lk_174 lk_175 lk_176 lk_46 lk_173) rfl rfl rfl (by decide +kernel) ⟨Nat.le_of_ble_eq_true rfl, Nat.le_of_ble_eq_true rfl⟩) ⟨fun a U g mk q => by obtain ⟨q0, q1, qP, qK, qD⟩ := q; exact ⟨q0, q1, qP, va_K.moved (u := U) (U := U.calling g mk a) (Vm.Alike.refl U.vm) qK, qD⟩, va_recv (ci := 4) (q0 := 0) hK hP rfl rfl, fun U hU hW => ⟨rfl, by rw [hU], by rw [hU]; exact hPc, va_K.moved hW.alike hKc, hDc.weaken (fun _ _ _ _ => trivial)⟩⟩ rfl rfl hl.1 rfl (lv_room (Nat.le_of_ble_eq_true rfl)) d_M_spread_30 ⟨Nat.le_of_ble_eq_true rfl, Nat.le_of_ble_eq_true rfl⟩) hS (fun q _ h => hFc q h) hFc (fun r9 u t H1 locs ht hvm hw hB hz1 hk1 hS => ?_)
          obtain ⟨hP1, hK1, hD1⟩ := hB
          rw [ht] at hP1
          rw [hw]
          obtain ⟨hP, hD⟩ := va_join (wr := []) (w1 := (mw_W h q g I1 A1)) hP hD [0, 1, 2, 3, 4, 5, 6, 7, 8, 9, 10, 11, 12, 13, 14, 15, 16, 17, 18, 19, 20] [] rfl rfl (by decide) (by decide) hk1 hFc hP1 hD1
          generalize H1 = H at hP hS ⊢
          have hP : va_P (dC, dI) vwCl (mw_W h q g I1 A1) H := hP
          have hD : va_D B9 (mw_W h q g I1 A1) := hD
          refine lv_if_eq (tgt := 82) hx hb d_M_spread_33 (by decide) (fun hc4 => ?_) (fun hc4 => ?_)
          ·
            have hf := wk_ift hc4 hf
            exact blk82 rc hrc2 hrc10 I1 A1 X _ _ _ hf (lv_sub hl [0, 1, 2, 3] rfl) hP hD hS
          ·
            have hf := wk_iff hc4 hf
            refine lv_aload_n hx hb d_M_spread_36 rfl (lv_at hl 0 rfl) ?_
            refine lv_aload_n hx hb d_M_spread_37 rfl (lv_at hl 0 rfl) ?_
            refine va_get (D := (dC, dI)) (ci := 4) (v := .ref (q 21)) (C := R_M) (T := F_M) (N := 38) hx hb hts (fun w h => List.mem_cons_of_mem _ (in_M w h)) hown hK hP 0 rfl rfl 21 (by decide) (hts _ (List.mem_cons_of_mem _ lk_64)) (fun _ h9 => h9) rfl d_M_spread_38 ?_
            refine lv_iload_n hx hb d_M_spread_41 rfl (lv_at hl 3 rfl) ?_
            obtain ⟨hc5, hf⟩ := wk_if hf
            refine va_iald hx hb hK hP 11 10 rfl rfl (wk_inb_ok hc5) d_M_spread_42 ?_
            have hPc := hP.sub (ws' := (mw_W h q g I1 A1)) [0, 1, 2, 3, 4, 5, 6, 7, 8, 9, 10, 11, 12, 13, 14, 15, 16, 17, 18, 19, 20] rfl
            have hDc := hD.sub (ws' := (mw_W h q g I1 A1)) [0, 1, 2, 3, 4, 5, 6, 7, 8, 9, 10, 11, 12, 13, 14, 15, 16, 17, 18, 19, 20] (by decide) rfl
            have hKc := hK.sub (tys' := (mw_T g)) [0, 1, 2, 3, 4, 5, 6, 7, 8, 9, 10, 11, 12, 13, 14, 15, 16, 17, 18, 19] rfl
            have hFc := va_free (wc := (mw_W h q g I1 A1)) hD hS hA [0, 1, 2, 3, 4, 5, 6, 7, 8, 9, 10, 11, 12, 13, 14, 15, 16, 17, 18, 19, 20] rfl
            cases hg2 : f_M_reach I1 A1 ((A1 21) ((X 3)).toNatClampNeg) with
            | none => rw [hg2] at hf; cases hf
            | some z2 =>
              obtain ⟨r2, I2, A2⟩ := z2
              rw [hg2] at hf
              dsimp only [Option.bind_some] at hf
              refine va_calli (va_runV (As := [.int ((A1 21) ((X 3)).toNatClampNeg)]) (rest := []) ⟨hx, hb, hml, hown, hts⟩ (cm_M_reach l dC dI h q g _ I1 A1 ((A1 21) ((X 3)).toNatClampNeg) r2 I2 A2 hg2) (cwV 1 hts (gd_v lk_178 lk_179 lk_180 lk_46 lk_177) rfl rfl rfl (by decide +kernel) ⟨Nat.le_of_ble_eq_true rfl, Nat.le_of_ble_eq_true rfl⟩) ⟨fun a U g mk q => by obtain ⟨q0, q1, qP, qK, qD⟩ := q; exact ⟨q0, q1, qP, va_K.moved (u := U) (U := U.calling g mk a) (Vm.Alike.refl U.vm) qK, qD⟩, va_recv (ci := 4) (q0 := 0) hK hP rfl rfl, fun U hU hW => ⟨rfl, by rw [hU], by rw [hU]; exact hPc, va_K.moved hW.alike hKc, hDc.weaken (fun _ _ _ _ => trivial)⟩⟩ rfl rfl hl.1 rfl (lv_room (Nat.le_of_ble_eq_true rfl)) d_M_spread_43 ⟨Nat.le_of_ble_eq_true rfl, Nat.le_of_ble_eq_true rfl⟩) hS (fun q _ h => hFc q h) hFc (fun r9 u t H1 locs ht hvm hw hB hz1 hk1 hS => ?_)
              obtain ⟨hP1, hK1, hD1⟩ := hB
              rw [ht] at hP1
              rw [hw]
              obtain ⟨hP, hD⟩ := va_join (wr := []) (w1 := (mw_W h q g I2 A2)) hP hD [0, 1, 2, 3, 4, 5, 6, 7, 8, 9, 10, 11, 12, 13, 14, 15, 16, 17, 18, 19, 20] [] rfl rfl (by decide) (by decide) hk1 hFc hP1 hD1
              generalize H1 = H at hP hS ⊢
              have hP : va_P (dC, dI) vwCl (mw_W h q g I2 A2) H := hP
              have hD : va_D B9 (mw_W h q g I2 A2) := hD
              refine lv_if_ne (tgt := 53) hx hb d_M_spread_46 (by decide) (fun hc6 => ?_) (fun hc6 => ?_)
              ·
                have hf := wk_iff hc6 hf
                exact blk53 rc hrc2 hrc10 I2 A2 X _ _ _ hf (lv_sub hl [0, 1, 2, 3] rfl) hP hD hS
              ·
                have hf := wk_ift hc6 hf
                refine lv_iload_n hx hb d_M_spread_49 rfl (lv_at hl 2 rfl) ?_
                refine lv_if_eq (tgt := 57) hx hb d_M_spread_50 (by decide) (fun hc7 => ?_) (fun hc7 => ?_)
                ·
                  have hf := wk_ift hc7 hf
                  refine lv_iconst (v := 0) hx hb d_M_spread_57 (by decide) ?_
                  exact blk58 rc hrc2 hrc10 I2 A2 X 0 _ _ _ hf (lv_sub hl [0, 1, 2, 3] rfl) hP hD hS
                ·
                  have hf := wk_iff hc7 hf
                  exact blk53 rc hrc2 hrc10 I2 A2 X _ _ _ hf (lv_sub hl [0, 1, 2, 3] rfl) hP hD hS
  have key : ∀ n : Nat, (∀ (I : MI) (A : MA) (X : Nat → Int32) (ls : Array Slot) (H : Heap) (locs : List Loc), f_M_spread_go n 2 I A X = some (r, I', A') → lv_has ls 4 [(0, .ref h), (1, .int (X 1)), (2, .int (X 2))] → va_P (dC, dI) vwCl (mw_W h q g I A) H → va_D B9 (mw_W h q g I A) → va_S B9 s.heap H locs → W p l e (headSpec w_M_spread ({ frames := 2, cells := 0, slots := 0, locals := 45 })).room s m ([.ref h, .int k1] : List Value).toArray below meth c H locs 0 0 (MQ below (va_Qv (fun (u : Unit) => u = u) (fun (_ : Unit) t => va_P (dC, dI) vwCl (mw_W h q g I' A') t.heap ∧ va_K (dC, dI) vwCl (mw_T g) t ∧ va_D B9 (mw_W h q g I' A')) B9) ([.ref h, .int k1] : List Value).toArray s 0 0 B9) (F0 m 2 ls [])) ∧ (∀ (I : MI) (A : MA) (X : Nat → Int32) (ls : Array Slot) (H : Heap) (locs : List Loc), f_M_spread_go n 10 I A X = some (r, I', A') → lv_has ls 4 [(0, .ref h), (1, .int (X 1)), (2, .int (X 2)), (3, .int (X 3))] → va_P (dC, dI) vwCl (mw_W h q g I A) H → va_D B9 (mw_W h q g I A) → va_S B9 s.heap H locs → W p l e (headSpec w_M_spread ({ frames := 2, cells := 0, slots := 0, locals := 45 })).room s m ([.ref h, .int k1] : List Value).toArray below meth c H locs 0 0 (MQ below (va_Qv (fun (u : Unit) => u = u) (fun (_ : Unit) t => va_P (dC, dI) vwCl (mw_W h q g I' A') t.heap ∧ va_K (dC, dI) vwCl (mw_T g) t ∧ va_D B9 (mw_W h q g I' A')) B9) ([.ref h, .int k1] : List Value).toArray s 0 0 B9) (F0 m 10 ls [])) := by
    intro n
    induction n with
    | zero => exact ⟨fun I A X ls H locs hf => (by cases hf), fun I A X ls H locs hf => (by cases hf)⟩
    | succ n ih =>
      obtain ⟨ih2, ih10⟩ := ih
      exact ⟨stp2 (f_M_spread_go n) ih2 ih10, stp10 (f_M_spread_go n) ih2 ih10⟩
  unfold f_M_spread f_M_spread_e at hf
  have hrc2 := (key wk_FUEL).1
  have hrc10 := (key wk_FUEL).2
  refine lv_iconst (v := 1) hx hb d_M_spread_0 (by decide) ?_
  refine lv_istore_n (lv' := [(2, .int 1), (0, .ref h), (1, .int k1)]) hx hb d_M_spread_1 rfl hl (by decide) rfl (fun ls hl => ?_)
  have hl : lv_has ls 4 [(2, .int 1), (0, .ref h), (1, .int k1)] := hl
  exact hrc2 I A (upd (upd (fun _ => 0) 1 k1) 2 1) _ _ _ hf (lv_sub hl [1, 2, 0] rfl) hP hD hS

-- 16.mcon08
set_option maxHeartbeats 8000000 in
set_option maxRecDepth 100000 in
theorem cm_M_inSet (l : Launch) (dC : Nat → ClassId) (dI : Nat → Nat → Nat) (h : Nat) (q : Nat → Nat) (g : Nat → ClassId) (sz : Nat) (I : MI) (A : MA) (k1 k2 k3 : Int32) (r : Int32) (I' : MI) (A' : MA) (hf : f_M_inSet I A k1 k2 k3 = some (r, I', A')) : Met l y_M_inSet w_M_inSet ({ frames := 0, cells := 0, slots := 0, locals := 0 }) (va_Pc [.ref h, .int k1, .int k2, .int k3] (fun U => U.heap.size = sz ∧ va_P (dC, dI) vwCl (mw_W h q g I A) U.heap ∧ va_K (dC, dI) vwCl (mw_T g) U ∧ va_D (fun _ => True) (mw_W h q g I A))) (va_Qi (fun (r9 : Int32) (_ : Unit) => r9 = r) (fun (_ : Unit) t => va_P (dC, dI) vwCl (mw_W h q g I' A') t.heap ∧ va_K (dC, dI) vwCl (mw_T g) t ∧ va_D (va_A (mw_W h q g I A) sz) (mw_W h q g I' A')) (va_A (mw_W h q g I A) sz)) 0 0 (va_A (mw_W h q g I A) sz) := by
  refine Met.ofW (cc := prog_6_method_38_code) (maxL := 9) (ret := (some .boolean)) (by decide) rfl ?_
  intro p e s m args below meth c s₁ B hml hv
  obtain ⟨rfl, hsz, hP, hK, hD0⟩ := hv
  have hx := B.exec
  have hb := B.bytes
  have hr := B.returns
  have hts := atoms_spec (ws := w_M_inSet) B.pre
  have hown : s.vm.findClass R_M = some m.cls := findClass_of_methodNamed B.named
  have hlocks := B.notSynchronized
  subst hsz
  have hD := hD0.self (sz := s.heap.size)
  generalize hAe : va_A (mw_W h q g I A) s.heap.size = B9 at hD ⊢
  have hA : ∀ q : Nat, s.heap.size ≤ q → B9 q := fun q h => by rw [← hAe]; exact Or.inr h
  clear hAe
  have hS : va_S B9 s.heap s.heap [] := va_S.rf
  have hl := lv_entry ([.ref h, .int k1, .int k2, .int k3]) (n := 9) (Nat.le_of_ble_eq_true rfl)
  rw [lg_entry_eq]
  generalize (lg_sl ([.ref h, .int k1, .int k2, .int k3]) ++ List.replicate (9 - (lg_sl ([.ref h, .int k1, .int k2, .int k3])).length) Slot.unset).toArray = ls at hl ⊢
  have hl : lv_has ls 9 [(0, .ref h), (1, .int k1), (2, .int k2), (3, .int k3)] := hl
  have blk33 : ∀ (rc : Nat → MI → MA → (Nat → Int32) → Option (Int32 × MI × MA)) (hrc35 : ∀ (I : MI) (A : MA) (X : Nat → Int32) (ls : Array Slot) (H : Heap) (locs : List Loc), rc 35 I A X = some (r, I', A') → lv_has ls 9 [(0, .ref h), (1, .int (X 1)), (2, .int (X 2)), (3, .int (X 3)), (4, .int (X 4)), (5, .int (X 5)), (6, .int (X 6))] → va_P (dC, dI) vwCl (mw_W h q g I A) H → va_D B9 (mw_W h q g I A) → va_S B9 s.heap H locs → W p l e (headSpec w_M_inSet ({ frames := 0, cells := 0, slots := 0, locals := 0 })).room s m ([.ref h, .int k1, .int k2, .int k3] : List Value).toArray below meth c H locs 0 0 (MQ below (va_Qi (fun (r9 : Int32) (_ : Unit) => r9 = r) (fun (_ : Unit) t => va_P (dC, dI) vwCl (mw_W h q g I' A') t.heap ∧ va_K (dC, dI) vwCl (mw_T g) t ∧ va_D B9 (mw_W h q g I' A')) B9) ([.ref h, .int k1, .int k2, .int k3] : List Value).toArray s 0 0 B9) (F0 m 35 ls [])), ∀ (I : MI) (A : MA) (X : Nat → Int32) (s0 : Int32) (ls : Array Slot) (H : Heap) (locs : List Loc), f_M_inSet_33 rc I A X s0 = some (r, I', A') → lv_has ls 9 [(0, .ref h), (1, .int (X 1)), (2, .int (X 2)), (3, .int (X 3)), (4, .int (X 4)), (5, .int (X 5))] → va_P (dC, dI) vwCl (mw_W h q g I A) H → va_D B9 (mw_W h q g I A) → va_S B9 s.heap H locs → W p l e (headSpec w_M_inSet ({ frames := 0, cells := 0, slots := 0, locals := 0 })).room s m ([.ref h, .int k1, .int k2, .int k3] : List Value).toArray below meth c H locs 0 0 (MQ below (va_Qi (fun (r9 : Int32) (_ : Unit) => r9 = r) (fun (_ : Unit) t => va_P (dC, dI) vwCl (mw_W h q g I' A') t.heap ∧ va_K (dC, dI) vwCl (mw_T g) t ∧ va_D B9 (mw_W h q g I' A')) B9) ([.ref h, .int k1, .int k2, .int k3] : List Value).toArray s 0 0 B9) (F0 m 33 ls [.int s0]) := by
    intro rc hrc35 I A X s0 ls H locs hf hl hP hD hS
    unfold f_M_inSet_33 at hf
    refine lv_istore (lv' := [(6, .int s0), (0, .ref h), (1, .int (X 1)), (2, .int (X 2)), (3, .int (X 3)), (4, .int (X 4)), (5, .int (X 5))]) hx hb d_M_inSet_33 hl (by decide) rfl (fun ls hl => ?_)
    have hl : lv_has ls 9 [(6, .int s0), (0, .ref h), (1, .int (X 1)), (2, .int (X 2)), (3, .int (X 3)), (4, .int (X 4)), (5, .int (X 5))] := hl
    exact hrc35 I A (upd X 6 s0) _ _ _ hf (lv_sub hl [1, 2, 3, 4, 5, 6, 0] rfl) hP hD hS
  have blk16 : ∀ (rc : Nat → MI → MA → (Nat → Int32) → Option (Int32 × MI × MA)) (hrc35 : ∀ (I : MI) (A : MA) (X : Nat → Int32) (ls : Array Slot) (H : Heap) (locs : List Loc), rc 35 I A X = some (r, I', A') → lv_has ls 9 [(0, .ref h), (1, .int (X 1)), (2, .int (X 2)), (3, .int (X 3)), (4, .int (X 4)), (5, .int (X 5)), (6, .int (X 6))] → va_P (dC, dI) vwCl (mw_W h q g I A) H → va_D B9 (mw_W h q g I A) → va_S B9 s.heap H locs → W p l e (headSpec w_M_inSet ({ frames := 0, cells := 0, slots := 0, locals := 0 })).room s m ([.ref h, .int k1, .int k2, .int k3] : List Value).toArray below meth c H locs 0 0 (MQ below (va_Qi (fun (r9 : Int32) (_ : Unit) => r9 = r) (fun (_ : Unit) t => va_P (dC, dI) vwCl (mw_W h q g I' A') t.heap ∧ va_K (dC, dI) vwCl (mw_T g) t ∧ va_D B9 (mw_W h q g I' A')) B9) ([.ref h, .int k1, .int k2, .int k3] : List Value).toArray s 0 0 B9) (F0 m 35 ls [])), ∀ (I : MI) (A : MA) (X : Nat → Int32) (s0 : Int32) (ls : Array Slot) (H : Heap) (locs : List Loc), f_M_inSet_16 rc I A X s0 = some (r, I', A') → lv_has ls 9 [(0, .ref h), (1, .int (X 1)), (2, .int (X 2)), (3, .int (X 3))] → va_P (dC, dI) vwCl (mw_W h q g I A) H → va_D B9 (mw_W h q g I A) → va_S B9 s.heap H locs → W p l e (headSpec w_M_inSet ({ frames := 0, cells := 0, slots := 0, locals := 0 })).room s m ([.ref h, .int k1, .int k2, .int k3] : List Value).toArray below meth c H locs 0 0 (MQ below (va_Qi (fun (r9 : Int32) (_ : Unit) => r9 = r) (fun (_ : Unit) t => va_P (dC, dI) vwCl (mw_W h q g I' A') t.heap ∧ va_K (dC, dI) vwCl (mw_T g) t ∧ va_D B9 (mw_W h q g I' A')) B9) ([.ref h, .int k1, .int k2, .int k3] : List Value).toArray s 0 0 B9) (F0 m 16 ls [.int s0]) := by
    intro rc hrc35 I A X s0 ls H locs hf hl hP hD hS
    unfold f_M_inSet_16 at hf
    refine lv_istore (lv' := [(4, .int s0), (0, .ref h), (1, .int (X 1)), (2, .int (X 2)), (3, .int (X 3))]) hx hb d_M_inSet_16 hl (by decide) rfl (fun ls hl => ?_)
    have hl : lv_has ls 9 [(4, .int s0), (0, .ref h), (1, .int (X 1)), (2, .int (X 2)), (3, .int (X 3))] := hl
    refine lv_iconst (v := 0) hx hb d_M_inSet_18 (by decide) ?_
    refine lv_istore (lv' := [(5, .int 0), (4, .int s0), (0, .ref h), (1, .int (X 1)), (2, .int (X 2)), (3, .int (X 3))]) hx hb d_M_inSet_19 hl (by decide) rfl (fun ls hl => ?_)
    have hl : lv_has ls 9 [(5, .int 0), (4, .int s0), (0, .ref h), (1, .int (X 1)), (2, .int (X 2)), (3, .int (X 3))] := hl
    refine lv_iload hx hb d_M_inSet_21 (lv_at hl 1 rfl) ?_
    refine lv_if_eq (tgt := 32) hx hb d_M_inSet_23 (by decide) (fun hc1 => ?_) (fun hc1 => ?_)
    ·
      have hf := wk_ift hc1 hf
      refine lv_iload_n hx hb d_M_inSet_32 rfl (lv_at hl 4 rfl) ?_
      exact blk33 rc hrc35 I A (upd (upd X 4 s0) 5 0) (X 2) _ _ _ hf (lv_sub hl [2, 3, 4, 5, 1, 0] rfl) hP hD hS
    ·
      have hf := wk_iff hc1 hf
      refine lv_iload_n hx hb d_M_inSet_26 rfl (lv_at hl 4 rfl) ?_
      refine lv_iconst (v := 1) hx hb d_M_inSet_27 (by decide) ?_
      refine lv_iadd hx hb d_M_inSet_28 ?_
      refine lv_goto (tgt := 33) hx hb d_M_inSet_29 (by decide) ?_
      exact blk33 rc hrc35 I A (upd (upd X 4 s0) 5 0) ((X 2) + 1) _ _ _ hf (lv_sub hl [2, 3, 4, 5, 1, 0] rfl) hP hD hS
  have blk174 : ∀ (rc : Nat → MI → MA → (Nat → Int32) → Option (Int32 × MI × MA)) (hrc35 : ∀ (I : MI) (A : MA) (X : Nat → Int32) (ls : Array Slot) (H : Heap) (locs : List Loc), rc 35 I A X = some (r, I', A') → lv_has ls 9 [(0, .ref h), (1, .int (X 1)), (2, .int (X 2)), (3, .int (X 3)), (4, .int (X 4)), (5, .int (X 5)), (6, .int (X 6))] → va_P (dC, dI) vwCl (mw_W h q g I A) H → va_D B9 (mw_W h q g I A) → va_S B9 s.heap H locs → W p l e (headSpec w_M_inSet ({ frames := 0, cells := 0, slots := 0, locals := 0 })).room s m ([.ref h, .int k1, .int k2, .int k3] : List Value).toArray below meth c H locs 0 0 (MQ below (va_Qi (fun (r9 : Int32) (_ : Unit) => r9 = r) (fun (_ : Unit) t => va_P (dC, dI) vwCl (mw_W h q g I' A') t.heap ∧ va_K (dC, dI) vwCl (mw_T g) t ∧ va_D B9 (mw_W h q g I' A')) B9) ([.ref h, .int k1, .int k2, .int k3] : List Value).toArray s 0 0 B9) (F0 m 35 ls [])), ∀ (I : MI) (A : MA) (X : Nat → Int32) (s0 : Int32) (ls : Array Slot) (H : Heap) (locs : List Loc), f_M_inSet_174 rc I A X s0 = some (r, I', A') → lv_has ls 9 [(0, .ref h), (1, .int (X 1)), (2, .int (X 2)), (3, .int (X 3)), (4, .int (X 4)), (5, .int (X 5)), (6, .int (X 6))] → va_P (dC, dI) vwCl (mw_W h q g I A) H → va_D B9 (mw_W h q g I A) → va_S B9 s.heap H locs → W p l e (headSpec w_M_inSet ({ frames := 0, cells := 0, slots := 0, locals := 0 })).room s m ([.ref h, .int k1, .int k2, .int k3] : List Value).toArray below meth c H locs 0 0 (MQ below (va_Qi (fun (r9 : Int32) (_ : Unit) => r9 = r) (fun (_ : Unit) t => va_P (dC, dI) vwCl (mw_W h q g I' A') t.heap ∧ va_K (dC, dI) vwCl (mw_T g) t ∧ va_D B9 (mw_W h q g I' A')) B9) ([.ref h, .int k1, .int k2, .int k3] : List Value).toArray s 0 0 B9) (F0 m 174 ls [.int s0]) := by
    intro rc hrc35 I A X s0 ls H locs hf hl hP hD hS
    unfold f_M_inSet_174 at hf
    obtain ⟨hn9, hf⟩ := wk_if hf
    obtain ⟨e1, e2, e3⟩ := wk_inj hf
    subst e1
    subst e2
    subst e3
    exact W.zret (v := s0) hx hb hr (congrArg Value.int hn9) (fun t ht hW => ⟨⟨s0, (), rfl, rfl, by rw [ht]; exact hP, va_K.moved hW.alike hK, hD⟩, hS.F ht⟩) hS.2.2 d_M_inSet_174
  have blk156 : ∀ (rc : Nat → MI → MA → (Nat → Int32) → Option (Int32 × MI × MA)) (hrc35 : ∀ (I : MI) (A : MA) (X : Nat → Int32) (ls : Array Slot) (H : Heap) (locs : List Loc), rc 35 I A X = some (r, I', A') → lv_has ls 9 [(0, .ref h), (1, .int (X 1)), (2, .int (X 2)), (3, .int (X 3)), (4, .int (X 4)), (5, .int (X 5)), (6, .int (X 6))] → va_P (dC, dI) vwCl (mw_W h q g I A) H → va_D B9 (mw_W h q g I A) → va_S B9 s.heap H locs → W p l e (headSpec w_M_inSet ({ frames := 0, cells := 0, slots := 0, locals := 0 })).room s m ([.ref h, .int k1, .int k2, .int k3] : List Value).toArray below meth c H locs 0 0 (MQ below (va_Qi (fun (r9 : Int32) (_ : Unit) => r9 = r) (fun (_ : Unit) t => va_P (dC, dI) vwCl (mw_W h q g I' A') t.heap ∧ va_K (dC, dI) vwCl (mw_T g) t ∧ va_D B9 (mw_W h q g I' A')) B9) ([.ref h, .int k1, .int k2, .int k3] : List Value).toArray s 0 0 B9) (F0 m 35 ls [])), ∀ (I : MI) (A : MA) (X : Nat → Int32) (s0 : Int32) (s1 : Int32) (ls : Array Slot) (H : Heap) (locs : List Loc), f_M_inSet_156 rc I A X s0 s1 = some (r, I', A') → lv_has ls 9 [(0, .ref h), (1, .int (X 1)), (2, .int (X 2)), (3, .int (X 3)), (4, .int (X 4)), (5, .int (X 5)), (6, .int (X 6)), (7, .int (X 7)), (8, .int (X 8))] → va_P (dC, dI) vwCl (mw_W h q g I A) H → va_D B9 (mw_W h q g I A) → va_S B9 s.heap H locs → W p l e (headSpec w_M_inSet ({ frames := 0, cells := 0, slots := 0, locals := 0 })).room s m ([.ref h, .int k1, .int k2, .int k3] : List Value).toArray below meth c H locs 0 0 (MQ below (va_Qi (fun (r9 : Int32) (_ : Unit) => r9 = r) (fun (_ : Unit) t => va_P (dC, dI) vwCl (mw_W h q g I' A') t.heap ∧ va_K (dC, dI) vwCl (mw_T g) t ∧ va_D B9 (mw_W h q g I' A')) B9) ([.ref h, .int k1, .int k2, .int k3] : List Value).toArray s 0 0 B9) (F0 m 156 ls [.int s0, .int s1]) := by
    intro rc hrc35 I A X s0 s1 ls H locs hf hl hP hD hS
    unfold f_M_inSet_156 at hf
    refine lv_iadd hx hb d_M_inSet_156 ?_
    refine lv_istore (lv' := [(6, .int (s1 + s0)), (0, .ref h), (1, .int (X 1)), (2, .int (X 2)), (3, .int (X 3)), (4, .int (X 4)), (5, .int (X 5)), (7, .int (X 7)), (8, .int (X 8))]) hx hb d_M_inSet_157 hl (by decide) rfl (fun ls hl => ?_)
    have hl : lv_has ls 9 [(6, .int (s1 + s0)), (0, .ref h), (1, .int (X 1)), (2, .int (X 2)), (3, .int (X 3)), (4, .int (X 4)), (5, .int (X 5)), (7, .int (X 7)), (8, .int (X 8))] := hl
    refine lv_goto (tgt := 35) hx hb d_M_inSet_159 (by decide) ?_
    exact hrc35 I A (upd X 6 (s1 + s0)) _ _ _ hf (lv_sub hl [1, 2, 3, 4, 5, 6, 0] rfl) hP hD hS
  have blk142 : ∀ (rc : Nat → MI → MA → (Nat → Int32) → Option (Int32 × MI × MA)) (hrc35 : ∀ (I : MI) (A : MA) (X : Nat → Int32) (ls : Array Slot) (H : Heap) (locs : List Loc), rc 35 I A X = some (r, I', A') → lv_has ls 9 [(0, .ref h), (1, .int (X 1)), (2, .int (X 2)), (3, .int (X 3)), (4, .int (X 4)), (5, .int (X 5)), (6, .int (X 6))] → va_P (dC, dI) vwCl (mw_W h q g I A) H → va_D B9 (mw_W h q g I A) → va_S B9 s.heap H locs → W p l e (headSpec w_M_inSet ({ frames := 0, cells := 0, slots := 0, locals := 0 })).room s m ([.ref h, .int k1, .int k2, .int k3] : List Value).toArray below meth c H locs 0 0 (MQ below (va_Qi (fun (r9 : Int32) (_ : Unit) => r9 = r) (fun (_ : Unit) t => va_P (dC, dI) vwCl (mw_W h q g I' A') t.heap ∧ va_K (dC, dI) vwCl (mw_T g) t ∧ va_D B9 (mw_W h q g I' A')) B9) ([.ref h, .int k1, .int k2, .int k3] : List Value).toArray s 0 0 B9) (F0 m 35 ls [])), ∀ (I : MI) (A : MA) (X : Nat → Int32) (s0 : Int32) (ls : Array Slot) (H : Heap) (locs : List Loc), f_M_inSet_142 rc I A X s0 = some (r, I', A') → lv_has ls 9 [(0, .ref h), (1, .int (X 1)), (2, .int (X 2)), (3, .int (X 3)), (4, .int (X 4)), (5, .int (X 5)), (6, .int (X 6)), (7, .int (X 7)), (8, .int (X 8))] → va_P (dC, dI) vwCl (mw_W h q g I A) H → va_D B9 (mw_W h q g I A) → va_S B9 s.heap H locs → W p l e (headSpec w_M_inSet ({ frames := 0, cells := 0, slots := 0, locals := 0 })).room s m ([.ref h, .int k1, .int k2, .int k3] : List Value).toArray below meth c H locs 0 0 (MQ below (va_Qi (fun (r9 : Int32) (_ : Unit) => r9 = r) (fun (_ : Unit) t => va_P (dC, dI) vwCl (mw_W h q g I' A') t.heap ∧ va_K (dC, dI) vwCl (mw_T g) t ∧ va_D B9 (mw_W h q g I' A')) B9) ([.ref h, .int k1, .int k2, .int k3] : List Value).toArray s 0 0 B9) (F0 m 142 ls [.int s0]) := by
    intro rc hrc35 I A X s0 ls H locs hf hl hP hD hS
    unfold f_M_inSet_142 at hf
    refine lv_istore (lv' := [(5, .int s0), (0, .ref h), (1, .int (X 1)), (2, .int (X 2)), (3, .int (X 3)), (4, .int (X 4)), (6, .int (X 6)), (7, .int (X 7)), (8, .int (X 8))]) hx hb d_M_inSet_142 hl (by decide) rfl (fun ls hl => ?_)
    have hl : lv_has ls 9 [(5, .int s0), (0, .ref h), (1, .int (X 1)), (2, .int (X 2)), (3, .int (X 3)), (4, .int (X 4)), (6, .int (X 6)), (7, .int (X 7)), (8, .int (X 8))] := hl
    refine lv_iload hx hb d_M_inSet_144 (lv_at hl 6 rfl) ?_
    refine lv_iload hx hb d_M_inSet_146 (lv_at hl 7 rfl) ?_
    refine lv_if_eq (tgt := 155) hx hb d_M_inSet_148 (by decide) (fun hc1 => ?_) (fun hc1 => ?_)
    ·
      have hf := wk_ift hc1 hf
      refine lv_iconst (v := 1) hx hb d_M_inSet_155 (by decide) ?_
      exact blk156 rc hrc35 I A (upd X 5 s0) 1 (X 6) _ _ _ hf (lv_sub hl [1, 2, 3, 4, 5, 0, 6, 7, 8] rfl) hP hD hS
    ·
      have hf := wk_iff hc1 hf
      refine lv_iconst (v := 3) hx hb d_M_inSet_151 (by decide) ?_
      refine lv_goto (tgt := 156) hx hb d_M_inSet_152 (by decide) ?_
      exact blk156 rc hrc35 I A (upd X 5 s0) 3 (X 6) _ _ _ hf (lv_sub hl [1, 2, 3, 4, 5, 0, 6, 7, 8] rfl) hP hD hS
  have blk137 : ∀ (rc : Nat → MI → MA → (Nat → Int32) → Option (Int32 × MI × MA)) (hrc35 : ∀ (I : MI) (A : MA) (X : Nat → Int32) (ls : Array Slot) (H : Heap) (locs : List Loc), rc 35 I A X = some (r, I', A') → lv_has ls 9 [(0, .ref h), (1, .int (X 1)), (2, .int (X 2)), (3, .int (X 3)), (4, .int (X 4)), (5, .int (X 5)), (6, .int (X 6))] → va_P (dC, dI) vwCl (mw_W h q g I A) H → va_D B9 (mw_W h q g I A) → va_S B9 s.heap H locs → W p l e (headSpec w_M_inSet ({ frames := 0, cells := 0, slots := 0, locals := 0 })).room s m ([.ref h, .int k1, .int k2, .int k3] : List Value).toArray below meth c H locs 0 0 (MQ below (va_Qi (fun (r9 : Int32) (_ : Unit) => r9 = r) (fun (_ : Unit) t => va_P (dC, dI) vwCl (mw_W h q g I' A') t.heap ∧ va_K (dC, dI) vwCl (mw_T g) t ∧ va_D B9 (mw_W h q g I' A')) B9) ([.ref h, .int k1, .int k2, .int k3] : List Value).toArray s 0 0 B9) (F0 m 35 ls [])), ∀ (I : MI) (A : MA) (X : Nat → Int32) (ls : Array Slot) (H : Heap) (locs : List Loc), f_M_inSet_137 rc I A X = some (r, I', A') → lv_has ls 9 [(0, .ref h), (1, .int (X 1)), (2, .int (X 2)), (3, .int (X 3)), (4, .int (X 4)), (5, .int (X 5)), (6, .int (X 6)), (7, .int (X 7)), (8, .int (X 8))] → va_P (dC, dI) vwCl (mw_W h q g I A) H → va_D B9 (mw_W h q g I A) → va_S B9 s.heap H locs → W p l e (headSpec w_M_inSet ({ frames := 0, cells := 0, slots := 0, locals := 0 })).room s m ([.ref h, .int k1, .int k2, .int k3] : List Value).toArray below meth c H locs 0 0 (MQ below (va_Qi (fun (r9 : Int32) (_ : Unit) => r9 = r) (fun (_ : Unit) t => va_P (dC, dI) vwCl (mw_W h q g I' A') t.heap ∧ va_K (dC, dI) vwCl (mw_T g) t ∧ va_D B9 (mw_W h q g I' A')) B9) ([.ref h, .int k1, .int k2, .int k3] : List Value).toArray s 0 0 B9) (F0 m 137 ls []) := by
    intro rc hrc35 I A X ls H locs hf hl hP hD hS
    unfold f_M_inSet_137 at hf
    refine lv_iconst (v := 1) hx hb d_M_inSet_137 (by decide) ?_
    refine lv_goto (tgt := 142) hx hb d_M_inSet_138 (by decide) ?_
    exact blk142 rc hrc35 I A X 1 _ _ _ hf (lv_sub hl [0, 1, 2, 3, 4, 5, 6, 7, 8] rfl) hP hD hS
  have blk141 : ∀ (rc : Nat → MI → MA → (Nat → Int32) → Option (Int32 × MI × MA)) (hrc35 : ∀ (I : MI) (A : MA) (X : Nat → Int32) (ls : Array Slot) (H : Heap) (locs : List Loc), rc 35 I A X = some (r, I', A') → lv_has ls 9 [(0, .ref h), (1, .int (X 1)), (2, .int (X 2)), (3, .int (X 3)), (4, .int (X 4)), (5, .int (X 5)), (6, .int (X 6))] → va_P (dC, dI) vwCl (mw_W h q g I A) H → va_D B9 (mw_W h q g I A) → va_S B9 s.heap H locs → W p l e (headSpec w_M_inSet ({ frames := 0, cells := 0, slots := 0, locals := 0 })).room s m ([.ref h, .int k1, .int k2, .int k3] : List Value).toArray below meth c H locs 0 0 (MQ below (va_Qi (fun (r9 : Int32) (_ : Unit) => r9 = r) (fun (_ : Unit) t => va_P (dC, dI) vwCl (mw_W h q g I' A') t.heap ∧ va_K (dC, dI) vwCl (mw_T g) t ∧ va_D B9 (mw_W h q g I' A')) B9) ([.ref h, .int k1, .int k2, .int k3] : List Value).toArray s 0 0 B9) (F0 m 35 ls [])), ∀ (I : MI) (A : MA) (X : Nat → Int32) (ls : Array Slot) (H : Heap) (locs : List Loc), f_M_inSet_141 rc I A X = some (r, I', A') → lv_has ls 9 [(0, .ref h), (1, .int (X 1)), (2, .int (X 2)), (3, .int (X 3)), (4, .int (X 4)), (5, .int (X 5)), (6, .int (X 6)), (7, .int (X 7)), (8, .int (X 8))] → va_P (dC, dI) vwCl (mw_W h q g I A) H → va_D B9 (mw_W h q g I A) → va_S B9 s.heap H locs → W p l e (headSpec w_M_inSet ({ frames := 0, cells := 0, slots := 0, locals := 0 })).room s m ([.ref h, .int k1, .int k2, .int k3] : List Value).toArray below meth c H locs 0 0 (MQ below (va_Qi (fun (r9 : Int32) (_ : Unit) => r9 = r) (fun (_ : Unit) t => va_P (dC, dI) vwCl (mw_W h q g I' A') t.heap ∧ va_K (dC, dI) vwCl (mw_T g) t ∧ va_D B9 (mw_W h q g I' A')) B9) ([.ref h, .int k1, .int k2, .int k3] : List Value).toArray s 0 0 B9) (F0 m 141 ls []) := by
    intro rc hrc35 I A X ls H locs hf hl hP hD hS
    unfold f_M_inSet_141 at hf
    refine lv_iconst (v := 0) hx hb d_M_inSet_141 (by decide) ?_
    exact blk142 rc hrc35 I A X 0 _ _ _ hf (lv_sub hl [0, 1, 2, 3, 4, 5, 6, 7, 8] rfl) hP hD hS
  have blk113 : ∀ (rc : Nat → MI → MA → (Nat → Int32) → Option (Int32 × MI × MA)) (hrc35 : ∀ (I : MI) (A : MA) (X : Nat → Int32) (ls : Array Slot) (H : Heap) (locs : List Loc), rc 35 I A X = some (r, I', A') → lv_has ls 9 [(0, .ref h), (1, .int (X 1)), (2, .int (X 2)), (3, .int (X 3)), (4, .int (X 4)), (5, .int (X 5)), (6, .int (X 6))] → va_P (dC, dI) vwCl (mw_W h q g I A) H → va_D B9 (mw_W h q g I A) → va_S B9 s.heap H locs → W p l e (headSpec w_M_inSet ({ frames := 0, cells := 0, slots := 0, locals := 0 })).room s m ([.ref h, .int k1, .int k2, .int k3] : List Value).toArray below meth c H locs 0 0 (MQ below (va_Qi (fun (r9 : Int32) (_ : Unit) => r9 = r) (fun (_ : Unit) t => va_P (dC, dI) vwCl (mw_W h q g I' A') t.heap ∧ va_K (dC, dI) vwCl (mw_T g) t ∧ va_D B9 (mw_W h q g I' A')) B9) ([.ref h, .int k1, .int k2, .int k3] : List Value).toArray s 0 0 B9) (F0 m 35 ls [])), ∀ (I : MI) (A : MA) (X : Nat → Int32) (s0 : Int32) (ls : Array Slot) (H : Heap) (locs : List Loc), f_M_inSet_113 rc I A X s0 = some (r, I', A') → lv_has ls 9 [(0, .ref h), (1, .int (X 1)), (2, .int (X 2)), (3, .int (X 3)), (4, .int (X 4)), (5, .int (X 5)), (6, .int (X 6)), (7, .int (X 7))] → va_P (dC, dI) vwCl (mw_W h q g I A) H → va_D B9 (mw_W h q g I A) → va_S B9 s.heap H locs → W p l e (headSpec w_M_inSet ({ frames := 0, cells := 0, slots := 0, locals := 0 })).room s m ([.ref h, .int k1, .int k2, .int k3] : List Value).toArray below meth c H locs 0 0 (MQ below (va_Qi (fun (r9 : Int32) (_ : Unit) => r9 = r) (fun (_ : Unit) t => va_P (dC, dI) vwCl (mw_W h q g I' A') t.heap ∧ va_K (dC, dI) vwCl (mw_T g) t ∧ va_D B9 (mw_W h q g I' A')) B9) ([.ref h, .int k1, .int k2, .int k3] : List Value).toArray s 0 0 B9) (F0 m 113 ls [.int s0]) := by
    intro rc hrc35 I A X s0 ls H locs hf hl hP hD hS
    unfold f_M_inSet_113 at hf
    refine lv_istore (lv' := [(8, .int s0), (0, .ref h), (1, .int (X 1)), (2, .int (X 2)), (3, .int (X 3)), (4, .int (X 4)), (5, .int (X 5)), (6, .int (X 6)), (7, .int (X 7))]) hx hb d_M_inSet_113 hl (by decide) rfl (fun ls hl => ?_)
    have hl : lv_has ls 9 [(8, .int s0), (0, .ref h), (1, .int (X 1)), (2, .int (X 2)), (3, .int (X 3)), (4, .int (X 4)), (5, .int (X 5)), (6, .int (X 6)), (7, .int (X 7))] := hl
    refine lv_iload hx hb d_M_inSet_115 (lv_at hl 6 rfl) ?_
    refine lv_if_ne (tgt := 137) hx hb d_M_inSet_117 (by decide) (fun hc1 => ?_) (fun hc1 => ?_)
    ·
      have hf := wk_iff hc1 hf
      exact blk137 rc hrc35 I A (upd X 8 s0) _ _ _ hf (lv_sub hl [1, 2, 3, 4, 5, 6, 7, 8, 0] rfl) hP hD hS
    ·
      have hf := wk_ift hc1 hf
      refine lv_iload_n hx hb d_M_inSet_120 rfl (lv_at hl 2 rfl) ?_
      refine lv_aload_n hx hb d_M_inSet_121 rfl (lv_at hl 1 rfl) ?_
      refine va_get (D := (dC, dI)) (ci := 4) (v := .ref (q 16)) (C := R_M) (T := F_M) (N := 38) hx hb hts (fun w h => List.mem_cons_of_mem _ (in_M w h)) hown hK hP 0 rfl rfl 16 (by decide) (hts _ (List.mem_cons_of_mem _ lk_77)) (fun _ h9 => h9) rfl d_M_inSet_122 ?_
      refine lv_iload hx hb d_M_inSet_125 (lv_at hl 7 rfl) ?_
      obtain ⟨hc2, hf⟩ := wk_if hf
      refine va_cald hx hb hK hP 7 6 rfl rfl (wk_inb_ok hc2) d_M_inSet_127 ?_
      refine lv_icmp_lt (tgt := 141) hx hb d_M_inSet_128 (by decide) (fun hc3 => ?_) (fun hc3 => ?_)
      ·
        have hf := wk_ift hc3 hf
        exact blk141 rc hrc35 I A (upd X 8 s0) _ _ _ hf (lv_sub hl [1, 2, 3, 4, 5, 6, 7, 8, 0] rfl) hP hD hS
      ·
        have hf := wk_iff hc3 hf
        refine lv_iload_n hx hb d_M_inSet_131 rfl (lv_at hl 2 rfl) ?_
        refine lv_iload hx hb d_M_inSet_132 (lv_at hl 0 rfl) ?_
        refine lv_icmp_gt (tgt := 141) hx hb d_M_inSet_134 (by decide) (fun hc4 => ?_) (fun hc4 => ?_)
        ·
          have hf := wk_ift hc4 hf
          exact blk141 rc hrc35 I A (upd X 8 s0) _ _ _ hf (lv_sub hl [1, 2, 3, 4, 5, 6, 7, 8, 0] rfl) hP hD hS
        ·
          have hf := wk_iff hc4 hf
          exact blk137 rc hrc35 I A (upd X 8 s0) _ _ _ hf (lv_sub hl [1, 2, 3, 4, 5, 6, 7, 8, 0] rfl) hP hD hS
  have blk87 : ∀ (rc : Nat → MI → MA → (Nat → Int32) → Option (Int32 × MI × MA)) (hrc35 : ∀ (I : MI) (A : MA) (X : Nat → Int32) (ls : Array Slot) (H : Heap) (locs : List Loc), rc 35 I A X = some (r, I', A') → lv_has ls 9 [(0, .ref h), (1, .int (X 1)), (2, .int (X 2)), (3, .int (X 3)), (4, .int (X 4)), (5, .int (X 5)), (6, .int (X 6))] → va_P (dC, dI) vwCl (mw_W h q g I A) H → va_D B9 (mw_W h q g I A) → va_S B9 s.heap H locs → W p l e (headSpec w_M_inSet ({ frames := 0, cells := 0, slots := 0, locals := 0 })).room s m ([.ref h, .int k1, .int k2, .int k3] : List Value).toArray below meth c H locs 0 0 (MQ below (va_Qi (fun (r9 : Int32) (_ : Unit) => r9 = r) (fun (_ : Unit) t => va_P (dC, dI) vwCl (mw_W h q g I' A') t.heap ∧ va_K (dC, dI) vwCl (mw_T g) t ∧ va_D B9 (mw_W h q g I' A')) B9) ([.ref h, .int k1, .int k2, .int k3] : List Value).toArray s 0 0 B9) (F0 m 35 ls [])), ∀ (I : MI) (A : MA) (X : Nat → Int32) (s0 : Int32) (ls : Array Slot) (H : Heap) (locs : List Loc), f_M_inSet_87 rc I A X s0 = some (r, I', A') → lv_has ls 9 [(0, .ref h), (1, .int (X 1)), (2, .int (X 2)), (3, .int (X 3)), (4, .int (X 4)), (5, .int (X 5)), (6, .int (X 6))] → va_P (dC, dI) vwCl (mw_W h q g I A) H → va_D B9 (mw_W h q g I A) → va_S B9 s.heap H locs → W p l e (headSpec w_M_inSet ({ frames := 0, cells := 0, slots := 0, locals := 0 })).room s m ([.ref h, .int k1, .int k2, .int k3] : List Value).toArray below meth c H locs 0 0 (MQ below (va_Qi (fun (r9 : Int32) (_ : Unit) => r9 = r) (fun (_ : Unit) t => va_P (dC, dI) vwCl (mw_W h q g I' A') t.heap ∧ va_K (dC, dI) vwCl (mw_T g) t ∧ va_D B9 (mw_W h q g I' A')) B9) ([.ref h, .int k1, .int k2, .int k3] : List Value).toArray s 0 0 B9) (F0 m 87 ls [.int s0]) := by
    intro rc hrc35 I A X s0 ls H locs hf hl hP hD hS
    unfold f_M_inSet_87 at hf
    refine lv_istore (lv' := [(7, .int s0), (0, .ref h), (1, .int (X 1)), (2, .int (X 2)), (3, .int (X 3)), (4, .int (X 4)), (5, .int (X 5)), (6, .int (X 6))]) hx hb d_M_inSet_87 hl (by decide) rfl (fun ls hl => ?_)
    have hl : lv_has ls 9 [(7, .int s0), (0, .ref h), (1, .int (X 1)), (2, .int (X 2)), (3, .int (X 3)), (4, .int (X 4)), (5, .int (X 5)), (6, .int (X 6))] := hl
    refine lv_iload hx hb d_M_inSet_89 (lv_at hl 0 rfl) ?_
    refine lv_if_eq (tgt := 106) hx hb d_M_inSet_91 (by decide) (fun hc1 => ?_) (fun hc1 => ?_)
    ·
      have hf := wk_ift hc1 hf
      refine lv_aload_n hx hb d_M_inSet_106 rfl (lv_at hl 1 rfl) ?_
      refine va_get (D := (dC, dI)) (ci := 4) (v := .ref (q 16)) (C := R_M) (T := F_M) (N := 38) hx hb hts (fun w h => List.mem_cons_of_mem _ (in_M w h)) hown hK hP 0 rfl rfl 16 (by decide) (hts _ (List.mem_cons_of_mem _ lk_77)) (fun _ h9 => h9) rfl d_M_inSet_107 ?_
      refine lv_iload hx hb d_M_inSet_110 (lv_at hl 7 rfl) ?_
      obtain ⟨hc2, hf⟩ := wk_if hf
      refine va_cald hx hb hK hP 7 6 rfl rfl (wk_inb_ok hc2) d_M_inSet_112 ?_
      exact blk113 rc hrc35 I A (upd X 7 s0) ((A 16) ((X 6)).toNatClampNeg) _ _ _ hf (lv_sub hl [1, 2, 3, 4, 5, 6, 7, 0] rfl) hP hD hS
    ·
      have hf := wk_iff hc1 hf
      refine lv_aload_n hx hb d_M_inSet_94 rfl (lv_at hl 1 rfl) ?_
      refine va_get (D := (dC, dI)) (ci := 4) (v := .ref (q 16)) (C := R_M) (T := F_M) (N := 38) hx hb hts (fun w h => List.mem_cons_of_mem _ (in_M w h)) hown hK hP 0 rfl rfl 16 (by decide) (hts _ (List.mem_cons_of_mem _ lk_77)) (fun _ h9 => h9) rfl d_M_inSet_95 ?_
      refine lv_iload hx hb d_M_inSet_98 (lv_at hl 7 rfl) ?_
      refine lv_iconst (v := 2) hx hb d_M_inSet_100 (by decide) ?_
      refine lv_iadd hx hb d_M_inSet_101 ?_
      obtain ⟨hc2, hf⟩ := wk_if hf
      refine va_cald hx hb hK hP 7 6 rfl rfl (wk_inb_ok hc2) d_M_inSet_102 ?_
      refine lv_goto (tgt := 113) hx hb d_M_inSet_103 (by decide) ?_
      exact blk113 rc hrc35 I A (upd X 7 s0) ((A 16) (((X 6) + 2)).toNatClampNeg) _ _ _ hf (lv_sub hl [1, 2, 3, 4, 5, 6, 7, 0] rfl) hP hD hS
  have blk86 : ∀ (rc : Nat → MI → MA → (Nat → Int32) → Option (Int32 × MI × MA)) (hrc35 : ∀ (I : MI) (A : MA) (X : Nat → Int32) (ls : Array Slot) (H : Heap) (locs : List Loc), rc 35 I A X = some (r, I', A') → lv_has ls 9 [(0, .ref h), (1, .int (X 1)), (2, .int (X 2)), (3, .int (X 3)), (4, .int (X 4)), (5, .int (X 5)), (6, .int (X 6))] → va_P (dC, dI) vwCl (mw_W h q g I A) H → va_D B9 (mw_W h q g I A) → va_S B9 s.heap H locs → W p l e (headSpec w_M_inSet ({ frames := 0, cells := 0, slots := 0, locals := 0 })).room s m ([.ref h, .int k1, .int k2, .int k3] : List Value).toArray below meth c H locs 0 0 (MQ below (va_Qi (fun (r9 : Int32) (_ : Unit) => r9 = r) (fun (_ : Unit) t => va_P (dC, dI) vwCl (mw_W h q g I' A') t.heap ∧ va_K (dC, dI) vwCl (mw_T g) t ∧ va_D B9 (mw_W h q g I' A')) B9) ([.ref h, .int k1, .int k2, .int k3] : List Value).toArray s 0 0 B9) (F0 m 35 ls [])), ∀ (I : MI) (A : MA) (X : Nat → Int32) (ls : Array Slot) (H : Heap) (locs : List Loc), f_M_inSet_86 rc I A X = some (r, I', A') → lv_has ls 9 [(0, .ref h), (1, .int (X 1)), (2, .int (X 2)), (3, .int (X 3)), (4, .int (X 4)), (5, .int (X 5)), (6, .int (X 6))] → va_P (dC, dI) vwCl (mw_W h q g I A) H → va_D B9 (mw_W h q g I A) → va_S B9 s.heap H locs → W p l e (headSpec w_M_inSet ({ frames := 0, cells := 0, slots := 0, locals := 0 })).room s m ([.ref h, .int k1, .int k2, .int k3] : List Value).toArray below meth c H locs 0 0 (MQ below (va_Qi (fun (r9 : Int32) (_ : Unit) => r9 = r) (fun (_ : Unit) t => va_P (dC, dI) vwCl (mw_W h q g I' A') t.heap ∧ va_K (dC, dI) vwCl (mw_T g) t ∧ va_D B9 (mw_W h q g I' A')) B9) ([.ref h, .int k1, .int k2, .int k3] : List Value).toArray s 0 0 B9) (F0 m 86 ls []) := by
    intro rc hrc35 I A X ls H locs hf hl hP hD hS
    unfold f_M_inSet_86 at hf
    refine lv_iconst (v := 0) hx hb d_M_inSet_86 (by decide) ?_
    exact blk87 rc hrc35 I A X 0 _ _ _ hf (lv_sub hl [0, 1, 2, 3, 4, 5, 6] rfl) hP hD hS
  have stp35 : ∀ (rc : Nat → MI → MA → (Nat → Int32) → Option (Int32 × MI × MA)) (hrc35 : ∀ (I : MI) (A : MA) (X : Nat → Int32) (ls : Array Slot) (H : Heap) (locs : List Loc), rc 35 I A X = some (r, I', A') → lv_has ls 9 [(0, .ref h), (1, .int (X 1)), (2, .int (X 2)), (3, .int (X 3)), (4, .int (X 4)), (5, .int (X 5)), (6, .int (X 6))] → va_P (dC, dI) vwCl (mw_W h q g I A) H → va_D B9 (mw_W h q g I A) → va_S B9 s.heap H locs → W p l e (headSpec w_M_inSet ({ frames := 0, cells := 0, slots := 0, locals := 0 })).room s m ([.ref h, .int k1, .int k2, .int k3] : List Value).toArray below meth c H locs 0 0 (MQ below (va_Qi (fun (r9 : Int32) (_ : Unit) => r9 = r) (fun (_ : Unit) t => va_P (dC, dI) vwCl (mw_W h q g I' A') t.heap ∧ va_K (dC, dI) vwCl (mw_T g) t ∧ va_D B9 (mw_W h q g I' A')) B9) ([.ref h, .int k1, .int k2, .int k3] : List Value).toArray s 0 0 B9) (F0 m 35 ls [])), ∀ (I : MI) (A : MA) (X : Nat → Int32) (ls : Array Slot) (H : Heap) (locs : List Loc), f_M_inSet_35 rc I A X = some (r, I', A') → lv_has ls 9 [(0, .ref h), (1, .int (X 1)), (2, .int (X 2)), (3, .int (X 3)), (4, .int (X 4)), (5, .int (X 5)), (6, .int (X 6))] → va_P (dC, dI) vwCl (mw_W h q g I A) H → va_D B9 (mw_W h q g I A) → va_S B9 s.heap H locs → W p l e (headSpec w_M_inSet ({ frames := 0, cells := 0, slots := 0, locals := 0 })).room s m ([.ref h, .int k1, .int k2, .int k3] : List Value).toArray below meth c H locs 0 0 (MQ below (va_Qi (fun (r9 : Int32) (_ : Unit) => r9 = r) (fun (_ : Unit) t => va_P (dC, dI) vwCl (mw_W h q g I' A') t.heap ∧ va_K (dC, dI) vwCl (mw_T g) t ∧ va_D B9 (mw_W h q g I' A')) B9) ([.ref h, .int k1, .int k2, .int k3] : List Value).toArray s 0 0 B9) (F0 m 35 ls []) := by
    intro rc hrc35 I A X ls H locs hf hl hP hD hS
    unfold f_M_inSet_35 at hf
    refine lv_iload hx hb d_M_inSet_35 (lv_at hl 6 rfl) ?_
    refine lv_iload_n hx hb d_M_inSet_37 rfl (lv_at hl 3 rfl) ?_
    refine lv_icmp_ge (tgt := 162) hx hb d_M_inSet_38 (by decide) (fun hc1 => ?_) (fun hc1 => ?_)
    ·
      have hf := wk_ift hc1 hf
      refine lv_iload hx hb d_M_inSet_162 (lv_at hl 5 rfl) ?_
      refine lv_iload hx hb d_M_inSet_164 (lv_at hl 4 rfl) ?_
      refine lv_icmp_eq (tgt := 173) hx hb d_M_inSet_166 (by decide) (fun hc2 => ?_) (fun hc2 => ?_)
      ·
        have hf := wk_ift hc2 hf
        refine lv_iconst (v := 0) hx hb d_M_inSet_173 (by decide) ?_
        exact blk174 rc hrc35 I A X 0 _ _ _ hf (lv_sub hl [0, 1, 2, 3, 4, 5, 6] rfl) hP hD hS
      ·
        have hf := wk_iff hc2 hf
        refine lv_iconst (v := 1) hx hb d_M_inSet_169 (by decide) ?_
        refine lv_goto (tgt := 174) hx hb d_M_inSet_170 (by decide) ?_
        exact blk174 rc hrc35 I A X 1 _ _ _ hf (lv_sub hl [0, 1, 2, 3, 4, 5, 6] rfl) hP hD hS
    ·
      have hf := wk_iff hc1 hf
      refine lv_iload hx hb d_M_inSet_41 (lv_at hl 6 rfl) ?_
      refine lv_iconst (v := 2) hx hb d_M_inSet_43 (by decide) ?_
      refine lv_iadd hx hb d_M_inSet_44 ?_
      refine lv_iload_n hx hb d_M_inSet_45 rfl (lv_at hl 3 rfl) ?_
      refine lv_icmp_ge (tgt := 86) hx hb d_M_inSet_46 (by decide) (fun hc2 => ?_) (fun hc2 => ?_)
      ·
        have hf := wk_ift hc2 hf
        exact blk86 rc hrc35 I A X _ _ _ hf (lv_sub hl [0, 1, 2, 3, 4, 5, 6] rfl) hP hD hS
      ·
        have hf := wk_iff hc2 hf
        refine lv_aload_n hx hb d_M_inSet_49 rfl (lv_at hl 0 rfl) ?_
        refine va_get (D := (dC, dI)) (ci := 4) (v := .ref (q 16)) (C := R_M) (T := F_M) (N := 38) hx hb hts (fun w h => List.mem_cons_of_mem _ (in_M w h)) hown hK hP 0 rfl rfl 16 (by decide) (hts _ (List.mem_cons_of_mem _ lk_77)) (fun _ h9 => h9) rfl d_M_inSet_50 ?_
        refine lv_iload hx hb d_M_inSet_53 (lv_at hl 6 rfl) ?_
        refine lv_iconst (v := 1) hx hb d_M_inSet_55 (by decide) ?_
        refine lv_iadd hx hb d_M_inSet_56 ?_
        obtain ⟨hc3, hf⟩ := wk_if hf
        refine va_cald hx hb hK hP 7 6 rfl rfl (wk_inb_ok hc3) d_M_inSet_57 ?_
        refine lv_bipush (v := 45) hx hb d_M_inSet_58 (by decide) ?_
        refine lv_icmp_ne (tgt := 86) hx hb d_M_inSet_60 (by decide) (fun hc4 => ?_) (fun hc4 => ?_)
        ·
          have hf := wk_iff hc4 hf
          exact blk86 rc hrc35 I A X _ _ _ hf (lv_sub hl [0, 1, 2, 3, 4, 5, 6] rfl) hP hD hS
        ·
          have hf := wk_ift hc4 hf
          refine lv_aload_n hx hb d_M_inSet_63 rfl (lv_at hl 0 rfl) ?_
          refine va_get (D := (dC, dI)) (ci := 4) (v := .ref (q 16)) (C := R_M) (T := F_M) (N := 38) hx hb hts (fun w h => List.mem_cons_of_mem _ (in_M w h)) hown hK hP 0 rfl rfl 16 (by decide) (hts _ (List.mem_cons_of_mem _ lk_77)) (fun _ h9 => h9) rfl d_M_inSet_64 ?_
          refine lv_iload hx hb d_M_inSet_67 (lv_at hl 6 rfl) ?_
          refine lv_iconst (v := 2) hx hb d_M_inSet_69 (by decide) ?_
          refine lv_iadd hx hb d_M_inSet_70 ?_
          obtain ⟨hc5, hf⟩ := wk_if hf
          refine va_cald hx hb hK hP 7 6 rfl rfl (wk_inb_ok hc5) d_M_inSet_71 ?_
          refine lv_aload_n hx hb d_M_inSet_72 rfl (lv_at hl 0 rfl) ?_
          refine va_get (D := (dC, dI)) (ci := 4) (v := .ref (q 16)) (C := R_M) (T := F_M) (N := 38) hx hb hts (fun w h => List.mem_cons_of_mem _ (in_M w h)) hown hK hP 0 rfl rfl 16 (by decide) (hts _ (List.mem_cons_of_mem _ lk_77)) (fun _ h9 => h9) rfl d_M_inSet_73 ?_
          refine lv_iload hx hb d_M_inSet_76 (lv_at hl 6 rfl) ?_
          obtain ⟨hc6, hf⟩ := wk_if hf
          refine va_cald hx hb hK hP 7 6 rfl rfl (wk_inb_ok hc6) d_M_inSet_78 ?_
          refine lv_icmp_lt (tgt := 86) hx hb d_M_inSet_79 (by decide) (fun hc7 => ?_) (fun hc7 => ?_)
          ·
            have hf := wk_ift hc7 hf
            exact blk86 rc hrc35 I A X _ _ _ hf (lv_sub hl [0, 1, 2, 3, 4, 5, 6] rfl) hP hD hS
          ·
            have hf := wk_iff hc7 hf
            refine lv_iconst (v := 1) hx hb d_M_inSet_82 (by decide) ?_
            refine lv_goto (tgt := 87) hx hb d_M_inSet_83 (by decide) ?_
            exact blk87 rc hrc35 I A X 1 _ _ _ hf (lv_sub hl [0, 1, 2, 3, 4, 5, 6] rfl) hP hD hS
  have key : ∀ n : Nat, (∀ (I : MI) (A : MA) (X : Nat → Int32) (ls : Array Slot) (H : Heap) (locs : List Loc), f_M_inSet_go n 35 I A X = some (r, I', A') → lv_has ls 9 [(0, .ref h), (1, .int (X 1)), (2, .int (X 2)), (3, .int (X 3)), (4, .int (X 4)), (5, .int (X 5)), (6, .int (X 6))] → va_P (dC, dI) vwCl (mw_W h q g I A) H → va_D B9 (mw_W h q g I A) → va_S B9 s.heap H locs → W p l e (headSpec w_M_inSet ({ frames := 0, cells := 0, slots := 0, locals := 0 })).room s m ([.ref h, .int k1, .int k2, .int k3] : List Value).toArray below meth c H locs 0 0 (MQ below (va_Qi (fun (r9 : Int32) (_ : Unit) => r9 = r) (fun (_ : Unit) t => va_P (dC, dI) vwCl (mw_W h q g I' A') t.heap ∧ va_K (dC, dI) vwCl (mw_T g) t ∧ va_D B9 (mw_W h q g I' A')) B9) ([.ref h, .int k1, .int k2, .int k3] : List Value).toArray s 0 0 B9) (F0 m 35 ls [])) := by
    intro n
    induction n with
    | zero => exact fun I A X ls H locs hf => (by cases hf)
    | succ n ih =>
      have ih35 := ih
      exact stp35 (f_M_inSet_go n) ih35
  unfold f_M_inSet f_M_inSet_e at hf
  have hrc35 := key wk_FUEL
  refine lv_aload_n hx hb d_M_inSet_0 rfl (lv_at hl 0 rfl) ?_
  refine va_get (D := (dC, dI)) (ci := 4) (v := .ref (q 16)) (C := R_M) (T := F_M) (N := 38) hx hb hts (fun w h => List.mem_cons_of_mem _ (in_M w h)) hown hK hP 0 rfl rfl 16 (by decide) (hts _ (List.mem_cons_of_mem _ lk_77)) (fun _ h9 => h9) rfl d_M_inSet_1 ?_
  refine lv_iload_n hx hb d_M_inSet_4 rfl (lv_at hl 2 rfl) ?_
  obtain ⟨hc1, hf⟩ := wk_if hf
  refine va_cald hx hb hK hP 7 6 rfl rfl (wk_inb_ok hc1) d_M_inSet_5 ?_
  refine lv_bipush (v := 94) hx hb d_M_inSet_6 (by decide) ?_
  refine lv_icmp_ne (tgt := 15) hx hb d_M_inSet_8 (by decide) (fun hc2 => ?_) (fun hc2 => ?_)
  ·
    have hf := wk_iff hc2 hf
    refine lv_iconst (v := 0) hx hb d_M_inSet_15 (by decide) ?_
    exact blk16 _ hrc35 I A (upd (upd (upd (fun _ => 0) 1 k1) 2 k2) 3 k3) 0 _ _ _ hf (lv_sub hl [0, 1, 2, 3] rfl) hP hD hS
  ·
    have hf := wk_ift hc2 hf
    refine lv_iconst (v := 1) hx hb d_M_inSet_11 (by decide) ?_
    refine lv_goto (tgt := 16) hx hb d_M_inSet_12 (by decide) ?_
    exact blk16 _ hrc35 I A (upd (upd (upd (fun _ => 0) 1 k1) 2 k2) 3 k3) 1 _ _ _ hf (lv_sub hl [0, 1, 2, 3] rfl) hP hD hS

set_option maxHeartbeats 8000000 in
set_option maxRecDepth 100000 in
theorem cm_M_takes (l : Launch) (dC : Nat → ClassId) (dI : Nat → Nat → Nat) (h : Nat) (q : Nat → Nat) (g : Nat → ClassId) (sz : Nat) (I : MI) (A : MA) (k1 k2 : Int32) (r : Int32) (I' : MI) (A' : MA) (hf : f_M_takes I A k1 k2 = some (r, I', A')) : Met l y_M_takes w_M_takes ({ frames := 1, cells := 0, slots := 0, locals := 28 }) (va_Pc [.ref h, .int k1, .int k2] (fun U => U.heap.size = sz ∧ va_P (dC, dI) vwCl (mw_W h q g I A) U.heap ∧ va_K (dC, dI) vwCl (mw_T g) U ∧ va_D (fun _ => True) (mw_W h q g I A))) (va_Qi (fun (r9 : Int32) (_ : Unit) => r9 = r) (fun (_ : Unit) t => va_P (dC, dI) vwCl (mw_W h q g I' A') t.heap ∧ va_K (dC, dI) vwCl (mw_T g) t ∧ va_D (va_A (mw_W h q g I A) sz) (mw_W h q g I' A')) (va_A (mw_W h q g I A) sz)) 0 0 (va_A (mw_W h q g I A) sz) := by
  refine Met.ofW (cc := prog_6_method_39_code) (maxL := 3) (ret := (some .boolean)) (by decide) rfl ?_
  intro p e s m args below meth c s₁ B hml hv
  obtain ⟨rfl, hsz, hP, hK, hD0⟩ := hv
  have hx := B.exec
  have hb := B.bytes
  have hr := B.returns
  have hts := atoms_spec (ws := w_M_takes) B.pre
  have hown : s.vm.findClass R_M = some m.cls := findClass_of_methodNamed B.named
  have hlocks := B.notSynchronized
  subst hsz
  have hD := hD0.self (sz := s.heap.size)
  generalize hAe : va_A (mw_W h q g I A) s.heap.size = B9 at hD ⊢
  have hA : ∀ q : Nat, s.heap.size ≤ q → B9 q := fun q h => by rw [← hAe]; exact Or.inr h
  clear hAe
  have hS : va_S B9 s.heap s.heap [] := va_S.rf
  have hl := lv_entry ([.ref h, .int k1, .int k2]) (n := 3) (Nat.le_of_ble_eq_true rfl)
  rw [lg_entry_eq]
  generalize (lg_sl ([.ref h, .int k1, .int k2]) ++ List.replicate (3 - (lg_sl ([.ref h, .int k1, .int k2])).length) Slot.unset).toArray = ls at hl ⊢
  have hl : lv_has ls 3 [(0, .ref h), (1, .int k1), (2, .int k2)] := hl
  have blk71 : ∀ (I : MI) (A : MA) (X : Nat → Int32) (s0 : Int32) (ls : Array Slot) (H : Heap) (locs : List Loc), f_M_takes_71 I A X s0 = some (r, I', A') → lv_has ls 3 [(0, .ref h), (1, .int (X 1)), (2, .int (X 2))] → va_P (dC, dI) vwCl (mw_W h q g I A) H → va_D B9 (mw_W h q g I A) → va_S B9 s.heap H locs → W p l e (headSpec w_M_takes ({ frames := 1, cells := 0, slots := 0, locals := 28 })).room s m ([.ref h, .int k1, .int k2] : List Value).toArray below meth c H locs 0 0 (MQ below (va_Qi (fun (r9 : Int32) (_ : Unit) => r9 = r) (fun (_ : Unit) t => va_P (dC, dI) vwCl (mw_W h q g I' A') t.heap ∧ va_K (dC, dI) vwCl (mw_T g) t ∧ va_D B9 (mw_W h q g I' A')) B9) ([.ref h, .int k1, .int k2] : List Value).toArray s 0 0 B9) (F0 m 71 ls [.int s0]) := by
    intro I A X s0 ls H locs hf hl hP hD hS
    unfold f_M_takes_71 at hf
    obtain ⟨hn9, hf⟩ := wk_if hf
    obtain ⟨e1, e2, e3⟩ := wk_inj hf
    subst e1
    subst e2
    subst e3
    exact W.zret (v := s0) hx hb hr (congrArg Value.int hn9) (fun t ht hW => ⟨⟨s0, (), rfl, rfl, by rw [ht]; exact hP, va_K.moved hW.alike hK, hD⟩, hS.F ht⟩) hS.2.2 d_M_takes_71
  have blk66 : ∀ (I : MI) (A : MA) (X : Nat → Int32) (ls : Array Slot) (H : Heap) (locs : List Loc), f_M_takes_66 I A X = some (r, I', A') → lv_has ls 3 [(0, .ref h), (1, .int (X 1)), (2, .int (X 2))] → va_P (dC, dI) vwCl (mw_W h q g I A) H → va_D B9 (mw_W h q g I A) → va_S B9 s.heap H locs → W p l e (headSpec w_M_takes ({ frames := 1, cells := 0, slots := 0, locals := 28 })).room s m ([.ref h, .int k1, .int k2] : List Value).toArray below meth c H locs 0 0 (MQ below (va_Qi (fun (r9 : Int32) (_ : Unit) => r9 = r) (fun (_ : Unit) t => va_P (dC, dI) vwCl (mw_W h q g I' A') t.heap ∧ va_K (dC, dI) vwCl (mw_T g) t ∧ va_D B9 (mw_W h q g I' A')) B9) ([.ref h, .int k1, .int k2] : List Value).toArray s 0 0 B9) (F0 m 66 ls []) := by
    intro I A X ls H locs hf hl hP hD hS
    unfold f_M_takes_66 at hf
    refine lv_iconst (v := 1) hx hb d_M_takes_66 (by decide) ?_
    refine lv_goto (tgt := 71) hx hb d_M_takes_67 (by decide) ?_
    exact blk71 I A X 1 _ _ _ hf (lv_sub hl [0, 1, 2] rfl) hP hD hS
  have blk70 : ∀ (I : MI) (A : MA) (X : Nat → Int32) (ls : Array Slot) (H : Heap) (locs : List Loc), f_M_takes_70 I A X = some (r, I', A') → lv_has ls 3 [(0, .ref h), (1, .int (X 1)), (2, .int (X 2))] → va_P (dC, dI) vwCl (mw_W h q g I A) H → va_D B9 (mw_W h q g I A) → va_S B9 s.heap H locs → W p l e (headSpec w_M_takes ({ frames := 1, cells := 0, slots := 0, locals := 28 })).room s m ([.ref h, .int k1, .int k2] : List Value).toArray below meth c H locs 0 0 (MQ below (va_Qi (fun (r9 : Int32) (_ : Unit) => r9 = r) (fun (_ : Unit) t => va_P (dC, dI) vwCl (mw_W h q g I' A') t.heap ∧ va_K (dC, dI) vwCl (mw_T g) t ∧ va_D B9 (mw_W h q g I' A')) B9) ([.ref h, .int k1, .int k2] : List Value).toArray s 0 0 B9) (F0 m 70 ls []) := by
    intro I A X ls H locs hf hl hP hD hS
    unfold f_M_takes_70 at hf
    refine lv_iconst (v := 0) hx hb d_M_takes_70 (by decide) ?_
    exact blk71 I A X 0 _ _ _ hf (lv_sub hl [0, 1, 2] rfl) hP hD hS
  have blk36 : ∀ (I : MI) (A : MA) (X : Nat → Int32) (ls : Array Slot) (H : Heap) (locs : List Loc), f_M_takes_36 I A X = some (r, I', A') → lv_has ls 3 [(0, .ref h), (1, .int (X 1)), (2, .int (X 2))] → va_P (dC, dI) vwCl (mw_W h q g I A) H → va_D B9 (mw_W h q g I A) → va_S B9 s.heap H locs → W p l e (headSpec w_M_takes ({ frames := 1, cells := 0, slots := 0, locals := 28 })).room s m ([.ref h, .int k1, .int k2] : List Value).toArray below meth c H locs 0 0 (MQ below (va_Qi (fun (r9 : Int32) (_ : Unit) => r9 = r) (fun (_ : Unit) t => va_P (dC, dI) vwCl (mw_W h q g I' A') t.heap ∧ va_K (dC, dI) vwCl (mw_T g) t ∧ va_D B9 (mw_W h q g I' A')) B9) ([.ref h, .int k1, .int k2] : List Value).toArray s 0 0 B9) (F0 m 36 ls []) := by
    intro I A X ls H locs hf hl hP hD hS
    unfold f_M_takes_36 at hf
    refine lv_aload_n hx hb d_M_takes_36 rfl (lv_at hl 0 rfl) ?_
    refine va_get (D := (dC, dI)) (ci := 4) (v := .ref (q 18)) (C := R_M) (T := F_M) (N := 38) hx hb hts (fun w h => List.mem_cons_of_mem _ (in_M w h)) hown hK hP 0 rfl rfl 18 (by decide) (hts _ (List.mem_cons_of_mem _ lk_82)) (fun _ h9 => h9) rfl d_M_takes_37 ?_
    refine lv_iload_n hx hb d_M_takes_40 rfl (lv_at hl 1 rfl) ?_
    obtain ⟨hc1, hf⟩ := wk_if hf
    refine va_iald hx hb hK hP 8 7 rfl rfl (wk_inb_ok hc1) d_M_takes_41 ?_
    refine lv_iconst (v := 3) hx hb d_M_takes_42 (by decide) ?_
    refine lv_icmp_ne (tgt := 70) hx hb d_M_takes_43 (by decide) (fun hc2 => ?_) (fun hc2 => ?_)
    ·
      have hf := wk_iff hc2 hf
      exact blk70 I A X _ _ _ hf (lv_sub hl [0, 1, 2] rfl) hP hD hS
    ·
      have hf := wk_ift hc2 hf
      refine lv_aload_n hx hb d_M_takes_46 rfl (lv_at hl 0 rfl) ?_
      refine lv_iload_n hx hb d_M_takes_47 rfl (lv_at hl 2 rfl) ?_
      refine lv_aload_n hx hb d_M_takes_48 rfl (lv_at hl 0 rfl) ?_
      refine va_get (D := (dC, dI)) (ci := 4) (v := .ref (q 19)) (C := R_M) (T := F_M) (N := 38) hx hb hts (fun w h => List.mem_cons_of_mem _ (in_M w h)) hown hK hP 0 rfl rfl 19 (by decide) (hts _ (List.mem_cons_of_mem _ lk_84)) (fun _ h9 => h9) rfl d_M_takes_49 ?_
      refine lv_iload_n hx hb d_M_takes_52 rfl (lv_at hl 1 rfl) ?_
      obtain ⟨hc3, hf⟩ := wk_if hf
      refine va_iald hx hb hK hP 9 8 rfl rfl (wk_inb_ok hc3) d_M_takes_53 ?_
      refine lv_aload_n hx hb d_M_takes_54 rfl (lv_at hl 0 rfl) ?_
      refine va_get (D := (dC, dI)) (ci := 4) (v := .ref (q 20)) (C := R_M) (T := F_M) (N := 38) hx hb hts (fun w h => List.mem_cons_of_mem _ (in_M w h)) hown hK hP 0 rfl rfl 20 (by decide) (hts _ (List.mem_cons_of_mem _ lk_85)) (fun _ h9 => h9) rfl d_M_takes_55 ?_
      refine lv_iload_n hx hb d_M_takes_58 rfl (lv_at hl 1 rfl) ?_
      obtain ⟨hc4, hf⟩ := wk_if hf
      refine va_iald hx hb hK hP 10 9 rfl rfl (wk_inb_ok hc4) d_M_takes_59 ?_
      have hPc := hP.sub (ws' := (mw_W h q g I A)) [0, 1, 2, 3, 4, 5, 6, 7, 8, 9, 10, 11, 12, 13, 14, 15, 16, 17, 18, 19, 20] rfl
      have hDc := hD.sub (ws' := (mw_W h q g I A)) [0, 1, 2, 3, 4, 5, 6, 7, 8, 9, 10, 11, 12, 13, 14, 15, 16, 17, 18, 19, 20] (by decide) rfl
      have hKc := hK.sub (tys' := (mw_T g)) [0, 1, 2, 3, 4, 5, 6, 7, 8, 9, 10, 11, 12, 13, 14, 15, 16, 17, 18, 19] rfl
      have hFc := va_free (wc := (mw_W h q g I A)) hD hS hA [0, 1, 2, 3, 4, 5, 6, 7, 8, 9, 10, 11, 12, 13, 14, 15, 16, 17, 18, 19, 20] rfl
      cases hg1 : f_M_inSet I A (X 2) ((A 19) ((X 1)).toNatClampNeg) ((A 20) ((X 1)).toNatClampNeg) with
      | none => rw [hg1] at hf; cases hf
      | some z1 =>
        obtain ⟨r1, I1, A1⟩ := z1
        rw [hg1] at hf
        dsimp only [Option.bind_some] at hf
        refine va_calli (va_runV (As := [.int (X 2), .int ((A 19) ((X 1)).toNatClampNeg), .int ((A 20) ((X 1)).toNatClampNeg)]) (rest := []) ⟨hx, hb, hml, hown, hts⟩ (cm_M_inSet l dC dI h q g _ I A (X 2) ((A 19) ((X 1)).toNatClampNeg) ((A 20) ((X 1)).toNatClampNeg) r1 I1 A1 hg1) (cwV 3 hts (gd_v lk_187 lk_188 lk_189 lk_46 lk_186) rfl rfl rfl (by decide +kernel) ⟨Nat.le_of_ble_eq_true rfl, Nat.le_of_ble_eq_true rfl⟩) ⟨fun a U g mk q => by obtain ⟨q0, q1, qP, qK, qD⟩ := q; exact ⟨q0, q1, qP, va_K.moved (u := U) (U := U.calling g mk a) (Vm.Alike.refl U.vm) qK, qD⟩, va_recv (ci := 4) (q0 := 0) hK hP rfl rfl, fun U hU hW => ⟨rfl, by rw [hU], by rw [hU]; exact hPc, va_K.moved hW.alike hKc, hDc.weaken (fun _ _ _ _ => trivial)⟩⟩ rfl rfl hl.1 rfl (lv_room (Nat.le_of_ble_eq_true rfl)) d_M_takes_60 ⟨Nat.le_of_ble_eq_true rfl, Nat.le_of_ble_eq_true rfl⟩) hS (fun q _ h => hFc q h) hFc (fun r9 u t H1 locs ht hvm hw hB hz1 hk1 hS => ?_)
        obtain ⟨hP1, hK1, hD1⟩ := hB
        rw [ht] at hP1
        rw [hw]
        obtain ⟨hP, hD⟩ := va_join (wr := []) (w1 := (mw_W h q g I1 A1)) hP hD [0, 1, 2, 3, 4, 5, 6, 7, 8, 9, 10, 11, 12, 13, 14, 15, 16, 17, 18, 19, 20] [] rfl rfl (by decide) (by decide) hk1 hFc hP1 hD1
        generalize H1 = H at hP hS ⊢
        have hP : va_P (dC, dI) vwCl (mw_W h q g I1 A1) H := hP
        have hD : va_D B9 (mw_W h q g I1 A1) := hD
        refine lv_if_eq (tgt := 70) hx hb d_M_takes_63 (by decide) (fun hc5 => ?_) (fun hc5 => ?_)
        ·
          have hf := wk_ift hc5 hf
          exact blk70 I1 A1 X _ _ _ hf (lv_sub hl [0, 1, 2] rfl) hP hD hS
        ·
          have hf := wk_iff hc5 hf
          exact blk66 I1 A1 X _ _ _ hf (lv_sub hl [0, 1, 2] rfl) hP hD hS
  have blk20 : ∀ (I : MI) (A : MA) (X : Nat → Int32) (ls : Array Slot) (H : Heap) (locs : List Loc), f_M_takes_20 I A X = some (r, I', A') → lv_has ls 3 [(0, .ref h), (1, .int (X 1)), (2, .int (X 2))] → va_P (dC, dI) vwCl (mw_W h q g I A) H → va_D B9 (mw_W h q g I A) → va_S B9 s.heap H locs → W p l e (headSpec w_M_takes ({ frames := 1, cells := 0, slots := 0, locals := 28 })).room s m ([.ref h, .int k1, .int k2] : List Value).toArray below meth c H locs 0 0 (MQ below (va_Qi (fun (r9 : Int32) (_ : Unit) => r9 = r) (fun (_ : Unit) t => va_P (dC, dI) vwCl (mw_W h q g I' A') t.heap ∧ va_K (dC, dI) vwCl (mw_T g) t ∧ va_D B9 (mw_W h q g I' A')) B9) ([.ref h, .int k1, .int k2] : List Value).toArray s 0 0 B9) (F0 m 20 ls []) := by
    intro I A X ls H locs hf hl hP hD hS
    unfold f_M_takes_20 at hf
    refine lv_aload_n hx hb d_M_takes_20 rfl (lv_at hl 0 rfl) ?_
    refine va_get (D := (dC, dI)) (ci := 4) (v := .ref (q 18)) (C := R_M) (T := F_M) (N := 38) hx hb hts (fun w h => List.mem_cons_of_mem _ (in_M w h)) hown hK hP 0 rfl rfl 18 (by decide) (hts _ (List.mem_cons_of_mem _ lk_82)) (fun _ h9 => h9) rfl d_M_takes_21 ?_
    refine lv_iload_n hx hb d_M_takes_24 rfl (lv_at hl 1 rfl) ?_
    obtain ⟨hc1, hf⟩ := wk_if hf
    refine va_iald hx hb hK hP 8 7 rfl rfl (wk_inb_ok hc1) d_M_takes_25 ?_
    refine lv_iconst (v := 2) hx hb d_M_takes_26 (by decide) ?_
    refine lv_icmp_ne (tgt := 36) hx hb d_M_takes_27 (by decide) (fun hc2 => ?_) (fun hc2 => ?_)
    ·
      have hf := wk_iff hc2 hf
      exact blk36 I A X _ _ _ hf (lv_sub hl [0, 1, 2] rfl) hP hD hS
    ·
      have hf := wk_ift hc2 hf
      refine lv_iload_n hx hb d_M_takes_30 rfl (lv_at hl 2 rfl) ?_
      refine lv_bipush (v := 10) hx hb d_M_takes_31 (by decide) ?_
      refine lv_icmp_ne (tgt := 66) hx hb d_M_takes_33 (by decide) (fun hc3 => ?_) (fun hc3 => ?_)
      ·
        have hf := wk_iff hc3 hf
        exact blk66 I A X _ _ _ hf (lv_sub hl [0, 1, 2] rfl) hP hD hS
      ·
        have hf := wk_ift hc3 hf
        exact blk36 I A X _ _ _ hf (lv_sub hl [0, 1, 2] rfl) hP hD hS
  unfold f_M_takes at hf
  refine lv_aload_n hx hb d_M_takes_0 rfl (lv_at hl 0 rfl) ?_
  refine va_get (D := (dC, dI)) (ci := 4) (v := .ref (q 18)) (C := R_M) (T := F_M) (N := 38) hx hb hts (fun w h => List.mem_cons_of_mem _ (in_M w h)) hown hK hP 0 rfl rfl 18 (by decide) (hts _ (List.mem_cons_of_mem _ lk_82)) (fun _ h9 => h9) rfl d_M_takes_1 ?_
  refine lv_iload_n hx hb d_M_takes_4 rfl (lv_at hl 1 rfl) ?_
  obtain ⟨hc1, hf⟩ := wk_if hf
  refine va_iald hx hb hK hP 8 7 rfl rfl (wk_inb_ok hc1) d_M_takes_5 ?_
  refine lv_iconst (v := 1) hx hb d_M_takes_6 (by decide) ?_
  refine lv_icmp_ne (tgt := 20) hx hb d_M_takes_7 (by decide) (fun hc2 => ?_) (fun hc2 => ?_)
  ·
    have hf := wk_iff hc2 hf
    exact blk20 I A (upd (upd (fun _ => 0) 1 k1) 2 k2) _ _ _ hf (lv_sub hl [0, 1, 2] rfl) hP hD hS
  ·
    have hf := wk_ift hc2 hf
    refine lv_iload_n hx hb d_M_takes_10 rfl (lv_at hl 2 rfl) ?_
    refine lv_aload_n hx hb d_M_takes_11 rfl (lv_at hl 0 rfl) ?_
    refine va_get (D := (dC, dI)) (ci := 4) (v := .ref (q 19)) (C := R_M) (T := F_M) (N := 38) hx hb hts (fun w h => List.mem_cons_of_mem _ (in_M w h)) hown hK hP 0 rfl rfl 19 (by decide) (hts _ (List.mem_cons_of_mem _ lk_84)) (fun _ h9 => h9) rfl d_M_takes_12 ?_
    refine lv_iload_n hx hb d_M_takes_15 rfl (lv_at hl 1 rfl) ?_
    obtain ⟨hc3, hf⟩ := wk_if hf
    refine va_iald hx hb hK hP 9 8 rfl rfl (wk_inb_ok hc3) d_M_takes_16 ?_
    refine lv_icmp_eq (tgt := 66) hx hb d_M_takes_17 (by decide) (fun hc4 => ?_) (fun hc4 => ?_)
    ·
      have hf := wk_ift hc4 hf
      exact blk66 I A (upd (upd (fun _ => 0) 1 k1) 2 k2) _ _ _ hf (lv_sub hl [0, 1, 2] rfl) hP hD hS
    ·
      have hf := wk_iff hc4 hf
      exact blk20 I A (upd (upd (fun _ => 0) 1 k1) 2 k2) _ _ _ hf (lv_sub hl [0, 1, 2] rfl) hP hD hS

set_option maxHeartbeats 8000000 in
set_option maxRecDepth 100000 in
theorem cm_M_longest (l : Launch) (dC : Nat → ClassId) (dI : Nat → Nat → Nat) (h : Nat) (q : Nat → Nat) (g : Nat → ClassId) (sz : Nat) (I : MI) (A : MA) (k1 : Int32) (r : Int32) (I' : MI) (A' : MA) (hf : f_M_longest I A k1 = some (r, I', A')) : Met l y_M_longest w_M_longest ({ frames := 3, cells := 0, slots := 0, locals := 68 }) (va_Pc [.ref h, .int k1] (fun U => U.heap.size = sz ∧ va_P (dC, dI) vwCl (mw_W h q g I A) U.heap ∧ va_K (dC, dI) vwCl (mw_T g) U ∧ va_D (fun _ => True) (mw_W h q g I A))) (va_Qi (fun (r9 : Int32) (_ : Unit) => r9 = r) (fun (_ : Unit) t => va_P (dC, dI) vwCl (mw_W h q g I' A') t.heap ∧ va_K (dC, dI) vwCl (mw_T g) t ∧ va_D (va_A (mw_W h q g I A) sz) (mw_W h q g I' A')) (va_A (mw_W h q g I A) sz)) 0 0 (va_A (mw_W h q g I A) sz) := by
  refine Met.ofW (cc := prog_6_method_43_code) (maxL := 6) (ret := (some .int)) (by decide) rfl ?_
  intro p e s m args below meth c s₁ B hml hv
  obtain ⟨rfl, hsz, hP, hK, hD0⟩ := hv
  have hx := B.exec
  have hb := B.bytes
  have hr := B.returns
  have hts := atoms_spec (ws := w_M_longest) B.pre
  have hown : s.vm.findClass R_M = some m.cls := findClass_of_methodNamed B.named
  have hlocks := B.notSynchronized
  subst hsz
  have hD := hD0.self (sz := s.heap.size)
  generalize hAe : va_A (mw_W h q g I A) s.heap.size = B9 at hD ⊢
  have hA : ∀ q : Nat, s.heap.size ≤ q → B9 q := fun q h => by rw [← hAe]; exact Or.inr h
  clear hAe
  have hS : va_S B9 s.heap s.heap [] := va_S.rf
  have hl := lv_entry ([.ref h, .int k1]) (n := 6) (Nat.le_of_ble_eq_true rfl)
  rw [lg_entry_eq]
  generalize (lg_sl ([.ref h, .int k1]) ++ List.replicate (6 - (lg_sl ([.ref h, .int k1])).length) Slot.unset).toArray = ls at hl ⊢
  have hl : lv_has ls 6 [(0, .ref h), (1, .int k1)] := hl
  have blk28 : ∀ (rc : Nat → MI → MA → (Nat → Int32) → Option (Int32 × MI × MA)) (hrc2 : ∀ (I : MI) (A : MA) (X : Nat → Int32) (ls : Array Slot) (H : Heap) (locs : List Loc), rc 2 I A X = some (r, I', A') → lv_has ls 6 [(0, .ref h), (1, .int (X 1)), (2, .int (X 2))] → va_P (dC, dI) vwCl (mw_W h q g I A) H → va_D B9 (mw_W h q g I A) → va_S B9 s.heap H locs → W p l e (headSpec w_M_longest ({ frames := 3, cells := 0, slots := 0, locals := 68 })).room s m ([.ref h, .int k1] : List Value).toArray below meth c H locs 0 0 (MQ below (va_Qi (fun (r9 : Int32) (_ : Unit) => r9 = r) (fun (_ : Unit) t => va_P (dC, dI) vwCl (mw_W h q g I' A') t.heap ∧ va_K (dC, dI) vwCl (mw_T g) t ∧ va_D B9 (mw_W h q g I' A')) B9) ([.ref h, .int k1] : List Value).toArray s 0 0 B9) (F0 m 2 ls [])) (hrc42 : ∀ (I : MI) (A : MA) (X : Nat → Int32) (ls : Array Slot) (H : Heap) (locs : List Loc), rc 42 I A X = some (r, I', A') → lv_has ls 6 [(0, .ref h), (1, .int (X 1)), (2, .int (X 2)), (3, .int (X 3)), (4, .int (X 4))] → va_P (dC, dI) vwCl (mw_W h q g I A) H → va_D B9 (mw_W h q g I A) → va_S B9 s.heap H locs → W p l e (headSpec w_M_longest ({ frames := 3, cells := 0, slots := 0, locals := 68 })).room s m ([.ref h, .int k1] : List Value).toArray below meth c H locs 0 0 (MQ below (va_Qi (fun (r9 : Int32) (_ : Unit) => r9 = r) (fun (_ : Unit) t => va_P (dC, dI) vwCl (mw_W h q g I' A') t.heap ∧ va_K (dC, dI) vwCl (mw_T g) t ∧ va_D B9 (mw_W h q g I' A')) B9) ([.ref h, .int k1] : List Value).toArray s 0 0 B9) (F0 m 42 ls [])) (hrc81 : ∀ (I : MI) (A : MA) (X : Nat → Int32) (ls : Array Slot) (H : Heap) (locs : List Loc), rc 81 I A X = some (r, I', A') → lv_has ls 6 [(0, .ref h), (1, .int (X 1)), (2, .int (X 2)), (3, .int (X 3)), (4, .int (X 4)), (5, .int (X 5))] → va_P (dC, dI) vwCl (mw_W h q g I A) H → va_D B9 (mw_W h q g I A) → va_S B9 s.heap H locs → W p l e (headSpec w_M_longest ({ frames := 3, cells := 0, slots := 0, locals := 68 })).room s m ([.ref h, .int k1] : List Value).toArray below meth c H locs 0 0 (MQ below (va_Qi (fun (r9 : Int32) (_ : Unit) => r9 = r) (fun (_ : Unit) t => va_P (dC, dI) vwCl (mw_W h q g I' A') t.heap ∧ va_K (dC, dI) vwCl (mw_T g) t ∧ va_D B9 (mw_W h q g I' A')) B9) ([.ref h, .int k1] : List Value).toArray s 0 0 B9) (F0 m 81 ls [])) (hrc107 : ∀ (I : MI) (A : MA) (X : Nat → Int32) (ls : Array Slot) (H : Heap) (locs : List Loc), rc 107 I A X = some (r, I', A') → lv_has ls 6 [(0, .ref h), (1, .int (X 1)), (2, .int (X 2)), (3, .int (X 3)), (4, .int (X 4)), (5, .int (X 5))] → va_P (dC, dI) vwCl (mw_W h q g I A) H → va_D B9 (mw_W h q g I A) → va_S B9 s.heap H locs → W p l e (headSpec w_M_longest ({ frames := 3, cells := 0, slots := 0, locals := 68 })).room s m ([.ref h, .int k1] : List Value).toArray below meth c H locs 0 0 (MQ below (va_Qi (fun (r9 : Int32) (_ : Unit) => r9 = r) (fun (_ : Unit) t => va_P (dC, dI) vwCl (mw_W h q g I' A') t.heap ∧ va_K (dC, dI) vwCl (mw_T g) t ∧ va_D B9 (mw_W h q g I' A')) B9) ([.ref h, .int k1] : List Value).toArray s 0 0 B9) (F0 m 107 ls [])) (hrc173 : ∀ (I : MI) (A : MA) (X : Nat → Int32) (ls : Array Slot) (H : Heap) (locs : List Loc), rc 173 I A X = some (r, I', A') → lv_has ls 6 [(0, .ref h), (1, .int (X 1)), (2, .int (X 2)), (3, .int (X 3)), (4, .int (X 4)), (5, .int (X 5))] → va_P (dC, dI) vwCl (mw_W h q g I A) H → va_D B9 (mw_W h q g I A) → va_S B9 s.heap H locs → W p l e (headSpec w_M_longest ({ frames := 3, cells := 0, slots := 0, locals := 68 })).room s m ([.ref h, .int k1] : List Value).toArray below meth c H locs 0 0 (MQ below (va_Qi (fun (r9 : Int32) (_ : Unit) => r9 = r) (fun (_ : Unit) t => va_P (dC, dI) vwCl (mw_W h q g I' A') t.heap ∧ va_K (dC, dI) vwCl (mw_T g) t ∧ va_D B9 (mw_W h q g I' A')) B9) ([.ref h, .int k1] : List Value).toArray s 0 0 B9) (F0 m 173 ls [])), ∀ (I : MI) (A : MA) (X : Nat → Int32) (s0 : Int32) (s1 : Int32) (ls : Array Slot) (H : Heap) (locs : List Loc), f_M_longest_28 rc I A X s0 s1 = some (r, I', A') → lv_has ls 6 [(0, .ref h), (1, .int (X 1)), (2, .int (X 2))] → va_P (dC, dI) vwCl (mw_W h q g I A) H → va_D B9 (mw_W h q g I A) → va_S B9 s.heap H locs → W p l e (headSpec w_M_longest ({ frames := 3, cells := 0, slots := 0, locals := 68 })).room s m ([.ref h, .int k1] : List Value).toArray below meth c H locs 0 0 (MQ below (va_Qi (fun (r9 : Int32) (_ : Unit) => r9 = r) (fun (_ : Unit) t => va_P (dC, dI) vwCl (mw_W h q g I' A') t.heap ∧ va_K (dC, dI) vwCl (mw_T g) t ∧ va_D B9 (mw_W h q g I' A')) B9) ([.ref h, .int k1] : List Value).toArray s 0 0 B9) (F0 m 28 ls [.int s0, .int s1, .ref (q 32)]) := by
    intro rc hrc2 hrc42 hrc81 hrc107 hrc173 I A X s0 s1 ls H locs hf hl hP hD hS
    unfold f_M_longest_28 at hf
    obtain ⟨hc1, hf⟩ := wk_if hf
    refine va_zast hx hb hK hP hD hS 18 17 rfl rfl (wk_inb_ok hc1) d_M_longest_28 (fun H locs hP hD hS => ?_)
    obtain ⟨A1, hA1, hf⟩ := wk_letE hf
    have hP : va_P (dC, dI) vwCl (mw_W h q g I A1) H := by rw [hA1]; exact hP
    have hD : va_D B9 (mw_W h q g I A1) := by rw [hA1]; exact hD
    clear hA1
    refine lv_iinc (k := 2) (v := ((X 2) + 1)) (lv' := [(2, .int ((X 2) + 1)), (0, .ref h), (1, .int (X 1))]) hx hb d_M_longest_29 hl rfl (wk_inc (by decide)) (by decide) rfl (fun ls hl => ?_)
    have hl : lv_has ls 6 [(2, .int ((X 2) + 1)), (0, .ref h), (1, .int (X 1))] := hl
    refine lv_goto (tgt := 2) hx hb d_M_longest_32 (by decide) ?_
    exact hrc2 I A1 (upd X 2 ((X 2) + 1)) _ _ _ hf (lv_sub hl [1, 2, 0] rfl) hP hD hS
  have stp2 : ∀ (rc : Nat → MI → MA → (Nat → Int32) → Option (Int32 × MI × MA)) (hrc2 : ∀ (I : MI) (A : MA) (X : Nat → Int32) (ls : Array Slot) (H : Heap) (locs : List Loc), rc 2 I A X = some (r, I', A') → lv_has ls 6 [(0, .ref h), (1, .int (X 1)), (2, .int (X 2))] → va_P (dC, dI) vwCl (mw_W h q g I A) H → va_D B9 (mw_W h q g I A) → va_S B9 s.heap H locs → W p l e (headSpec w_M_longest ({ frames := 3, cells := 0, slots := 0, locals := 68 })).room s m ([.ref h, .int k1] : List Value).toArray below meth c H locs 0 0 (MQ below (va_Qi (fun (r9 : Int32) (_ : Unit) => r9 = r) (fun (_ : Unit) t => va_P (dC, dI) vwCl (mw_W h q g I' A') t.heap ∧ va_K (dC, dI) vwCl (mw_T g) t ∧ va_D B9 (mw_W h q g I' A')) B9) ([.ref h, .int k1] : List Value).toArray s 0 0 B9) (F0 m 2 ls [])) (hrc42 : ∀ (I : MI) (A : MA) (X : Nat → Int32) (ls : Array Slot) (H : Heap) (locs : List Loc), rc 42 I A X = some (r, I', A') → lv_has ls 6 [(0, .ref h), (1, .int (X 1)), (2, .int (X 2)), (3, .int (X 3)), (4, .int (X 4))] → va_P (dC, dI) vwCl (mw_W h q g I A) H → va_D B9 (mw_W h q g I A) → va_S B9 s.heap H locs → W p l e (headSpec w_M_longest ({ frames := 3, cells := 0, slots := 0, locals := 68 })).room s m ([.ref h, .int k1] : List Value).toArray below meth c H locs 0 0 (MQ below (va_Qi (fun (r9 : Int32) (_ : Unit) => r9 = r) (fun (_ : Unit) t => va_P (dC, dI) vwCl (mw_W h q g I' A') t.heap ∧ va_K (dC, dI) vwCl (mw_T g) t ∧ va_D B9 (mw_W h q g I' A')) B9) ([.ref h, .int k1] : List Value).toArray s 0 0 B9) (F0 m 42 ls [])) (hrc81 : ∀ (I : MI) (A : MA) (X : Nat → Int32) (ls : Array Slot) (H : Heap) (locs : List Loc), rc 81 I A X = some (r, I', A') → lv_has ls 6 [(0, .ref h), (1, .int (X 1)), (2, .int (X 2)), (3, .int (X 3)), (4, .int (X 4)), (5, .int (X 5))] → va_P (dC, dI) vwCl (mw_W h q g I A) H → va_D B9 (mw_W h q g I A) → va_S B9 s.heap H locs → W p l e (headSpec w_M_longest ({ frames := 3, cells := 0, slots := 0, locals := 68 })).room s m ([.ref h, .int k1] : List Value).toArray below meth c H locs 0 0 (MQ below (va_Qi (fun (r9 : Int32) (_ : Unit) => r9 = r) (fun (_ : Unit) t => va_P (dC, dI) vwCl (mw_W h q g I' A') t.heap ∧ va_K (dC, dI) vwCl (mw_T g) t ∧ va_D B9 (mw_W h q g I' A')) B9) ([.ref h, .int k1] : List Value).toArray s 0 0 B9) (F0 m 81 ls [])) (hrc107 : ∀ (I : MI) (A : MA) (X : Nat → Int32) (ls : Array Slot) (H : Heap) (locs : List Loc), rc 107 I A X = some (r, I', A') → lv_has ls 6 [(0, .ref h), (1, .int (X 1)), (2, .int (X 2)), (3, .int (X 3)), (4, .int (X 4)), (5, .int (X 5))] → va_P (dC, dI) vwCl (mw_W h q g I A) H → va_D B9 (mw_W h q g I A) → va_S B9 s.heap H locs → W p l e (headSpec w_M_longest ({ frames := 3, cells := 0, slots := 0, locals := 68 })).room s m ([.ref h, .int k1] : List Value).toArray below meth c H locs 0 0 (MQ below (va_Qi (fun (r9 : Int32) (_ : Unit) => r9 = r) (fun (_ : Unit) t => va_P (dC, dI) vwCl (mw_W h q g I' A') t.heap ∧ va_K (dC, dI) vwCl (mw_T g) t ∧ va_D B9 (mw_W h q g I' A')) B9) ([.ref h, .int k1] : List Value).toArray s 0 0 B9) (F0 m 107 ls [])) (hrc173 : ∀ (I : MI) (A : MA) (X : Nat → Int32) (ls : Array Slot) (H : Heap) (locs : List Loc), rc 173 I A X = some (r, I', A') → lv_has ls 6 [(0, .ref h), (1, .int (X 1)), (2, .int (X 2)), (3, .int (X 3)), (4, .int (X 4)), (5, .int (X 5))] → va_P (dC, dI) vwCl (mw_W h q g I A) H → va_D B9 (mw_W h q g I A) → va_S B9 s.heap H locs → W p l e (headSpec w_M_longest ({ frames := 3, cells := 0, slots := 0, locals := 68 })).room s m ([.ref h, .int k1] : List Value).toArray below meth c H locs 0 0 (MQ below (va_Qi (fun (r9 : Int32) (_ : Unit) => r9 = r) (fun (_ : Unit) t => va_P (dC, dI) vwCl (mw_W h q g I' A') t.heap ∧ va_K (dC, dI) vwCl (mw_T g) t ∧ va_D B9 (mw_W h q g I' A')) B9) ([.ref h, .int k1] : List Value).toArray s 0 0 B9) (F0 m 173 ls [])), ∀ (I : MI) (A : MA) (X : Nat → Int32) (ls : Array Slot) (H : Heap) (locs : List Loc), f_M_longest_2 rc I A X = some (r, I', A') → lv_has ls 6 [(0, .ref h), (1, .int (X 1)), (2, .int (X 2))] → va_P (dC, dI) vwCl (mw_W h q g I A) H → va_D B9 (mw_W h q g I A) → va_S B9 s.heap H locs → W p l e (headSpec w_M_longest ({ frames := 3, cells := 0, slots := 0, locals := 68 })).room s m ([.ref h, .int k1] : List Value).toArray below meth c H locs 0 0 (MQ below (va_Qi (fun (r9 : Int32) (_ : Unit) => r9 = r) (fun (_ : Unit) t => va_P (dC, dI) vwCl (mw_W h q g I' A') t.heap ∧ va_K (dC, dI) vwCl (mw_T g) t ∧ va_D B9 (mw_W h q g I' A')) B9) ([.ref h, .int k1] : List Value).toArray s 0 0 B9) (F0 m 2 ls []) := by
    intro rc hrc2 hrc42 hrc81 hrc107 hrc173 I A X ls H locs hf hl hP hD hS
    unfold f_M_longest_2 at hf
    refine lv_iload_n hx hb d_M_longest_2 rfl (lv_at hl 2 rfl) ?_
    refine lv_aload_n hx hb d_M_longest_3 rfl (lv_at hl 0 rfl) ?_
    refine va_get (D := (dC, dI)) (ci := 4) (v := .int (I 17)) (C := R_M) (T := F_M) (N := 38) hx hb hts (fun w h => List.mem_cons_of_mem _ (in_M w h)) hown hK hP 0 rfl rfl 17 (by decide) (hts _ (List.mem_cons_of_mem _ lk_83)) (fun _ h9 => h9) rfl d_M_longest_4 ?_
    refine lv_icmp_ge (tgt := 35) hx hb d_M_longest_7 (by decide) (fun hc1 => ?_) (fun hc1 => ?_)
    ·
      have hf := wk_ift hc1 hf
      refine lv_iconst (v := (-1)) hx hb d_M_longest_35 (by decide) ?_
      refine lv_istore_n (lv' := [(2, .int (-1)), (0, .ref h), (1, .int (X 1))]) hx hb d_M_longest_36 rfl hl (by decide) rfl (fun ls hl => ?_)
      have hl : lv_has ls 6 [(2, .int (-1)), (0, .ref h), (1, .int (X 1))] := hl
      refine lv_iload_n hx hb d_M_longest_37 rfl (lv_at hl 2 rfl) ?_
      refine lv_istore_n (lv' := [(3, .int (X 1)), (2, .int (-1)), (0, .ref h), (1, .int (X 1))]) hx hb d_M_longest_38 rfl hl (by decide) rfl (fun ls hl => ?_)
      have hl : lv_has ls 6 [(3, .int (X 1)), (2, .int (-1)), (0, .ref h), (1, .int (X 1))] := hl
      refine lv_iconst (v := 1) hx hb d_M_longest_39 (by decide) ?_
      refine lv_istore (lv' := [(4, .int 1), (3, .int (X 1)), (2, .int (-1)), (0, .ref h), (1, .int (X 1))]) hx hb d_M_longest_40 hl (by decide) rfl (fun ls hl => ?_)
      have hl : lv_has ls 6 [(4, .int 1), (3, .int (X 1)), (2, .int (-1)), (0, .ref h), (1, .int (X 1))] := hl
      exact hrc42 I A (upd (upd (upd X 2 (-1)) 3 (X 1)) 4 1) _ _ _ hf (lv_sub hl [3, 4, 2, 1, 0] rfl) hP hD hS
    ·
      have hf := wk_iff hc1 hf
      refine lv_aload_n hx hb d_M_longest_10 rfl (lv_at hl 0 rfl) ?_
      refine va_get (D := (dC, dI)) (ci := 4) (v := .ref (q 32)) (C := R_M) (T := F_M) (N := 38) hx hb hts (fun w h => List.mem_cons_of_mem _ (in_M w h)) hown hK hP 0 rfl rfl 32 (by decide) (hts _ (List.mem_cons_of_mem _ lk_172)) (fun _ h9 => h9) rfl d_M_longest_11 ?_
      refine lv_iload_n hx hb d_M_longest_14 rfl (lv_at hl 2 rfl) ?_
      refine lv_iload_n hx hb d_M_longest_15 rfl (lv_at hl 2 rfl) ?_
      refine lv_aload_n hx hb d_M_longest_16 rfl (lv_at hl 0 rfl) ?_
      refine va_get (D := (dC, dI)) (ci := 4) (v := .int (I 23)) (C := R_M) (T := F_M) (N := 38) hx hb hts (fun w h => List.mem_cons_of_mem _ (in_M w h)) hown hK hP 0 rfl rfl 23 (by decide) (hts _ (List.mem_cons_of_mem _ lk_140)) (fun _ h9 => h9) rfl d_M_longest_17 ?_
      refine lv_icmp_ne (tgt := 27) hx hb d_M_longest_20 (by decide) (fun hc2 => ?_) (fun hc2 => ?_)
      ·
        have hf := wk_iff hc2 hf
        refine lv_iconst (v := 0) hx hb d_M_longest_27 (by decide) ?_
        exact blk28 rc hrc2 hrc42 hrc81 hrc107 hrc173 I A X 0 (X 2) _ _ _ hf (lv_sub hl [0, 1, 2] rfl) hP hD hS
      ·
        have hf := wk_ift hc2 hf
        refine lv_iconst (v := 1) hx hb d_M_longest_23 (by decide) ?_
        refine lv_goto (tgt := 28) hx hb d_M_longest_24 (by decide) ?_
        exact blk28 rc hrc2 hrc42 hrc81 hrc107 hrc173 I A X 1 (X 2) _ _ _ hf (lv_sub hl [0, 1, 2] rfl) hP hD hS
  have blk74 : ∀ (rc : Nat → MI → MA → (Nat → Int32) → Option (Int32 × MI × MA)) (hrc2 : ∀ (I : MI) (A : MA) (X : Nat → Int32) (ls : Array Slot) (H : Heap) (locs : List Loc), rc 2 I A X = some (r, I', A') → lv_has ls 6 [(0, .ref h), (1, .int (X 1)), (2, .int (X 2))] → va_P (dC, dI) vwCl (mw_W h q g I A) H → va_D B9 (mw_W h q g I A) → va_S B9 s.heap H locs → W p l e (headSpec w_M_longest ({ frames := 3, cells := 0, slots := 0, locals := 68 })).room s m ([.ref h, .int k1] : List Value).toArray below meth c H locs 0 0 (MQ below (va_Qi (fun (r9 : Int32) (_ : Unit) => r9 = r) (fun (_ : Unit) t => va_P (dC, dI) vwCl (mw_W h q g I' A') t.heap ∧ va_K (dC, dI) vwCl (mw_T g) t ∧ va_D B9 (mw_W h q g I' A')) B9) ([.ref h, .int k1] : List Value).toArray s 0 0 B9) (F0 m 2 ls [])) (hrc42 : ∀ (I : MI) (A : MA) (X : Nat → Int32) (ls : Array Slot) (H : Heap) (locs : List Loc), rc 42 I A X = some (r, I', A') → lv_has ls 6 [(0, .ref h), (1, .int (X 1)), (2, .int (X 2)), (3, .int (X 3)), (4, .int (X 4))] → va_P (dC, dI) vwCl (mw_W h q g I A) H → va_D B9 (mw_W h q g I A) → va_S B9 s.heap H locs → W p l e (headSpec w_M_longest ({ frames := 3, cells := 0, slots := 0, locals := 68 })).room s m ([.ref h, .int k1] : List Value).toArray below meth c H locs 0 0 (MQ below (va_Qi (fun (r9 : Int32) (_ : Unit) => r9 = r) (fun (_ : Unit) t => va_P (dC, dI) vwCl (mw_W h q g I' A') t.heap ∧ va_K (dC, dI) vwCl (mw_T g) t ∧ va_D B9 (mw_W h q g I' A')) B9) ([.ref h, .int k1] : List Value).toArray s 0 0 B9) (F0 m 42 ls [])) (hrc81 : ∀ (I : MI) (A : MA) (X : Nat → Int32) (ls : Array Slot) (H : Heap) (locs : List Loc), rc 81 I A X = some (r, I', A') → lv_has ls 6 [(0, .ref h), (1, .int (X 1)), (2, .int (X 2)), (3, .int (X 3)), (4, .int (X 4)), (5, .int (X 5))] → va_P (dC, dI) vwCl (mw_W h q g I A) H → va_D B9 (mw_W h q g I A) → va_S B9 s.heap H locs → W p l e (headSpec w_M_longest ({ frames := 3, cells := 0, slots := 0, locals := 68 })).room s m ([.ref h, .int k1] : List Value).toArray below meth c H locs 0 0 (MQ below (va_Qi (fun (r9 : Int32) (_ : Unit) => r9 = r) (fun (_ : Unit) t => va_P (dC, dI) vwCl (mw_W h q g I' A') t.heap ∧ va_K (dC, dI) vwCl (mw_T g) t ∧ va_D B9 (mw_W h q g I' A')) B9) ([.ref h, .int k1] : List Value).toArray s 0 0 B9) (F0 m 81 ls [])) (hrc107 : ∀ (I : MI) (A : MA) (X : Nat → Int32) (ls : Array Slot) (H : Heap) (locs : List Loc), rc 107 I A X = some (r, I', A') → lv_has ls 6 [(0, .ref h), (1, .int (X 1)), (2, .int (X 2)), (3, .int (X 3)), (4, .int (X 4)), (5, .int (X 5))] → va_P (dC, dI) vwCl (mw_W h q g I A) H → va_D B9 (mw_W h q g I A) → va_S B9 s.heap H locs → W p l e (headSpec w_M_longest ({ frames := 3, cells := 0, slots := 0, locals := 68 })).room s m ([.ref h, .int k1] : List Value).toArray below meth c H locs 0 0 (MQ below (va_Qi (fun (r9 : Int32) (_ : Unit) => r9 = r) (fun (_ : Unit) t => va_P (dC, dI) vwCl (mw_W h q g I' A') t.heap ∧ va_K (dC, dI) vwCl (mw_T g) t ∧ va_D B9 (mw_W h q g I' A')) B9) ([.ref h, .int k1] : List Value).toArray s 0 0 B9) (F0 m 107 ls [])) (hrc173 : ∀ (I : MI) (A : MA) (X : Nat → Int32) (ls : Array Slot) (H : Heap) (locs : List Loc), rc 173 I A X = some (r, I', A') → lv_has ls 6 [(0, .ref h), (1, .int (X 1)), (2, .int (X 2)), (3, .int (X 3)), (4, .int (X 4)), (5, .int (X 5))] → va_P (dC, dI) vwCl (mw_W h q g I A) H → va_D B9 (mw_W h q g I A) → va_S B9 s.heap H locs → W p l e (headSpec w_M_longest ({ frames := 3, cells := 0, slots := 0, locals := 68 })).room s m ([.ref h, .int k1] : List Value).toArray below meth c H locs 0 0 (MQ below (va_Qi (fun (r9 : Int32) (_ : Unit) => r9 = r) (fun (_ : Unit) t => va_P (dC, dI) vwCl (mw_W h q g I' A') t.heap ∧ va_K (dC, dI) vwCl (mw_T g) t ∧ va_D B9 (mw_W h q g I' A')) B9) ([.ref h, .int k1] : List Value).toArray s 0 0 B9) (F0 m 173 ls [])), ∀ (I : MI) (A : MA) (X : Nat → Int32) (s0 : Int32) (ls : Array Slot) (H : Heap) (locs : List Loc), f_M_longest_74 rc I A X s0 = some (r, I', A') → lv_has ls 6 [(0, .ref h), (1, .int (X 1)), (2, .int (X 2)), (3, .int (X 3)), (4, .int (X 4))] → va_P (dC, dI) vwCl (mw_W h q g I A) H → va_D B9 (mw_W h q g I A) → va_S B9 s.heap H locs → W p l e (headSpec w_M_longest ({ frames := 3, cells := 0, slots := 0, locals := 68 })).room s m ([.ref h, .int k1] : List Value).toArray below meth c H locs 0 0 (MQ below (va_Qi (fun (r9 : Int32) (_ : Unit) => r9 = r) (fun (_ : Unit) t => va_P (dC, dI) vwCl (mw_W h q g I' A') t.heap ∧ va_K (dC, dI) vwCl (mw_T g) t ∧ va_D B9 (mw_W h q g I' A')) B9) ([.ref h, .int k1] : List Value).toArray s 0 0 B9) (F0 m 74 ls [.int s0]) := by
    intro rc hrc2 hrc42 hrc81 hrc107 hrc173 I A X s0 ls H locs hf hl hP hD hS
    unfold f_M_longest_74 at hf
    refine lv_istore_n (lv' := [(2, .int s0), (0, .ref h), (1, .int (X 1)), (3, .int (X 3)), (4, .int (X 4))]) hx hb d_M_longest_74 rfl hl (by decide) rfl (fun ls hl => ?_)
    have hl : lv_has ls 6 [(2, .int s0), (0, .ref h), (1, .int (X 1)), (3, .int (X 3)), (4, .int (X 4))] := hl
    refine lv_iconst (v := 0) hx hb d_M_longest_75 (by decide) ?_
    refine lv_istore (lv' := [(4, .int 0), (2, .int s0), (0, .ref h), (1, .int (X 1)), (3, .int (X 3))]) hx hb d_M_longest_76 hl (by decide) rfl (fun ls hl => ?_)
    have hl : lv_has ls 6 [(4, .int 0), (2, .int s0), (0, .ref h), (1, .int (X 1)), (3, .int (X 3))] := hl
    refine lv_iconst (v := 0) hx hb d_M_longest_78 (by decide) ?_
    refine lv_istore (lv' := [(5, .int 0), (4, .int 0), (2, .int s0), (0, .ref h), (1, .int (X 1)), (3, .int (X 3))]) hx hb d_M_longest_79 hl (by decide) rfl (fun ls hl => ?_)
    have hl : lv_has ls 6 [(5, .int 0), (4, .int 0), (2, .int s0), (0, .ref h), (1, .int (X 1)), (3, .int (X 3))] := hl
    exact hrc81 I A (upd (upd (upd X 2 s0) 4 0) 5 0) _ _ _ hf (lv_sub hl [3, 4, 2, 5, 1, 0] rfl) hP hD hS
  have blk73 : ∀ (rc : Nat → MI → MA → (Nat → Int32) → Option (Int32 × MI × MA)) (hrc2 : ∀ (I : MI) (A : MA) (X : Nat → Int32) (ls : Array Slot) (H : Heap) (locs : List Loc), rc 2 I A X = some (r, I', A') → lv_has ls 6 [(0, .ref h), (1, .int (X 1)), (2, .int (X 2))] → va_P (dC, dI) vwCl (mw_W h q g I A) H → va_D B9 (mw_W h q g I A) → va_S B9 s.heap H locs → W p l e (headSpec w_M_longest ({ frames := 3, cells := 0, slots := 0, locals := 68 })).room s m ([.ref h, .int k1] : List Value).toArray below meth c H locs 0 0 (MQ below (va_Qi (fun (r9 : Int32) (_ : Unit) => r9 = r) (fun (_ : Unit) t => va_P (dC, dI) vwCl (mw_W h q g I' A') t.heap ∧ va_K (dC, dI) vwCl (mw_T g) t ∧ va_D B9 (mw_W h q g I' A')) B9) ([.ref h, .int k1] : List Value).toArray s 0 0 B9) (F0 m 2 ls [])) (hrc42 : ∀ (I : MI) (A : MA) (X : Nat → Int32) (ls : Array Slot) (H : Heap) (locs : List Loc), rc 42 I A X = some (r, I', A') → lv_has ls 6 [(0, .ref h), (1, .int (X 1)), (2, .int (X 2)), (3, .int (X 3)), (4, .int (X 4))] → va_P (dC, dI) vwCl (mw_W h q g I A) H → va_D B9 (mw_W h q g I A) → va_S B9 s.heap H locs → W p l e (headSpec w_M_longest ({ frames := 3, cells := 0, slots := 0, locals := 68 })).room s m ([.ref h, .int k1] : List Value).toArray below meth c H locs 0 0 (MQ below (va_Qi (fun (r9 : Int32) (_ : Unit) => r9 = r) (fun (_ : Unit) t => va_P (dC, dI) vwCl (mw_W h q g I' A') t.heap ∧ va_K (dC, dI) vwCl (mw_T g) t ∧ va_D B9 (mw_W h q g I' A')) B9) ([.ref h, .int k1] : List Value).toArray s 0 0 B9) (F0 m 42 ls [])) (hrc81 : ∀ (I : MI) (A : MA) (X : Nat → Int32) (ls : Array Slot) (H : Heap) (locs : List Loc), rc 81 I A X = some (r, I', A') → lv_has ls 6 [(0, .ref h), (1, .int (X 1)), (2, .int (X 2)), (3, .int (X 3)), (4, .int (X 4)), (5, .int (X 5))] → va_P (dC, dI) vwCl (mw_W h q g I A) H → va_D B9 (mw_W h q g I A) → va_S B9 s.heap H locs → W p l e (headSpec w_M_longest ({ frames := 3, cells := 0, slots := 0, locals := 68 })).room s m ([.ref h, .int k1] : List Value).toArray below meth c H locs 0 0 (MQ below (va_Qi (fun (r9 : Int32) (_ : Unit) => r9 = r) (fun (_ : Unit) t => va_P (dC, dI) vwCl (mw_W h q g I' A') t.heap ∧ va_K (dC, dI) vwCl (mw_T g) t ∧ va_D B9 (mw_W h q g I' A')) B9) ([.ref h, .int k1] : List Value).toArray s 0 0 B9) (F0 m 81 ls [])) (hrc107 : ∀ (I : MI) (A : MA) (X : Nat → Int32) (ls : Array Slot) (H : Heap) (locs : List Loc), rc 107 I A X = some (r, I', A') → lv_has ls 6 [(0, .ref h), (1, .int (X 1)), (2, .int (X 2)), (3, .int (X 3)), (4, .int (X 4)), (5, .int (X 5))] → va_P (dC, dI) vwCl (mw_W h q g I A) H → va_D B9 (mw_W h q g I A) → va_S B9 s.heap H locs → W p l e (headSpec w_M_longest ({ frames := 3, cells := 0, slots := 0, locals := 68 })).room s m ([.ref h, .int k1] : List Value).toArray below meth c H locs 0 0 (MQ below (va_Qi (fun (r9 : Int32) (_ : Unit) => r9 = r) (fun (_ : Unit) t => va_P (dC, dI) vwCl (mw_W h q g I' A') t.heap ∧ va_K (dC, dI) vwCl (mw_T g) t ∧ va_D B9 (mw_W h q g I' A')) B9) ([.ref h, .int k1] : List Value).toArray s 0 0 B9) (F0 m 107 ls [])) (hrc173 : ∀ (I : MI) (A : MA) (X : Nat → Int32) (ls : Array Slot) (H : Heap) (locs : List Loc), rc 173 I A X = some (r, I', A') → lv_has ls 6 [(0, .ref h), (1, .int (X 1)), (2, .int (X 2)), (3, .int (X 3)), (4, .int (X 4)), (5, .int (X 5))] → va_P (dC, dI) vwCl (mw_W h q g I A) H → va_D B9 (mw_W h q g I A) → va_S B9 s.heap H locs → W p l e (headSpec w_M_longest ({ frames := 3, cells := 0, slots := 0, locals := 68 })).room s m ([.ref h, .int k1] : List Value).toArray below meth c H locs 0 0 (MQ below (va_Qi (fun (r9 : Int32) (_ : Unit) => r9 = r) (fun (_ : Unit) t => va_P (dC, dI) vwCl (mw_W h q g I' A') t.heap ∧ va_K (dC, dI) vwCl (mw_T g) t ∧ va_D B9 (mw_W h q g I' A')) B9) ([.ref h, .int k1] : List Value).toArray s 0 0 B9) (F0 m 173 ls [])), ∀ (I : MI) (A : MA) (X : Nat → Int32) (ls : Array Slot) (H : Heap) (locs : List Loc), f_M_longest_73 rc I A X = some (r, I', A') → lv_has ls 6 [(0, .ref h), (1, .int (X 1)), (2, .int (X 2)), (3, .int (X 3)), (4, .int (X 4))] → va_P (dC, dI) vwCl (mw_W h q g I A) H → va_D B9 (mw_W h q g I A) → va_S B9 s.heap H locs → W p l e (headSpec w_M_longest ({ frames := 3, cells := 0, slots := 0, locals := 68 })).room s m ([.ref h, .int k1] : List Value).toArray below meth c H locs 0 0 (MQ below (va_Qi (fun (r9 : Int32) (_ : Unit) => r9 = r) (fun (_ : Unit) t => va_P (dC, dI) vwCl (mw_W h q g I' A') t.heap ∧ va_K (dC, dI) vwCl (mw_T g) t ∧ va_D B9 (mw_W h q g I' A')) B9) ([.ref h, .int k1] : List Value).toArray s 0 0 B9) (F0 m 73 ls []) := by
    intro rc hrc2 hrc42 hrc81 hrc107 hrc173 I A X ls H locs hf hl hP hD hS
    unfold f_M_longest_73 at hf
    refine lv_iload_n hx hb d_M_longest_73 rfl (lv_at hl 2 rfl) ?_
    exact blk74 rc hrc2 hrc42 hrc81 hrc107 hrc173 I A X (X 2) _ _ _ hf (lv_sub hl [0, 1, 2, 3, 4] rfl) hP hD hS
  have stp42 : ∀ (rc : Nat → MI → MA → (Nat → Int32) → Option (Int32 × MI × MA)) (hrc2 : ∀ (I : MI) (A : MA) (X : Nat → Int32) (ls : Array Slot) (H : Heap) (locs : List Loc), rc 2 I A X = some (r, I', A') → lv_has ls 6 [(0, .ref h), (1, .int (X 1)), (2, .int (X 2))] → va_P (dC, dI) vwCl (mw_W h q g I A) H → va_D B9 (mw_W h q g I A) → va_S B9 s.heap H locs → W p l e (headSpec w_M_longest ({ frames := 3, cells := 0, slots := 0, locals := 68 })).room s m ([.ref h, .int k1] : List Value).toArray below meth c H locs 0 0 (MQ below (va_Qi (fun (r9 : Int32) (_ : Unit) => r9 = r) (fun (_ : Unit) t => va_P (dC, dI) vwCl (mw_W h q g I' A') t.heap ∧ va_K (dC, dI) vwCl (mw_T g) t ∧ va_D B9 (mw_W h q g I' A')) B9) ([.ref h, .int k1] : List Value).toArray s 0 0 B9) (F0 m 2 ls [])) (hrc42 : ∀ (I : MI) (A : MA) (X : Nat → Int32) (ls : Array Slot) (H : Heap) (locs : List Loc), rc 42 I A X = some (r, I', A') → lv_has ls 6 [(0, .ref h), (1, .int (X 1)), (2, .int (X 2)), (3, .int (X 3)), (4, .int (X 4))] → va_P (dC, dI) vwCl (mw_W h q g I A) H → va_D B9 (mw_W h q g I A) → va_S B9 s.heap H locs → W p l e (headSpec w_M_longest ({ frames := 3, cells := 0, slots := 0, locals := 68 })).room s m ([.ref h, .int k1] : List Value).toArray below meth c H locs 0 0 (MQ below (va_Qi (fun (r9 : Int32) (_ : Unit) => r9 = r) (fun (_ : Unit) t => va_P (dC, dI) vwCl (mw_W h q g I' A') t.heap ∧ va_K (dC, dI) vwCl (mw_T g) t ∧ va_D B9 (mw_W h q g I' A')) B9) ([.ref h, .int k1] : List Value).toArray s 0 0 B9) (F0 m 42 ls [])) (hrc81 : ∀ (I : MI) (A : MA) (X : Nat → Int32) (ls : Array Slot) (H : Heap) (locs : List Loc), rc 81 I A X = some (r, I', A') → lv_has ls 6 [(0, .ref h), (1, .int (X 1)), (2, .int (X 2)), (3, .int (X 3)), (4, .int (X 4)), (5, .int (X 5))] → va_P (dC, dI) vwCl (mw_W h q g I A) H → va_D B9 (mw_W h q g I A) → va_S B9 s.heap H locs → W p l e (headSpec w_M_longest ({ frames := 3, cells := 0, slots := 0, locals := 68 })).room s m ([.ref h, .int k1] : List Value).toArray below meth c H locs 0 0 (MQ below (va_Qi (fun (r9 : Int32) (_ : Unit) => r9 = r) (fun (_ : Unit) t => va_P (dC, dI) vwCl (mw_W h q g I' A') t.heap ∧ va_K (dC, dI) vwCl (mw_T g) t ∧ va_D B9 (mw_W h q g I' A')) B9) ([.ref h, .int k1] : List Value).toArray s 0 0 B9) (F0 m 81 ls [])) (hrc107 : ∀ (I : MI) (A : MA) (X : Nat → Int32) (ls : Array Slot) (H : Heap) (locs : List Loc), rc 107 I A X = some (r, I', A') → lv_has ls 6 [(0, .ref h), (1, .int (X 1)), (2, .int (X 2)), (3, .int (X 3)), (4, .int (X 4)), (5, .int (X 5))] → va_P (dC, dI) vwCl (mw_W h q g I A) H → va_D B9 (mw_W h q g I A) → va_S B9 s.heap H locs → W p l e (headSpec w_M_longest ({ frames := 3, cells := 0, slots := 0, locals := 68 })).room s m ([.ref h, .int k1] : List Value).toArray below meth c H locs 0 0 (MQ below (va_Qi (fun (r9 : Int32) (_ : Unit) => r9 = r) (fun (_ : Unit) t => va_P (dC, dI) vwCl (mw_W h q g I' A') t.heap ∧ va_K (dC, dI) vwCl (mw_T g) t ∧ va_D B9 (mw_W h q g I' A')) B9) ([.ref h, .int k1] : List Value).toArray s 0 0 B9) (F0 m 107 ls [])) (hrc173 : ∀ (I : MI) (A : MA) (X : Nat → Int32) (ls : Array Slot) (H : Heap) (locs : List Loc), rc 173 I A X = some (r, I', A') → lv_has ls 6 [(0, .ref h), (1, .int (X 1)), (2, .int (X 2)), (3, .int (X 3)), (4, .int (X 4)), (5, .int (X 5))] → va_P (dC, dI) vwCl (mw_W h q g I A) H → va_D B9 (mw_W h q g I A) → va_S B9 s.heap H locs → W p l e (headSpec w_M_longest ({ frames := 3, cells := 0, slots := 0, locals := 68 })).room s m ([.ref h, .int k1] : List Value).toArray below meth c H locs 0 0 (MQ below (va_Qi (fun (r9 : Int32) (_ : Unit) => r9 = r) (fun (_ : Unit) t => va_P (dC, dI) vwCl (mw_W h q g I' A') t.heap ∧ va_K (dC, dI) vwCl (mw_T g) t ∧ va_D B9 (mw_W h q g I' A')) B9) ([.ref h, .int k1] : List Value).toArray s 0 0 B9) (F0 m 173 ls [])), ∀ (I : MI) (A : MA) (X : Nat → Int32) (ls : Array Slot) (H : Heap) (locs : List Loc), f_M_longest_42 rc I A X = some (r, I', A') → lv_has ls 6 [(0, .ref h), (1, .int (X 1)), (2, .int (X 2)), (3, .int (X 3)), (4, .int (X 4))] → va_P (dC, dI) vwCl (mw_W h q g I A) H → va_D B9 (mw_W h q g I A) → va_S B9 s.heap H locs → W p l e (headSpec w_M_longest ({ frames := 3, cells := 0, slots := 0, locals := 68 })).room s m ([.ref h, .int k1] : List Value).toArray below meth c H locs 0 0 (MQ below (va_Qi (fun (r9 : Int32) (_ : Unit) => r9 = r) (fun (_ : Unit) t => va_P (dC, dI) vwCl (mw_W h q g I' A') t.heap ∧ va_K (dC, dI) vwCl (mw_T g) t ∧ va_D B9 (mw_W h q g I' A')) B9) ([.ref h, .int k1] : List Value).toArray s 0 0 B9) (F0 m 42 ls []) := by
    intro rc hrc2 hrc42 hrc81 hrc107 hrc173 I A X ls H locs hf hl hP hD hS
    unfold f_M_longest_42 at hf
    refine lv_iload hx hb d_M_longest_42 (lv_at hl 4 rfl) ?_
    refine lv_if_eq (tgt := 208) hx hb d_M_longest_44 (by decide) (fun hc1 => ?_) (fun hc1 => ?_)
    ·
      have hf := wk_ift hc1 hf
      refine lv_iload_n hx hb d_M_longest_208 rfl (lv_at hl 2 rfl) ?_
      obtain ⟨e1, e2, e3⟩ := wk_inj hf
      subst e1
      subst e2
      subst e3
      exact W.iret (v := (X 2)) hx hb hr (fun t ht hW => ⟨⟨(X 2), (), rfl, rfl, by rw [ht]; exact hP, va_K.moved hW.alike hK, hD⟩, hS.F ht⟩) hS.2.2 d_M_longest_209
    ·
      have hf := wk_iff hc1 hf
      refine lv_aload_n hx hb d_M_longest_47 rfl (lv_at hl 0 rfl) ?_
      refine lv_iload_n hx hb d_M_longest_48 rfl (lv_at hl 3 rfl) ?_
      have hPc := hP.sub (ws' := (mw_W h q g I A)) [0, 1, 2, 3, 4, 5, 6, 7, 8, 9, 10, 11, 12, 13, 14, 15, 16, 17, 18, 19, 20] rfl
      have hDc := hD.sub (ws' := (mw_W h q g I A)) [0, 1, 2, 3, 4, 5, 6, 7, 8, 9, 10, 11, 12, 13, 14, 15, 16, 17, 18, 19, 20] (by decide) rfl
      have hKc := hK.sub (tys' := (mw_T g)) [0, 1, 2, 3, 4, 5, 6, 7, 8, 9, 10, 11, 12, 13, 14, 15, 16, 17, 18, 19] rfl
      have hFc := va_free (wc := (mw_W h q g I A)) hD hS hA [0, 1, 2, 3, 4, 5, 6, 7, 8, 9, 10, 11, 12, 13, 14, 15, 16, 17, 18, 19, 20] rfl
      cases hg1 : f_M_spread I A (X 3) with
      | none => rw [hg1] at hf; cases hf
      | some z1 =>
        obtain ⟨r1, I1, A1⟩ := z1
        rw [hg1] at hf
        dsimp only [Option.bind_some] at hf
        refine va_callv (va_runV (As := [.int (X 3)]) (rest := []) ⟨hx, hb, hml, hown, hts⟩ (cm_M_spread l dC dI h q g _ I A (X 3) r1 I1 A1 hg1) (cwV 1 hts (gd_v lk_182 lk_183 lk_184 lk_46 lk_181) rfl rfl rfl (by decide +kernel) ⟨Nat.le_of_ble_eq_true rfl, Nat.le_of_ble_eq_true rfl⟩) ⟨fun a U g mk q => by obtain ⟨q0, q1, qP, qK, qD⟩ := q; exact ⟨q0, q1, qP, va_K.moved (u := U) (U := U.calling g mk a) (Vm.Alike.refl U.vm) qK, qD⟩, va_recv (ci := 4) (q0 := 0) hK hP rfl rfl, fun U hU hW => ⟨rfl, by rw [hU], by rw [hU]; exact hPc, va_K.moved hW.alike hKc, hDc.weaken (fun _ _ _ _ => trivial)⟩⟩ rfl rfl hl.1 rfl (lv_room (Nat.le_of_ble_eq_true rfl)) d_M_longest_49 ⟨Nat.le_of_ble_eq_true rfl, Nat.le_of_ble_eq_true rfl⟩) hS (fun q _ h => hFc q h) hFc (fun u t H1 locs ht hvm hw hB hz1 hk1 hS => ?_)
        obtain ⟨hP1, hK1, hD1⟩ := hB
        rw [ht] at hP1
        obtain ⟨hP, hD⟩ := va_join (wr := []) (w1 := (mw_W h q g I1 A1)) hP hD [0, 1, 2, 3, 4, 5, 6, 7, 8, 9, 10, 11, 12, 13, 14, 15, 16, 17, 18, 19, 20] [] rfl rfl (by decide) (by decide) hk1 hFc hP1 hD1
        generalize H1 = H at hP hS ⊢
        have hP : va_P (dC, dI) vwCl (mw_W h q g I1 A1) H := hP
        have hD : va_D B9 (mw_W h q g I1 A1) := hD
        refine lv_aload_n hx hb d_M_longest_52 rfl (lv_at hl 0 rfl) ?_
        refine va_get (D := (dC, dI)) (ci := 4) (v := .ref (q 32)) (C := R_M) (T := F_M) (N := 38) hx hb hts (fun w h => List.mem_cons_of_mem _ (in_M w h)) hown hK hP 0 rfl rfl 32 (by decide) (hts _ (List.mem_cons_of_mem _ lk_172)) (fun _ h9 => h9) rfl d_M_longest_53 ?_
        refine lv_aload_n hx hb d_M_longest_56 rfl (lv_at hl 0 rfl) ?_
        refine va_get (D := (dC, dI)) (ci := 4) (v := .int (I1 24)) (C := R_M) (T := F_M) (N := 38) hx hb hts (fun w h => List.mem_cons_of_mem _ (in_M w h)) hown hK hP 0 rfl rfl 24 (by decide) (hts _ (List.mem_cons_of_mem _ lk_141)) (fun _ h9 => h9) rfl d_M_longest_57 ?_
        obtain ⟨hc2, hf⟩ := wk_if hf
        refine va_zald hx hb hK hP 18 17 rfl rfl (wk_inb_ok hc2) d_M_longest_60 ?_
        refine lv_if_eq (tgt := 73) hx hb d_M_longest_61 (by decide) (fun hc3 => ?_) (fun hc3 => ?_)
        ·
          have hf := wk_ift hc3 hf
          exact blk73 rc hrc2 hrc42 hrc81 hrc107 hrc173 I1 A1 X _ _ _ hf (lv_sub hl [0, 1, 2, 3, 4] rfl) hP hD hS
        ·
          have hf := wk_iff hc3 hf
          refine lv_iload_n hx hb d_M_longest_64 rfl (lv_at hl 3 rfl) ?_
          refine lv_iload_n hx hb d_M_longest_65 rfl (lv_at hl 1 rfl) ?_
          refine lv_icmp_le (tgt := 73) hx hb d_M_longest_66 (by decide) (fun hc4 => ?_) (fun hc4 => ?_)
          ·
            have hf := wk_ift hc4 hf
            exact blk73 rc hrc2 hrc42 hrc81 hrc107 hrc173 I1 A1 X _ _ _ hf (lv_sub hl [0, 1, 2, 3, 4] rfl) hP hD hS
          ·
            have hf := wk_iff hc4 hf
            refine lv_iload_n hx hb d_M_longest_69 rfl (lv_at hl 3 rfl) ?_
            refine lv_goto (tgt := 74) hx hb d_M_longest_70 (by decide) ?_
            exact blk74 rc hrc2 hrc42 hrc81 hrc107 hrc173 I1 A1 X (X 3) _ _ _ hf (lv_sub hl [0, 1, 2, 3, 4] rfl) hP hD hS
  have stp81 : ∀ (rc : Nat → MI → MA → (Nat → Int32) → Option (Int32 × MI × MA)) (hrc2 : ∀ (I : MI) (A : MA) (X : Nat → Int32) (ls : Array Slot) (H : Heap) (locs : List Loc), rc 2 I A X = some (r, I', A') → lv_has ls 6 [(0, .ref h), (1, .int (X 1)), (2, .int (X 2))] → va_P (dC, dI) vwCl (mw_W h q g I A) H → va_D B9 (mw_W h q g I A) → va_S B9 s.heap H locs → W p l e (headSpec w_M_longest ({ frames := 3, cells := 0, slots := 0, locals := 68 })).room s m ([.ref h, .int k1] : List Value).toArray below meth c H locs 0 0 (MQ below (va_Qi (fun (r9 : Int32) (_ : Unit) => r9 = r) (fun (_ : Unit) t => va_P (dC, dI) vwCl (mw_W h q g I' A') t.heap ∧ va_K (dC, dI) vwCl (mw_T g) t ∧ va_D B9 (mw_W h q g I' A')) B9) ([.ref h, .int k1] : List Value).toArray s 0 0 B9) (F0 m 2 ls [])) (hrc42 : ∀ (I : MI) (A : MA) (X : Nat → Int32) (ls : Array Slot) (H : Heap) (locs : List Loc), rc 42 I A X = some (r, I', A') → lv_has ls 6 [(0, .ref h), (1, .int (X 1)), (2, .int (X 2)), (3, .int (X 3)), (4, .int (X 4))] → va_P (dC, dI) vwCl (mw_W h q g I A) H → va_D B9 (mw_W h q g I A) → va_S B9 s.heap H locs → W p l e (headSpec w_M_longest ({ frames := 3, cells := 0, slots := 0, locals := 68 })).room s m ([.ref h, .int k1] : List Value).toArray below meth c H locs 0 0 (MQ below (va_Qi (fun (r9 : Int32) (_ : Unit) => r9 = r) (fun (_ : Unit) t => va_P (dC, dI) vwCl (mw_W h q g I' A') t.heap ∧ va_K (dC, dI) vwCl (mw_T g) t ∧ va_D B9 (mw_W h q g I' A')) B9) ([.ref h, .int k1] : List Value).toArray s 0 0 B9) (F0 m 42 ls [])) (hrc81 : ∀ (I : MI) (A : MA) (X : Nat → Int32) (ls : Array Slot) (H : Heap) (locs : List Loc), rc 81 I A X = some (r, I', A') → lv_has ls 6 [(0, .ref h), (1, .int (X 1)), (2, .int (X 2)), (3, .int (X 3)), (4, .int (X 4)), (5, .int (X 5))] → va_P (dC, dI) vwCl (mw_W h q g I A) H → va_D B9 (mw_W h q g I A) → va_S B9 s.heap H locs → W p l e (headSpec w_M_longest ({ frames := 3, cells := 0, slots := 0, locals := 68 })).room s m ([.ref h, .int k1] : List Value).toArray below meth c H locs 0 0 (MQ below (va_Qi (fun (r9 : Int32) (_ : Unit) => r9 = r) (fun (_ : Unit) t => va_P (dC, dI) vwCl (mw_W h q g I' A') t.heap ∧ va_K (dC, dI) vwCl (mw_T g) t ∧ va_D B9 (mw_W h q g I' A')) B9) ([.ref h, .int k1] : List Value).toArray s 0 0 B9) (F0 m 81 ls [])) (hrc107 : ∀ (I : MI) (A : MA) (X : Nat → Int32) (ls : Array Slot) (H : Heap) (locs : List Loc), rc 107 I A X = some (r, I', A') → lv_has ls 6 [(0, .ref h), (1, .int (X 1)), (2, .int (X 2)), (3, .int (X 3)), (4, .int (X 4)), (5, .int (X 5))] → va_P (dC, dI) vwCl (mw_W h q g I A) H → va_D B9 (mw_W h q g I A) → va_S B9 s.heap H locs → W p l e (headSpec w_M_longest ({ frames := 3, cells := 0, slots := 0, locals := 68 })).room s m ([.ref h, .int k1] : List Value).toArray below meth c H locs 0 0 (MQ below (va_Qi (fun (r9 : Int32) (_ : Unit) => r9 = r) (fun (_ : Unit) t => va_P (dC, dI) vwCl (mw_W h q g I' A') t.heap ∧ va_K (dC, dI) vwCl (mw_T g) t ∧ va_D B9 (mw_W h q g I' A')) B9) ([.ref h, .int k1] : List Value).toArray s 0 0 B9) (F0 m 107 ls [])) (hrc173 : ∀ (I : MI) (A : MA) (X : Nat → Int32) (ls : Array Slot) (H : Heap) (locs : List Loc), rc 173 I A X = some (r, I', A') → lv_has ls 6 [(0, .ref h), (1, .int (X 1)), (2, .int (X 2)), (3, .int (X 3)), (4, .int (X 4)), (5, .int (X 5))] → va_P (dC, dI) vwCl (mw_W h q g I A) H → va_D B9 (mw_W h q g I A) → va_S B9 s.heap H locs → W p l e (headSpec w_M_longest ({ frames := 3, cells := 0, slots := 0, locals := 68 })).room s m ([.ref h, .int k1] : List Value).toArray below meth c H locs 0 0 (MQ below (va_Qi (fun (r9 : Int32) (_ : Unit) => r9 = r) (fun (_ : Unit) t => va_P (dC, dI) vwCl (mw_W h q g I' A') t.heap ∧ va_K (dC, dI) vwCl (mw_T g) t ∧ va_D B9 (mw_W h q g I' A')) B9) ([.ref h, .int k1] : List Value).toArray s 0 0 B9) (F0 m 173 ls [])), ∀ (I : MI) (A : MA) (X : Nat → Int32) (ls : Array Slot) (H : Heap) (locs : List Loc), f_M_longest_81 rc I A X = some (r, I', A') → lv_has ls 6 [(0, .ref h), (1, .int (X 1)), (2, .int (X 2)), (3, .int (X 3)), (4, .int (X 4)), (5, .int (X 5))] → va_P (dC, dI) vwCl (mw_W h q g I A) H → va_D B9 (mw_W h q g I A) → va_S B9 s.heap H locs → W p l e (headSpec w_M_longest ({ frames := 3, cells := 0, slots := 0, locals := 68 })).room s m ([.ref h, .int k1] : List Value).toArray below meth c H locs 0 0 (MQ below (va_Qi (fun (r9 : Int32) (_ : Unit) => r9 = r) (fun (_ : Unit) t => va_P (dC, dI) vwCl (mw_W h q g I' A') t.heap ∧ va_K (dC, dI) vwCl (mw_T g) t ∧ va_D B9 (mw_W h q g I' A')) B9) ([.ref h, .int k1] : List Value).toArray s 0 0 B9) (F0 m 81 ls []) := by
    intro rc hrc2 hrc42 hrc81 hrc107 hrc173 I A X ls H locs hf hl hP hD hS
    unfold f_M_longest_81 at hf
    refine lv_iload hx hb d_M_longest_81 (lv_at hl 5 rfl) ?_
    refine lv_aload_n hx hb d_M_longest_83 rfl (lv_at hl 0 rfl) ?_
    refine va_get (D := (dC, dI)) (ci := 4) (v := .int (I 17)) (C := R_M) (T := F_M) (N := 38) hx hb hts (fun w h => List.mem_cons_of_mem _ (in_M w h)) hown hK hP 0 rfl rfl 17 (by decide) (hts _ (List.mem_cons_of_mem _ lk_83)) (fun _ h9 => h9) rfl d_M_longest_84 ?_
    refine lv_icmp_ge (tgt := 104) hx hb d_M_longest_87 (by decide) (fun hc1 => ?_) (fun hc1 => ?_)
    ·
      have hf := wk_ift hc1 hf
      refine lv_iconst (v := 0) hx hb d_M_longest_104 (by decide) ?_
      refine lv_istore (lv' := [(5, .int 0), (0, .ref h), (1, .int (X 1)), (2, .int (X 2)), (3, .int (X 3)), (4, .int (X 4))]) hx hb d_M_longest_105 hl (by decide) rfl (fun ls hl => ?_)
      have hl : lv_has ls 6 [(5, .int 0), (0, .ref h), (1, .int (X 1)), (2, .int (X 2)), (3, .int (X 3)), (4, .int (X 4))] := hl
      exact hrc107 I A (upd X 5 0) _ _ _ hf (lv_sub hl [1, 2, 3, 4, 5, 0] rfl) hP hD hS
    ·
      have hf := wk_iff hc1 hf
      refine lv_aload_n hx hb d_M_longest_90 rfl (lv_at hl 0 rfl) ?_
      refine va_get (D := (dC, dI)) (ci := 4) (v := .ref (q 33)) (C := R_M) (T := F_M) (N := 38) hx hb hts (fun w h => List.mem_cons_of_mem _ (in_M w h)) hown hK hP 0 rfl rfl 33 (by decide) (hts _ (List.mem_cons_of_mem _ lk_185)) (fun _ h9 => h9) rfl d_M_longest_91 ?_
      refine lv_iload hx hb d_M_longest_94 (lv_at hl 5 rfl) ?_
      refine lv_iconst (v := 0) hx hb d_M_longest_96 (by decide) ?_
      obtain ⟨hc2, hf⟩ := wk_if hf
      refine va_zast hx hb hK hP hD hS 19 18 rfl rfl (wk_inb_ok hc2) d_M_longest_97 (fun H locs hP hD hS => ?_)
      obtain ⟨A1, hA1, hf⟩ := wk_letE hf
      have hP : va_P (dC, dI) vwCl (mw_W h q g I A1) H := by rw [hA1]; exact hP
      have hD : va_D B9 (mw_W h q g I A1) := by rw [hA1]; exact hD
      clear hA1
      refine lv_iinc (k := 5) (v := ((X 5) + 1)) (lv' := [(5, .int ((X 5) + 1)), (0, .ref h), (1, .int (X 1)), (2, .int (X 2)), (3, .int (X 3)), (4, .int (X 4))]) hx hb d_M_longest_98 hl rfl (wk_inc (by decide)) (by decide) rfl (fun ls hl => ?_)
      have hl : lv_has ls 6 [(5, .int ((X 5) + 1)), (0, .ref h), (1, .int (X 1)), (2, .int (X 2)), (3, .int (X 3)), (4, .int (X 4))] := hl
      refine lv_goto (tgt := 81) hx hb d_M_longest_101 (by decide) ?_
      exact hrc81 I A1 (upd X 5 ((X 5) + 1)) _ _ _ hf (lv_sub hl [1, 2, 3, 4, 5, 0] rfl) hP hD hS
  have blk170 : ∀ (rc : Nat → MI → MA → (Nat → Int32) → Option (Int32 × MI × MA)) (hrc2 : ∀ (I : MI) (A : MA) (X : Nat → Int32) (ls : Array Slot) (H : Heap) (locs : List Loc), rc 2 I A X = some (r, I', A') → lv_has ls 6 [(0, .ref h), (1, .int (X 1)), (2, .int (X 2))] → va_P (dC, dI) vwCl (mw_W h q g I A) H → va_D B9 (mw_W h q g I A) → va_S B9 s.heap H locs → W p l e (headSpec w_M_longest ({ frames := 3, cells := 0, slots := 0, locals := 68 })).room s m ([.ref h, .int k1] : List Value).toArray below meth c H locs 0 0 (MQ below (va_Qi (fun (r9 : Int32) (_ : Unit) => r9 = r) (fun (_ : Unit) t => va_P (dC, dI) vwCl (mw_W h q g I' A') t.heap ∧ va_K (dC, dI) vwCl (mw_T g) t ∧ va_D B9 (mw_W h q g I' A')) B9) ([.ref h, .int k1] : List Value).toArray s 0 0 B9) (F0 m 2 ls [])) (hrc42 : ∀ (I : MI) (A : MA) (X : Nat → Int32) (ls : Array Slot) (H : Heap) (locs : List Loc), rc 42 I A X = some (r, I', A') → lv_has ls 6 [(0, .ref h), (1, .int (X 1)), (2, .int (X 2)), (3, .int (X 3)), (4, .int (X 4))] → va_P (dC, dI) vwCl (mw_W h q g I A) H → va_D B9 (mw_W h q g I A) → va_S B9 s.heap H locs → W p l e (headSpec w_M_longest ({ frames := 3, cells := 0, slots := 0, locals := 68 })).room s m ([.ref h, .int k1] : List Value).toArray below meth c H locs 0 0 (MQ below (va_Qi (fun (r9 : Int32) (_ : Unit) => r9 = r) (fun (_ : Unit) t => va_P (dC, dI) vwCl (mw_W h q g I' A') t.heap ∧ va_K (dC, dI) vwCl (mw_T g) t ∧ va_D B9 (mw_W h q g I' A')) B9) ([.ref h, .int k1] : List Value).toArray s 0 0 B9) (F0 m 42 ls [])) (hrc81 : ∀ (I : MI) (A : MA) (X : Nat → Int32) (ls : Array Slot) (H : Heap) (locs : List Loc), rc 81 I A X = some (r, I', A') → lv_has ls 6 [(0, .ref h), (1, .int (X 1)), (2, .int (X 2)), (3, .int (X 3)), (4, .int (X 4)), (5, .int (X 5))] → va_P (dC, dI) vwCl (mw_W h q g I A) H → va_D B9 (mw_W h q g I A) → va_S B9 s.heap H locs → W p l e (headSpec w_M_longest ({ frames := 3, cells := 0, slots := 0, locals := 68 })).room s m ([.ref h, .int k1] : List Value).toArray below meth c H locs 0 0 (MQ below (va_Qi (fun (r9 : Int32) (_ : Unit) => r9 = r) (fun (_ : Unit) t => va_P (dC, dI) vwCl (mw_W h q g I' A') t.heap ∧ va_K (dC, dI) vwCl (mw_T g) t ∧ va_D B9 (mw_W h q g I' A')) B9) ([.ref h, .int k1] : List Value).toArray s 0 0 B9) (F0 m 81 ls [])) (hrc107 : ∀ (I : MI) (A : MA) (X : Nat → Int32) (ls : Array Slot) (H : Heap) (locs : List Loc), rc 107 I A X = some (r, I', A') → lv_has ls 6 [(0, .ref h), (1, .int (X 1)), (2, .int (X 2)), (3, .int (X 3)), (4, .int (X 4)), (5, .int (X 5))] → va_P (dC, dI) vwCl (mw_W h q g I A) H → va_D B9 (mw_W h q g I A) → va_S B9 s.heap H locs → W p l e (headSpec w_M_longest ({ frames := 3, cells := 0, slots := 0, locals := 68 })).room s m ([.ref h, .int k1] : List Value).toArray below meth c H locs 0 0 (MQ below (va_Qi (fun (r9 : Int32) (_ : Unit) => r9 = r) (fun (_ : Unit) t => va_P (dC, dI) vwCl (mw_W h q g I' A') t.heap ∧ va_K (dC, dI) vwCl (mw_T g) t ∧ va_D B9 (mw_W h q g I' A')) B9) ([.ref h, .int k1] : List Value).toArray s 0 0 B9) (F0 m 107 ls [])) (hrc173 : ∀ (I : MI) (A : MA) (X : Nat → Int32) (ls : Array Slot) (H : Heap) (locs : List Loc), rc 173 I A X = some (r, I', A') → lv_has ls 6 [(0, .ref h), (1, .int (X 1)), (2, .int (X 2)), (3, .int (X 3)), (4, .int (X 4)), (5, .int (X 5))] → va_P (dC, dI) vwCl (mw_W h q g I A) H → va_D B9 (mw_W h q g I A) → va_S B9 s.heap H locs → W p l e (headSpec w_M_longest ({ frames := 3, cells := 0, slots := 0, locals := 68 })).room s m ([.ref h, .int k1] : List Value).toArray below meth c H locs 0 0 (MQ below (va_Qi (fun (r9 : Int32) (_ : Unit) => r9 = r) (fun (_ : Unit) t => va_P (dC, dI) vwCl (mw_W h q g I' A') t.heap ∧ va_K (dC, dI) vwCl (mw_T g) t ∧ va_D B9 (mw_W h q g I' A')) B9) ([.ref h, .int k1] : List Value).toArray s 0 0 B9) (F0 m 173 ls [])), ∀ (I : MI) (A : MA) (X : Nat → Int32) (ls : Array Slot) (H : Heap) (locs : List Loc), f_M_longest_170 rc I A X = some (r, I', A') → lv_has ls 6 [(0, .ref h), (1, .int (X 1)), (2, .int (X 2)), (3, .int (X 3)), (4, .int (X 4)), (5, .int (X 5))] → va_P (dC, dI) vwCl (mw_W h q g I A) H → va_D B9 (mw_W h q g I A) → va_S B9 s.heap H locs → W p l e (headSpec w_M_longest ({ frames := 3, cells := 0, slots := 0, locals := 68 })).room s m ([.ref h, .int k1] : List Value).toArray below meth c H locs 0 0 (MQ below (va_Qi (fun (r9 : Int32) (_ : Unit) => r9 = r) (fun (_ : Unit) t => va_P (dC, dI) vwCl (mw_W h q g I' A') t.heap ∧ va_K (dC, dI) vwCl (mw_T g) t ∧ va_D B9 (mw_W h q g I' A')) B9) ([.ref h, .int k1] : List Value).toArray s 0 0 B9) (F0 m 170 ls []) := by
    intro rc hrc2 hrc42 hrc81 hrc107 hrc173 I A X ls H locs hf hl hP hD hS
    unfold f_M_longest_170 at hf
    refine lv_iconst (v := 0) hx hb d_M_longest_170 (by decide) ?_
    refine lv_istore (lv' := [(5, .int 0), (0, .ref h), (1, .int (X 1)), (2, .int (X 2)), (3, .int (X 3)), (4, .int (X 4))]) hx hb d_M_longest_171 hl (by decide) rfl (fun ls hl => ?_)
    have hl : lv_has ls 6 [(5, .int 0), (0, .ref h), (1, .int (X 1)), (2, .int (X 2)), (3, .int (X 3)), (4, .int (X 4))] := hl
    exact hrc173 I A (upd X 5 0) _ _ _ hf (lv_sub hl [1, 2, 3, 4, 5, 0] rfl) hP hD hS
  have blk164 : ∀ (rc : Nat → MI → MA → (Nat → Int32) → Option (Int32 × MI × MA)) (hrc2 : ∀ (I : MI) (A : MA) (X : Nat → Int32) (ls : Array Slot) (H : Heap) (locs : List Loc), rc 2 I A X = some (r, I', A') → lv_has ls 6 [(0, .ref h), (1, .int (X 1)), (2, .int (X 2))] → va_P (dC, dI) vwCl (mw_W h q g I A) H → va_D B9 (mw_W h q g I A) → va_S B9 s.heap H locs → W p l e (headSpec w_M_longest ({ frames := 3, cells := 0, slots := 0, locals := 68 })).room s m ([.ref h, .int k1] : List Value).toArray below meth c H locs 0 0 (MQ below (va_Qi (fun (r9 : Int32) (_ : Unit) => r9 = r) (fun (_ : Unit) t => va_P (dC, dI) vwCl (mw_W h q g I' A') t.heap ∧ va_K (dC, dI) vwCl (mw_T g) t ∧ va_D B9 (mw_W h q g I' A')) B9) ([.ref h, .int k1] : List Value).toArray s 0 0 B9) (F0 m 2 ls [])) (hrc42 : ∀ (I : MI) (A : MA) (X : Nat → Int32) (ls : Array Slot) (H : Heap) (locs : List Loc), rc 42 I A X = some (r, I', A') → lv_has ls 6 [(0, .ref h), (1, .int (X 1)), (2, .int (X 2)), (3, .int (X 3)), (4, .int (X 4))] → va_P (dC, dI) vwCl (mw_W h q g I A) H → va_D B9 (mw_W h q g I A) → va_S B9 s.heap H locs → W p l e (headSpec w_M_longest ({ frames := 3, cells := 0, slots := 0, locals := 68 })).room s m ([.ref h, .int k1] : List Value).toArray below meth c H locs 0 0 (MQ below (va_Qi (fun (r9 : Int32) (_ : Unit) => r9 = r) (fun (_ : Unit) t => va_P (dC, dI) vwCl (mw_W h q g I' A') t.heap ∧ va_K (dC, dI) vwCl (mw_T g) t ∧ va_D B9 (mw_W h q g I' A')) B9) ([.ref h, .int k1] : List Value).toArray s 0 0 B9) (F0 m 42 ls [])) (hrc81 : ∀ (I : MI) (A : MA) (X : Nat → Int32) (ls : Array Slot) (H : Heap) (locs : List Loc), rc 81 I A X = some (r, I', A') → lv_has ls 6 [(0, .ref h), (1, .int (X 1)), (2, .int (X 2)), (3, .int (X 3)), (4, .int (X 4)), (5, .int (X 5))] → va_P (dC, dI) vwCl (mw_W h q g I A) H → va_D B9 (mw_W h q g I A) → va_S B9 s.heap H locs → W p l e (headSpec w_M_longest ({ frames := 3, cells := 0, slots := 0, locals := 68 })).room s m ([.ref h, .int k1] : List Value).toArray below meth c H locs 0 0 (MQ below (va_Qi (fun (r9 : Int32) (_ : Unit) => r9 = r) (fun (_ : Unit) t => va_P (dC, dI) vwCl (mw_W h q g I' A') t.heap ∧ va_K (dC, dI) vwCl (mw_T g) t ∧ va_D B9 (mw_W h q g I' A')) B9) ([.ref h, .int k1] : List Value).toArray s 0 0 B9) (F0 m 81 ls [])) (hrc107 : ∀ (I : MI) (A : MA) (X : Nat → Int32) (ls : Array Slot) (H : Heap) (locs : List Loc), rc 107 I A X = some (r, I', A') → lv_has ls 6 [(0, .ref h), (1, .int (X 1)), (2, .int (X 2)), (3, .int (X 3)), (4, .int (X 4)), (5, .int (X 5))] → va_P (dC, dI) vwCl (mw_W h q g I A) H → va_D B9 (mw_W h q g I A) → va_S B9 s.heap H locs → W p l e (headSpec w_M_longest ({ frames := 3, cells := 0, slots := 0, locals := 68 })).room s m ([.ref h, .int k1] : List Value).toArray below meth c H locs 0 0 (MQ below (va_Qi (fun (r9 : Int32) (_ : Unit) => r9 = r) (fun (_ : Unit) t => va_P (dC, dI) vwCl (mw_W h q g I' A') t.heap ∧ va_K (dC, dI) vwCl (mw_T g) t ∧ va_D B9 (mw_W h q g I' A')) B9) ([.ref h, .int k1] : List Value).toArray s 0 0 B9) (F0 m 107 ls [])) (hrc173 : ∀ (I : MI) (A : MA) (X : Nat → Int32) (ls : Array Slot) (H : Heap) (locs : List Loc), rc 173 I A X = some (r, I', A') → lv_has ls 6 [(0, .ref h), (1, .int (X 1)), (2, .int (X 2)), (3, .int (X 3)), (4, .int (X 4)), (5, .int (X 5))] → va_P (dC, dI) vwCl (mw_W h q g I A) H → va_D B9 (mw_W h q g I A) → va_S B9 s.heap H locs → W p l e (headSpec w_M_longest ({ frames := 3, cells := 0, slots := 0, locals := 68 })).room s m ([.ref h, .int k1] : List Value).toArray below meth c H locs 0 0 (MQ below (va_Qi (fun (r9 : Int32) (_ : Unit) => r9 = r) (fun (_ : Unit) t => va_P (dC, dI) vwCl (mw_W h q g I' A') t.heap ∧ va_K (dC, dI) vwCl (mw_T g) t ∧ va_D B9 (mw_W h q g I' A')) B9) ([.ref h, .int k1] : List Value).toArray s 0 0 B9) (F0 m 173 ls [])), ∀ (I : MI) (A : MA) (X : Nat → Int32) (ls : Array Slot) (H : Heap) (locs : List Loc), f_M_longest_164 rc I A X = some (r, I', A') → lv_has ls 6 [(0, .ref h), (1, .int (X 1)), (2, .int (X 2)), (3, .int (X 3)), (4, .int (X 4)), (5, .int (X 5))] → va_P (dC, dI) vwCl (mw_W h q g I A) H → va_D B9 (mw_W h q g I A) → va_S B9 s.heap H locs → W p l e (headSpec w_M_longest ({ frames := 3, cells := 0, slots := 0, locals := 68 })).room s m ([.ref h, .int k1] : List Value).toArray below meth c H locs 0 0 (MQ below (va_Qi (fun (r9 : Int32) (_ : Unit) => r9 = r) (fun (_ : Unit) t => va_P (dC, dI) vwCl (mw_W h q g I' A') t.heap ∧ va_K (dC, dI) vwCl (mw_T g) t ∧ va_D B9 (mw_W h q g I' A')) B9) ([.ref h, .int k1] : List Value).toArray s 0 0 B9) (F0 m 164 ls []) := by
    intro rc hrc2 hrc42 hrc81 hrc107 hrc173 I A X ls H locs hf hl hP hD hS
    unfold f_M_longest_164 at hf
    refine lv_iinc (k := 5) (v := ((X 5) + 1)) (lv' := [(5, .int ((X 5) + 1)), (0, .ref h), (1, .int (X 1)), (2, .int (X 2)), (3, .int (X 3)), (4, .int (X 4))]) hx hb d_M_longest_164 hl rfl (wk_inc (by decide)) (by decide) rfl (fun ls hl => ?_)
    have hl : lv_has ls 6 [(5, .int ((X 5) + 1)), (0, .ref h), (1, .int (X 1)), (2, .int (X 2)), (3, .int (X 3)), (4, .int (X 4))] := hl
    refine lv_goto (tgt := 107) hx hb d_M_longest_167 (by decide) ?_
    exact hrc107 I A (upd X 5 ((X 5) + 1)) _ _ _ hf (lv_sub hl [1, 2, 3, 4, 5, 0] rfl) hP hD hS
  have stp107 : ∀ (rc : Nat → MI → MA → (Nat → Int32) → Option (Int32 × MI × MA)) (hrc2 : ∀ (I : MI) (A : MA) (X : Nat → Int32) (ls : Array Slot) (H : Heap) (locs : List Loc), rc 2 I A X = some (r, I', A') → lv_has ls 6 [(0, .ref h), (1, .int (X 1)), (2, .int (X 2))] → va_P (dC, dI) vwCl (mw_W h q g I A) H → va_D B9 (mw_W h q g I A) → va_S B9 s.heap H locs → W p l e (headSpec w_M_longest ({ frames := 3, cells := 0, slots := 0, locals := 68 })).room s m ([.ref h, .int k1] : List Value).toArray below meth c H locs 0 0 (MQ below (va_Qi (fun (r9 : Int32) (_ : Unit) => r9 = r) (fun (_ : Unit) t => va_P (dC, dI) vwCl (mw_W h q g I' A') t.heap ∧ va_K (dC, dI) vwCl (mw_T g) t ∧ va_D B9 (mw_W h q g I' A')) B9) ([.ref h, .int k1] : List Value).toArray s 0 0 B9) (F0 m 2 ls [])) (hrc42 : ∀ (I : MI) (A : MA) (X : Nat → Int32) (ls : Array Slot) (H : Heap) (locs : List Loc), rc 42 I A X = some (r, I', A') → lv_has ls 6 [(0, .ref h), (1, .int (X 1)), (2, .int (X 2)), (3, .int (X 3)), (4, .int (X 4))] → va_P (dC, dI) vwCl (mw_W h q g I A) H → va_D B9 (mw_W h q g I A) → va_S B9 s.heap H locs → W p l e (headSpec w_M_longest ({ frames := 3, cells := 0, slots := 0, locals := 68 })).room s m ([.ref h, .int k1] : List Value).toArray below meth c H locs 0 0 (MQ below (va_Qi (fun (r9 : Int32) (_ : Unit) => r9 = r) (fun (_ : Unit) t => va_P (dC, dI) vwCl (mw_W h q g I' A') t.heap ∧ va_K (dC, dI) vwCl (mw_T g) t ∧ va_D B9 (mw_W h q g I' A')) B9) ([.ref h, .int k1] : List Value).toArray s 0 0 B9) (F0 m 42 ls [])) (hrc81 : ∀ (I : MI) (A : MA) (X : Nat → Int32) (ls : Array Slot) (H : Heap) (locs : List Loc), rc 81 I A X = some (r, I', A') → lv_has ls 6 [(0, .ref h), (1, .int (X 1)), (2, .int (X 2)), (3, .int (X 3)), (4, .int (X 4)), (5, .int (X 5))] → va_P (dC, dI) vwCl (mw_W h q g I A) H → va_D B9 (mw_W h q g I A) → va_S B9 s.heap H locs → W p l e (headSpec w_M_longest ({ frames := 3, cells := 0, slots := 0, locals := 68 })).room s m ([.ref h, .int k1] : List Value).toArray below meth c H locs 0 0 (MQ below (va_Qi (fun (r9 : Int32) (_ : Unit) => r9 = r) (fun (_ : Unit) t => va_P (dC, dI) vwCl (mw_W h q g I' A') t.heap ∧ va_K (dC, dI) vwCl (mw_T g) t ∧ va_D B9 (mw_W h q g I' A')) B9) ([.ref h, .int k1] : List Value).toArray s 0 0 B9) (F0 m 81 ls [])) (hrc107 : ∀ (I : MI) (A : MA) (X : Nat → Int32) (ls : Array Slot) (H : Heap) (locs : List Loc), rc 107 I A X = some (r, I', A') → lv_has ls 6 [(0, .ref h), (1, .int (X 1)), (2, .int (X 2)), (3, .int (X 3)), (4, .int (X 4)), (5, .int (X 5))] → va_P (dC, dI) vwCl (mw_W h q g I A) H → va_D B9 (mw_W h q g I A) → va_S B9 s.heap H locs → W p l e (headSpec w_M_longest ({ frames := 3, cells := 0, slots := 0, locals := 68 })).room s m ([.ref h, .int k1] : List Value).toArray below meth c H locs 0 0 (MQ below (va_Qi (fun (r9 : Int32) (_ : Unit) => r9 = r) (fun (_ : Unit) t => va_P (dC, dI) vwCl (mw_W h q g I' A') t.heap ∧ va_K (dC, dI) vwCl (mw_T g) t ∧ va_D B9 (mw_W h q g I' A')) B9) ([.ref h, .int k1] : List Value).toArray s 0 0 B9) (F0 m 107 ls [])) (hrc173 : ∀ (I : MI) (A : MA) (X : Nat → Int32) (ls : Array Slot) (H : Heap) (locs : List Loc), rc 173 I A X = some (r, I', A') → lv_has ls 6 [(0, .ref h), (1, .int (X 1)), (2, .int (X 2)), (3, .int (X 3)), (4, .int (X 4)), (5, .int (X 5))] → va_P (dC, dI) vwCl (mw_W h q g I A) H → va_D B9 (mw_W h q g I A) → va_S B9 s.heap H locs → W p l e (headSpec w_M_longest ({ frames := 3, cells := 0, slots := 0, locals := 68 })).room s m ([.ref h, .int k1] : List Value).toArray below meth c H locs 0 0 (MQ below (va_Qi (fun (r9 : Int32) (_ : Unit) => r9 = r) (fun (_ : Unit) t => va_P (dC, dI) vwCl (mw_W h q g I' A') t.heap ∧ va_K (dC, dI) vwCl (mw_T g) t ∧ va_D B9 (mw_W h q g I' A')) B9) ([.ref h, .int k1] : List Value).toArray s 0 0 B9) (F0 m 173 ls [])), ∀ (I : MI) (A : MA) (X : Nat → Int32) (ls : Array Slot) (H : Heap) (locs : List Loc), f_M_longest_107 rc I A X = some (r, I', A') → lv_has ls 6 [(0, .ref h), (1, .int (X 1)), (2, .int (X 2)), (3, .int (X 3)), (4, .int (X 4)), (5, .int (X 5))] → va_P (dC, dI) vwCl (mw_W h q g I A) H → va_D B9 (mw_W h q g I A) → va_S B9 s.heap H locs → W p l e (headSpec w_M_longest ({ frames := 3, cells := 0, slots := 0, locals := 68 })).room s m ([.ref h, .int k1] : List Value).toArray below meth c H locs 0 0 (MQ below (va_Qi (fun (r9 : Int32) (_ : Unit) => r9 = r) (fun (_ : Unit) t => va_P (dC, dI) vwCl (mw_W h q g I' A') t.heap ∧ va_K (dC, dI) vwCl (mw_T g) t ∧ va_D B9 (mw_W h q g I' A')) B9) ([.ref h, .int k1] : List Value).toArray s 0 0 B9) (F0 m 107 ls []) := by
    intro rc hrc2 hrc42 hrc81 hrc107 hrc173 I A X ls H locs hf hl hP hD hS
    unfold f_M_longest_107 at hf
    refine lv_iload hx hb d_M_longest_107 (lv_at hl 5 rfl) ?_
    refine lv_aload_n hx hb d_M_longest_109 rfl (lv_at hl 0 rfl) ?_
    refine va_get (D := (dC, dI)) (ci := 4) (v := .int (I 17)) (C := R_M) (T := F_M) (N := 38) hx hb hts (fun w h => List.mem_cons_of_mem _ (in_M w h)) hown hK hP 0 rfl rfl 17 (by decide) (hts _ (List.mem_cons_of_mem _ lk_83)) (fun _ h9 => h9) rfl d_M_longest_110 ?_
    refine lv_icmp_ge (tgt := 170) hx hb d_M_longest_113 (by decide) (fun hc1 => ?_) (fun hc1 => ?_)
    ·
      have hf := wk_ift hc1 hf
      exact blk170 rc hrc2 hrc42 hrc81 hrc107 hrc173 I A X _ _ _ hf (lv_sub hl [0, 1, 2, 3, 4, 5] rfl) hP hD hS
    ·
      have hf := wk_iff hc1 hf
      refine lv_iload_n hx hb d_M_longest_116 rfl (lv_at hl 3 rfl) ?_
      refine lv_aload_n hx hb d_M_longest_117 rfl (lv_at hl 0 rfl) ?_
      have hPc := hP.sub (ws' := (mw_W h q g I A)) [0, 1, 2, 3, 4, 5, 6, 7, 8, 9, 10, 11, 12, 13, 14, 15, 16, 17, 18, 19, 20] rfl
      have hDc := hD.sub (ws' := (mw_W h q g I A)) [0, 1, 2, 3, 4, 5, 6, 7, 8, 9, 10, 11, 12, 13, 14, 15, 16, 17, 18, 19, 20] (by decide) rfl
      have hKc := hK.sub (tys' := (mw_T g)) [0, 1, 2, 3, 4, 5, 6, 7, 8, 9, 10, 11, 12, 13, 14, 15, 16, 17, 18, 19] rfl
      have hFc := va_free (wc := (mw_W h q g I A)) hD hS hA [0, 1, 2, 3, 4, 5, 6, 7, 8, 9, 10, 11, 12, 13, 14, 15, 16, 17, 18, 19, 20] rfl
      cases hg1 : f_M_textLength I A with
      | none => rw [hg1] at hf; cases hf
      | some z1 =>
        obtain ⟨r1, I1, A1⟩ := z1
        rw [hg1] at hf
        dsimp only [Option.bind_some] at hf
        refine va_calli (va_runV (As := []) (rest := [.int (X 3)]) ⟨hx, hb, hml, hown, hts⟩ (cm_M_textLength l dC dI h q g _ I A r1 I1 A1 hg1) (cwV 0 hts (gd_v lk_57 lk_58 lk_59 lk_46 lk_56) rfl rfl rfl (by decide +kernel) ⟨Nat.le_of_ble_eq_true rfl, Nat.le_of_ble_eq_true rfl⟩) ⟨fun a U g mk q => by obtain ⟨q0, q1, qP, qK, qD⟩ := q; exact ⟨q0, q1, qP, va_K.moved (u := U) (U := U.calling g mk a) (Vm.Alike.refl U.vm) qK, qD⟩, va_recv (ci := 4) (q0 := 0) hK hP rfl rfl, fun U hU hW => ⟨rfl, by rw [hU], by rw [hU]; exact hPc, va_K.moved hW.alike hKc, hDc.weaken (fun _ _ _ _ => trivial)⟩⟩ rfl rfl hl.1 rfl (lv_room (Nat.le_of_ble_eq_true rfl)) d_M_longest_118 ⟨Nat.le_of_ble_eq_true rfl, Nat.le_of_ble_eq_true rfl⟩) hS (fun q _ h => hFc q h) hFc (fun r9 u t H1 locs ht hvm hw hB hz1 hk1 hS => ?_)
        obtain ⟨hP1, hK1, hD1⟩ := hB
        rw [ht] at hP1
        rw [hw]
        obtain ⟨hP, hD⟩ := va_join (wr := []) (w1 := (mw_W h q g I1 A1)) hP hD [0, 1, 2, 3, 4, 5, 6, 7, 8, 9, 10, 11, 12, 13, 14, 15, 16, 17, 18, 19, 20] [] rfl rfl (by decide) (by decide) hk1 hFc hP1 hD1
        generalize H1 = H at hP hS ⊢
        have hP : va_P (dC, dI) vwCl (mw_W h q g I1 A1) H := hP
        have hD : va_D B9 (mw_W h q g I1 A1) := hD
        refine lv_icmp_ge (tgt := 170) hx hb d_M_longest_121 (by decide) (fun hc2 => ?_) (fun hc2 => ?_)
        ·
          have hf := wk_ift hc2 hf
          exact blk170 rc hrc2 hrc42 hrc81 hrc107 hrc173 I1 A1 X _ _ _ hf (lv_sub hl [0, 1, 2, 3, 4, 5] rfl) hP hD hS
        ·
          have hf := wk_iff hc2 hf
          refine lv_aload_n hx hb d_M_longest_124 rfl (lv_at hl 0 rfl) ?_
          refine va_get (D := (dC, dI)) (ci := 4) (v := .ref (q 32)) (C := R_M) (T := F_M) (N := 38) hx hb hts (fun w h => List.mem_cons_of_mem _ (in_M w h)) hown hK hP 0 rfl rfl 32 (by decide) (hts _ (List.mem_cons_of_mem _ lk_172)) (fun _ h9 => h9) rfl d_M_longest_125 ?_
          refine lv_iload hx hb d_M_longest_128 (lv_at hl 5 rfl) ?_
          obtain ⟨hc3, hf⟩ := wk_if hf
          refine va_zald hx hb hK hP 18 17 rfl rfl (wk_inb_ok hc3) d_M_longest_130 ?_
          refine lv_if_eq (tgt := 164) hx hb d_M_longest_131 (by decide) (fun hc4 => ?_) (fun hc4 => ?_)
          ·
            have hf := wk_ift hc4 hf
            exact blk164 rc hrc2 hrc42 hrc81 hrc107 hrc173 I1 A1 X _ _ _ hf (lv_sub hl [0, 1, 2, 3, 4, 5] rfl) hP hD hS
          ·
            have hf := wk_iff hc4 hf
            refine lv_aload_n hx hb d_M_longest_134 rfl (lv_at hl 0 rfl) ?_
            refine lv_iload hx hb d_M_longest_135 (lv_at hl 5 rfl) ?_
            refine lv_aload_n hx hb d_M_longest_137 rfl (lv_at hl 0 rfl) ?_
            refine lv_iload_n hx hb d_M_longest_138 rfl (lv_at hl 3 rfl) ?_
            have hPc := hP.sub (ws' := (mw_W h q g I1 A1)) [0, 1, 2, 3, 4, 5, 6, 7, 8, 9, 10, 11, 12, 13, 14, 15, 16, 17, 18, 19, 20] rfl
            have hDc := hD.sub (ws' := (mw_W h q g I1 A1)) [0, 1, 2, 3, 4, 5, 6, 7, 8, 9, 10, 11, 12, 13, 14, 15, 16, 17, 18, 19, 20] (by decide) rfl
            have hKc := hK.sub (tys' := (mw_T g)) [0, 1, 2, 3, 4, 5, 6, 7, 8, 9, 10, 11, 12, 13, 14, 15, 16, 17, 18, 19] rfl
            have hFc := va_free (wc := (mw_W h q g I1 A1)) hD hS hA [0, 1, 2, 3, 4, 5, 6, 7, 8, 9, 10, 11, 12, 13, 14, 15, 16, 17, 18, 19, 20] rfl
            cases hg2 : f_M_charAt I1 A1 (X 3) with
            | none => rw [hg2] at hf; cases hf
            | some z2 =>
              obtain ⟨r2, I2, A2⟩ := z2
              rw [hg2] at hf
              dsimp only [Option.bind_some] at hf
              refine va_calli (va_runV (As := [.int (X 3)]) (rest := [.int (X 5), .ref h]) ⟨hx, hb, hml, hown, hts⟩ (cm_M_charAt l dC dI h q g _ I1 A1 (X 3) r2 I2 A2 hg2) (cwV 1 hts (gd_v lk_51 lk_52 lk_53 lk_46 lk_50) rfl rfl rfl (by decide +kernel) ⟨Nat.le_of_ble_eq_true rfl, Nat.le_of_ble_eq_true rfl⟩) ⟨fun a U g mk q => by obtain ⟨q0, q1, qP, qK, qD⟩ := q; exact ⟨q0, q1, qP, va_K.moved (u := U) (U := U.calling g mk a) (Vm.Alike.refl U.vm) qK, qD⟩, va_recv (ci := 4) (q0 := 0) hK hP rfl rfl, fun U hU hW => ⟨rfl, by rw [hU], by rw [hU]; exact hPc, va_K.moved hW.alike hKc, hDc.weaken (fun _ _ _ _ => trivial)⟩⟩ rfl rfl hl.1 rfl (lv_room (Nat.le_of_ble_eq_true rfl)) d_M_longest_139 ⟨Nat.le_of_ble_eq_true rfl, Nat.le_of_ble_eq_true rfl⟩) hS (fun q _ h => hFc q h) hFc (fun r9 u t H1 locs ht hvm hw hB hz1 hk1 hS => ?_)
              obtain ⟨hP1, hK1, hD1⟩ := hB
              rw [ht] at hP1
              rw [hw]
              obtain ⟨hP, hD⟩ := va_join (wr := []) (w1 := (mw_W h q g I2 A2)) hP hD [0, 1, 2, 3, 4, 5, 6, 7, 8, 9, 10, 11, 12, 13, 14, 15, 16, 17, 18, 19, 20] [] rfl rfl (by decide) (by decide) hk1 hFc hP1 hD1
              generalize H1 = H at hP hS ⊢
              have hP : va_P (dC, dI) vwCl (mw_W h q g I2 A2) H := hP
              have hD : va_D B9 (mw_W h q g I2 A2) := hD
              have hPc := hP.sub (ws' := (mw_W h q g I2 A2)) [0, 1, 2, 3, 4, 5, 6, 7, 8, 9, 10, 11, 12, 13, 14, 15, 16, 17, 18, 19, 20] rfl
              have hDc := hD.sub (ws' := (mw_W h q g I2 A2)) [0, 1, 2, 3, 4, 5, 6, 7, 8, 9, 10, 11, 12, 13, 14, 15, 16, 17, 18, 19, 20] (by decide) rfl
              have hKc := hK.sub (tys' := (mw_T g)) [0, 1, 2, 3, 4, 5, 6, 7, 8, 9, 10, 11, 12, 13, 14, 15, 16, 17, 18, 19] rfl
              have hFc := va_free (wc := (mw_W h q g I2 A2)) hD hS hA [0, 1, 2, 3, 4, 5, 6, 7, 8, 9, 10, 11, 12, 13, 14, 15, 16, 17, 18, 19, 20] rfl
              cases hg3 : f_M_takes I2 A2 (X 5) r2 with
              | none => rw [hg3] at hf; cases hf
              | some z3 =>
                obtain ⟨r3, I3, A3⟩ := z3
                rw [hg3] at hf
                dsimp only [Option.bind_some] at hf
                refine va_calli (va_runV (As := [.int (X 5), .int r2]) (rest := []) ⟨hx, hb, hml, hown, hts⟩ (cm_M_takes l dC dI h q g _ I2 A2 (X 5) r2 r3 I3 A3 hg3) (cwV 2 hts (gd_v lk_191 lk_192 lk_193 lk_46 lk_190) rfl rfl rfl (by decide +kernel) ⟨Nat.le_of_ble_eq_true rfl, Nat.le_of_ble_eq_true rfl⟩) ⟨fun a U g mk q => by obtain ⟨q0, q1, qP, qK, qD⟩ := q; exact ⟨q0, q1, qP, va_K.moved (u := U) (U := U.calling g mk a) (Vm.Alike.refl U.vm) qK, qD⟩, va_recv (ci := 4) (q0 := 0) hK hP rfl rfl, fun U hU hW => ⟨rfl, by rw [hU], by rw [hU]; exact hPc, va_K.moved hW.alike hKc, hDc.weaken (fun _ _ _ _ => trivial)⟩⟩ rfl rfl hl.1 rfl (lv_room (Nat.le_of_ble_eq_true rfl)) d_M_longest_142 ⟨Nat.le_of_ble_eq_true rfl, Nat.le_of_ble_eq_true rfl⟩) hS (fun q _ h => hFc q h) hFc (fun r9 u t H1 locs ht hvm hw hB hz1 hk1 hS => ?_)
                obtain ⟨hP1, hK1, hD1⟩ := hB
                rw [ht] at hP1
                rw [hw]
                obtain ⟨hP, hD⟩ := va_join (wr := []) (w1 := (mw_W h q g I3 A3)) hP hD [0, 1, 2, 3, 4, 5, 6, 7, 8, 9, 10, 11, 12, 13, 14, 15, 16, 17, 18, 19, 20] [] rfl rfl (by decide) (by decide) hk1 hFc hP1 hD1
                generalize H1 = H at hP hS ⊢
                have hP : va_P (dC, dI) vwCl (mw_W h q g I3 A3) H := hP
                have hD : va_D B9 (mw_W h q g I3 A3) := hD
                refine lv_if_eq (tgt := 164) hx hb d_M_longest_145 (by decide) (fun hc5 => ?_) (fun hc5 => ?_)
                ·
                  have hf := wk_ift hc5 hf
                  exact blk164 rc hrc2 hrc42 hrc81 hrc107 hrc173 I3 A3 X _ _ _ hf (lv_sub hl [0, 1, 2, 3, 4, 5] rfl) hP hD hS
                ·
                  have hf := wk_iff hc5 hf
                  refine lv_aload_n hx hb d_M_longest_148 rfl (lv_at hl 0 rfl) ?_
                  refine va_get (D := (dC, dI)) (ci := 4) (v := .ref (q 33)) (C := R_M) (T := F_M) (N := 38) hx hb hts (fun w h => List.mem_cons_of_mem _ (in_M w h)) hown hK hP 0 rfl rfl 33 (by decide) (hts _ (List.mem_cons_of_mem _ lk_185)) (fun _ h9 => h9) rfl d_M_longest_149 ?_
                  refine lv_aload_n hx hb d_M_longest_152 rfl (lv_at hl 0 rfl) ?_
                  refine va_get (D := (dC, dI)) (ci := 4) (v := .ref (q 21)) (C := R_M) (T := F_M) (N := 38) hx hb hts (fun w h => List.mem_cons_of_mem _ (in_M w h)) hown hK hP 0 rfl rfl 21 (by decide) (hts _ (List.mem_cons_of_mem _ lk_64)) (fun _ h9 => h9) rfl d_M_longest_153 ?_
                  refine lv_iload hx hb d_M_longest_156 (lv_at hl 5 rfl) ?_
                  obtain ⟨hc6, hf⟩ := wk_if hf
                  refine va_iald hx hb hK hP 11 10 rfl rfl (wk_inb_ok hc6) d_M_longest_158 ?_
                  refine lv_iconst (v := 1) hx hb d_M_longest_159 (by decide) ?_
                  obtain ⟨hc7, hf⟩ := wk_if hf
                  refine va_zast hx hb hK hP hD hS 19 18 rfl rfl (wk_inb_ok hc7) d_M_longest_160 (fun H locs hP hD hS => ?_)
                  obtain ⟨A4, hA4, hf⟩ := wk_letE hf
                  have hP : va_P (dC, dI) vwCl (mw_W h q g I3 A4) H := by rw [hA4]; exact hP
                  have hD : va_D B9 (mw_W h q g I3 A4) := by rw [hA4]; exact hD
                  clear hA4
                  refine lv_iconst (v := 1) hx hb d_M_longest_161 (by decide) ?_
                  refine lv_istore (lv' := [(4, .int 1), (0, .ref h), (1, .int (X 1)), (2, .int (X 2)), (3, .int (X 3)), (5, .int (X 5))]) hx hb d_M_longest_162 hl (by decide) rfl (fun ls hl => ?_)
                  have hl : lv_has ls 6 [(4, .int 1), (0, .ref h), (1, .int (X 1)), (2, .int (X 2)), (3, .int (X 3)), (5, .int (X 5))] := hl
                  exact blk164 rc hrc2 hrc42 hrc81 hrc107 hrc173 I3 A4 (upd X 4 1) _ _ _ hf (lv_sub hl [1, 2, 3, 4, 0, 5] rfl) hP hD hS
  have stp173 : ∀ (rc : Nat → MI → MA → (Nat → Int32) → Option (Int32 × MI × MA)) (hrc2 : ∀ (I : MI) (A : MA) (X : Nat → Int32) (ls : Array Slot) (H : Heap) (locs : List Loc), rc 2 I A X = some (r, I', A') → lv_has ls 6 [(0, .ref h), (1, .int (X 1)), (2, .int (X 2))] → va_P (dC, dI) vwCl (mw_W h q g I A) H → va_D B9 (mw_W h q g I A) → va_S B9 s.heap H locs → W p l e (headSpec w_M_longest ({ frames := 3, cells := 0, slots := 0, locals := 68 })).room s m ([.ref h, .int k1] : List Value).toArray below meth c H locs 0 0 (MQ below (va_Qi (fun (r9 : Int32) (_ : Unit) => r9 = r) (fun (_ : Unit) t => va_P (dC, dI) vwCl (mw_W h q g I' A') t.heap ∧ va_K (dC, dI) vwCl (mw_T g) t ∧ va_D B9 (mw_W h q g I' A')) B9) ([.ref h, .int k1] : List Value).toArray s 0 0 B9) (F0 m 2 ls [])) (hrc42 : ∀ (I : MI) (A : MA) (X : Nat → Int32) (ls : Array Slot) (H : Heap) (locs : List Loc), rc 42 I A X = some (r, I', A') → lv_has ls 6 [(0, .ref h), (1, .int (X 1)), (2, .int (X 2)), (3, .int (X 3)), (4, .int (X 4))] → va_P (dC, dI) vwCl (mw_W h q g I A) H → va_D B9 (mw_W h q g I A) → va_S B9 s.heap H locs → W p l e (headSpec w_M_longest ({ frames := 3, cells := 0, slots := 0, locals := 68 })).room s m ([.ref h, .int k1] : List Value).toArray below meth c H locs 0 0 (MQ below (va_Qi (fun (r9 : Int32) (_ : Unit) => r9 = r) (fun (_ : Unit) t => va_P (dC, dI) vwCl (mw_W h q g I' A') t.heap ∧ va_K (dC, dI) vwCl (mw_T g) t ∧ va_D B9 (mw_W h q g I' A')) B9) ([.ref h, .int k1] : List Value).toArray s 0 0 B9) (F0 m 42 ls [])) (hrc81 : ∀ (I : MI) (A : MA) (X : Nat → Int32) (ls : Array Slot) (H : Heap) (locs : List Loc), rc 81 I A X = some (r, I', A') → lv_has ls 6 [(0, .ref h), (1, .int (X 1)), (2, .int (X 2)), (3, .int (X 3)), (4, .int (X 4)), (5, .int (X 5))] → va_P (dC, dI) vwCl (mw_W h q g I A) H → va_D B9 (mw_W h q g I A) → va_S B9 s.heap H locs → W p l e (headSpec w_M_longest ({ frames := 3, cells := 0, slots := 0, locals := 68 })).room s m ([.ref h, .int k1] : List Value).toArray below meth c H locs 0 0 (MQ below (va_Qi (fun (r9 : Int32) (_ : Unit) => r9 = r) (fun (_ : Unit) t => va_P (dC, dI) vwCl (mw_W h q g I' A') t.heap ∧ va_K (dC, dI) vwCl (mw_T g) t ∧ va_D B9 (mw_W h q g I' A')) B9) ([.ref h, .int k1] : List Value).toArray s 0 0 B9) (F0 m 81 ls [])) (hrc107 : ∀ (I : MI) (A : MA) (X : Nat → Int32) (ls : Array Slot) (H : Heap) (locs : List Loc), rc 107 I A X = some (r, I', A') → lv_has ls 6 [(0, .ref h), (1, .int (X 1)), (2, .int (X 2)), (3, .int (X 3)), (4, .int (X 4)), (5, .int (X 5))] → va_P (dC, dI) vwCl (mw_W h q g I A) H → va_D B9 (mw_W h q g I A) → va_S B9 s.heap H locs → W p l e (headSpec w_M_longest ({ frames := 3, cells := 0, slots := 0, locals := 68 })).room s m ([.ref h, .int k1] : List Value).toArray below meth c H locs 0 0 (MQ below (va_Qi (fun (r9 : Int32) (_ : Unit) => r9 = r) (fun (_ : Unit) t => va_P (dC, dI) vwCl (mw_W h q g I' A') t.heap ∧ va_K (dC, dI) vwCl (mw_T g) t ∧ va_D B9 (mw_W h q g I' A')) B9) ([.ref h, .int k1] : List Value).toArray s 0 0 B9) (F0 m 107 ls [])) (hrc173 : ∀ (I : MI) (A : MA) (X : Nat → Int32) (ls : Array Slot) (H : Heap) (locs : List Loc), rc 173 I A X = some (r, I', A') → lv_has ls 6 [(0, .ref h), (1, .int (X 1)), (2, .int (X 2)), (3, .int (X 3)), (4, .int (X 4)), (5, .int (X 5))] → va_P (dC, dI) vwCl (mw_W h q g I A) H → va_D B9 (mw_W h q g I A) → va_S B9 s.heap H locs → W p l e (headSpec w_M_longest ({ frames := 3, cells := 0, slots := 0, locals := 68 })).room s m ([.ref h, .int k1] : List Value).toArray below meth c H locs 0 0 (MQ below (va_Qi (fun (r9 : Int32) (_ : Unit) => r9 = r) (fun (_ : Unit) t => va_P (dC, dI) vwCl (mw_W h q g I' A') t.heap ∧ va_K (dC, dI) vwCl (mw_T g) t ∧ va_D B9 (mw_W h q g I' A')) B9) ([.ref h, .int k1] : List Value).toArray s 0 0 B9) (F0 m 173 ls [])), ∀ (I : MI) (A : MA) (X : Nat → Int32) (ls : Array Slot) (H : Heap) (locs : List Loc), f_M_longest_173 rc I A X = some (r, I', A') → lv_has ls 6 [(0, .ref h), (1, .int (X 1)), (2, .int (X 2)), (3, .int (X 3)), (4, .int (X 4)), (5, .int (X 5))] → va_P (dC, dI) vwCl (mw_W h q g I A) H → va_D B9 (mw_W h q g I A) → va_S B9 s.heap H locs → W p l e (headSpec w_M_longest ({ frames := 3, cells := 0, slots := 0, locals := 68 })).room s m ([.ref h, .int k1] : List Value).toArray below meth c H locs 0 0 (MQ below (va_Qi (fun (r9 : Int32) (_ : Unit) => r9 = r) (fun (_ : Unit) t => va_P (dC, dI) vwCl (mw_W h q g I' A') t.heap ∧ va_K (dC, dI) vwCl (mw_T g) t ∧ va_D B9 (mw_W h q g I' A')) B9) ([.ref h, .int k1] : List Value).toArray s 0 0 B9) (F0 m 173 ls []) := by
    intro rc hrc2 hrc42 hrc81 hrc107 hrc173 I A X ls H locs hf hl hP hD hS
    unfold f_M_longest_173 at hf
    refine lv_iload hx hb d_M_longest_173 (lv_at hl 5 rfl) ?_
    refine lv_aload_n hx hb d_M_longest_175 rfl (lv_at hl 0 rfl) ?_
    refine va_get (D := (dC, dI)) (ci := 4) (v := .int (I 17)) (C := R_M) (T := F_M) (N := 38) hx hb hts (fun w h => List.mem_cons_of_mem _ (in_M w h)) hown hK hP 0 rfl rfl 17 (by decide) (hts _ (List.mem_cons_of_mem _ lk_83)) (fun _ h9 => h9) rfl d_M_longest_176 ?_
    refine lv_icmp_ge (tgt := 202) hx hb d_M_longest_179 (by decide) (fun hc1 => ?_) (fun hc1 => ?_)
    ·
      have hf := wk_ift hc1 hf
      refine lv_iinc (k := 3) (v := ((X 3) + 1)) (lv' := [(3, .int ((X 3) + 1)), (0, .ref h), (1, .int (X 1)), (2, .int (X 2)), (4, .int (X 4)), (5, .int (X 5))]) hx hb d_M_longest_202 hl rfl (wk_inc (by decide)) (by decide) rfl (fun ls hl => ?_)
      have hl : lv_has ls 6 [(3, .int ((X 3) + 1)), (0, .ref h), (1, .int (X 1)), (2, .int (X 2)), (4, .int (X 4)), (5, .int (X 5))] := hl
      refine lv_goto (tgt := 42) hx hb d_M_longest_205 (by decide) ?_
      exact hrc42 I A (upd X 3 ((X 3) + 1)) _ _ _ hf (lv_sub hl [1, 2, 3, 0, 4] rfl) hP hD hS
    ·
      have hf := wk_iff hc1 hf
      refine lv_aload_n hx hb d_M_longest_182 rfl (lv_at hl 0 rfl) ?_
      refine va_get (D := (dC, dI)) (ci := 4) (v := .ref (q 32)) (C := R_M) (T := F_M) (N := 38) hx hb hts (fun w h => List.mem_cons_of_mem _ (in_M w h)) hown hK hP 0 rfl rfl 32 (by decide) (hts _ (List.mem_cons_of_mem _ lk_172)) (fun _ h9 => h9) rfl d_M_longest_183 ?_
      refine lv_iload hx hb d_M_longest_186 (lv_at hl 5 rfl) ?_
      refine lv_aload_n hx hb d_M_longest_188 rfl (lv_at hl 0 rfl) ?_
      refine va_get (D := (dC, dI)) (ci := 4) (v := .ref (q 33)) (C := R_M) (T := F_M) (N := 38) hx hb hts (fun w h => List.mem_cons_of_mem _ (in_M w h)) hown hK hP 0 rfl rfl 33 (by decide) (hts _ (List.mem_cons_of_mem _ lk_185)) (fun _ h9 => h9) rfl d_M_longest_189 ?_
      refine lv_iload hx hb d_M_longest_192 (lv_at hl 5 rfl) ?_
      obtain ⟨hc2, hf⟩ := wk_if hf
      refine va_zald hx hb hK hP 19 18 rfl rfl (wk_inb_ok hc2) d_M_longest_194 ?_
      obtain ⟨hc3, hf⟩ := wk_if hf
      refine va_zast hx hb hK hP hD hS 18 17 rfl rfl (wk_inb_ok hc3) d_M_longest_195 (fun H locs hP hD hS => ?_)
      obtain ⟨A1, hA1, hf⟩ := wk_letE hf
      have hP : va_P (dC, dI) vwCl (mw_W h q g I A1) H := by rw [hA1]; exact hP
      have hD : va_D B9 (mw_W h q g I A1) := by rw [hA1]; exact hD
      clear hA1
      refine lv_iinc (k := 5) (v := ((X 5) + 1)) (lv' := [(5, .int ((X 5) + 1)), (0, .ref h), (1, .int (X 1)), (2, .int (X 2)), (3, .int (X 3)), (4, .int (X 4))]) hx hb d_M_longest_196 hl rfl (wk_inc (by decide)) (by decide) rfl (fun ls hl => ?_)
      have hl : lv_has ls 6 [(5, .int ((X 5) + 1)), (0, .ref h), (1, .int (X 1)), (2, .int (X 2)), (3, .int (X 3)), (4, .int (X 4))] := hl
      refine lv_goto (tgt := 173) hx hb d_M_longest_199 (by decide) ?_
      exact hrc173 I A1 (upd X 5 ((X 5) + 1)) _ _ _ hf (lv_sub hl [1, 2, 3, 4, 5, 0] rfl) hP hD hS
  have key : ∀ n : Nat, (∀ (I : MI) (A : MA) (X : Nat → Int32) (ls : Array Slot) (H : Heap) (locs : List Loc), f_M_longest_go n 2 I A X = some (r, I', A') → lv_has ls 6 [(0, .ref h), (1, .int (X 1)), (2, .int (X 2))] → va_P (dC, dI) vwCl (mw_W h q g I A) H → va_D B9 (mw_W h q g I A) → va_S B9 s.heap H locs → W p l e (headSpec w_M_longest ({ frames := 3, cells := 0, slots := 0, locals := 68 })).room s m ([.ref h, .int k1] : List Value).toArray below meth c H locs 0 0 (MQ below (va_Qi (fun (r9 : Int32) (_ : Unit) => r9 = r) (fun (_ : Unit) t => va_P (dC, dI) vwCl (mw_W h q g I' A') t.heap ∧ va_K (dC, dI) vwCl (mw_T g) t ∧ va_D B9 (mw_W h q g I' A')) B9) ([.ref h, .int k1] : List Value).toArray s 0 0 B9) (F0 m 2 ls [])) ∧ (∀ (I : MI) (A : MA) (X : Nat → Int32) (ls : Array Slot) (H : Heap) (locs : List Loc), f_M_longest_go n 42 I A X = some (r, I', A') → lv_has ls 6 [(0, .ref h), (1, .int (X 1)), (2, .int (X 2)), (3, .int (X 3)), (4, .int (X 4))] → va_P (dC, dI) vwCl (mw_W h q g I A) H → va_D B9 (mw_W h q g I A) → va_S B9 s.heap H locs → W p l e (headSpec w_M_longest ({ frames := 3, cells := 0, slots := 0, locals := 68 })).room s m ([.ref h, .int k1] : List Value).toArray below meth c H locs 0 0 (MQ below (va_Qi (fun (r9 : Int32) (_ : Unit) => r9 = r) (fun (_ : Unit) t => va_P (dC, dI) vwCl (mw_W h q g I' A') t.heap ∧ va_K (dC, dI) vwCl (mw_T g) t ∧ va_D B9 (mw_W h q g I' A')) B9) ([.ref h, .int k1] : List Value).toArray s 0 0 B9) (F0 m 42 ls [])) ∧ (∀ (I : MI) (A : MA) (X : Nat → Int32) (ls : Array Slot) (H : Heap) (locs : List Loc), f_M_longest_go n 81 I A X = some (r, I', A') → lv_has ls 6 [(0, .ref h), (1, .int (X 1)), (2, .int (X 2)), (3, .int (X 3)), (4, .int (X 4)), (5, .int (X 5))] → va_P (dC, dI) vwCl (mw_W h q g I A) H → va_D B9 (mw_W h q g I A) → va_S B9 s.heap H locs → W p l e (headSpec w_M_longest ({ frames := 3, cells := 0, slots := 0, locals := 68 })).room s m ([.ref h, .int k1] : List Value).toArray below meth c H locs 0 0 (MQ below (va_Qi (fun (r9 : Int32) (_ : Unit) => r9 = r) (fun (_ : Unit) t => va_P (dC, dI) vwCl (mw_W h q g I' A') t.heap ∧ va_K (dC, dI) vwCl (mw_T g) t ∧ va_D B9 (mw_W h q g I' A')) B9) ([.ref h, .int k1] : List Value).toArray s 0 0 B9) (F0 m 81 ls [])) ∧ (∀ (I : MI) (A : MA) (X : Nat → Int32) (ls : Array Slot) (H : Heap) (locs : List Loc), f_M_longest_go n 107 I A X = some (r, I', A') → lv_has ls 6 [(0, .ref h), (1, .int (X 1)), (2, .int (X 2)), (3, .int (X 3)), (4, .int (X 4)), (5, .int (X 5))] → va_P (dC, dI) vwCl (mw_W h q g I A) H → va_D B9 (mw_W h q g I A) → va_S B9 s.heap H locs → W p l e (headSpec w_M_longest ({ frames := 3, cells := 0, slots := 0, locals := 68 })).room s m ([.ref h, .int k1] : List Value).toArray below meth c H locs 0 0 (MQ below (va_Qi (fun (r9 : Int32) (_ : Unit) => r9 = r) (fun (_ : Unit) t => va_P (dC, dI) vwCl (mw_W h q g I' A') t.heap ∧ va_K (dC, dI) vwCl (mw_T g) t ∧ va_D B9 (mw_W h q g I' A')) B9) ([.ref h, .int k1] : List Value).toArray s 0 0 B9) (F0 m 107 ls [])) ∧ (∀ (I : MI) (A : MA) (X : Nat → Int32) (ls : Array Slot) (H : Heap) (locs : List Loc), f_M_longest_go n 173 I A X = some (r, I', A') → lv_has ls 6 [(0, .ref h), (1, .int (X 1)), (2, .int (X 2)), (3, .int (X 3)), (4, .int (X 4)), (5, .int (X 5))] → va_P (dC, dI) vwCl (mw_W h q g I A) H → va_D B9 (mw_W h q g I A) → va_S B9 s.heap H locs → W p l e (headSpec w_M_longest ({ frames := 3, cells := 0, slots := 0, locals := 68 })).room s m ([.ref h, .int k1] : List Value).toArray below meth c H locs 0 0 (MQ below (va_Qi (fun (r9 : Int32) (_ : Unit) => r9 = r) (fun (_ : Unit) t => va_P (dC, dI) vwCl (mw_W h q g I' A') t.heap ∧ va_K (dC, dI) vwCl (mw_T g) t ∧ va_D B9 (mw_W h q g I' A')) B9) ([.ref h, .int k1] : List Value).toArray s 0 0 B9) (F0 m 173 ls [])) := by
    intro n
    induction n with
    | zero => exact ⟨fun I A X ls H locs hf => (by cases hf), fun I A X ls H locs hf => (by cases hf), fun I A X ls H locs hf => (by cases hf), fun I A X ls H locs hf => (by cases hf), fun I A X ls H locs hf => (by cases hf)⟩
    | succ n ih =>
      obtain ⟨ih2, ih42, ih81, ih107, ih173⟩ := ih
      exact ⟨stp2 (f_M_longest_go n) ih2 ih42 ih81 ih107 ih173, stp42 (f_M_longest_go n) ih2 ih42 ih81 ih107 ih173, stp81 (f_M_longest_go n) ih2 ih42 ih81 ih107 ih173, stp107 (f_M_longest_go n) ih2 ih42 ih81 ih107 ih173, stp173 (f_M_longest_go n) ih2 ih42 ih81 ih107 ih173⟩
  unfold f_M_longest f_M_longest_e at hf
  have hrc2 := (key wk_FUEL).1
  have hrc42 := (key wk_FUEL).2.1
  have hrc81 := (key wk_FUEL).2.2.1
  have hrc107 := (key wk_FUEL).2.2.2.1
  have hrc173 := (key wk_FUEL).2.2.2.2
  refine lv_iconst (v := 0) hx hb d_M_longest_0 (by decide) ?_
  refine lv_istore_n (lv' := [(2, .int 0), (0, .ref h), (1, .int k1)]) hx hb d_M_longest_1 rfl hl (by decide) rfl (fun ls hl => ?_)
  have hl : lv_has ls 6 [(2, .int 0), (0, .ref h), (1, .int k1)] := hl
  exact hrc2 I A (upd (upd (fun _ => 0) 1 k1) 2 0) _ _ _ hf (lv_sub hl [1, 2, 0] rfl) hP hD hS

-- 16.mcon09
set_option maxHeartbeats 8000000 in
set_option maxRecDepth 100000 in
theorem cm_M_look (l : Launch) (dC : Nat → ClassId) (dI : Nat → Nat → Nat) (h : Nat) (q : Nat → Nat) (g : Nat → ClassId) (sz : Nat) (I : MI) (A : MA) (k1 : Int32) (r : Int32) (I' : MI) (A' : MA) (hf : f_M_look I A k1 = some (r, I', A')) : Met l y_M_look w_M_look ({ frames := 4, cells := 0, slots := 0, locals := 93 }) (va_Pc [.ref h, .int k1] (fun U => U.heap.size = sz ∧ va_P (dC, dI) vwCl (mw_W h q g I A) U.heap ∧ va_K (dC, dI) vwCl (mw_T g) U ∧ va_D (fun _ => True) (mw_W h q g I A))) (va_Qi (fun (r9 : Int32) (_ : Unit) => r9 = r) (fun (_ : Unit) t => va_P (dC, dI) vwCl (mw_W h q g I' A') t.heap ∧ va_K (dC, dI) vwCl (mw_T g) t ∧ va_D (va_A (mw_W h q g I A) sz) (mw_W h q g I' A')) (va_A (mw_W h q g I A) sz)) 0 0 (va_A (mw_W h q g I A) sz) := by
  refine Met.ofW (cc := prog_6_method_44_code) (maxL := 3) (ret := (some .boolean)) (by decide) rfl ?_
  intro p e s m args below meth c s₁ B hml hv
  obtain ⟨rfl, hsz, hP, hK, hD0⟩ := hv
  have hx := B.exec
  have hb := B.bytes
  have hr := B.returns
  have hts := atoms_spec (ws := w_M_look) B.pre
  have hown : s.vm.findClass R_M = some m.cls := findClass_of_methodNamed B.named
  have hlocks := B.notSynchronized
  subst hsz
  have hD := hD0.self (sz := s.heap.size)
  generalize hAe : va_A (mw_W h q g I A) s.heap.size = B9 at hD ⊢
  have hA : ∀ q : Nat, s.heap.size ≤ q → B9 q := fun q h => by rw [← hAe]; exact Or.inr h
  clear hAe
  have hS : va_S B9 s.heap s.heap [] := va_S.rf
  have hl := lv_entry ([.ref h, .int k1]) (n := 3) (Nat.le_of_ble_eq_true rfl)
  rw [lg_entry_eq]
  generalize (lg_sl ([.ref h, .int k1]) ++ List.replicate (3 - (lg_sl ([.ref h, .int k1])).length) Slot.unset).toArray = ls at hl ⊢
  have hl : lv_has ls 3 [(0, .ref h), (1, .int k1)] := hl
  have blk54 : ∀ (rc : Nat → MI → MA → (Nat → Int32) → Option (Int32 × MI × MA)) (hrc7 : ∀ (I : MI) (A : MA) (X : Nat → Int32) (ls : Array Slot) (H : Heap) (locs : List Loc), rc 7 I A X = some (r, I', A') → lv_has ls 3 [(0, .ref h), (1, .int (X 1)), (2, .int (X 2))] → va_P (dC, dI) vwCl (mw_W h q g I A) H → va_D B9 (mw_W h q g I A) → va_S B9 s.heap H locs → W p l e (headSpec w_M_look ({ frames := 4, cells := 0, slots := 0, locals := 93 })).room s m ([.ref h, .int k1] : List Value).toArray below meth c H locs 0 0 (MQ below (va_Qi (fun (r9 : Int32) (_ : Unit) => r9 = r) (fun (_ : Unit) t => va_P (dC, dI) vwCl (mw_W h q g I' A') t.heap ∧ va_K (dC, dI) vwCl (mw_T g) t ∧ va_D B9 (mw_W h q g I' A')) B9) ([.ref h, .int k1] : List Value).toArray s 0 0 B9) (F0 m 7 ls [])), ∀ (I : MI) (A : MA) (X : Nat → Int32) (s0 : Int32) (ls : Array Slot) (H : Heap) (locs : List Loc), f_M_look_54 rc I A X s0 = some (r, I', A') → lv_has ls 3 [(0, .ref h), (1, .int (X 1)), (2, .int (X 2))] → va_P (dC, dI) vwCl (mw_W h q g I A) H → va_D B9 (mw_W h q g I A) → va_S B9 s.heap H locs → W p l e (headSpec w_M_look ({ frames := 4, cells := 0, slots := 0, locals := 93 })).room s m ([.ref h, .int k1] : List Value).toArray below meth c H locs 0 0 (MQ below (va_Qi (fun (r9 : Int32) (_ : Unit) => r9 = r) (fun (_ : Unit) t => va_P (dC, dI) vwCl (mw_W h q g I' A') t.heap ∧ va_K (dC, dI) vwCl (mw_T g) t ∧ va_D B9 (mw_W h q g I' A')) B9) ([.ref h, .int k1] : List Value).toArray s 0 0 B9) (F0 m 54 ls [.int s0]) := by
    intro rc hrc7 I A X s0 ls H locs hf hl hP hD hS
    unfold f_M_look_54 at hf
    obtain ⟨hn9, hf⟩ := wk_if hf
    obtain ⟨e1, e2, e3⟩ := wk_inj hf
    subst e1
    subst e2
    subst e3
    exact W.zret (v := s0) hx hb hr (congrArg Value.int hn9) (fun t ht hW => ⟨⟨s0, (), rfl, rfl, by rw [ht]; exact hP, va_K.moved hW.alike hK, hD⟩, hS.F ht⟩) hS.2.2 d_M_look_54
  have blk42 : ∀ (rc : Nat → MI → MA → (Nat → Int32) → Option (Int32 × MI × MA)) (hrc7 : ∀ (I : MI) (A : MA) (X : Nat → Int32) (ls : Array Slot) (H : Heap) (locs : List Loc), rc 7 I A X = some (r, I', A') → lv_has ls 3 [(0, .ref h), (1, .int (X 1)), (2, .int (X 2))] → va_P (dC, dI) vwCl (mw_W h q g I A) H → va_D B9 (mw_W h q g I A) → va_S B9 s.heap H locs → W p l e (headSpec w_M_look ({ frames := 4, cells := 0, slots := 0, locals := 93 })).room s m ([.ref h, .int k1] : List Value).toArray below meth c H locs 0 0 (MQ below (va_Qi (fun (r9 : Int32) (_ : Unit) => r9 = r) (fun (_ : Unit) t => va_P (dC, dI) vwCl (mw_W h q g I' A') t.heap ∧ va_K (dC, dI) vwCl (mw_T g) t ∧ va_D B9 (mw_W h q g I' A')) B9) ([.ref h, .int k1] : List Value).toArray s 0 0 B9) (F0 m 7 ls [])), ∀ (I : MI) (A : MA) (X : Nat → Int32) (ls : Array Slot) (H : Heap) (locs : List Loc), f_M_look_42 rc I A X = some (r, I', A') → lv_has ls 3 [(0, .ref h), (1, .int (X 1)), (2, .int (X 2))] → va_P (dC, dI) vwCl (mw_W h q g I A) H → va_D B9 (mw_W h q g I A) → va_S B9 s.heap H locs → W p l e (headSpec w_M_look ({ frames := 4, cells := 0, slots := 0, locals := 93 })).room s m ([.ref h, .int k1] : List Value).toArray below meth c H locs 0 0 (MQ below (va_Qi (fun (r9 : Int32) (_ : Unit) => r9 = r) (fun (_ : Unit) t => va_P (dC, dI) vwCl (mw_W h q g I' A') t.heap ∧ va_K (dC, dI) vwCl (mw_T g) t ∧ va_D B9 (mw_W h q g I' A')) B9) ([.ref h, .int k1] : List Value).toArray s 0 0 B9) (F0 m 42 ls []) := by
    intro rc hrc7 I A X ls H locs hf hl hP hD hS
    unfold f_M_look_42 at hf
    refine lv_aload_n hx hb d_M_look_42 rfl (lv_at hl 0 rfl) ?_
    refine va_get (D := (dC, dI)) (ci := 4) (v := .int (I 35)) (C := R_M) (T := F_M) (N := 38) hx hb hts (fun w h => List.mem_cons_of_mem _ (in_M w h)) hown hK hP 0 rfl rfl 35 (by decide) (hts _ (List.mem_cons_of_mem _ lk_170)) (fun _ h9 => h9) rfl d_M_look_43 ?_
    refine lv_if_lt (tgt := 53) hx hb d_M_look_46 (by decide) (fun hc1 => ?_) (fun hc1 => ?_)
    ·
      have hf := wk_ift hc1 hf
      refine lv_iconst (v := 0) hx hb d_M_look_53 (by decide) ?_
      exact blk54 rc hrc7 I A X 0 _ _ _ hf (lv_sub hl [0, 1, 2] rfl) hP hD hS
    ·
      have hf := wk_iff hc1 hf
      refine lv_iconst (v := 1) hx hb d_M_look_49 (by decide) ?_
      refine lv_goto (tgt := 54) hx hb d_M_look_50 (by decide) ?_
      exact blk54 rc hrc7 I A X 1 _ _ _ hf (lv_sub hl [0, 1, 2] rfl) hP hD hS
  have stp7 : ∀ (rc : Nat → MI → MA → (Nat → Int32) → Option (Int32 × MI × MA)) (hrc7 : ∀ (I : MI) (A : MA) (X : Nat → Int32) (ls : Array Slot) (H : Heap) (locs : List Loc), rc 7 I A X = some (r, I', A') → lv_has ls 3 [(0, .ref h), (1, .int (X 1)), (2, .int (X 2))] → va_P (dC, dI) vwCl (mw_W h q g I A) H → va_D B9 (mw_W h q g I A) → va_S B9 s.heap H locs → W p l e (headSpec w_M_look ({ frames := 4, cells := 0, slots := 0, locals := 93 })).room s m ([.ref h, .int k1] : List Value).toArray below meth c H locs 0 0 (MQ below (va_Qi (fun (r9 : Int32) (_ : Unit) => r9 = r) (fun (_ : Unit) t => va_P (dC, dI) vwCl (mw_W h q g I' A') t.heap ∧ va_K (dC, dI) vwCl (mw_T g) t ∧ va_D B9 (mw_W h q g I' A')) B9) ([.ref h, .int k1] : List Value).toArray s 0 0 B9) (F0 m 7 ls [])), ∀ (I : MI) (A : MA) (X : Nat → Int32) (ls : Array Slot) (H : Heap) (locs : List Loc), f_M_look_7 rc I A X = some (r, I', A') → lv_has ls 3 [(0, .ref h), (1, .int (X 1)), (2, .int (X 2))] → va_P (dC, dI) vwCl (mw_W h q g I A) H → va_D B9 (mw_W h q g I A) → va_S B9 s.heap H locs → W p l e (headSpec w_M_look ({ frames := 4, cells := 0, slots := 0, locals := 93 })).room s m ([.ref h, .int k1] : List Value).toArray below meth c H locs 0 0 (MQ below (va_Qi (fun (r9 : Int32) (_ : Unit) => r9 = r) (fun (_ : Unit) t => va_P (dC, dI) vwCl (mw_W h q g I' A') t.heap ∧ va_K (dC, dI) vwCl (mw_T g) t ∧ va_D B9 (mw_W h q g I' A')) B9) ([.ref h, .int k1] : List Value).toArray s 0 0 B9) (F0 m 7 ls []) := by
    intro rc hrc7 I A X ls H locs hf hl hP hD hS
    unfold f_M_look_7 at hf
    refine lv_iload_n hx hb d_M_look_7 rfl (lv_at hl 2 rfl) ?_
    refine lv_aload_n hx hb d_M_look_8 rfl (lv_at hl 0 rfl) ?_
    have hPc := hP.sub (ws' := (mw_W h q g I A)) [0, 1, 2, 3, 4, 5, 6, 7, 8, 9, 10, 11, 12, 13, 14, 15, 16, 17, 18, 19, 20] rfl
    have hDc := hD.sub (ws' := (mw_W h q g I A)) [0, 1, 2, 3, 4, 5, 6, 7, 8, 9, 10, 11, 12, 13, 14, 15, 16, 17, 18, 19, 20] (by decide) rfl
    have hKc := hK.sub (tys' := (mw_T g)) [0, 1, 2, 3, 4, 5, 6, 7, 8, 9, 10, 11, 12, 13, 14, 15, 16, 17, 18, 19] rfl
    have hFc := va_free (wc := (mw_W h q g I A)) hD hS hA [0, 1, 2, 3, 4, 5, 6, 7, 8, 9, 10, 11, 12, 13, 14, 15, 16, 17, 18, 19, 20] rfl
    cases hg1 : f_M_textLength I A with
    | none => rw [hg1] at hf; cases hf
    | some z1 =>
      obtain ⟨r1, I1, A1⟩ := z1
      rw [hg1] at hf
      dsimp only [Option.bind_some] at hf
      refine va_calli (va_runV (As := []) (rest := [.int (X 2)]) ⟨hx, hb, hml, hown, hts⟩ (cm_M_textLength l dC dI h q g _ I A r1 I1 A1 hg1) (cwV 0 hts (gd_v lk_57 lk_58 lk_59 lk_46 lk_56) rfl rfl rfl (by decide +kernel) ⟨Nat.le_of_ble_eq_true rfl, Nat.le_of_ble_eq_true rfl⟩) ⟨fun a U g mk q => by obtain ⟨q0, q1, qP, qK, qD⟩ := q; exact ⟨q0, q1, qP, va_K.moved (u := U) (U := U.calling g mk a) (Vm.Alike.refl U.vm) qK, qD⟩, va_recv (ci := 4) (q0 := 0) hK hP rfl rfl, fun U hU hW => ⟨rfl, by rw [hU], by rw [hU]; exact hPc, va_K.moved hW.alike hKc, hDc.weaken (fun _ _ _ _ => trivial)⟩⟩ rfl rfl hl.1 rfl (lv_room (Nat.le_of_ble_eq_true rfl)) d_M_look_9 ⟨Nat.le_of_ble_eq_true rfl, Nat.le_of_ble_eq_true rfl⟩) hS (fun q _ h => hFc q h) hFc (fun r9 u t H1 locs ht hvm hw hB hz1 hk1 hS => ?_)
      obtain ⟨hP1, hK1, hD1⟩ := hB
      rw [ht] at hP1
      rw [hw]
      obtain ⟨hP, hD⟩ := va_join (wr := []) (w1 := (mw_W h q g I1 A1)) hP hD [0, 1, 2, 3, 4, 5, 6, 7, 8, 9, 10, 11, 12, 13, 14, 15, 16, 17, 18, 19, 20] [] rfl rfl (by decide) (by decide) hk1 hFc hP1 hD1
      generalize H1 = H at hP hS ⊢
      have hP : va_P (dC, dI) vwCl (mw_W h q g I1 A1) H := hP
      have hD : va_D B9 (mw_W h q g I1 A1) := hD
      refine lv_icmp_gt (tgt := 42) hx hb d_M_look_12 (by decide) (fun hc1 => ?_) (fun hc1 => ?_)
      ·
        have hf := wk_ift hc1 hf
        exact blk42 rc hrc7 I1 A1 X _ _ _ hf (lv_sub hl [0, 1, 2] rfl) hP hD hS
      ·
        have hf := wk_iff hc1 hf
        refine lv_aload_n hx hb d_M_look_15 rfl (lv_at hl 0 rfl) ?_
        refine va_get (D := (dC, dI)) (ci := 4) (v := .int (I1 35)) (C := R_M) (T := F_M) (N := 38) hx hb hts (fun w h => List.mem_cons_of_mem _ (in_M w h)) hown hK hP 0 rfl rfl 35 (by decide) (hts _ (List.mem_cons_of_mem _ lk_170)) (fun _ h9 => h9) rfl d_M_look_16 ?_
        refine lv_if_ge (tgt := 42) hx hb d_M_look_19 (by decide) (fun hc2 => ?_) (fun hc2 => ?_)
        ·
          have hf := wk_ift hc2 hf
          exact blk42 rc hrc7 I1 A1 X _ _ _ hf (lv_sub hl [0, 1, 2] rfl) hP hD hS
        ·
          have hf := wk_iff hc2 hf
          refine lv_aload_n hx hb d_M_look_22 rfl (lv_at hl 0 rfl) ?_
          refine lv_iload_n hx hb d_M_look_23 rfl (lv_at hl 2 rfl) ?_
          refine va_put (D := (dC, dI)) (ci := 4) (v := .int (X 2)) (ty := .int) (C := R_M) (T := F_M) (N := 38) hx hb hts (fun w h => List.mem_cons_of_mem _ (in_M w h)) t_M tk_M n_M hown hK hP hD hS 0 rfl rfl 34 (by decide) (hts _ (List.mem_cons_of_mem _ lk_171)) (fun _ h9 => h9) rfl (by decide +kernel) rfl rfl (Nat.le_of_ble_eq_true rfl) d_M_look_24 (fun H locs hP hD hS => ?_)
          obtain ⟨I2, hI2, hf⟩ := wk_letE hf
          have hP : va_P (dC, dI) vwCl (mw_W h q g I2 A1) H := by rw [hI2]; exact hP
          have hD : va_D B9 (mw_W h q g I2 A1) := by rw [hI2]; exact hD
          clear hI2
          refine lv_aload_n hx hb d_M_look_27 rfl (lv_at hl 0 rfl) ?_
          refine lv_aload_n hx hb d_M_look_28 rfl (lv_at hl 0 rfl) ?_
          refine lv_iload_n hx hb d_M_look_29 rfl (lv_at hl 2 rfl) ?_
          have hPc := hP.sub (ws' := (mw_W h q g I2 A1)) [0, 1, 2, 3, 4, 5, 6, 7, 8, 9, 10, 11, 12, 13, 14, 15, 16, 17, 18, 19, 20] rfl
          have hDc := hD.sub (ws' := (mw_W h q g I2 A1)) [0, 1, 2, 3, 4, 5, 6, 7, 8, 9, 10, 11, 12, 13, 14, 15, 16, 17, 18, 19, 20] (by decide) rfl
          have hKc := hK.sub (tys' := (mw_T g)) [0, 1, 2, 3, 4, 5, 6, 7, 8, 9, 10, 11, 12, 13, 14, 15, 16, 17, 18, 19] rfl
          have hFc := va_free (wc := (mw_W h q g I2 A1)) hD hS hA [0, 1, 2, 3, 4, 5, 6, 7, 8, 9, 10, 11, 12, 13, 14, 15, 16, 17, 18, 19, 20] rfl
          cases hg3 : f_M_longest I2 A1 (X 2) with
          | none => rw [hg3] at hf; cases hf
          | some z3 =>
            obtain ⟨r3, I3, A3⟩ := z3
            rw [hg3] at hf
            dsimp only [Option.bind_some] at hf
            refine va_calli (va_runV (As := [.int (X 2)]) (rest := [.ref h]) ⟨hx, hb, hml, hown, hts⟩ (cm_M_longest l dC dI h q g _ I2 A1 (X 2) r3 I3 A3 hg3) (cwV 1 hts (gd_v lk_195 lk_196 lk_197 lk_46 lk_194) rfl rfl rfl (by decide +kernel) ⟨Nat.le_of_ble_eq_true rfl, Nat.le_of_ble_eq_true rfl⟩) ⟨fun a U g mk q => by obtain ⟨q0, q1, qP, qK, qD⟩ := q; exact ⟨q0, q1, qP, va_K.moved (u := U) (U := U.calling g mk a) (Vm.Alike.refl U.vm) qK, qD⟩, va_recv (ci := 4) (q0 := 0) hK hP rfl rfl, fun U hU hW => ⟨rfl, by rw [hU], by rw [hU]; exact hPc, va_K.moved hW.alike hKc, hDc.weaken (fun _ _ _ _ => trivial)⟩⟩ rfl rfl hl.1 rfl (lv_room (Nat.le_of_ble_eq_true rfl)) d_M_look_30 ⟨Nat.le_of_ble_eq_true rfl, Nat.le_of_ble_eq_true rfl⟩) hS (fun q _ h => hFc q h) hFc (fun r9 u t H1 locs ht hvm hw hB hz1 hk1 hS => ?_)
            obtain ⟨hP1, hK1, hD1⟩ := hB
            rw [ht] at hP1
            rw [hw]
            obtain ⟨hP, hD⟩ := va_join (wr := []) (w1 := (mw_W h q g I3 A3)) hP hD [0, 1, 2, 3, 4, 5, 6, 7, 8, 9, 10, 11, 12, 13, 14, 15, 16, 17, 18, 19, 20] [] rfl rfl (by decide) (by decide) hk1 hFc hP1 hD1
            generalize H1 = H at hP hS ⊢
            have hP : va_P (dC, dI) vwCl (mw_W h q g I3 A3) H := hP
            have hD : va_D B9 (mw_W h q g I3 A3) := hD
            refine va_put (D := (dC, dI)) (ci := 4) (v := .int r3) (ty := .int) (C := R_M) (T := F_M) (N := 38) hx hb hts (fun w h => List.mem_cons_of_mem _ (in_M w h)) t_M tk_M n_M hown hK hP hD hS 0 rfl rfl 35 (by decide) (hts _ (List.mem_cons_of_mem _ lk_170)) (fun _ h9 => h9) rfl (by decide +kernel) rfl rfl (Nat.le_of_ble_eq_true rfl) d_M_look_33 (fun H locs hP hD hS => ?_)
            obtain ⟨I4, hI4, hf⟩ := wk_letE hf
            have hP : va_P (dC, dI) vwCl (mw_W h q g I4 A3) H := by rw [hI4]; exact hP
            have hD : va_D B9 (mw_W h q g I4 A3) := by rw [hI4]; exact hD
            clear hI4
            refine lv_iinc (k := 2) (v := ((X 2) + 1)) (lv' := [(2, .int ((X 2) + 1)), (0, .ref h), (1, .int (X 1))]) hx hb d_M_look_36 hl rfl (wk_inc (by decide)) (by decide) rfl (fun ls hl => ?_)
            have hl : lv_has ls 3 [(2, .int ((X 2) + 1)), (0, .ref h), (1, .int (X 1))] := hl
            refine lv_goto (tgt := 7) hx hb d_M_look_39 (by decide) ?_
            exact hrc7 I4 A3 (upd X 2 ((X 2) + 1)) _ _ _ hf (lv_sub hl [1, 2, 0] rfl) hP hD hS
  have key : ∀ n : Nat, (∀ (I : MI) (A : MA) (X : Nat → Int32) (ls : Array Slot) (H : Heap) (locs : List Loc), f_M_look_go n 7 I A X = some (r, I', A') → lv_has ls 3 [(0, .ref h), (1, .int (X 1)), (2, .int (X 2))] → va_P (dC, dI) vwCl (mw_W h q g I A) H → va_D B9 (mw_W h q g I A) → va_S B9 s.heap H locs → W p l e (headSpec w_M_look ({ frames := 4, cells := 0, slots := 0, locals := 93 })).room s m ([.ref h, .int k1] : List Value).toArray below meth c H locs 0 0 (MQ below (va_Qi (fun (r9 : Int32) (_ : Unit) => r9 = r) (fun (_ : Unit) t => va_P (dC, dI) vwCl (mw_W h q g I' A') t.heap ∧ va_K (dC, dI) vwCl (mw_T g) t ∧ va_D B9 (mw_W h q g I' A')) B9) ([.ref h, .int k1] : List Value).toArray s 0 0 B9) (F0 m 7 ls [])) := by
    intro n
    induction n with
    | zero => exact fun I A X ls H locs hf => (by cases hf)
    | succ n ih =>
      have ih7 := ih
      exact stp7 (f_M_look_go n) ih7
  unfold f_M_look f_M_look_e at hf
  have hrc7 := key wk_FUEL
  refine lv_aload_n hx hb d_M_look_0 rfl (lv_at hl 0 rfl) ?_
  refine lv_iconst (v := (-1)) hx hb d_M_look_1 (by decide) ?_
  refine va_put (D := (dC, dI)) (ci := 4) (v := .int (-1)) (ty := .int) (C := R_M) (T := F_M) (N := 38) hx hb hts (fun w h => List.mem_cons_of_mem _ (in_M w h)) t_M tk_M n_M hown hK hP hD hS 0 rfl rfl 35 (by decide) (hts _ (List.mem_cons_of_mem _ lk_170)) (fun _ h9 => h9) rfl (by decide +kernel) rfl rfl (Nat.le_of_ble_eq_true rfl) d_M_look_2 (fun H locs hP hD hS => ?_)
  obtain ⟨I1, hI1, hf⟩ := wk_letE hf
  have hP : va_P (dC, dI) vwCl (mw_W h q g I1 A) H := by rw [hI1]; exact hP
  have hD : va_D B9 (mw_W h q g I1 A) := by rw [hI1]; exact hD
  clear hI1
  refine lv_iload_n hx hb d_M_look_5 rfl (lv_at hl 1 rfl) ?_
  refine lv_istore_n (lv' := [(2, .int k1), (0, .ref h), (1, .int k1)]) hx hb d_M_look_6 rfl hl (by decide) rfl (fun ls hl => ?_)
  have hl : lv_has ls 3 [(2, .int k1), (0, .ref h), (1, .int k1)] := hl
  exact hrc7 I1 A (upd (upd (fun _ => 0) 1 k1) 2 k1) _ _ _ hf (lv_sub hl [1, 2, 0] rfl) hP hD hS

set_option maxHeartbeats 8000000 in
set_option maxRecDepth 100000 in
theorem cm_M_find (l : Launch) (dC : Nat → ClassId) (dI : Nat → Nat → Nat) (h : Nat) (q : Nat → Nat) (g : Nat → ClassId) (sz : Nat) (I : MI) (A : MA) (k1 : Int32) (r : Int32) (I' : MI) (A' : MA) (hf : f_M_find I A k1 = some (r, I', A')) : Met l y_M_find w_M_find ({ frames := 5, cells := 0, slots := 0, locals := 115 }) (va_Pc [.ref h, .int k1] (fun U => U.heap.size = sz ∧ va_P (dC, dI) vwCl (mw_W h q g I A) U.heap ∧ va_K (dC, dI) vwCl (mw_T g) U ∧ va_D (fun _ => True) (mw_W h q g I A))) (va_Qi (fun (r9 : Int32) (_ : Unit) => r9 = r) (fun (_ : Unit) t => va_P (dC, dI) vwCl (mw_W h q g I' A') t.heap ∧ va_K (dC, dI) vwCl (mw_T g) t ∧ va_D (va_A (mw_W h q g I A) sz) (mw_W h q g I' A')) (va_A (mw_W h q g I A) sz)) 0 0 (va_A (mw_W h q g I A) sz) := by
  refine Met.ofW (cc := prog_6_method_45_code) (maxL := 2) (ret := (some .int)) (by decide) rfl ?_
  intro p e s m args below meth c s₁ B hml hv
  obtain ⟨rfl, hsz, hP, hK, hD0⟩ := hv
  have hx := B.exec
  have hb := B.bytes
  have hr := B.returns
  have hts := atoms_spec (ws := w_M_find) B.pre
  have hown : s.vm.findClass R_M = some m.cls := findClass_of_methodNamed B.named
  have hlocks := B.notSynchronized
  subst hsz
  have hD := hD0.self (sz := s.heap.size)
  generalize hAe : va_A (mw_W h q g I A) s.heap.size = B9 at hD ⊢
  have hA : ∀ q : Nat, s.heap.size ≤ q → B9 q := fun q h => by rw [← hAe]; exact Or.inr h
  clear hAe
  have hS : va_S B9 s.heap s.heap [] := va_S.rf
  have hl := lv_entry ([.ref h, .int k1]) (n := 2) (Nat.le_of_ble_eq_true rfl)
  rw [lg_entry_eq]
  generalize (lg_sl ([.ref h, .int k1]) ++ List.replicate (2 - (lg_sl ([.ref h, .int k1])).length) Slot.unset).toArray = ls at hl ⊢
  have hl : lv_has ls 2 [(0, .ref h), (1, .int k1)] := hl
  have blk52 : ∀ (I : MI) (A : MA) (X : Nat → Int32) (ls : Array Slot) (H : Heap) (locs : List Loc), f_M_find_52 I A X = some (r, I', A') → lv_has ls 2 [(0, .ref h), (1, .int (X 1))] → va_P (dC, dI) vwCl (mw_W h q g I A) H → va_D B9 (mw_W h q g I A) → va_S B9 s.heap H locs → W p l e (headSpec w_M_find ({ frames := 5, cells := 0, slots := 0, locals := 115 })).room s m ([.ref h, .int k1] : List Value).toArray below meth c H locs 0 0 (MQ below (va_Qi (fun (r9 : Int32) (_ : Unit) => r9 = r) (fun (_ : Unit) t => va_P (dC, dI) vwCl (mw_W h q g I' A') t.heap ∧ va_K (dC, dI) vwCl (mw_T g) t ∧ va_D B9 (mw_W h q g I' A')) B9) ([.ref h, .int k1] : List Value).toArray s 0 0 B9) (F0 m 52 ls []) := by
    intro I A X ls H locs hf hl hP hD hS
    unfold f_M_find_52 at hf
    refine lv_aload_n hx hb d_M_find_52 rfl (lv_at hl 0 rfl) ?_
    refine va_get (D := (dC, dI)) (ci := 4) (v := .int (I 0)) (C := R_M) (T := F_M) (N := 38) hx hb hts (fun w h => List.mem_cons_of_mem _ (in_M w h)) hown hK hP 0 rfl rfl 0 (by decide) (hts _ (List.mem_cons_of_mem _ lk_60)) (fun _ h9 => h9) rfl d_M_find_53 ?_
    refine lv_if_le (tgt := 61) hx hb d_M_find_56 (by decide) (fun hc1 => ?_) (fun hc1 => ?_)
    ·
      have hf := wk_ift hc1 hf
      refine lv_aload_n hx hb d_M_find_61 rfl (lv_at hl 0 rfl) ?_
      refine lv_aload_n hx hb d_M_find_62 rfl (lv_at hl 0 rfl) ?_
      refine va_get (D := (dC, dI)) (ci := 4) (v := .int (I 34)) (C := R_M) (T := F_M) (N := 38) hx hb hts (fun w h => List.mem_cons_of_mem _ (in_M w h)) hown hK hP 0 rfl rfl 34 (by decide) (hts _ (List.mem_cons_of_mem _ lk_171)) (fun _ h9 => h9) rfl d_M_find_63 ?_
      refine va_put (D := (dC, dI)) (ci := 4) (v := .int (I 34)) (ty := .int) (C := R_M) (T := F_M) (N := 38) hx hb hts (fun w h => List.mem_cons_of_mem _ (in_M w h)) t_M tk_M n_M hown hK hP hD hS 0 rfl rfl 12 (by decide) (hts _ (List.mem_cons_of_mem _ lk_127)) (fun _ h9 => h9) rfl (by decide +kernel) rfl rfl (Nat.le_of_ble_eq_true rfl) d_M_find_66 (fun H locs hP hD hS => ?_)
      obtain ⟨I1, hI1, hf⟩ := wk_letE hf
      have hP : va_P (dC, dI) vwCl (mw_W h q g I1 A) H := by rw [hI1]; exact hP
      have hD : va_D B9 (mw_W h q g I1 A) := by rw [hI1]; exact hD
      clear hI1
      refine lv_aload_n hx hb d_M_find_69 rfl (lv_at hl 0 rfl) ?_
      refine lv_aload_n hx hb d_M_find_70 rfl (lv_at hl 0 rfl) ?_
      refine va_get (D := (dC, dI)) (ci := 4) (v := .int (I1 35)) (C := R_M) (T := F_M) (N := 38) hx hb hts (fun w h => List.mem_cons_of_mem _ (in_M w h)) hown hK hP 0 rfl rfl 35 (by decide) (hts _ (List.mem_cons_of_mem _ lk_170)) (fun _ h9 => h9) rfl d_M_find_71 ?_
      refine va_put (D := (dC, dI)) (ci := 4) (v := .int (I1 35)) (ty := .int) (C := R_M) (T := F_M) (N := 38) hx hb hts (fun w h => List.mem_cons_of_mem _ (in_M w h)) t_M tk_M n_M hown hK hP hD hS 0 rfl rfl 11 (by decide) (hts _ (List.mem_cons_of_mem _ lk_126)) (fun _ h9 => h9) rfl (by decide +kernel) rfl rfl (Nat.le_of_ble_eq_true rfl) d_M_find_74 (fun H locs hP hD hS => ?_)
      obtain ⟨I2, hI2, hf⟩ := wk_letE hf
      have hP : va_P (dC, dI) vwCl (mw_W h q g I2 A) H := by rw [hI2]; exact hP
      have hD : va_D B9 (mw_W h q g I2 A) := by rw [hI2]; exact hD
      clear hI2
      refine lv_aload_n hx hb d_M_find_77 rfl (lv_at hl 0 rfl) ?_
      refine va_get (D := (dC, dI)) (ci := 4) (v := .int (I2 12)) (C := R_M) (T := F_M) (N := 38) hx hb hts (fun w h => List.mem_cons_of_mem _ (in_M w h)) hown hK hP 0 rfl rfl 12 (by decide) (hts _ (List.mem_cons_of_mem _ lk_127)) (fun _ h9 => h9) rfl d_M_find_78 ?_
      obtain ⟨e1, e2, e3⟩ := wk_inj hf
      subst e1
      subst e2
      subst e3
      exact W.iret (v := (I2 12)) hx hb hr (fun t ht hW => ⟨⟨(I2 12), (), rfl, rfl, by rw [ht]; exact hP, va_K.moved hW.alike hK, hD⟩, hS.F ht⟩) hS.2.2 d_M_find_81
    ·
      have hf := wk_iff hc1 hf
      refine lv_iconst (v := 0) hx hb d_M_find_59 (by decide) ?_
      obtain ⟨e1, e2, e3⟩ := wk_inj hf
      subst e1
      subst e2
      subst e3
      exact W.iret (v := 0) hx hb hr (fun t ht hW => ⟨⟨0, (), rfl, rfl, by rw [ht]; exact hP, va_K.moved hW.alike hK, hD⟩, hS.F ht⟩) hS.2.2 d_M_find_60
  have blk29 : ∀ (I : MI) (A : MA) (X : Nat → Int32) (s0 : Int32) (ls : Array Slot) (H : Heap) (locs : List Loc), f_M_find_29 I A X s0 = some (r, I', A') → lv_has ls 2 [(0, .ref h), (1, .int (X 1))] → va_P (dC, dI) vwCl (mw_W h q g I A) H → va_D B9 (mw_W h q g I A) → va_S B9 s.heap H locs → W p l e (headSpec w_M_find ({ frames := 5, cells := 0, slots := 0, locals := 115 })).room s m ([.ref h, .int k1] : List Value).toArray below meth c H locs 0 0 (MQ below (va_Qi (fun (r9 : Int32) (_ : Unit) => r9 = r) (fun (_ : Unit) t => va_P (dC, dI) vwCl (mw_W h q g I' A') t.heap ∧ va_K (dC, dI) vwCl (mw_T g) t ∧ va_D B9 (mw_W h q g I' A')) B9) ([.ref h, .int k1] : List Value).toArray s 0 0 B9) (F0 m 29 ls [.int s0, .ref h]) := by
    intro I A X s0 ls H locs hf hl hP hD hS
    unfold f_M_find_29 at hf
    refine va_put (D := (dC, dI)) (ci := 4) (v := .int s0) (ty := .int) (C := R_M) (T := F_M) (N := 38) hx hb hts (fun w h => List.mem_cons_of_mem _ (in_M w h)) t_M tk_M n_M hown hK hP hD hS 0 rfl rfl 0 (by decide) (hts _ (List.mem_cons_of_mem _ lk_60)) (fun _ h9 => h9) rfl (by decide +kernel) rfl rfl (Nat.le_of_ble_eq_true rfl) d_M_find_29 (fun H locs hP hD hS => ?_)
    obtain ⟨I1, hI1, hf⟩ := wk_letE hf
    have hP : va_P (dC, dI) vwCl (mw_W h q g I1 A) H := by rw [hI1]; exact hP
    have hD : va_D B9 (mw_W h q g I1 A) := by rw [hI1]; exact hD
    clear hI1
    refine lv_aload_n hx hb d_M_find_32 rfl (lv_at hl 0 rfl) ?_
    refine va_get (D := (dC, dI)) (ci := 4) (v := .int (I1 0)) (C := R_M) (T := F_M) (N := 38) hx hb hts (fun w h => List.mem_cons_of_mem _ (in_M w h)) hown hK hP 0 rfl rfl 0 (by decide) (hts _ (List.mem_cons_of_mem _ lk_60)) (fun _ h9 => h9) rfl d_M_find_33 ?_
    refine lv_if_ne (tgt := 52) hx hb d_M_find_36 (by decide) (fun hc1 => ?_) (fun hc1 => ?_)
    ·
      have hf := wk_iff hc1 hf
      exact blk52 I1 A X _ _ _ hf (lv_sub hl [0, 1] rfl) hP hD hS
    ·
      have hf := wk_ift hc1 hf
      refine lv_aload_n hx hb d_M_find_39 rfl (lv_at hl 0 rfl) ?_
      refine lv_iload_n hx hb d_M_find_40 rfl (lv_at hl 1 rfl) ?_
      have hPc := hP.sub (ws' := (mw_W h q g I1 A)) [0, 1, 2, 3, 4, 5, 6, 7, 8, 9, 10, 11, 12, 13, 14, 15, 16, 17, 18, 19, 20] rfl
      have hDc := hD.sub (ws' := (mw_W h q g I1 A)) [0, 1, 2, 3, 4, 5, 6, 7, 8, 9, 10, 11, 12, 13, 14, 15, 16, 17, 18, 19, 20] (by decide) rfl
      have hKc := hK.sub (tys' := (mw_T g)) [0, 1, 2, 3, 4, 5, 6, 7, 8, 9, 10, 11, 12, 13, 14, 15, 16, 17, 18, 19] rfl
      have hFc := va_free (wc := (mw_W h q g I1 A)) hD hS hA [0, 1, 2, 3, 4, 5, 6, 7, 8, 9, 10, 11, 12, 13, 14, 15, 16, 17, 18, 19, 20] rfl
      cases hg2 : f_M_look I1 A (X 1) with
      | none => rw [hg2] at hf; cases hf
      | some z2 =>
        obtain ⟨r2, I2, A2⟩ := z2
        rw [hg2] at hf
        dsimp only [Option.bind_some] at hf
        refine va_calli (va_runV (As := [.int (X 1)]) (rest := []) ⟨hx, hb, hml, hown, hts⟩ (cm_M_look l dC dI h q g _ I1 A (X 1) r2 I2 A2 hg2) (cwV 1 hts (gd_v lk_199 lk_200 lk_201 lk_46 lk_198) rfl rfl rfl (by decide +kernel) ⟨Nat.le_of_ble_eq_true rfl, Nat.le_of_ble_eq_true rfl⟩) ⟨fun a U g mk q => by obtain ⟨q0, q1, qP, qK, qD⟩ := q; exact ⟨q0, q1, qP, va_K.moved (u := U) (U := U.calling g mk a) (Vm.Alike.refl U.vm) qK, qD⟩, va_recv (ci := 4) (q0 := 0) hK hP rfl rfl, fun U hU hW => ⟨rfl, by rw [hU], by rw [hU]; exact hPc, va_K.moved hW.alike hKc, hDc.weaken (fun _ _ _ _ => trivial)⟩⟩ rfl rfl hl.1 rfl (lv_room (Nat.le_of_ble_eq_true rfl)) d_M_find_41 ⟨Nat.le_of_ble_eq_true rfl, Nat.le_of_ble_eq_true rfl⟩) hS (fun q _ h => hFc q h) hFc (fun r9 u t H1 locs ht hvm hw hB hz1 hk1 hS => ?_)
        obtain ⟨hP1, hK1, hD1⟩ := hB
        rw [ht] at hP1
        rw [hw]
        obtain ⟨hP, hD⟩ := va_join (wr := []) (w1 := (mw_W h q g I2 A2)) hP hD [0, 1, 2, 3, 4, 5, 6, 7, 8, 9, 10, 11, 12, 13, 14, 15, 16, 17, 18, 19, 20] [] rfl rfl (by decide) (by decide) hk1 hFc hP1 hD1
        generalize H1 = H at hP hS ⊢
        have hP : va_P (dC, dI) vwCl (mw_W h q g I2 A2) H := hP
        have hD : va_D B9 (mw_W h q g I2 A2) := hD
        refine lv_if_ne (tgt := 52) hx hb d_M_find_44 (by decide) (fun hc2 => ?_) (fun hc2 => ?_)
        ·
          have hf := wk_iff hc2 hf
          exact blk52 I2 A2 X _ _ _ hf (lv_sub hl [0, 1] rfl) hP hD hS
        ·
          have hf := wk_ift hc2 hf
          refine lv_aload_n hx hb d_M_find_47 rfl (lv_at hl 0 rfl) ?_
          refine lv_iconst (v := 3) hx hb d_M_find_48 (by decide) ?_
          refine va_put (D := (dC, dI)) (ci := 4) (v := .int 3) (ty := .int) (C := R_M) (T := F_M) (N := 38) hx hb hts (fun w h => List.mem_cons_of_mem _ (in_M w h)) t_M tk_M n_M hown hK hP hD hS 0 rfl rfl 0 (by decide) (hts _ (List.mem_cons_of_mem _ lk_60)) (fun _ h9 => h9) rfl (by decide +kernel) rfl rfl (Nat.le_of_ble_eq_true rfl) d_M_find_49 (fun H locs hP hD hS => ?_)
          obtain ⟨I3, hI3, hf⟩ := wk_letE hf
          have hP : va_P (dC, dI) vwCl (mw_W h q g I3 A2) H := by rw [hI3]; exact hP
          have hD : va_D B9 (mw_W h q g I3 A2) := by rw [hI3]; exact hD
          clear hI3
          exact blk52 I3 A2 X _ _ _ hf (lv_sub hl [0, 1] rfl) hP hD hS
  have blk24 : ∀ (I : MI) (A : MA) (X : Nat → Int32) (ls : Array Slot) (H : Heap) (locs : List Loc), f_M_find_24 I A X = some (r, I', A') → lv_has ls 2 [(0, .ref h), (1, .int (X 1))] → va_P (dC, dI) vwCl (mw_W h q g I A) H → va_D B9 (mw_W h q g I A) → va_S B9 s.heap H locs → W p l e (headSpec w_M_find ({ frames := 5, cells := 0, slots := 0, locals := 115 })).room s m ([.ref h, .int k1] : List Value).toArray below meth c H locs 0 0 (MQ below (va_Qi (fun (r9 : Int32) (_ : Unit) => r9 = r) (fun (_ : Unit) t => va_P (dC, dI) vwCl (mw_W h q g I' A') t.heap ∧ va_K (dC, dI) vwCl (mw_T g) t ∧ va_D B9 (mw_W h q g I' A')) B9) ([.ref h, .int k1] : List Value).toArray s 0 0 B9) (F0 m 24 ls [.ref h]) := by
    intro I A X ls H locs hf hl hP hD hS
    unfold f_M_find_24 at hf
    refine lv_iconst (v := 2) hx hb d_M_find_24 (by decide) ?_
    refine lv_goto (tgt := 29) hx hb d_M_find_25 (by decide) ?_
    exact blk29 I A X 2 _ _ _ hf (lv_sub hl [0, 1] rfl) hP hD hS
  unfold f_M_find at hf
  refine lv_aload_n hx hb d_M_find_0 rfl (lv_at hl 0 rfl) ?_
  refine lv_aload_n hx hb d_M_find_1 rfl (lv_at hl 0 rfl) ?_
  refine va_get (D := (dC, dI)) (ci := 4) (v := .int (I 13)) (C := R_M) (T := F_M) (N := 38) hx hb hts (fun w h => List.mem_cons_of_mem _ (in_M w h)) hown hK hP 0 rfl rfl 13 (by decide) (hts _ (List.mem_cons_of_mem _ lk_142)) (fun _ h9 => h9) rfl d_M_find_2 ?_
  refine lv_if_ne (tgt := 12) hx hb d_M_find_5 (by decide) (fun hc1 => ?_) (fun hc1 => ?_)
  ·
    have hf := wk_iff hc1 hf
    refine lv_iload_n hx hb d_M_find_12 rfl (lv_at hl 1 rfl) ?_
    refine lv_if_lt (tgt := 24) hx hb d_M_find_13 (by decide) (fun hc2 => ?_) (fun hc2 => ?_)
    ·
      have hf := wk_ift hc2 hf
      exact blk24 I A (upd (fun _ => 0) 1 k1) _ _ _ hf (lv_sub hl [0, 1] rfl) hP hD hS
    ·
      have hf := wk_iff hc2 hf
      refine lv_iload_n hx hb d_M_find_16 rfl (lv_at hl 1 rfl) ?_
      refine lv_aload_n hx hb d_M_find_17 rfl (lv_at hl 0 rfl) ?_
      have hPc := hP.sub (ws' := (mw_W h q g I A)) [0, 1, 2, 3, 4, 5, 6, 7, 8, 9, 10, 11, 12, 13, 14, 15, 16, 17, 18, 19, 20] rfl
      have hDc := hD.sub (ws' := (mw_W h q g I A)) [0, 1, 2, 3, 4, 5, 6, 7, 8, 9, 10, 11, 12, 13, 14, 15, 16, 17, 18, 19, 20] (by decide) rfl
      have hKc := hK.sub (tys' := (mw_T g)) [0, 1, 2, 3, 4, 5, 6, 7, 8, 9, 10, 11, 12, 13, 14, 15, 16, 17, 18, 19] rfl
      have hFc := va_free (wc := (mw_W h q g I A)) hD hS hA [0, 1, 2, 3, 4, 5, 6, 7, 8, 9, 10, 11, 12, 13, 14, 15, 16, 17, 18, 19, 20] rfl
      cases hg1 : f_M_textLength I A with
      | none => rw [hg1] at hf; cases hf
      | some z1 =>
        obtain ⟨r1, I1, A1⟩ := z1
        rw [hg1] at hf
        dsimp only [Option.bind_some] at hf
        refine va_calli (va_runV (As := []) (rest := [.int k1, .ref h]) ⟨hx, hb, hml, hown, hts⟩ (cm_M_textLength l dC dI h q g _ I A r1 I1 A1 hg1) (cwV 0 hts (gd_v lk_57 lk_58 lk_59 lk_46 lk_56) rfl rfl rfl (by decide +kernel) ⟨Nat.le_of_ble_eq_true rfl, Nat.le_of_ble_eq_true rfl⟩) ⟨fun a U g mk q => by obtain ⟨q0, q1, qP, qK, qD⟩ := q; exact ⟨q0, q1, qP, va_K.moved (u := U) (U := U.calling g mk a) (Vm.Alike.refl U.vm) qK, qD⟩, va_recv (ci := 4) (q0 := 0) hK hP rfl rfl, fun U hU hW => ⟨rfl, by rw [hU], by rw [hU]; exact hPc, va_K.moved hW.alike hKc, hDc.weaken (fun _ _ _ _ => trivial)⟩⟩ rfl rfl hl.1 rfl (lv_room (Nat.le_of_ble_eq_true rfl)) d_M_find_18 ⟨Nat.le_of_ble_eq_true rfl, Nat.le_of_ble_eq_true rfl⟩) hS (fun q _ h => hFc q h) hFc (fun r9 u t H1 locs ht hvm hw hB hz1 hk1 hS => ?_)
        obtain ⟨hP1, hK1, hD1⟩ := hB
        rw [ht] at hP1
        rw [hw]
        obtain ⟨hP, hD⟩ := va_join (wr := []) (w1 := (mw_W h q g I1 A1)) hP hD [0, 1, 2, 3, 4, 5, 6, 7, 8, 9, 10, 11, 12, 13, 14, 15, 16, 17, 18, 19, 20] [] rfl rfl (by decide) (by decide) hk1 hFc hP1 hD1
        generalize H1 = H at hP hS ⊢
        have hP : va_P (dC, dI) vwCl (mw_W h q g I1 A1) H := hP
        have hD : va_D B9 (mw_W h q g I1 A1) := hD
        refine lv_icmp_le (tgt := 28) hx hb d_M_find_21 (by decide) (fun hc3 => ?_) (fun hc3 => ?_)
        ·
          have hf := wk_ift hc3 hf
          refine lv_iconst (v := 0) hx hb d_M_find_28 (by decide) ?_
          exact blk29 I1 A1 (upd (fun _ => 0) 1 k1) 0 _ _ _ hf (lv_sub hl [0, 1] rfl) hP hD hS
        ·
          have hf := wk_iff hc3 hf
          exact blk24 I1 A1 (upd (fun _ => 0) 1 k1) _ _ _ hf (lv_sub hl [0, 1] rfl) hP hD hS
  ·
    have hf := wk_ift hc1 hf
    refine lv_iconst (v := 1) hx hb d_M_find_8 (by decide) ?_
    refine lv_goto (tgt := 29) hx hb d_M_find_9 (by decide) ?_
    exact blk29 I A (upd (fun _ => 0) 1 k1) 1 _ _ _ hf (lv_sub hl [0, 1] rfl) hP hD hS

set_option maxHeartbeats 8000000 in
set_option maxRecDepth 100000 in
theorem cm_M_go (l : Launch) (dC : Nat → ClassId) (dI : Nat → Nat → Nat) (h : Nat) (q : Nat → Nat) (g : Nat → ClassId) (sz : Nat) (I : MI) (A : MA) (k1 k2 : Int32) (r : Int32) (I' : MI) (A' : MA) (hf : f_M_go I A k1 k2 = some (r, I', A')) : Met l y_M_go w_M_go ({ frames := 1, cells := 0, slots := 0, locals := 20 }) (va_Pc [.ref h, .int k1, .int k2] (fun U => U.heap.size = sz ∧ va_P (dC, dI) vwCl (mw_W h q g I A) U.heap ∧ va_K (dC, dI) vwCl (mw_T g) U ∧ va_D (fun _ => True) (mw_W h q g I A))) (va_Qv (fun (u : Unit) => u = u) (fun (_ : Unit) t => va_P (dC, dI) vwCl (mw_W h q g I' A') t.heap ∧ va_K (dC, dI) vwCl (mw_T g) t ∧ va_D (va_A (mw_W h q g I A) sz) (mw_W h q g I' A')) (va_A (mw_W h q g I A) sz)) 0 0 (va_A (mw_W h q g I A) sz) := by
  refine Met.ofW (cc := prog_6_method_17_code) (maxL := 3) (ret := none) (by decide) rfl ?_
  intro p e s m args below meth c s₁ B hml hv
  obtain ⟨rfl, hsz, hP, hK, hD0⟩ := hv
  have hx := B.exec
  have hb := B.bytes
  have hr := B.returns
  have hts := atoms_spec (ws := w_M_go) B.pre
  have hown : s.vm.findClass R_M = some m.cls := findClass_of_methodNamed B.named
  have hlocks := B.notSynchronized
  subst hsz
  have hD := hD0.self (sz := s.heap.size)
  generalize hAe : va_A (mw_W h q g I A) s.heap.size = B9 at hD ⊢
  have hA : ∀ q : Nat, s.heap.size ≤ q → B9 q := fun q h => by rw [← hAe]; exact Or.inr h
  clear hAe
  have hS : va_S B9 s.heap s.heap [] := va_S.rf
  have hl := lv_entry ([.ref h, .int k1, .int k2]) (n := 3) (Nat.le_of_ble_eq_true rfl)
  rw [lg_entry_eq]
  generalize (lg_sl ([.ref h, .int k1, .int k2]) ++ List.replicate (3 - (lg_sl ([.ref h, .int k1, .int k2])).length) Slot.unset).toArray = ls at hl ⊢
  have hl : lv_has ls 3 [(0, .ref h), (1, .int k1), (2, .int k2)] := hl
  have blk84 : ∀ (I : MI) (A : MA) (X : Nat → Int32) (s0 : Int32) (ls : Array Slot) (H : Heap) (locs : List Loc), f_M_go_84 I A X s0 = some (r, I', A') → lv_has ls 3 [(0, .ref h), (1, .int (X 1)), (2, .int (X 2))] → va_P (dC, dI) vwCl (mw_W h q g I A) H → va_D B9 (mw_W h q g I A) → va_S B9 s.heap H locs → W p l e (headSpec w_M_go ({ frames := 1, cells := 0, slots := 0, locals := 20 })).room s m ([.ref h, .int k1, .int k2] : List Value).toArray below meth c H locs 0 0 (MQ below (va_Qv (fun (u : Unit) => u = u) (fun (_ : Unit) t => va_P (dC, dI) vwCl (mw_W h q g I' A') t.heap ∧ va_K (dC, dI) vwCl (mw_T g) t ∧ va_D B9 (mw_W h q g I' A')) B9) ([.ref h, .int k1, .int k2] : List Value).toArray s 0 0 B9) (F0 m 84 ls [.int s0, .ref h]) := by
    intro I A X s0 ls H locs hf hl hP hD hS
    unfold f_M_go_84 at hf
    refine va_put (D := (dC, dI)) (ci := 4) (v := .int s0) (ty := .int) (C := R_M) (T := F_M) (N := 38) hx hb hts (fun w h => List.mem_cons_of_mem _ (in_M w h)) t_M tk_M n_M hown hK hP hD hS 0 rfl rfl 12 (by decide) (hts _ (List.mem_cons_of_mem _ lk_127)) (fun _ h9 => h9) rfl (by decide +kernel) rfl rfl (Nat.le_of_ble_eq_true rfl) d_M_go_84 (fun H locs hP hD hS => ?_)
    obtain ⟨I1, hI1, hf⟩ := wk_letE hf
    have hP : va_P (dC, dI) vwCl (mw_W h q g I1 A) H := by rw [hI1]; exact hP
    have hD : va_D B9 (mw_W h q g I1 A) := by rw [hI1]; exact hD
    clear hI1
    obtain ⟨e1, e2, e3⟩ := wk_inj hf
    subst e1
    subst e2
    subst e3
    exact W.vret hx hb hr (fun t ht hW => ⟨⟨(), rfl, rfl, by rw [ht]; exact hP, va_K.moved hW.alike hK, hD⟩, hS.F ht⟩) hS.2.2 d_M_go_87
  have blk56 : ∀ (I : MI) (A : MA) (X : Nat → Int32) (s0 : Int32) (ls : Array Slot) (H : Heap) (locs : List Loc), f_M_go_56 I A X s0 = some (r, I', A') → lv_has ls 3 [(0, .ref h), (1, .int (X 1)), (2, .int (X 2))] → va_P (dC, dI) vwCl (mw_W h q g I A) H → va_D B9 (mw_W h q g I A) → va_S B9 s.heap H locs → W p l e (headSpec w_M_go ({ frames := 1, cells := 0, slots := 0, locals := 20 })).room s m ([.ref h, .int k1, .int k2] : List Value).toArray below meth c H locs 0 0 (MQ below (va_Qv (fun (u : Unit) => u = u) (fun (_ : Unit) t => va_P (dC, dI) vwCl (mw_W h q g I' A') t.heap ∧ va_K (dC, dI) vwCl (mw_T g) t ∧ va_D B9 (mw_W h q g I' A')) B9) ([.ref h, .int k1, .int k2] : List Value).toArray s 0 0 B9) (F0 m 56 ls [.int s0, .ref h]) := by
    intro I A X s0 ls H locs hf hl hP hD hS
    unfold f_M_go_56 at hf
    refine va_put (D := (dC, dI)) (ci := 4) (v := .int s0) (ty := .int) (C := R_M) (T := F_M) (N := 38) hx hb hts (fun w h => List.mem_cons_of_mem _ (in_M w h)) t_M tk_M n_M hown hK hP hD hS 0 rfl rfl 12 (by decide) (hts _ (List.mem_cons_of_mem _ lk_127)) (fun _ h9 => h9) rfl (by decide +kernel) rfl rfl (Nat.le_of_ble_eq_true rfl) d_M_go_56 (fun H locs hP hD hS => ?_)
    obtain ⟨I1, hI1, hf⟩ := wk_letE hf
    have hP : va_P (dC, dI) vwCl (mw_W h q g I1 A) H := by rw [hI1]; exact hP
    have hD : va_D B9 (mw_W h q g I1 A) := by rw [hI1]; exact hD
    clear hI1
    refine lv_aload_n hx hb d_M_go_59 rfl (lv_at hl 0 rfl) ?_
    refine lv_iload_n hx hb d_M_go_60 rfl (lv_at hl 1 rfl) ?_
    refine va_put (D := (dC, dI)) (ci := 4) (v := .int (X 1)) (ty := .int) (C := R_M) (T := F_M) (N := 38) hx hb hts (fun w h => List.mem_cons_of_mem _ (in_M w h)) t_M tk_M n_M hown hK hP hD hS 0 rfl rfl 11 (by decide) (hts _ (List.mem_cons_of_mem _ lk_126)) (fun _ h9 => h9) rfl (by decide +kernel) rfl rfl (Nat.le_of_ble_eq_true rfl) d_M_go_61 (fun H locs hP hD hS => ?_)
    obtain ⟨I2, hI2, hf⟩ := wk_letE hf
    have hP : va_P (dC, dI) vwCl (mw_W h q g I2 A) H := by rw [hI2]; exact hP
    have hD : va_D B9 (mw_W h q g I2 A) := by rw [hI2]; exact hD
    clear hI2
    refine lv_aload_n hx hb d_M_go_64 rfl (lv_at hl 0 rfl) ?_
    refine lv_aload_n hx hb d_M_go_65 rfl (lv_at hl 0 rfl) ?_
    refine va_get (D := (dC, dI)) (ci := 4) (v := .int (I2 12)) (C := R_M) (T := F_M) (N := 38) hx hb hts (fun w h => List.mem_cons_of_mem _ (in_M w h)) hown hK hP 0 rfl rfl 12 (by decide) (hts _ (List.mem_cons_of_mem _ lk_127)) (fun _ h9 => h9) rfl d_M_go_66 ?_
    refine lv_aload_n hx hb d_M_go_69 rfl (lv_at hl 0 rfl) ?_
    refine va_get (D := (dC, dI)) (ci := 4) (v := .int (I2 11)) (C := R_M) (T := F_M) (N := 38) hx hb hts (fun w h => List.mem_cons_of_mem _ (in_M w h)) hown hK hP 0 rfl rfl 11 (by decide) (hts _ (List.mem_cons_of_mem _ lk_126)) (fun _ h9 => h9) rfl d_M_go_70 ?_
    refine lv_icmp_ne (tgt := 80) hx hb d_M_go_73 (by decide) (fun hc1 => ?_) (fun hc1 => ?_)
    ·
      have hf := wk_iff hc1 hf
      refine lv_aload_n hx hb d_M_go_80 rfl (lv_at hl 0 rfl) ?_
      refine va_get (D := (dC, dI)) (ci := 4) (v := .int (I2 12)) (C := R_M) (T := F_M) (N := 38) hx hb hts (fun w h => List.mem_cons_of_mem _ (in_M w h)) hown hK hP 0 rfl rfl 12 (by decide) (hts _ (List.mem_cons_of_mem _ lk_127)) (fun _ h9 => h9) rfl d_M_go_81 ?_
      exact blk84 I2 A X (I2 12) _ _ _ hf (lv_sub hl [0, 1, 2] rfl) hP hD hS
    ·
      have hf := wk_ift hc1 hf
      refine lv_iconst (v := (-1)) hx hb d_M_go_76 (by decide) ?_
      refine lv_goto (tgt := 84) hx hb d_M_go_77 (by decide) ?_
      exact blk84 I2 A X (-1) _ _ _ hf (lv_sub hl [0, 1, 2] rfl) hP hD hS
  have blk18 : ∀ (I : MI) (A : MA) (X : Nat → Int32) (s0 : Int32) (ls : Array Slot) (H : Heap) (locs : List Loc), f_M_go_18 I A X s0 = some (r, I', A') → lv_has ls 3 [(0, .ref h), (1, .int (X 1)), (2, .int (X 2))] → va_P (dC, dI) vwCl (mw_W h q g I A) H → va_D B9 (mw_W h q g I A) → va_S B9 s.heap H locs → W p l e (headSpec w_M_go ({ frames := 1, cells := 0, slots := 0, locals := 20 })).room s m ([.ref h, .int k1, .int k2] : List Value).toArray below meth c H locs 0 0 (MQ below (va_Qv (fun (u : Unit) => u = u) (fun (_ : Unit) t => va_P (dC, dI) vwCl (mw_W h q g I' A') t.heap ∧ va_K (dC, dI) vwCl (mw_T g) t ∧ va_D B9 (mw_W h q g I' A')) B9) ([.ref h, .int k1, .int k2] : List Value).toArray s 0 0 B9) (F0 m 18 ls [.int s0, .ref h]) := by
    intro I A X s0 ls H locs hf hl hP hD hS
    unfold f_M_go_18 at hf
    refine va_put (D := (dC, dI)) (ci := 4) (v := .int s0) (ty := .int) (C := R_M) (T := F_M) (N := 38) hx hb hts (fun w h => List.mem_cons_of_mem _ (in_M w h)) t_M tk_M n_M hown hK hP hD hS 0 rfl rfl 0 (by decide) (hts _ (List.mem_cons_of_mem _ lk_60)) (fun _ h9 => h9) rfl (by decide +kernel) rfl rfl (Nat.le_of_ble_eq_true rfl) d_M_go_18 (fun H locs hP hD hS => ?_)
    obtain ⟨I1, hI1, hf⟩ := wk_letE hf
    have hP : va_P (dC, dI) vwCl (mw_W h q g I1 A) H := by rw [hI1]; exact hP
    have hD : va_D B9 (mw_W h q g I1 A) := by rw [hI1]; exact hD
    clear hI1
    refine lv_aload_n hx hb d_M_go_21 rfl (lv_at hl 0 rfl) ?_
    refine va_get (D := (dC, dI)) (ci := 4) (v := .int (I1 0)) (C := R_M) (T := F_M) (N := 38) hx hb hts (fun w h => List.mem_cons_of_mem _ (in_M w h)) hown hK hP 0 rfl rfl 0 (by decide) (hts _ (List.mem_cons_of_mem _ lk_60)) (fun _ h9 => h9) rfl d_M_go_22 ?_
    refine lv_if_le (tgt := 29) hx hb d_M_go_25 (by decide) (fun hc1 => ?_) (fun hc1 => ?_)
    ·
      have hf := wk_ift hc1 hf
      refine lv_aload_n hx hb d_M_go_29 rfl (lv_at hl 0 rfl) ?_
      refine lv_iload_n hx hb d_M_go_30 rfl (lv_at hl 2 rfl) ?_
      refine lv_if_ne (tgt := 38) hx hb d_M_go_31 (by decide) (fun hc2 => ?_) (fun hc2 => ?_)
      ·
        have hf := wk_iff hc2 hf
        refine lv_aload_n hx hb d_M_go_38 rfl (lv_at hl 0 rfl) ?_
        refine va_get (D := (dC, dI)) (ci := 4) (v := .int (I1 12)) (C := R_M) (T := F_M) (N := 38) hx hb hts (fun w h => List.mem_cons_of_mem _ (in_M w h)) hown hK hP 0 rfl rfl 12 (by decide) (hts _ (List.mem_cons_of_mem _ lk_127)) (fun _ h9 => h9) rfl d_M_go_39 ?_
        refine lv_if_ge (tgt := 52) hx hb d_M_go_42 (by decide) (fun hc3 => ?_) (fun hc3 => ?_)
        ·
          have hf := wk_ift hc3 hf
          refine lv_aload_n hx hb d_M_go_52 rfl (lv_at hl 0 rfl) ?_
          refine va_get (D := (dC, dI)) (ci := 4) (v := .int (I1 12)) (C := R_M) (T := F_M) (N := 38) hx hb hts (fun w h => List.mem_cons_of_mem _ (in_M w h)) hown hK hP 0 rfl rfl 12 (by decide) (hts _ (List.mem_cons_of_mem _ lk_127)) (fun _ h9 => h9) rfl d_M_go_53 ?_
          exact blk56 I1 A X (I1 12) _ _ _ hf (lv_sub hl [0, 1, 2] rfl) hP hD hS
        ·
          have hf := wk_iff hc3 hf
          refine lv_aload_n hx hb d_M_go_45 rfl (lv_at hl 0 rfl) ?_
          refine va_get (D := (dC, dI)) (ci := 4) (v := .int (I1 11)) (C := R_M) (T := F_M) (N := 38) hx hb hts (fun w h => List.mem_cons_of_mem _ (in_M w h)) hown hK hP 0 rfl rfl 11 (by decide) (hts _ (List.mem_cons_of_mem _ lk_126)) (fun _ h9 => h9) rfl d_M_go_46 ?_
          refine lv_goto (tgt := 56) hx hb d_M_go_49 (by decide) ?_
          exact blk56 I1 A X (I1 11) _ _ _ hf (lv_sub hl [0, 1, 2] rfl) hP hD hS
      ·
        have hf := wk_ift hc2 hf
        refine lv_iconst (v := (-1)) hx hb d_M_go_34 (by decide) ?_
        refine lv_goto (tgt := 56) hx hb d_M_go_35 (by decide) ?_
        exact blk56 I1 A X (-1) _ _ _ hf (lv_sub hl [0, 1, 2] rfl) hP hD hS
    ·
      have hf := wk_iff hc1 hf
      obtain ⟨e1, e2, e3⟩ := wk_inj hf
      subst e1
      subst e2
      subst e3
      exact W.vret hx hb hr (fun t ht hW => ⟨⟨(), rfl, rfl, by rw [ht]; exact hP, va_K.moved hW.alike hK, hD⟩, hS.F ht⟩) hS.2.2 d_M_go_28
  have blk13 : ∀ (I : MI) (A : MA) (X : Nat → Int32) (ls : Array Slot) (H : Heap) (locs : List Loc), f_M_go_13 I A X = some (r, I', A') → lv_has ls 3 [(0, .ref h), (1, .int (X 1)), (2, .int (X 2))] → va_P (dC, dI) vwCl (mw_W h q g I A) H → va_D B9 (mw_W h q g I A) → va_S B9 s.heap H locs → W p l e (headSpec w_M_go ({ frames := 1, cells := 0, slots := 0, locals := 20 })).room s m ([.ref h, .int k1, .int k2] : List Value).toArray below meth c H locs 0 0 (MQ below (va_Qv (fun (u : Unit) => u = u) (fun (_ : Unit) t => va_P (dC, dI) vwCl (mw_W h q g I' A') t.heap ∧ va_K (dC, dI) vwCl (mw_T g) t ∧ va_D B9 (mw_W h q g I' A')) B9) ([.ref h, .int k1, .int k2] : List Value).toArray s 0 0 B9) (F0 m 13 ls [.ref h]) := by
    intro I A X ls H locs hf hl hP hD hS
    unfold f_M_go_13 at hf
    refine lv_iconst (v := 1) hx hb d_M_go_13 (by decide) ?_
    refine lv_goto (tgt := 18) hx hb d_M_go_14 (by decide) ?_
    exact blk18 I A X 1 _ _ _ hf (lv_sub hl [0, 1, 2] rfl) hP hD hS
  unfold f_M_go at hf
  refine lv_aload_n hx hb d_M_go_0 rfl (lv_at hl 0 rfl) ?_
  refine lv_iload_n hx hb d_M_go_1 rfl (lv_at hl 1 rfl) ?_
  refine lv_if_lt (tgt := 13) hx hb d_M_go_2 (by decide) (fun hc1 => ?_) (fun hc1 => ?_)
  ·
    have hf := wk_ift hc1 hf
    exact blk13 I A (upd (upd (fun _ => 0) 1 k1) 2 k2) _ _ _ hf (lv_sub hl [0, 1, 2] rfl) hP hD hS
  ·
    have hf := wk_iff hc1 hf
    refine lv_iload_n hx hb d_M_go_5 rfl (lv_at hl 1 rfl) ?_
    refine lv_aload_n hx hb d_M_go_6 rfl (lv_at hl 0 rfl) ?_
    have hPc := hP.sub (ws' := (mw_W h q g I A)) [0, 1, 2, 3, 4, 5, 6, 7, 8, 9, 10, 11, 12, 13, 14, 15, 16, 17, 18, 19, 20] rfl
    have hDc := hD.sub (ws' := (mw_W h q g I A)) [0, 1, 2, 3, 4, 5, 6, 7, 8, 9, 10, 11, 12, 13, 14, 15, 16, 17, 18, 19, 20] (by decide) rfl
    have hKc := hK.sub (tys' := (mw_T g)) [0, 1, 2, 3, 4, 5, 6, 7, 8, 9, 10, 11, 12, 13, 14, 15, 16, 17, 18, 19] rfl
    have hFc := va_free (wc := (mw_W h q g I A)) hD hS hA [0, 1, 2, 3, 4, 5, 6, 7, 8, 9, 10, 11, 12, 13, 14, 15, 16, 17, 18, 19, 20] rfl
    cases hg1 : f_M_textLength I A with
    | none => rw [hg1] at hf; cases hf
    | some z1 =>
      obtain ⟨r1, I1, A1⟩ := z1
      rw [hg1] at hf
      dsimp only [Option.bind_some] at hf
      refine va_calli (va_runV (As := []) (rest := [.int k1, .ref h]) ⟨hx, hb, hml, hown, hts⟩ (cm_M_textLength l dC dI h q g _ I A r1 I1 A1 hg1) (cwV 0 hts (gd_v lk_57 lk_58 lk_59 lk_46 lk_56) rfl rfl rfl (by decide +kernel) ⟨Nat.le_of_ble_eq_true rfl, Nat.le_of_ble_eq_true rfl⟩) ⟨fun a U g mk q => by obtain ⟨q0, q1, qP, qK, qD⟩ := q; exact ⟨q0, q1, qP, va_K.moved (u := U) (U := U.calling g mk a) (Vm.Alike.refl U.vm) qK, qD⟩, va_recv (ci := 4) (q0 := 0) hK hP rfl rfl, fun U hU hW => ⟨rfl, by rw [hU], by rw [hU]; exact hPc, va_K.moved hW.alike hKc, hDc.weaken (fun _ _ _ _ => trivial)⟩⟩ rfl rfl hl.1 rfl (lv_room (Nat.le_of_ble_eq_true rfl)) d_M_go_7 ⟨Nat.le_of_ble_eq_true rfl, Nat.le_of_ble_eq_true rfl⟩) hS (fun q _ h => hFc q h) hFc (fun r9 u t H1 locs ht hvm hw hB hz1 hk1 hS => ?_)
      obtain ⟨hP1, hK1, hD1⟩ := hB
      rw [ht] at hP1
      rw [hw]
      obtain ⟨hP, hD⟩ := va_join (wr := []) (w1 := (mw_W h q g I1 A1)) hP hD [0, 1, 2, 3, 4, 5, 6, 7, 8, 9, 10, 11, 12, 13, 14, 15, 16, 17, 18, 19, 20] [] rfl rfl (by decide) (by decide) hk1 hFc hP1 hD1
      generalize H1 = H at hP hS ⊢
      have hP : va_P (dC, dI) vwCl (mw_W h q g I1 A1) H := hP
      have hD : va_D B9 (mw_W h q g I1 A1) := hD
      refine lv_icmp_le (tgt := 17) hx hb d_M_go_10 (by decide) (fun hc2 => ?_) (fun hc2 => ?_)
      ·
        have hf := wk_ift hc2 hf
        refine lv_iconst (v := 0) hx hb d_M_go_17 (by decide) ?_
        exact blk18 I1 A1 (upd (upd (fun _ => 0) 1 k1) 2 k2) 0 _ _ _ hf (lv_sub hl [0, 1, 2] rfl) hP hD hS
      ·
        have hf := wk_iff hc2 hf
        exact blk13 I1 A1 (upd (upd (fun _ => 0) 1 k1) 2 k2) _ _ _ hf (lv_sub hl [0, 1, 2] rfl) hP hD hS

set_option maxHeartbeats 8000000 in
set_option maxRecDepth 100000 in
theorem cm_M_insert (l : Launch) (dC : Nat → ClassId) (dI : Nat → Nat → Nat) (h : Nat) (q : Nat → Nat) (g : Nat → ClassId) (sz : Nat) (I : MI) (A : MA) (r : Int32) (I' : MI) (A' : MA) (hf : f_M_insert I A  = some (r, I', A')) : Met l y_M_insert w_M_insert ({ frames := 2, cells := 0, slots := 0, locals := 45 }) (va_Pc [.ref h] (fun U => U.heap.size = sz ∧ va_P (dC, dI) vwCl (mw_W h q g I A) U.heap ∧ va_K (dC, dI) vwCl (mw_T g) U ∧ va_D (fun _ => True) (mw_W h q g I A))) (va_Qi (fun (r9 : Int32) (_ : Unit) => r9 = r) (fun (_ : Unit) t => va_P (dC, dI) vwCl (mw_W h q g I' A') t.heap ∧ va_K (dC, dI) vwCl (mw_T g) t ∧ va_D (va_A (mw_W h q g I A) sz) (mw_W h q g I' A')) (va_A (mw_W h q g I A) sz)) 0 0 (va_A (mw_W h q g I A) sz) := by
  refine Met.ofW (cc := prog_6_method_15_code) (maxL := 5) (ret := (some .int)) (by decide) rfl ?_
  intro p e s m args below meth c s₁ B hml hv
  obtain ⟨rfl, hsz, hP, hK, hD0⟩ := hv
  have hx := B.exec
  have hb := B.bytes
  have hr := B.returns
  have hts := atoms_spec (ws := w_M_insert) B.pre
  have hown : s.vm.findClass R_M = some m.cls := findClass_of_methodNamed B.named
  have hlocks := B.notSynchronized
  subst hsz
  have hD := hD0.self (sz := s.heap.size)
  generalize hAe : va_A (mw_W h q g I A) s.heap.size = B9 at hD ⊢
  have hA : ∀ q : Nat, s.heap.size ≤ q → B9 q := fun q h => by rw [← hAe]; exact Or.inr h
  clear hAe
  have hS : va_S B9 s.heap s.heap [] := va_S.rf
  have hl := lv_entry ([.ref h]) (n := 5) (Nat.le_of_ble_eq_true rfl)
  rw [lg_entry_eq]
  generalize (lg_sl ([.ref h]) ++ List.replicate (5 - (lg_sl ([.ref h])).length) Slot.unset).toArray = ls at hl ⊢
  have hl : lv_has ls 5 [(0, .ref h)] := hl
  have blk118 : ∀ (I : MI) (A : MA) (X : Nat → Int32) (ls : Array Slot) (H : Heap) (locs : List Loc), f_M_insert_118 I A X = some (r, I', A') → lv_has ls 5 [(0, .ref h), (1, .int (X 1)), (2, .int (X 2)), (3, .int (X 3))] → va_P (dC, dI) vwCl (mw_W h q g I A) H → va_D B9 (mw_W h q g I A) → va_S B9 s.heap H locs → W p l e (headSpec w_M_insert ({ frames := 2, cells := 0, slots := 0, locals := 45 })).room s m ([.ref h] : List Value).toArray below meth c H locs 0 0 (MQ below (va_Qi (fun (r9 : Int32) (_ : Unit) => r9 = r) (fun (_ : Unit) t => va_P (dC, dI) vwCl (mw_W h q g I' A') t.heap ∧ va_K (dC, dI) vwCl (mw_T g) t ∧ va_D B9 (mw_W h q g I' A')) B9) ([.ref h] : List Value).toArray s 0 0 B9) (F0 m 118 ls []) := by
    intro I A X ls H locs hf hl hP hD hS
    unfold f_M_insert_118 at hf
    refine lv_aload_n hx hb d_M_insert_118 rfl (lv_at hl 0 rfl) ?_
    refine lv_iconst (v := 0) hx hb d_M_insert_119 (by decide) ?_
    refine va_put (D := (dC, dI)) (ci := 4) (v := .int 0) (ty := .int) (C := R_M) (T := F_M) (N := 38) hx hb hts (fun w h => List.mem_cons_of_mem _ (in_M w h)) t_M tk_M n_M hown hK hP hD hS 0 rfl rfl 1 (by decide) (hts _ (List.mem_cons_of_mem _ lk_41)) (fun _ h9 => h9) rfl (by decide +kernel) rfl rfl (Nat.le_of_ble_eq_true rfl) d_M_insert_120 (fun H locs hP hD hS => ?_)
    obtain ⟨I1, hI1, hf⟩ := wk_letE hf
    have hP : va_P (dC, dI) vwCl (mw_W h q g I1 A) H := by rw [hI1]; exact hP
    have hD : va_D B9 (mw_W h q g I1 A) := by rw [hI1]; exact hD
    clear hI1
    refine lv_aload_n hx hb d_M_insert_123 rfl (lv_at hl 0 rfl) ?_
    refine va_get (D := (dC, dI)) (ci := 4) (v := .int (I1 4)) (C := R_M) (T := F_M) (N := 38) hx hb hts (fun w h => List.mem_cons_of_mem _ (in_M w h)) hown hK hP 0 rfl rfl 4 (by decide) (hts _ (List.mem_cons_of_mem _ lk_49)) (fun _ h9 => h9) rfl d_M_insert_124 ?_
    obtain ⟨e1, e2, e3⟩ := wk_inj hf
    subst e1
    subst e2
    subst e3
    exact W.iret (v := (I1 4)) hx hb hr (fun t ht hW => ⟨⟨(I1 4), (), rfl, rfl, by rw [ht]; exact hP, va_K.moved hW.alike hK, hD⟩, hS.F ht⟩) hS.2.2 d_M_insert_127
  have blk66 : ∀ (I : MI) (A : MA) (X : Nat → Int32) (s0 : Int32) (ls : Array Slot) (H : Heap) (locs : List Loc), f_M_insert_66 I A X s0 = some (r, I', A') → lv_has ls 5 [(0, .ref h), (1, .int (X 1)), (2, .int (X 2)), (3, .int (X 3))] → va_P (dC, dI) vwCl (mw_W h q g I A) H → va_D B9 (mw_W h q g I A) → va_S B9 s.heap H locs → W p l e (headSpec w_M_insert ({ frames := 2, cells := 0, slots := 0, locals := 45 })).room s m ([.ref h] : List Value).toArray below meth c H locs 0 0 (MQ below (va_Qi (fun (r9 : Int32) (_ : Unit) => r9 = r) (fun (_ : Unit) t => va_P (dC, dI) vwCl (mw_W h q g I' A') t.heap ∧ va_K (dC, dI) vwCl (mw_T g) t ∧ va_D B9 (mw_W h q g I' A')) B9) ([.ref h] : List Value).toArray s 0 0 B9) (F0 m 66 ls [.int s0, .ref h]) := by
    intro I A X s0 ls H locs hf hl hP hD hS
    unfold f_M_insert_66 at hf
    refine va_put (D := (dC, dI)) (ci := 4) (v := .int s0) (ty := .int) (C := R_M) (T := F_M) (N := 38) hx hb hts (fun w h => List.mem_cons_of_mem _ (in_M w h)) t_M tk_M n_M hown hK hP hD hS 0 rfl rfl 0 (by decide) (hts _ (List.mem_cons_of_mem _ lk_60)) (fun _ h9 => h9) rfl (by decide +kernel) rfl rfl (Nat.le_of_ble_eq_true rfl) d_M_insert_66 (fun H locs hP hD hS => ?_)
    obtain ⟨I1, hI1, hf⟩ := wk_letE hf
    have hP : va_P (dC, dI) vwCl (mw_W h q g I1 A) H := by rw [hI1]; exact hP
    have hD : va_D B9 (mw_W h q g I1 A) := by rw [hI1]; exact hD
    clear hI1
    refine lv_aload_n hx hb d_M_insert_69 rfl (lv_at hl 0 rfl) ?_
    refine va_get (D := (dC, dI)) (ci := 4) (v := .int (I1 0)) (C := R_M) (T := F_M) (N := 38) hx hb hts (fun w h => List.mem_cons_of_mem _ (in_M w h)) hown hK hP 0 rfl rfl 0 (by decide) (hts _ (List.mem_cons_of_mem _ lk_60)) (fun _ h9 => h9) rfl d_M_insert_70 ?_
    refine lv_if_le (tgt := 78) hx hb d_M_insert_73 (by decide) (fun hc1 => ?_) (fun hc1 => ?_)
    ·
      have hf := wk_ift hc1 hf
      refine lv_iload_n hx hb d_M_insert_78 rfl (lv_at hl 3 rfl) ?_
      refine lv_if_eq (tgt := 118) hx hb d_M_insert_79 (by decide) (fun hc2 => ?_) (fun hc2 => ?_)
      ·
        have hf := wk_ift hc2 hf
        exact blk118 I1 A X _ _ _ hf (lv_sub hl [0, 1, 2, 3] rfl) hP hD hS
      ·
        have hf := wk_iff hc2 hf
        refine lv_aload_n hx hb d_M_insert_82 rfl (lv_at hl 0 rfl) ?_
        refine lv_iconst (v := 0) hx hb d_M_insert_83 (by decide) ?_
        refine va_put (D := (dC, dI)) (ci := 4) (v := .int 0) (ty := .int) (C := R_M) (T := F_M) (N := 38) hx hb hts (fun w h => List.mem_cons_of_mem _ (in_M w h)) t_M tk_M n_M hown hK hP hD hS 0 rfl rfl 36 (by decide) (hts _ (List.mem_cons_of_mem _ lk_39)) (fun _ h9 => h9) rfl (by decide +kernel) rfl rfl (Nat.le_of_ble_eq_true rfl) d_M_insert_84 (fun H locs hP hD hS => ?_)
        obtain ⟨I2, hI2, hf⟩ := wk_letE hf
        have hP : va_P (dC, dI) vwCl (mw_W h q g I2 A) H := by rw [hI2]; exact hP
        have hD : va_D B9 (mw_W h q g I2 A) := by rw [hI2]; exact hD
        clear hI2
        refine lv_aload_n hx hb d_M_insert_87 rfl (lv_at hl 0 rfl) ?_
        refine lv_iconst (v := 0) hx hb d_M_insert_88 (by decide) ?_
        refine lv_iload_n hx hb d_M_insert_89 rfl (lv_at hl 1 rfl) ?_
        have hPc := hP.sub (ws' := (mw_W h q g I2 A)) [0, 1, 2, 3, 4, 5, 6, 7, 8, 9, 10, 11, 12, 13, 14, 15, 16, 17, 18, 19, 20] rfl
        have hDc := hD.sub (ws' := (mw_W h q g I2 A)) [0, 1, 2, 3, 4, 5, 6, 7, 8, 9, 10, 11, 12, 13, 14, 15, 16, 17, 18, 19, 20] (by decide) rfl
        have hKc := hK.sub (tys' := (mw_T g)) [0, 1, 2, 3, 4, 5, 6, 7, 8, 9, 10, 11, 12, 13, 14, 15, 16, 17, 18, 19] rfl
        have hFc := va_free (wc := (mw_W h q g I2 A)) hD hS hA [0, 1, 2, 3, 4, 5, 6, 7, 8, 9, 10, 11, 12, 13, 14, 15, 16, 17, 18, 19, 20] rfl
        cases hg3 : f_M_addText I2 A 0 (X 1) with
        | none => rw [hg3] at hf; cases hf
        | some z3 =>
          obtain ⟨r3, I3, A3⟩ := z3
          rw [hg3] at hf
          dsimp only [Option.bind_some] at hf
          refine va_callv (va_runV (As := [.int 0, .int (X 1)]) (rest := []) ⟨hx, hb, hml, hown, hts⟩ (cm_M_addText l dC dI h q g _ I2 A 0 (X 1) r3 I3 A3 hg3) (cwV 2 hts (gd_v lk_161 lk_162 lk_163 lk_46 lk_54) rfl rfl rfl (by decide +kernel) ⟨Nat.le_of_ble_eq_true rfl, Nat.le_of_ble_eq_true rfl⟩) ⟨fun a U g mk q => by obtain ⟨q0, q1, qP, qK, qD⟩ := q; exact ⟨q0, q1, qP, va_K.moved (u := U) (U := U.calling g mk a) (Vm.Alike.refl U.vm) qK, qD⟩, va_recv (ci := 4) (q0 := 0) hK hP rfl rfl, fun U hU hW => ⟨rfl, by rw [hU], by rw [hU]; exact hPc, va_K.moved hW.alike hKc, hDc.weaken (fun _ _ _ _ => trivial)⟩⟩ rfl rfl hl.1 rfl (lv_room (Nat.le_of_ble_eq_true rfl)) d_M_insert_90 ⟨Nat.le_of_ble_eq_true rfl, Nat.le_of_ble_eq_true rfl⟩) hS (fun q _ h => hFc q h) hFc (fun u t H1 locs ht hvm hw hB hz1 hk1 hS => ?_)
          obtain ⟨hP1, hK1, hD1⟩ := hB
          rw [ht] at hP1
          obtain ⟨hP, hD⟩ := va_join (wr := []) (w1 := (mw_W h q g I3 A3)) hP hD [0, 1, 2, 3, 4, 5, 6, 7, 8, 9, 10, 11, 12, 13, 14, 15, 16, 17, 18, 19, 20] [] rfl rfl (by decide) (by decide) hk1 hFc hP1 hD1
          generalize H1 = H at hP hS ⊢
          have hP : va_P (dC, dI) vwCl (mw_W h q g I3 A3) H := hP
          have hD : va_D B9 (mw_W h q g I3 A3) := hD
          refine lv_aload_n hx hb d_M_insert_93 rfl (lv_at hl 0 rfl) ?_
          have hPc := hP.sub (ws' := (mw_W h q g I3 A3)) [0, 1, 2, 3, 4, 5, 6, 7, 8, 9, 10, 11, 12, 13, 14, 15, 16, 17, 18, 19, 20] rfl
          have hDc := hD.sub (ws' := (mw_W h q g I3 A3)) [0, 1, 2, 3, 4, 5, 6, 7, 8, 9, 10, 11, 12, 13, 14, 15, 16, 17, 18, 19, 20] (by decide) rfl
          have hKc := hK.sub (tys' := (mw_T g)) [0, 1, 2, 3, 4, 5, 6, 7, 8, 9, 10, 11, 12, 13, 14, 15, 16, 17, 18, 19] rfl
          have hFc := va_free (wc := (mw_W h q g I3 A3)) hD hS hA [0, 1, 2, 3, 4, 5, 6, 7, 8, 9, 10, 11, 12, 13, 14, 15, 16, 17, 18, 19, 20] rfl
          cases hg4 : f_M_addSlip I3 A3 with
          | none => rw [hg4] at hf; cases hf
          | some z4 =>
            obtain ⟨r4, I4, A4⟩ := z4
            rw [hg4] at hf
            dsimp only [Option.bind_some] at hf
            refine va_callv (va_runV (As := []) (rest := []) ⟨hx, hb, hml, hown, hts⟩ (cm_M_addSlip l dC dI h q g _ I3 A3 r4 I4 A4 hg4) (cwV 0 hts (gd_v lk_204 lk_205 lk_206 lk_46 lk_47) rfl rfl rfl (by decide +kernel) ⟨Nat.le_of_ble_eq_true rfl, Nat.le_of_ble_eq_true rfl⟩) ⟨fun a U g mk q => by obtain ⟨q0, q1, qP, qK, qD⟩ := q; exact ⟨q0, q1, qP, va_K.moved (u := U) (U := U.calling g mk a) (Vm.Alike.refl U.vm) qK, qD⟩, va_recv (ci := 4) (q0 := 0) hK hP rfl rfl, fun U hU hW => ⟨rfl, by rw [hU], by rw [hU]; exact hPc, va_K.moved hW.alike hKc, hDc.weaken (fun _ _ _ _ => trivial)⟩⟩ rfl rfl hl.1 rfl (lv_room (Nat.le_of_ble_eq_true rfl)) d_M_insert_94 ⟨Nat.le_of_ble_eq_true rfl, Nat.le_of_ble_eq_true rfl⟩) hS (fun q _ h => hFc q h) hFc (fun u t H1 locs ht hvm hw hB hz1 hk1 hS => ?_)
            obtain ⟨hP1, hK1, hD1⟩ := hB
            rw [ht] at hP1
            obtain ⟨hP, hD⟩ := va_join (wr := []) (w1 := (mw_W h q g I4 A4)) hP hD [0, 1, 2, 3, 4, 5, 6, 7, 8, 9, 10, 11, 12, 13, 14, 15, 16, 17, 18, 19, 20] [] rfl rfl (by decide) (by decide) hk1 hFc hP1 hD1
            generalize H1 = H at hP hS ⊢
            have hP : va_P (dC, dI) vwCl (mw_W h q g I4 A4) H := hP
            have hD : va_D B9 (mw_W h q g I4 A4) := hD
            refine lv_aload_n hx hb d_M_insert_97 rfl (lv_at hl 0 rfl) ?_
            refine va_get (D := (dC, dI)) (ci := 4) (v := .int (I4 36)) (C := R_M) (T := F_M) (N := 38) hx hb hts (fun w h => List.mem_cons_of_mem _ (in_M w h)) hown hK hP 0 rfl rfl 36 (by decide) (hts _ (List.mem_cons_of_mem _ lk_39)) (fun _ h9 => h9) rfl d_M_insert_98 ?_
            refine lv_istore (lv' := [(4, .int (I4 36)), (0, .ref h), (1, .int (X 1)), (2, .int (X 2)), (3, .int (X 3))]) hx hb d_M_insert_101 hl (by decide) rfl (fun ls hl => ?_)
            have hl : lv_has ls 5 [(4, .int (I4 36)), (0, .ref h), (1, .int (X 1)), (2, .int (X 2)), (3, .int (X 3))] := hl
            refine lv_aload_n hx hb d_M_insert_103 rfl (lv_at hl 1 rfl) ?_
            refine lv_iload_n hx hb d_M_insert_104 rfl (lv_at hl 3 rfl) ?_
            refine lv_aload_n hx hb d_M_insert_105 rfl (lv_at hl 1 rfl) ?_
            have hPc := hP.sub (ws' := (mw_W h q g I4 A4)) [0, 1, 2, 3, 4, 5, 6, 7, 8, 9, 10, 11, 12, 13, 14, 15, 16, 17, 18, 19, 20] rfl
            have hDc := hD.sub (ws' := (mw_W h q g I4 A4)) [0, 1, 2, 3, 4, 5, 6, 7, 8, 9, 10, 11, 12, 13, 14, 15, 16, 17, 18, 19, 20] (by decide) rfl
            have hKc := hK.sub (tys' := (mw_T g)) [0, 1, 2, 3, 4, 5, 6, 7, 8, 9, 10, 11, 12, 13, 14, 15, 16, 17, 18, 19] rfl
            have hFc := va_free (wc := (mw_W h q g I4 A4)) hD hS hA [0, 1, 2, 3, 4, 5, 6, 7, 8, 9, 10, 11, 12, 13, 14, 15, 16, 17, 18, 19, 20] rfl
            cases hg5 : f_M_textLength I4 A4 with
            | none => rw [hg5] at hf; cases hf
            | some z5 =>
              obtain ⟨r5, I5, A5⟩ := z5
              rw [hg5] at hf
              dsimp only [Option.bind_some] at hf
              refine va_calli (va_runV (As := []) (rest := [.int (X 2), .ref h]) ⟨hx, hb, hml, hown, hts⟩ (cm_M_textLength l dC dI h q g _ I4 A4 r5 I5 A5 hg5) (cwV 0 hts (gd_v lk_57 lk_58 lk_59 lk_46 lk_56) rfl rfl rfl (by decide +kernel) ⟨Nat.le_of_ble_eq_true rfl, Nat.le_of_ble_eq_true rfl⟩) ⟨fun a U g mk q => by obtain ⟨q0, q1, qP, qK, qD⟩ := q; exact ⟨q0, q1, qP, va_K.moved (u := U) (U := U.calling g mk a) (Vm.Alike.refl U.vm) qK, qD⟩, va_recv (ci := 4) (q0 := 0) hK hP rfl rfl, fun U hU hW => ⟨rfl, by rw [hU], by rw [hU]; exact hPc, va_K.moved hW.alike hKc, hDc.weaken (fun _ _ _ _ => trivial)⟩⟩ rfl rfl hl.1 rfl (lv_room (Nat.le_of_ble_eq_true rfl)) d_M_insert_106 ⟨Nat.le_of_ble_eq_true rfl, Nat.le_of_ble_eq_true rfl⟩) hS (fun q _ h => hFc q h) hFc (fun r9 u t H1 locs ht hvm hw hB hz1 hk1 hS => ?_)
              obtain ⟨hP1, hK1, hD1⟩ := hB
              rw [ht] at hP1
              rw [hw]
              obtain ⟨hP, hD⟩ := va_join (wr := []) (w1 := (mw_W h q g I5 A5)) hP hD [0, 1, 2, 3, 4, 5, 6, 7, 8, 9, 10, 11, 12, 13, 14, 15, 16, 17, 18, 19, 20] [] rfl rfl (by decide) (by decide) hk1 hFc hP1 hD1
              generalize H1 = H at hP hS ⊢
              have hP : va_P (dC, dI) vwCl (mw_W h q g I5 A5) H := hP
              have hD : va_D B9 (mw_W h q g I5 A5) := hD
              have hPc := hP.sub (ws' := (mw_W h q g I5 A5)) [0, 1, 2, 3, 4, 5, 6, 7, 8, 9, 10, 11, 12, 13, 14, 15, 16, 17, 18, 19, 20] rfl
              have hDc := hD.sub (ws' := (mw_W h q g I5 A5)) [0, 1, 2, 3, 4, 5, 6, 7, 8, 9, 10, 11, 12, 13, 14, 15, 16, 17, 18, 19, 20] (by decide) rfl
              have hKc := hK.sub (tys' := (mw_T g)) [0, 1, 2, 3, 4, 5, 6, 7, 8, 9, 10, 11, 12, 13, 14, 15, 16, 17, 18, 19] rfl
              have hFc := va_free (wc := (mw_W h q g I5 A5)) hD hS hA [0, 1, 2, 3, 4, 5, 6, 7, 8, 9, 10, 11, 12, 13, 14, 15, 16, 17, 18, 19, 20] rfl
              cases hg6 : f_M_addText I5 A5 (X 2) r5 with
              | none => rw [hg6] at hf; cases hf
              | some z6 =>
                obtain ⟨r6, I6, A6⟩ := z6
                rw [hg6] at hf
                dsimp only [Option.bind_some] at hf
                refine va_callv (va_runV (As := [.int (X 2), .int r5]) (rest := []) ⟨hx, hb, hml, hown, hts⟩ (cm_M_addText l dC dI h q g _ I5 A5 (X 2) r5 r6 I6 A6 hg6) (cwV 2 hts (gd_v lk_161 lk_162 lk_163 lk_46 lk_54) rfl rfl rfl (by decide +kernel) ⟨Nat.le_of_ble_eq_true rfl, Nat.le_of_ble_eq_true rfl⟩) ⟨fun a U g mk q => by obtain ⟨q0, q1, qP, qK, qD⟩ := q; exact ⟨q0, q1, qP, va_K.moved (u := U) (U := U.calling g mk a) (Vm.Alike.refl U.vm) qK, qD⟩, va_recv (ci := 4) (q0 := 0) hK hP rfl rfl, fun U hU hW => ⟨rfl, by rw [hU], by rw [hU]; exact hPc, va_K.moved hW.alike hKc, hDc.weaken (fun _ _ _ _ => trivial)⟩⟩ rfl rfl hl.1 rfl (lv_room (Nat.le_of_ble_eq_true rfl)) d_M_insert_109 ⟨Nat.le_of_ble_eq_true rfl, Nat.le_of_ble_eq_true rfl⟩) hS (fun q _ h => hFc q h) hFc (fun u t H1 locs ht hvm hw hB hz1 hk1 hS => ?_)
                obtain ⟨hP1, hK1, hD1⟩ := hB
                rw [ht] at hP1
                obtain ⟨hP, hD⟩ := va_join (wr := []) (w1 := (mw_W h q g I6 A6)) hP hD [0, 1, 2, 3, 4, 5, 6, 7, 8, 9, 10, 11, 12, 13, 14, 15, 16, 17, 18, 19, 20] [] rfl rfl (by decide) (by decide) hk1 hFc hP1 hD1
                generalize H1 = H at hP hS ⊢
                have hP : va_P (dC, dI) vwCl (mw_W h q g I6 A6) H := hP
                have hD : va_D B9 (mw_W h q g I6 A6) := hD
                refine lv_aload_n hx hb d_M_insert_112 rfl (lv_at hl 1 rfl) ?_
                refine lv_iload hx hb d_M_insert_113 (lv_at hl 0 rfl) ?_
                have hPc := hP.sub (ws' := (mw_W h q g I6 A6)) [0, 1, 2, 3, 4, 5, 6, 7, 8, 9, 10, 11, 12, 13, 14, 15, 16, 17, 18, 19, 20] rfl
                have hDc := hD.sub (ws' := (mw_W h q g I6 A6)) [0, 1, 2, 3, 4, 5, 6, 7, 8, 9, 10, 11, 12, 13, 14, 15, 16, 17, 18, 19, 20] (by decide) rfl
                have hKc := hK.sub (tys' := (mw_T g)) [0, 1, 2, 3, 4, 5, 6, 7, 8, 9, 10, 11, 12, 13, 14, 15, 16, 17, 18, 19] rfl
                have hFc := va_free (wc := (mw_W h q g I6 A6)) hD hS hA [0, 1, 2, 3, 4, 5, 6, 7, 8, 9, 10, 11, 12, 13, 14, 15, 16, 17, 18, 19, 20] rfl
                cases hg7 : f_M_edit I6 A6 (I4 36) with
                | none => rw [hg7] at hf; cases hf
                | some z7 =>
                  obtain ⟨r7, I7, A7⟩ := z7
                  rw [hg7] at hf
                  dsimp only [Option.bind_some] at hf
                  refine va_callv (va_runV (As := [.int (I4 36)]) (rest := []) ⟨hx, hb, hml, hown, hts⟩ (cm_M_edit l dC dI h q g _ I6 A6 (I4 36) r7 I7 A7 hg7) (cwV 1 hts (gd_v lk_164 lk_165 lk_166 lk_46 lk_152) rfl rfl rfl (by decide +kernel) ⟨Nat.le_of_ble_eq_true rfl, Nat.le_of_ble_eq_true rfl⟩) ⟨fun a U g mk q => by obtain ⟨q0, q1, qP, qK, qD⟩ := q; exact ⟨q0, q1, qP, va_K.moved (u := U) (U := U.calling g mk a) (Vm.Alike.refl U.vm) qK, qD⟩, va_recv (ci := 4) (q0 := 0) hK hP rfl rfl, fun U hU hW => ⟨rfl, by rw [hU], by rw [hU]; exact hPc, va_K.moved hW.alike hKc, hDc.weaken (fun _ _ _ _ => trivial)⟩⟩ rfl rfl hl.1 rfl (lv_room (Nat.le_of_ble_eq_true rfl)) d_M_insert_115 ⟨Nat.le_of_ble_eq_true rfl, Nat.le_of_ble_eq_true rfl⟩) hS (fun q _ h => hFc q h) hFc (fun u t H1 locs ht hvm hw hB hz1 hk1 hS => ?_)
                  obtain ⟨hP1, hK1, hD1⟩ := hB
                  rw [ht] at hP1
                  obtain ⟨hP, hD⟩ := va_join (wr := []) (w1 := (mw_W h q g I7 A7)) hP hD [0, 1, 2, 3, 4, 5, 6, 7, 8, 9, 10, 11, 12, 13, 14, 15, 16, 17, 18, 19, 20] [] rfl rfl (by decide) (by decide) hk1 hFc hP1 hD1
                  generalize H1 = H at hP hS ⊢
                  have hP : va_P (dC, dI) vwCl (mw_W h q g I7 A7) H := hP
                  have hD : va_D B9 (mw_W h q g I7 A7) := hD
                  exact blk118 I7 A7 X _ _ _ hf (lv_sub hl [1, 2, 3, 4] rfl) hP hD hS
    ·
      have hf := wk_iff hc1 hf
      refine lv_iconst (v := 0) hx hb d_M_insert_76 (by decide) ?_
      obtain ⟨e1, e2, e3⟩ := wk_inj hf
      subst e1
      subst e2
      subst e3
      exact W.iret (v := 0) hx hb hr (fun t ht hW => ⟨⟨0, (), rfl, rfl, by rw [ht]; exact hP, va_K.moved hW.alike hK, hD⟩, hS.F ht⟩) hS.2.2 d_M_insert_77
  have blk65 : ∀ (I : MI) (A : MA) (X : Nat → Int32) (ls : Array Slot) (H : Heap) (locs : List Loc), f_M_insert_65 I A X = some (r, I', A') → lv_has ls 5 [(0, .ref h), (1, .int (X 1)), (2, .int (X 2)), (3, .int (X 3))] → va_P (dC, dI) vwCl (mw_W h q g I A) H → va_D B9 (mw_W h q g I A) → va_S B9 s.heap H locs → W p l e (headSpec w_M_insert ({ frames := 2, cells := 0, slots := 0, locals := 45 })).room s m ([.ref h] : List Value).toArray below meth c H locs 0 0 (MQ below (va_Qi (fun (r9 : Int32) (_ : Unit) => r9 = r) (fun (_ : Unit) t => va_P (dC, dI) vwCl (mw_W h q g I' A') t.heap ∧ va_K (dC, dI) vwCl (mw_T g) t ∧ va_D B9 (mw_W h q g I' A')) B9) ([.ref h] : List Value).toArray s 0 0 B9) (F0 m 65 ls [.ref h]) := by
    intro I A X ls H locs hf hl hP hD hS
    unfold f_M_insert_65 at hf
    refine lv_iconst (v := 0) hx hb d_M_insert_65 (by decide) ?_
    exact blk66 I A X 0 _ _ _ hf (lv_sub hl [0, 1, 2, 3] rfl) hP hD hS
  have blk61 : ∀ (I : MI) (A : MA) (X : Nat → Int32) (ls : Array Slot) (H : Heap) (locs : List Loc), f_M_insert_61 I A X = some (r, I', A') → lv_has ls 5 [(0, .ref h), (1, .int (X 1)), (2, .int (X 2)), (3, .int (X 3))] → va_P (dC, dI) vwCl (mw_W h q g I A) H → va_D B9 (mw_W h q g I A) → va_S B9 s.heap H locs → W p l e (headSpec w_M_insert ({ frames := 2, cells := 0, slots := 0, locals := 45 })).room s m ([.ref h] : List Value).toArray below meth c H locs 0 0 (MQ below (va_Qi (fun (r9 : Int32) (_ : Unit) => r9 = r) (fun (_ : Unit) t => va_P (dC, dI) vwCl (mw_W h q g I' A') t.heap ∧ va_K (dC, dI) vwCl (mw_T g) t ∧ va_D B9 (mw_W h q g I' A')) B9) ([.ref h] : List Value).toArray s 0 0 B9) (F0 m 61 ls [.ref h]) := by
    intro I A X ls H locs hf hl hP hD hS
    unfold f_M_insert_61 at hf
    refine lv_iconst (v := 1) hx hb d_M_insert_61 (by decide) ?_
    refine lv_goto (tgt := 66) hx hb d_M_insert_62 (by decide) ?_
    exact blk66 I A X 1 _ _ _ hf (lv_sub hl [0, 1, 2, 3] rfl) hP hD hS
  have blk27 : ∀ (I : MI) (A : MA) (X : Nat → Int32) (s0 : Int32) (ls : Array Slot) (H : Heap) (locs : List Loc), f_M_insert_27 I A X s0 = some (r, I', A') → lv_has ls 5 [(0, .ref h), (1, .int (X 1)), (2, .int (X 2))] → va_P (dC, dI) vwCl (mw_W h q g I A) H → va_D B9 (mw_W h q g I A) → va_S B9 s.heap H locs → W p l e (headSpec w_M_insert ({ frames := 2, cells := 0, slots := 0, locals := 45 })).room s m ([.ref h] : List Value).toArray below meth c H locs 0 0 (MQ below (va_Qi (fun (r9 : Int32) (_ : Unit) => r9 = r) (fun (_ : Unit) t => va_P (dC, dI) vwCl (mw_W h q g I' A') t.heap ∧ va_K (dC, dI) vwCl (mw_T g) t ∧ va_D B9 (mw_W h q g I' A')) B9) ([.ref h] : List Value).toArray s 0 0 B9) (F0 m 27 ls [.int s0]) := by
    intro I A X s0 ls H locs hf hl hP hD hS
    unfold f_M_insert_27 at hf
    refine lv_istore_n (lv' := [(3, .int s0), (0, .ref h), (1, .int (X 1)), (2, .int (X 2))]) hx hb d_M_insert_27 rfl hl (by decide) rfl (fun ls hl => ?_)
    have hl : lv_has ls 5 [(3, .int s0), (0, .ref h), (1, .int (X 1)), (2, .int (X 2))] := hl
    refine lv_aload_n hx hb d_M_insert_28 rfl (lv_at hl 1 rfl) ?_
    refine lv_iload_n hx hb d_M_insert_29 rfl (lv_at hl 0 rfl) ?_
    refine lv_if_eq (tgt := 65) hx hb d_M_insert_30 (by decide) (fun hc1 => ?_) (fun hc1 => ?_)
    ·
      have hf := wk_ift hc1 hf
      exact blk65 I A (upd X 3 s0) _ _ _ hf (lv_sub hl [1, 2, 3, 0] rfl) hP hD hS
    ·
      have hf := wk_iff hc1 hf
      refine lv_aload_n hx hb d_M_insert_33 rfl (lv_at hl 1 rfl) ?_
      have hPc := hP.sub (ws' := (mw_W h q g I A)) [0, 1, 2, 3, 4, 5, 6, 7, 8, 9, 10, 11, 12, 13, 14, 15, 16, 17, 18, 19, 20] rfl
      have hDc := hD.sub (ws' := (mw_W h q g I A)) [0, 1, 2, 3, 4, 5, 6, 7, 8, 9, 10, 11, 12, 13, 14, 15, 16, 17, 18, 19, 20] (by decide) rfl
      have hKc := hK.sub (tys' := (mw_T g)) [0, 1, 2, 3, 4, 5, 6, 7, 8, 9, 10, 11, 12, 13, 14, 15, 16, 17, 18, 19] rfl
      have hFc := va_free (wc := (mw_W h q g I A)) hD hS hA [0, 1, 2, 3, 4, 5, 6, 7, 8, 9, 10, 11, 12, 13, 14, 15, 16, 17, 18, 19, 20] rfl
      cases hg1 : f_M_textLength I A with
      | none => rw [hg1] at hf; cases hf
      | some z1 =>
        obtain ⟨r1, I1, A1⟩ := z1
        rw [hg1] at hf
        dsimp only [Option.bind_some] at hf
        refine va_calli (va_runV (As := []) (rest := [.ref h]) ⟨hx, hb, hml, hown, hts⟩ (cm_M_textLength l dC dI h q g _ I A r1 I1 A1 hg1) (cwV 0 hts (gd_v lk_57 lk_58 lk_59 lk_46 lk_56) rfl rfl rfl (by decide +kernel) ⟨Nat.le_of_ble_eq_true rfl, Nat.le_of_ble_eq_true rfl⟩) ⟨fun a U g mk q => by obtain ⟨q0, q1, qP, qK, qD⟩ := q; exact ⟨q0, q1, qP, va_K.moved (u := U) (U := U.calling g mk a) (Vm.Alike.refl U.vm) qK, qD⟩, va_recv (ci := 4) (q0 := 0) hK hP rfl rfl, fun U hU hW => ⟨rfl, by rw [hU], by rw [hU]; exact hPc, va_K.moved hW.alike hKc, hDc.weaken (fun _ _ _ _ => trivial)⟩⟩ rfl rfl hl.1 rfl (lv_room (Nat.le_of_ble_eq_true rfl)) d_M_insert_34 ⟨Nat.le_of_ble_eq_true rfl, Nat.le_of_ble_eq_true rfl⟩) hS (fun q _ h => hFc q h) hFc (fun r9 u t H1 locs ht hvm hw hB hz1 hk1 hS => ?_)
        obtain ⟨hP1, hK1, hD1⟩ := hB
        rw [ht] at hP1
        rw [hw]
        obtain ⟨hP, hD⟩ := va_join (wr := []) (w1 := (mw_W h q g I1 A1)) hP hD [0, 1, 2, 3, 4, 5, 6, 7, 8, 9, 10, 11, 12, 13, 14, 15, 16, 17, 18, 19, 20] [] rfl rfl (by decide) (by decide) hk1 hFc hP1 hD1
        generalize H1 = H at hP hS ⊢
        have hP : va_P (dC, dI) vwCl (mw_W h q g I1 A1) H := hP
        have hD : va_D B9 (mw_W h q g I1 A1) := hD
        refine lv_iload_n hx hb d_M_insert_37 rfl (lv_at hl 3 rfl) ?_
        refine lv_iload_n hx hb d_M_insert_38 rfl (lv_at hl 2 rfl) ?_
        refine lv_isub hx hb d_M_insert_39 ?_
        refine lv_isub hx hb d_M_insert_40 ?_
        refine lv_aload_n hx hb d_M_insert_41 rfl (lv_at hl 1 rfl) ?_
        refine va_get (D := (dC, dI)) (ci := 4) (v := .int (I1 1)) (C := R_M) (T := F_M) (N := 38) hx hb hts (fun w h => List.mem_cons_of_mem _ (in_M w h)) hown hK hP 0 rfl rfl 1 (by decide) (hts _ (List.mem_cons_of_mem _ lk_41)) (fun _ h9 => h9) rfl d_M_insert_42 ?_
        refine lv_iadd hx hb d_M_insert_45 ?_
        refine lv_sipush (v := 160) hx hb d_M_insert_46 (by decide) ?_
        refine lv_icmp_gt (tgt := 61) hx hb d_M_insert_49 (by decide) (fun hc2 => ?_) (fun hc2 => ?_)
        ·
          have hf := wk_ift hc2 hf
          exact blk61 I1 A1 (upd X 3 s0) _ _ _ hf (lv_sub hl [1, 2, 3, 0] rfl) hP hD hS
        ·
          have hf := wk_iff hc2 hf
          refine lv_aload_n hx hb d_M_insert_52 rfl (lv_at hl 1 rfl) ?_
          refine va_get (D := (dC, dI)) (ci := 4) (v := .int (I1 3)) (C := R_M) (T := F_M) (N := 38) hx hb hts (fun w h => List.mem_cons_of_mem _ (in_M w h)) hown hK hP 0 rfl rfl 3 (by decide) (hts _ (List.mem_cons_of_mem _ lk_147)) (fun _ h9 => h9) rfl d_M_insert_53 ?_
          refine lv_bipush (v := 40) hx hb d_M_insert_56 (by decide) ?_
          refine lv_icmp_ne (tgt := 65) hx hb d_M_insert_58 (by decide) (fun hc3 => ?_) (fun hc3 => ?_)
          ·
            have hf := wk_iff hc3 hf
            exact blk65 I1 A1 (upd X 3 s0) _ _ _ hf (lv_sub hl [1, 2, 3, 0] rfl) hP hD hS
          ·
            have hf := wk_ift hc3 hf
            exact blk61 I1 A1 (upd X 3 s0) _ _ _ hf (lv_sub hl [1, 2, 3, 0] rfl) hP hD hS
  have blk22 : ∀ (I : MI) (A : MA) (X : Nat → Int32) (ls : Array Slot) (H : Heap) (locs : List Loc), f_M_insert_22 I A X = some (r, I', A') → lv_has ls 5 [(0, .ref h), (1, .int (X 1)), (2, .int (X 2))] → va_P (dC, dI) vwCl (mw_W h q g I A) H → va_D B9 (mw_W h q g I A) → va_S B9 s.heap H locs → W p l e (headSpec w_M_insert ({ frames := 2, cells := 0, slots := 0, locals := 45 })).room s m ([.ref h] : List Value).toArray below meth c H locs 0 0 (MQ below (va_Qi (fun (r9 : Int32) (_ : Unit) => r9 = r) (fun (_ : Unit) t => va_P (dC, dI) vwCl (mw_W h q g I' A') t.heap ∧ va_K (dC, dI) vwCl (mw_T g) t ∧ va_D B9 (mw_W h q g I' A')) B9) ([.ref h] : List Value).toArray s 0 0 B9) (F0 m 22 ls []) := by
    intro I A X ls H locs hf hl hP hD hS
    unfold f_M_insert_22 at hf
    refine lv_iconst (v := 1) hx hb d_M_insert_22 (by decide) ?_
    refine lv_goto (tgt := 27) hx hb d_M_insert_23 (by decide) ?_
    exact blk27 I A X 1 _ _ _ hf (lv_sub hl [0, 1, 2] rfl) hP hD hS
  unfold f_M_insert at hf
  refine lv_aload_n hx hb d_M_insert_0 rfl (lv_at hl 0 rfl) ?_
  have hPc := hP.sub (ws' := (mw_W h q g I A)) [0, 1, 2, 3, 4, 5, 6, 7, 8, 9, 10, 11, 12, 13, 14, 15, 16, 17, 18, 19, 20] rfl
  have hDc := hD.sub (ws' := (mw_W h q g I A)) [0, 1, 2, 3, 4, 5, 6, 7, 8, 9, 10, 11, 12, 13, 14, 15, 16, 17, 18, 19, 20] (by decide) rfl
  have hKc := hK.sub (tys' := (mw_T g)) [0, 1, 2, 3, 4, 5, 6, 7, 8, 9, 10, 11, 12, 13, 14, 15, 16, 17, 18, 19] rfl
  have hFc := va_free (wc := (mw_W h q g I A)) hD hS hA [0, 1, 2, 3, 4, 5, 6, 7, 8, 9, 10, 11, 12, 13, 14, 15, 16, 17, 18, 19, 20] rfl
  cases hg1 : f_M_low I A with
  | none => rw [hg1] at hf; cases hf
  | some z1 =>
    obtain ⟨r1, I1, A1⟩ := z1
    rw [hg1] at hf
    dsimp only [Option.bind_some] at hf
    refine va_calli (va_runV (As := []) (rest := []) ⟨hx, hb, hml, hown, hts⟩ (cm_M_low l dC dI h q g _ I A r1 I1 A1 hg1) (cwV 0 hts (gd_v lk_154 lk_155 lk_156 lk_46 lk_153) rfl rfl rfl (by decide +kernel) ⟨Nat.le_of_ble_eq_true rfl, Nat.le_of_ble_eq_true rfl⟩) ⟨fun a U g mk q => by obtain ⟨q0, q1, qP, qK, qD⟩ := q; exact ⟨q0, q1, qP, va_K.moved (u := U) (U := U.calling g mk a) (Vm.Alike.refl U.vm) qK, qD⟩, va_recv (ci := 4) (q0 := 0) hK hP rfl rfl, fun U hU hW => ⟨rfl, by rw [hU], by rw [hU]; exact hPc, va_K.moved hW.alike hKc, hDc.weaken (fun _ _ _ _ => trivial)⟩⟩ rfl rfl hl.1 rfl (lv_room (Nat.le_of_ble_eq_true rfl)) d_M_insert_1 ⟨Nat.le_of_ble_eq_true rfl, Nat.le_of_ble_eq_true rfl⟩) hS (fun q _ h => hFc q h) hFc (fun r9 u t H1 locs ht hvm hw hB hz1 hk1 hS => ?_)
    obtain ⟨hP1, hK1, hD1⟩ := hB
    rw [ht] at hP1
    rw [hw]
    obtain ⟨hP, hD⟩ := va_join (wr := []) (w1 := (mw_W h q g I1 A1)) hP hD [0, 1, 2, 3, 4, 5, 6, 7, 8, 9, 10, 11, 12, 13, 14, 15, 16, 17, 18, 19, 20] [] rfl rfl (by decide) (by decide) hk1 hFc hP1 hD1
    generalize H1 = H at hP hS ⊢
    have hP : va_P (dC, dI) vwCl (mw_W h q g I1 A1) H := hP
    have hD : va_D B9 (mw_W h q g I1 A1) := hD
    refine lv_istore_n (lv' := [(1, .int r1), (0, .ref h)]) hx hb d_M_insert_4 rfl hl (by decide) rfl (fun ls hl => ?_)
    have hl : lv_has ls 5 [(1, .int r1), (0, .ref h)] := hl
    refine lv_aload_n hx hb d_M_insert_5 rfl (lv_at hl 1 rfl) ?_
    have hPc := hP.sub (ws' := (mw_W h q g I1 A1)) [0, 1, 2, 3, 4, 5, 6, 7, 8, 9, 10, 11, 12, 13, 14, 15, 16, 17, 18, 19, 20] rfl
    have hDc := hD.sub (ws' := (mw_W h q g I1 A1)) [0, 1, 2, 3, 4, 5, 6, 7, 8, 9, 10, 11, 12, 13, 14, 15, 16, 17, 18, 19, 20] (by decide) rfl
    have hKc := hK.sub (tys' := (mw_T g)) [0, 1, 2, 3, 4, 5, 6, 7, 8, 9, 10, 11, 12, 13, 14, 15, 16, 17, 18, 19] rfl
    have hFc := va_free (wc := (mw_W h q g I1 A1)) hD hS hA [0, 1, 2, 3, 4, 5, 6, 7, 8, 9, 10, 11, 12, 13, 14, 15, 16, 17, 18, 19, 20] rfl
    cases hg2 : f_M_high I1 A1 with
    | none => rw [hg2] at hf; cases hf
    | some z2 =>
      obtain ⟨r2, I2, A2⟩ := z2
      rw [hg2] at hf
      dsimp only [Option.bind_some] at hf
      refine va_calli (va_runV (As := []) (rest := []) ⟨hx, hb, hml, hown, hts⟩ (cm_M_high l dC dI h q g _ I1 A1 r2 I2 A2 hg2) (cwV 0 hts (gd_v lk_158 lk_159 lk_160 lk_46 lk_157) rfl rfl rfl (by decide +kernel) ⟨Nat.le_of_ble_eq_true rfl, Nat.le_of_ble_eq_true rfl⟩) ⟨fun a U g mk q => by obtain ⟨q0, q1, qP, qK, qD⟩ := q; exact ⟨q0, q1, qP, va_K.moved (u := U) (U := U.calling g mk a) (Vm.Alike.refl U.vm) qK, qD⟩, va_recv (ci := 4) (q0 := 0) hK hP rfl rfl, fun U hU hW => ⟨rfl, by rw [hU], by rw [hU]; exact hPc, va_K.moved hW.alike hKc, hDc.weaken (fun _ _ _ _ => trivial)⟩⟩ rfl rfl hl.1 rfl (lv_room (Nat.le_of_ble_eq_true rfl)) d_M_insert_6 ⟨Nat.le_of_ble_eq_true rfl, Nat.le_of_ble_eq_true rfl⟩) hS (fun q _ h => hFc q h) hFc (fun r9 u t H1 locs ht hvm hw hB hz1 hk1 hS => ?_)
      obtain ⟨hP1, hK1, hD1⟩ := hB
      rw [ht] at hP1
      rw [hw]
      obtain ⟨hP, hD⟩ := va_join (wr := []) (w1 := (mw_W h q g I2 A2)) hP hD [0, 1, 2, 3, 4, 5, 6, 7, 8, 9, 10, 11, 12, 13, 14, 15, 16, 17, 18, 19, 20] [] rfl rfl (by decide) (by decide) hk1 hFc hP1 hD1
      generalize H1 = H at hP hS ⊢
      have hP : va_P (dC, dI) vwCl (mw_W h q g I2 A2) H := hP
      have hD : va_D B9 (mw_W h q g I2 A2) := hD
      refine lv_istore_n (lv' := [(2, .int r2), (1, .int r1), (0, .ref h)]) hx hb d_M_insert_9 rfl hl (by decide) rfl (fun ls hl => ?_)
      have hl : lv_has ls 5 [(2, .int r2), (1, .int r1), (0, .ref h)] := hl
      refine lv_iload_n hx hb d_M_insert_10 rfl (lv_at hl 0 rfl) ?_
      refine lv_iload_n hx hb d_M_insert_11 rfl (lv_at hl 1 rfl) ?_
      refine lv_icmp_gt (tgt := 22) hx hb d_M_insert_12 (by decide) (fun hc1 => ?_) (fun hc1 => ?_)
      ·
        have hf := wk_ift hc1 hf
        exact blk22 I2 A2 (upd (upd (fun _ => 0) 1 r1) 2 r2) _ _ _ hf (lv_sub hl [2, 1, 0] rfl) hP hD hS
      ·
        have hf := wk_iff hc1 hf
        refine lv_aload_n hx hb d_M_insert_15 rfl (lv_at hl 2 rfl) ?_
        refine va_get (D := (dC, dI)) (ci := 4) (v := .int (I2 1)) (C := R_M) (T := F_M) (N := 38) hx hb hts (fun w h => List.mem_cons_of_mem _ (in_M w h)) hown hK hP 0 rfl rfl 1 (by decide) (hts _ (List.mem_cons_of_mem _ lk_41)) (fun _ h9 => h9) rfl d_M_insert_16 ?_
        refine lv_if_le (tgt := 26) hx hb d_M_insert_19 (by decide) (fun hc2 => ?_) (fun hc2 => ?_)
        ·
          have hf := wk_ift hc2 hf
          refine lv_iconst (v := 0) hx hb d_M_insert_26 (by decide) ?_
          exact blk27 I2 A2 (upd (upd (fun _ => 0) 1 r1) 2 r2) 0 _ _ _ hf (lv_sub hl [2, 1, 0] rfl) hP hD hS
        ·
          have hf := wk_iff hc2 hf
          exact blk22 I2 A2 (upd (upd (fun _ => 0) 1 r1) 2 r2) _ _ _ hf (lv_sub hl [2, 1, 0] rfl) hP hD hS

-- 16.mcon10
set_option maxHeartbeats 8000000 in
set_option maxRecDepth 100000 in
theorem cm_M_isCharacter (l : Launch) (dC : Nat → ClassId) (dI : Nat → Nat → Nat) (sz : Nat) (k0 : Int32) (r : Int32) (hf : f_M_isCharacter k0 = some r) : Met l y_M_isCharacter w_M_isCharacter ({ frames := 0, cells := 0, slots := 0, locals := 0 }) (va_Pc [.int k0] (fun U => U.heap.size = sz ∧ va_P (dC, dI) vwCl [] U.heap ∧ va_K (dC, dI) vwCl [] U ∧ va_D (fun _ => True) [])) (va_Qi (fun (r9 : Int32) (_ : Unit) => r9 = r) (fun (_ : Unit) t => va_P (dC, dI) vwCl [] t.heap ∧ va_K (dC, dI) vwCl [] t ∧ va_D (va_A [] sz) []) (va_A [] sz)) 0 0 (va_A [] sz) := by
  refine Met.ofW (cc := prog_6_method_3_code) (maxL := 1) (ret := (some .boolean)) (by decide) rfl ?_
  intro p e s m args below meth c s₁ B hml hv
  obtain ⟨rfl, hsz, hP, hK, hD0⟩ := hv
  have hx := B.exec
  have hb := B.bytes
  have hr := B.returns
  have hts := atoms_spec (ws := w_M_isCharacter) B.pre
  have hown : s.vm.findClass R_M = some m.cls := findClass_of_methodNamed B.named
  have hlocks := B.notSynchronized
  subst hsz
  have hD := hD0.self (sz := s.heap.size)
  generalize hAe : va_A [] s.heap.size = B9 at hD ⊢
  have hA : ∀ q : Nat, s.heap.size ≤ q → B9 q := fun q h => by rw [← hAe]; exact Or.inr h
  clear hAe
  have hS : va_S B9 s.heap s.heap [] := va_S.rf
  have hl := lv_entry ([.int k0]) (n := 1) (Nat.le_of_ble_eq_true rfl)
  rw [lg_entry_eq]
  generalize (lg_sl ([.int k0]) ++ List.replicate (1 - (lg_sl ([.int k0])).length) Slot.unset).toArray = ls at hl ⊢
  have hl : lv_has ls 1 [(0, .int k0)] := hl
  have blk23 : ∀ (X : Nat → Int32) (s0 : Int32) (ls : Array Slot) (H : Heap) (locs : List Loc), f_M_isCharacter_23 X s0 = some r → lv_has ls 1 [(0, .int (X 0))] → va_P (dC, dI) vwCl [] H → va_D B9 [] → va_S B9 s.heap H locs → W p l e (headSpec w_M_isCharacter ({ frames := 0, cells := 0, slots := 0, locals := 0 })).room s m ([.int k0] : List Value).toArray below meth c H locs 0 0 (MQ below (va_Qi (fun (r9 : Int32) (_ : Unit) => r9 = r) (fun (_ : Unit) t => va_P (dC, dI) vwCl [] t.heap ∧ va_K (dC, dI) vwCl [] t ∧ va_D B9 []) B9) ([.int k0] : List Value).toArray s 0 0 B9) (F0 m 23 ls [.int s0]) := by
    intro X s0 ls H locs hf hl hP hD hS
    unfold f_M_isCharacter_23 at hf
    obtain ⟨hn9, hf⟩ := wk_if hf
    have e1 := Option.some.inj hf
    subst e1
    exact W.zret (v := s0) hx hb hr (congrArg Value.int hn9) (fun t ht hW => ⟨⟨s0, (), rfl, rfl, by rw [ht]; exact hP, va_K.moved hW.alike hK, hD⟩, hS.F ht⟩) hS.2.2 d_M_isCharacter_23
  have blk18 : ∀ (X : Nat → Int32) (ls : Array Slot) (H : Heap) (locs : List Loc), f_M_isCharacter_18 X = some r → lv_has ls 1 [(0, .int (X 0))] → va_P (dC, dI) vwCl [] H → va_D B9 [] → va_S B9 s.heap H locs → W p l e (headSpec w_M_isCharacter ({ frames := 0, cells := 0, slots := 0, locals := 0 })).room s m ([.int k0] : List Value).toArray below meth c H locs 0 0 (MQ below (va_Qi (fun (r9 : Int32) (_ : Unit) => r9 = r) (fun (_ : Unit) t => va_P (dC, dI) vwCl [] t.heap ∧ va_K (dC, dI) vwCl [] t ∧ va_D B9 []) B9) ([.int k0] : List Value).toArray s 0 0 B9) (F0 m 18 ls []) := by
    intro X ls H locs hf hl hP hD hS
    unfold f_M_isCharacter_18 at hf
    refine lv_iconst (v := 1) hx hb d_M_isCharacter_18 (by decide) ?_
    refine lv_goto (tgt := 23) hx hb d_M_isCharacter_19 (by decide) ?_
    exact blk23 X 1 _ _ _ hf (lv_sub hl [0] rfl) hP hD hS
  have blk22 : ∀ (X : Nat → Int32) (ls : Array Slot) (H : Heap) (locs : List Loc), f_M_isCharacter_22 X = some r → lv_has ls 1 [(0, .int (X 0))] → va_P (dC, dI) vwCl [] H → va_D B9 [] → va_S B9 s.heap H locs → W p l e (headSpec w_M_isCharacter ({ frames := 0, cells := 0, slots := 0, locals := 0 })).room s m ([.int k0] : List Value).toArray below meth c H locs 0 0 (MQ below (va_Qi (fun (r9 : Int32) (_ : Unit) => r9 = r) (fun (_ : Unit) t => va_P (dC, dI) vwCl [] t.heap ∧ va_K (dC, dI) vwCl [] t ∧ va_D B9 []) B9) ([.int k0] : List Value).toArray s 0 0 B9) (F0 m 22 ls []) := by
    intro X ls H locs hf hl hP hD hS
    unfold f_M_isCharacter_22 at hf
    refine lv_iconst (v := 0) hx hb d_M_isCharacter_22 (by decide) ?_
    exact blk23 X 0 _ _ _ hf (lv_sub hl [0] rfl) hP hD hS
  unfold f_M_isCharacter at hf
  refine lv_iload_n hx hb d_M_isCharacter_0 rfl (lv_at hl 0 rfl) ?_
  refine lv_bipush (v := 10) hx hb d_M_isCharacter_1 (by decide) ?_
  refine lv_icmp_eq (tgt := 18) hx hb d_M_isCharacter_3 (by decide) (fun hc1 => ?_) (fun hc1 => ?_)
  ·
    have hf := wk_ift hc1 hf
    exact blk18 (upd (fun _ => 0) 0 k0) _ _ _ hf (lv_sub hl [0] rfl) hP hD hS
  ·
    have hf := wk_iff hc1 hf
    refine lv_iload_n hx hb d_M_isCharacter_6 rfl (lv_at hl 0 rfl) ?_
    refine lv_bipush (v := 32) hx hb d_M_isCharacter_7 (by decide) ?_
    refine lv_icmp_lt (tgt := 22) hx hb d_M_isCharacter_9 (by decide) (fun hc2 => ?_) (fun hc2 => ?_)
    ·
      have hf := wk_ift hc2 hf
      exact blk22 (upd (fun _ => 0) 0 k0) _ _ _ hf (lv_sub hl [0] rfl) hP hD hS
    ·
      have hf := wk_iff hc2 hf
      refine lv_iload_n hx hb d_M_isCharacter_12 rfl (lv_at hl 0 rfl) ?_
      refine lv_bipush (v := 126) hx hb d_M_isCharacter_13 (by decide) ?_
      refine lv_icmp_gt (tgt := 22) hx hb d_M_isCharacter_15 (by decide) (fun hc3 => ?_) (fun hc3 => ?_)
      ·
        have hf := wk_ift hc3 hf
        exact blk22 (upd (fun _ => 0) 0 k0) _ _ _ hf (lv_sub hl [0] rfl) hP hD hS
      ·
        have hf := wk_iff hc3 hf
        exact blk18 (upd (fun _ => 0) 0 k0) _ _ _ hf (lv_sub hl [0] rfl) hP hD hS

set_option maxHeartbeats 8000000 in
set_option maxRecDepth 100000 in
theorem cm_M_jump (l : Launch) (dC : Nat → ClassId) (dI : Nat → Nat → Nat) (h : Nat) (q : Nat → Nat) (g : Nat → ClassId) (sz : Nat) (I : MI) (A : MA) (k1 : Int32) (r : Int32) (I' : MI) (A' : MA) (hf : f_M_jump I A k1 = some (r, I', A')) : Met l y_M_jump w_M_jump ({ frames := 1, cells := 0, slots := 0, locals := 21 }) (va_Pc [.ref h, .int k1] (fun U => U.heap.size = sz ∧ va_P (dC, dI) vwCl (mw_W h q g I A) U.heap ∧ va_K (dC, dI) vwCl (mw_T g) U ∧ va_D (fun _ => True) (mw_W h q g I A))) (va_Qv (fun (u : Unit) => u = u) (fun (_ : Unit) t => va_P (dC, dI) vwCl (mw_W h q g I' A') t.heap ∧ va_K (dC, dI) vwCl (mw_T g) t ∧ va_D (va_A (mw_W h q g I A) sz) (mw_W h q g I' A')) (va_A (mw_W h q g I A) sz)) 0 0 (va_A (mw_W h q g I A) sz) := by
  refine Met.ofW (cc := prog_6_method_20_code) (maxL := 2) (ret := none) (by decide) rfl ?_
  intro p e s m args below meth c s₁ B hml hv
  obtain ⟨rfl, hsz, hP, hK, hD0⟩ := hv
  have hx := B.exec
  have hb := B.bytes
  have hr := B.returns
  have hts := atoms_spec (ws := w_M_jump) B.pre
  have hown : s.vm.findClass R_M = some m.cls := findClass_of_methodNamed B.named
  have hlocks := B.notSynchronized
  subst hsz
  have hD := hD0.self (sz := s.heap.size)
  generalize hAe : va_A (mw_W h q g I A) s.heap.size = B9 at hD ⊢
  have hA : ∀ q : Nat, s.heap.size ≤ q → B9 q := fun q h => by rw [← hAe]; exact Or.inr h
  clear hAe
  have hS : va_S B9 s.heap s.heap [] := va_S.rf
  have hl := lv_entry ([.ref h, .int k1]) (n := 2) (Nat.le_of_ble_eq_true rfl)
  rw [lg_entry_eq]
  generalize (lg_sl ([.ref h, .int k1]) ++ List.replicate (2 - (lg_sl ([.ref h, .int k1])).length) Slot.unset).toArray = ls at hl ⊢
  have hl : lv_has ls 2 [(0, .ref h), (1, .int k1)] := hl
  have blk33 : ∀ (I : MI) (A : MA) (X : Nat → Int32) (ls : Array Slot) (H : Heap) (locs : List Loc), f_M_jump_33 I A X = some (r, I', A') → lv_has ls 2 [(0, .ref h), (1, .int (X 1))] → va_P (dC, dI) vwCl (mw_W h q g I A) H → va_D B9 (mw_W h q g I A) → va_S B9 s.heap H locs → W p l e (headSpec w_M_jump ({ frames := 1, cells := 0, slots := 0, locals := 21 })).room s m ([.ref h, .int k1] : List Value).toArray below meth c H locs 0 0 (MQ below (va_Qv (fun (u : Unit) => u = u) (fun (_ : Unit) t => va_P (dC, dI) vwCl (mw_W h q g I' A') t.heap ∧ va_K (dC, dI) vwCl (mw_T g) t ∧ va_D B9 (mw_W h q g I' A')) B9) ([.ref h, .int k1] : List Value).toArray s 0 0 B9) (F0 m 33 ls []) := by
    intro I A X ls H locs hf hl hP hD hS
    unfold f_M_jump_33 at hf
    obtain ⟨e1, e2, e3⟩ := wk_inj hf
    subst e1
    subst e2
    subst e3
    exact W.vret hx hb hr (fun t ht hW => ⟨⟨(), rfl, rfl, by rw [ht]; exact hP, va_K.moved hW.alike hK, hD⟩, hS.F ht⟩) hS.2.2 d_M_jump_33
  have blk18 : ∀ (I : MI) (A : MA) (X : Nat → Int32) (s0 : Int32) (ls : Array Slot) (H : Heap) (locs : List Loc), f_M_jump_18 I A X s0 = some (r, I', A') → lv_has ls 2 [(0, .ref h), (1, .int (X 1))] → va_P (dC, dI) vwCl (mw_W h q g I A) H → va_D B9 (mw_W h q g I A) → va_S B9 s.heap H locs → W p l e (headSpec w_M_jump ({ frames := 1, cells := 0, slots := 0, locals := 21 })).room s m ([.ref h, .int k1] : List Value).toArray below meth c H locs 0 0 (MQ below (va_Qv (fun (u : Unit) => u = u) (fun (_ : Unit) t => va_P (dC, dI) vwCl (mw_W h q g I' A') t.heap ∧ va_K (dC, dI) vwCl (mw_T g) t ∧ va_D B9 (mw_W h q g I' A')) B9) ([.ref h, .int k1] : List Value).toArray s 0 0 B9) (F0 m 18 ls [.int s0, .ref h]) := by
    intro I A X s0 ls H locs hf hl hP hD hS
    unfold f_M_jump_18 at hf
    refine va_put (D := (dC, dI)) (ci := 4) (v := .int s0) (ty := .int) (C := R_M) (T := F_M) (N := 38) hx hb hts (fun w h => List.mem_cons_of_mem _ (in_M w h)) t_M tk_M n_M hown hK hP hD hS 0 rfl rfl 0 (by decide) (hts _ (List.mem_cons_of_mem _ lk_60)) (fun _ h9 => h9) rfl (by decide +kernel) rfl rfl (Nat.le_of_ble_eq_true rfl) d_M_jump_18 (fun H locs hP hD hS => ?_)
    obtain ⟨I1, hI1, hf⟩ := wk_letE hf
    have hP : va_P (dC, dI) vwCl (mw_W h q g I1 A) H := by rw [hI1]; exact hP
    have hD : va_D B9 (mw_W h q g I1 A) := by rw [hI1]; exact hD
    clear hI1
    refine lv_aload_n hx hb d_M_jump_21 rfl (lv_at hl 0 rfl) ?_
    refine va_get (D := (dC, dI)) (ci := 4) (v := .int (I1 0)) (C := R_M) (T := F_M) (N := 38) hx hb hts (fun w h => List.mem_cons_of_mem _ (in_M w h)) hown hK hP 0 rfl rfl 0 (by decide) (hts _ (List.mem_cons_of_mem _ lk_60)) (fun _ h9 => h9) rfl d_M_jump_22 ?_
    refine lv_if_ne (tgt := 33) hx hb d_M_jump_25 (by decide) (fun hc1 => ?_) (fun hc1 => ?_)
    ·
      have hf := wk_iff hc1 hf
      exact blk33 I1 A X _ _ _ hf (lv_sub hl [0, 1] rfl) hP hD hS
    ·
      have hf := wk_ift hc1 hf
      refine lv_aload_n hx hb d_M_jump_28 rfl (lv_at hl 0 rfl) ?_
      refine lv_iload_n hx hb d_M_jump_29 rfl (lv_at hl 1 rfl) ?_
      have hPc := hP.sub (ws' := (mw_W h q g I1 A)) [0, 1, 2, 3, 4, 5, 6, 7, 8, 9, 10, 11, 12, 13, 14, 15, 16, 17, 18, 19, 20] rfl
      have hDc := hD.sub (ws' := (mw_W h q g I1 A)) [0, 1, 2, 3, 4, 5, 6, 7, 8, 9, 10, 11, 12, 13, 14, 15, 16, 17, 18, 19, 20] (by decide) rfl
      have hKc := hK.sub (tys' := (mw_T g)) [0, 1, 2, 3, 4, 5, 6, 7, 8, 9, 10, 11, 12, 13, 14, 15, 16, 17, 18, 19] rfl
      have hFc := va_free (wc := (mw_W h q g I1 A)) hD hS hA [0, 1, 2, 3, 4, 5, 6, 7, 8, 9, 10, 11, 12, 13, 14, 15, 16, 17, 18, 19, 20] rfl
      cases hg2 : f_M_come I1 A (X 1) with
      | none => rw [hg2] at hf; cases hf
      | some z2 =>
        obtain ⟨r2, I2, A2⟩ := z2
        rw [hg2] at hf
        dsimp only [Option.bind_some] at hf
        refine va_callv (va_runV (As := [.int (X 1)]) (rest := []) ⟨hx, hb, hml, hown, hts⟩ (cm_M_come l dC dI h q g _ I1 A (X 1) r2 I2 A2 hg2) (cwV 1 hts (gd_v lk_149 lk_150 lk_151 lk_46 lk_130) rfl rfl rfl (by decide +kernel) ⟨Nat.le_of_ble_eq_true rfl, Nat.le_of_ble_eq_true rfl⟩) ⟨fun a U g mk q => by obtain ⟨q0, q1, qP, qK, qD⟩ := q; exact ⟨q0, q1, qP, va_K.moved (u := U) (U := U.calling g mk a) (Vm.Alike.refl U.vm) qK, qD⟩, va_recv (ci := 4) (q0 := 0) hK hP rfl rfl, fun U hU hW => ⟨rfl, by rw [hU], by rw [hU]; exact hPc, va_K.moved hW.alike hKc, hDc.weaken (fun _ _ _ _ => trivial)⟩⟩ rfl rfl hl.1 rfl (lv_room (Nat.le_of_ble_eq_true rfl)) d_M_jump_30 ⟨Nat.le_of_ble_eq_true rfl, Nat.le_of_ble_eq_true rfl⟩) hS (fun q _ h => hFc q h) hFc (fun u t H1 locs ht hvm hw hB hz1 hk1 hS => ?_)
        obtain ⟨hP1, hK1, hD1⟩ := hB
        rw [ht] at hP1
        obtain ⟨hP, hD⟩ := va_join (wr := []) (w1 := (mw_W h q g I2 A2)) hP hD [0, 1, 2, 3, 4, 5, 6, 7, 8, 9, 10, 11, 12, 13, 14, 15, 16, 17, 18, 19, 20] [] rfl rfl (by decide) (by decide) hk1 hFc hP1 hD1
        generalize H1 = H at hP hS ⊢
        have hP : va_P (dC, dI) vwCl (mw_W h q g I2 A2) H := hP
        have hD : va_D B9 (mw_W h q g I2 A2) := hD
        exact blk33 I2 A2 X _ _ _ hf (lv_sub hl [0, 1] rfl) hP hD hS
  have blk13 : ∀ (I : MI) (A : MA) (X : Nat → Int32) (ls : Array Slot) (H : Heap) (locs : List Loc), f_M_jump_13 I A X = some (r, I', A') → lv_has ls 2 [(0, .ref h), (1, .int (X 1))] → va_P (dC, dI) vwCl (mw_W h q g I A) H → va_D B9 (mw_W h q g I A) → va_S B9 s.heap H locs → W p l e (headSpec w_M_jump ({ frames := 1, cells := 0, slots := 0, locals := 21 })).room s m ([.ref h, .int k1] : List Value).toArray below meth c H locs 0 0 (MQ below (va_Qv (fun (u : Unit) => u = u) (fun (_ : Unit) t => va_P (dC, dI) vwCl (mw_W h q g I' A') t.heap ∧ va_K (dC, dI) vwCl (mw_T g) t ∧ va_D B9 (mw_W h q g I' A')) B9) ([.ref h, .int k1] : List Value).toArray s 0 0 B9) (F0 m 13 ls [.ref h]) := by
    intro I A X ls H locs hf hl hP hD hS
    unfold f_M_jump_13 at hf
    refine lv_iconst (v := 1) hx hb d_M_jump_13 (by decide) ?_
    refine lv_goto (tgt := 18) hx hb d_M_jump_14 (by decide) ?_
    exact blk18 I A X 1 _ _ _ hf (lv_sub hl [0, 1] rfl) hP hD hS
  unfold f_M_jump at hf
  refine lv_aload_n hx hb d_M_jump_0 rfl (lv_at hl 0 rfl) ?_
  refine lv_iload_n hx hb d_M_jump_1 rfl (lv_at hl 1 rfl) ?_
  refine lv_if_lt (tgt := 13) hx hb d_M_jump_2 (by decide) (fun hc1 => ?_) (fun hc1 => ?_)
  ·
    have hf := wk_ift hc1 hf
    exact blk13 I A (upd (fun _ => 0) 1 k1) _ _ _ hf (lv_sub hl [0, 1] rfl) hP hD hS
  ·
    have hf := wk_iff hc1 hf
    refine lv_iload_n hx hb d_M_jump_5 rfl (lv_at hl 1 rfl) ?_
    refine lv_aload_n hx hb d_M_jump_6 rfl (lv_at hl 0 rfl) ?_
    refine va_get (D := (dC, dI)) (ci := 4) (v := .int (I 3)) (C := R_M) (T := F_M) (N := 38) hx hb hts (fun w h => List.mem_cons_of_mem _ (in_M w h)) hown hK hP 0 rfl rfl 3 (by decide) (hts _ (List.mem_cons_of_mem _ lk_147)) (fun _ h9 => h9) rfl d_M_jump_7 ?_
    refine lv_icmp_lt (tgt := 17) hx hb d_M_jump_10 (by decide) (fun hc2 => ?_) (fun hc2 => ?_)
    ·
      have hf := wk_ift hc2 hf
      refine lv_iconst (v := 0) hx hb d_M_jump_17 (by decide) ?_
      exact blk18 I A (upd (fun _ => 0) 1 k1) 0 _ _ _ hf (lv_sub hl [0, 1] rfl) hP hD hS
    ·
      have hf := wk_iff hc2 hf
      exact blk13 I A (upd (fun _ => 0) 1 k1) _ _ _ hf (lv_sub hl [0, 1] rfl) hP hD hS

set_option maxHeartbeats 8000000 in
set_option maxRecDepth 100000 in
theorem cm_M_length (l : Launch) (dC : Nat → ClassId) (dI : Nat → Nat → Nat) (h : Nat) (q : Nat → Nat) (g : Nat → ClassId) (sz : Nat) (I : MI) (A : MA) (r : Int32) (I' : MI) (A' : MA) (hf : f_M_length I A  = some (r, I', A')) : Met l y_M_length w_M_length ({ frames := 1, cells := 0, slots := 0, locals := 20 }) (va_Pc [.ref h] (fun U => U.heap.size = sz ∧ va_P (dC, dI) vwCl (mw_W h q g I A) U.heap ∧ va_K (dC, dI) vwCl (mw_T g) U ∧ va_D (fun _ => True) (mw_W h q g I A))) (va_Qi (fun (r9 : Int32) (_ : Unit) => r9 = r) (fun (_ : Unit) t => va_P (dC, dI) vwCl (mw_W h q g I' A') t.heap ∧ va_K (dC, dI) vwCl (mw_T g) t ∧ va_D (va_A (mw_W h q g I A) sz) (mw_W h q g I' A')) (va_A (mw_W h q g I A) sz)) 0 0 (va_A (mw_W h q g I A) sz) := by
  refine Met.ofW (cc := prog_6_method_47_code) (maxL := 1) (ret := (some .int)) (by decide) rfl ?_
  intro p e s m args below meth c s₁ B hml hv
  obtain ⟨rfl, hsz, hP, hK, hD0⟩ := hv
  have hx := B.exec
  have hb := B.bytes
  have hr := B.returns
  have hts := atoms_spec (ws := w_M_length) B.pre
  have hown : s.vm.findClass R_M = some m.cls := findClass_of_methodNamed B.named
  have hlocks := B.notSynchronized
  subst hsz
  have hD := hD0.self (sz := s.heap.size)
  generalize hAe : va_A (mw_W h q g I A) s.heap.size = B9 at hD ⊢
  have hA : ∀ q : Nat, s.heap.size ≤ q → B9 q := fun q h => by rw [← hAe]; exact Or.inr h
  clear hAe
  have hS : va_S B9 s.heap s.heap [] := va_S.rf
  have hl := lv_entry ([.ref h]) (n := 1) (Nat.le_of_ble_eq_true rfl)
  rw [lg_entry_eq]
  generalize (lg_sl ([.ref h]) ++ List.replicate (1 - (lg_sl ([.ref h])).length) Slot.unset).toArray = ls at hl ⊢
  have hl : lv_has ls 1 [(0, .ref h)] := hl
  unfold f_M_length at hf
  refine lv_aload_n hx hb d_M_length_0 rfl (lv_at hl 0 rfl) ?_
  refine lv_iconst (v := 0) hx hb d_M_length_1 (by decide) ?_
  refine va_put (D := (dC, dI)) (ci := 4) (v := .int 0) (ty := .int) (C := R_M) (T := F_M) (N := 38) hx hb hts (fun w h => List.mem_cons_of_mem _ (in_M w h)) t_M tk_M n_M hown hK hP hD hS 0 rfl rfl 0 (by decide) (hts _ (List.mem_cons_of_mem _ lk_60)) (fun _ h9 => h9) rfl (by decide +kernel) rfl rfl (Nat.le_of_ble_eq_true rfl) d_M_length_2 (fun H locs hP hD hS => ?_)
  obtain ⟨I1, hI1, hf⟩ := wk_letE hf
  have hP : va_P (dC, dI) vwCl (mw_W h q g I1 A) H := by rw [hI1]; exact hP
  have hD : va_D B9 (mw_W h q g I1 A) := by rw [hI1]; exact hD
  clear hI1
  refine lv_aload_n hx hb d_M_length_5 rfl (lv_at hl 0 rfl) ?_
  have hPc := hP.sub (ws' := (mw_W h q g I1 A)) [0, 1, 2, 3, 4, 5, 6, 7, 8, 9, 10, 11, 12, 13, 14, 15, 16, 17, 18, 19, 20] rfl
  have hDc := hD.sub (ws' := (mw_W h q g I1 A)) [0, 1, 2, 3, 4, 5, 6, 7, 8, 9, 10, 11, 12, 13, 14, 15, 16, 17, 18, 19, 20] (by decide) rfl
  have hKc := hK.sub (tys' := (mw_T g)) [0, 1, 2, 3, 4, 5, 6, 7, 8, 9, 10, 11, 12, 13, 14, 15, 16, 17, 18, 19] rfl
  have hFc := va_free (wc := (mw_W h q g I1 A)) hD hS hA [0, 1, 2, 3, 4, 5, 6, 7, 8, 9, 10, 11, 12, 13, 14, 15, 16, 17, 18, 19, 20] rfl
  cases hg2 : f_M_textLength I1 A with
  | none => rw [hg2] at hf; cases hf
  | some z2 =>
    obtain ⟨r2, I2, A2⟩ := z2
    rw [hg2] at hf
    dsimp only [Option.bind_some] at hf
    refine va_calli (va_runV (As := []) (rest := []) ⟨hx, hb, hml, hown, hts⟩ (cm_M_textLength l dC dI h q g _ I1 A r2 I2 A2 hg2) (cwV 0 hts (gd_v lk_57 lk_58 lk_59 lk_46 lk_56) rfl rfl rfl (by decide +kernel) ⟨Nat.le_of_ble_eq_true rfl, Nat.le_of_ble_eq_true rfl⟩) ⟨fun a U g mk q => by obtain ⟨q0, q1, qP, qK, qD⟩ := q; exact ⟨q0, q1, qP, va_K.moved (u := U) (U := U.calling g mk a) (Vm.Alike.refl U.vm) qK, qD⟩, va_recv (ci := 4) (q0 := 0) hK hP rfl rfl, fun U hU hW => ⟨rfl, by rw [hU], by rw [hU]; exact hPc, va_K.moved hW.alike hKc, hDc.weaken (fun _ _ _ _ => trivial)⟩⟩ rfl rfl hl.1 rfl (lv_room (Nat.le_of_ble_eq_true rfl)) d_M_length_6 ⟨Nat.le_of_ble_eq_true rfl, Nat.le_of_ble_eq_true rfl⟩) hS (fun q _ h => hFc q h) hFc (fun r9 u t H1 locs ht hvm hw hB hz1 hk1 hS => ?_)
    obtain ⟨hP1, hK1, hD1⟩ := hB
    rw [ht] at hP1
    rw [hw]
    obtain ⟨hP, hD⟩ := va_join (wr := []) (w1 := (mw_W h q g I2 A2)) hP hD [0, 1, 2, 3, 4, 5, 6, 7, 8, 9, 10, 11, 12, 13, 14, 15, 16, 17, 18, 19, 20] [] rfl rfl (by decide) (by decide) hk1 hFc hP1 hD1
    generalize H1 = H at hP hS ⊢
    have hP : va_P (dC, dI) vwCl (mw_W h q g I2 A2) H := hP
    have hD : va_D B9 (mw_W h q g I2 A2) := hD
    obtain ⟨e1, e2, e3⟩ := wk_inj hf
    subst e1
    subst e2
    subst e3
    exact W.iret (v := r2) hx hb hr (fun t ht hW => ⟨⟨r2, (), rfl, rfl, by rw [ht]; exact hP, va_K.moved hW.alike hK, hD⟩, hS.F ht⟩) hS.2.2 d_M_length_9

set_option maxHeartbeats 8000000 in
set_option maxRecDepth 100000 in
theorem cm_M_lineStart (l : Launch) (dC : Nat → ClassId) (dI : Nat → Nat → Nat) (h : Nat) (q : Nat → Nat) (g : Nat → ClassId) (sz : Nat) (I : MI) (A : MA) (k1 : Int32) (r : Int32) (I' : MI) (A' : MA) (hf : f_M_lineStart I A k1 = some (r, I', A')) : Met l y_M_lineStart w_M_lineStart ({ frames := 2, cells := 0, slots := 0, locals := 44 }) (va_Pc [.ref h, .int k1] (fun U => U.heap.size = sz ∧ va_P (dC, dI) vwCl (mw_W h q g I A) U.heap ∧ va_K (dC, dI) vwCl (mw_T g) U ∧ va_D (fun _ => True) (mw_W h q g I A))) (va_Qi (fun (r9 : Int32) (_ : Unit) => r9 = r) (fun (_ : Unit) t => va_P (dC, dI) vwCl (mw_W h q g I' A') t.heap ∧ va_K (dC, dI) vwCl (mw_T g) t ∧ va_D (va_A (mw_W h q g I A) sz) (mw_W h q g I' A')) (va_A (mw_W h q g I A) sz)) 0 0 (va_A (mw_W h q g I A) sz) := by
  refine Met.ofW (cc := prog_6_method_50_code) (maxL := 3) (ret := (some .int)) (by decide) rfl ?_
  intro p e s m args below meth c s₁ B hml hv
  obtain ⟨rfl, hsz, hP, hK, hD0⟩ := hv
  have hx := B.exec
  have hb := B.bytes
  have hr := B.returns
  have hts := atoms_spec (ws := w_M_lineStart) B.pre
  have hown : s.vm.findClass R_M = some m.cls := findClass_of_methodNamed B.named
  have hlocks := B.notSynchronized
  subst hsz
  have hD := hD0.self (sz := s.heap.size)
  generalize hAe : va_A (mw_W h q g I A) s.heap.size = B9 at hD ⊢
  have hA : ∀ q : Nat, s.heap.size ≤ q → B9 q := fun q h => by rw [← hAe]; exact Or.inr h
  clear hAe
  have hS : va_S B9 s.heap s.heap [] := va_S.rf
  have hl := lv_entry ([.ref h, .int k1]) (n := 3) (Nat.le_of_ble_eq_true rfl)
  rw [lg_entry_eq]
  generalize (lg_sl ([.ref h, .int k1]) ++ List.replicate (3 - (lg_sl ([.ref h, .int k1])).length) Slot.unset).toArray = ls at hl ⊢
  have hl : lv_has ls 3 [(0, .ref h), (1, .int k1)] := hl
  have stp2 : ∀ (rc : Nat → MI → MA → (Nat → Int32) → Option (Int32 × MI × MA)) (hrc2 : ∀ (I : MI) (A : MA) (X : Nat → Int32) (ls : Array Slot) (H : Heap) (locs : List Loc), rc 2 I A X = some (r, I', A') → lv_has ls 3 [(0, .ref h), (1, .int (X 1)), (2, .int (X 2))] → va_P (dC, dI) vwCl (mw_W h q g I A) H → va_D B9 (mw_W h q g I A) → va_S B9 s.heap H locs → W p l e (headSpec w_M_lineStart ({ frames := 2, cells := 0, slots := 0, locals := 44 })).room s m ([.ref h, .int k1] : List Value).toArray below meth c H locs 0 0 (MQ below (va_Qi (fun (r9 : Int32) (_ : Unit) => r9 = r) (fun (_ : Unit) t => va_P (dC, dI) vwCl (mw_W h q g I' A') t.heap ∧ va_K (dC, dI) vwCl (mw_T g) t ∧ va_D B9 (mw_W h q g I' A')) B9) ([.ref h, .int k1] : List Value).toArray s 0 0 B9) (F0 m 2 ls [])), ∀ (I : MI) (A : MA) (X : Nat → Int32) (ls : Array Slot) (H : Heap) (locs : List Loc), f_M_lineStart_2 rc I A X = some (r, I', A') → lv_has ls 3 [(0, .ref h), (1, .int (X 1)), (2, .int (X 2))] → va_P (dC, dI) vwCl (mw_W h q g I A) H → va_D B9 (mw_W h q g I A) → va_S B9 s.heap H locs → W p l e (headSpec w_M_lineStart ({ frames := 2, cells := 0, slots := 0, locals := 44 })).room s m ([.ref h, .int k1] : List Value).toArray below meth c H locs 0 0 (MQ below (va_Qi (fun (r9 : Int32) (_ : Unit) => r9 = r) (fun (_ : Unit) t => va_P (dC, dI) vwCl (mw_W h q g I' A') t.heap ∧ va_K (dC, dI) vwCl (mw_T g) t ∧ va_D B9 (mw_W h q g I' A')) B9) ([.ref h, .int k1] : List Value).toArray s 0 0 B9) (F0 m 2 ls []) := by
    intro rc hrc2 I A X ls H locs hf hl hP hD hS
    unfold f_M_lineStart_2 at hf
    refine lv_aload_n hx hb d_M_lineStart_2 rfl (lv_at hl 0 rfl) ?_
    refine lv_iload_n hx hb d_M_lineStart_3 rfl (lv_at hl 2 rfl) ?_
    have hPc := hP.sub (ws' := (mw_W h q g I A)) [0, 1, 2, 3, 4, 5, 6, 7, 8, 9, 10, 11, 12, 13, 14, 15, 16, 17, 18, 19, 20] rfl
    have hDc := hD.sub (ws' := (mw_W h q g I A)) [0, 1, 2, 3, 4, 5, 6, 7, 8, 9, 10, 11, 12, 13, 14, 15, 16, 17, 18, 19, 20] (by decide) rfl
    have hKc := hK.sub (tys' := (mw_T g)) [0, 1, 2, 3, 4, 5, 6, 7, 8, 9, 10, 11, 12, 13, 14, 15, 16, 17, 18, 19] rfl
    have hFc := va_free (wc := (mw_W h q g I A)) hD hS hA [0, 1, 2, 3, 4, 5, 6, 7, 8, 9, 10, 11, 12, 13, 14, 15, 16, 17, 18, 19, 20] rfl
    cases hg1 : f_M_breaks I A (X 2) with
    | none => rw [hg1] at hf; cases hf
    | some z1 =>
      obtain ⟨r1, I1, A1⟩ := z1
      rw [hg1] at hf
      dsimp only [Option.bind_some] at hf
      refine va_calli (va_runV (As := [.int (X 2)]) (rest := []) ⟨hx, hb, hml, hown, hts⟩ (cm_M_breaks l dC dI h q g _ I A (X 2) r1 I1 A1 hg1) (cwV 1 hts (gd_v lk_211 lk_212 lk_213 lk_46 lk_76) rfl rfl rfl (by decide +kernel) ⟨Nat.le_of_ble_eq_true rfl, Nat.le_of_ble_eq_true rfl⟩) ⟨fun a U g mk q => by obtain ⟨q0, q1, qP, qK, qD⟩ := q; exact ⟨q0, q1, qP, va_K.moved (u := U) (U := U.calling g mk a) (Vm.Alike.refl U.vm) qK, qD⟩, va_recv (ci := 4) (q0 := 0) hK hP rfl rfl, fun U hU hW => ⟨rfl, by rw [hU], by rw [hU]; exact hPc, va_K.moved hW.alike hKc, hDc.weaken (fun _ _ _ _ => trivial)⟩⟩ rfl rfl hl.1 rfl (lv_room (Nat.le_of_ble_eq_true rfl)) d_M_lineStart_4 ⟨Nat.le_of_ble_eq_true rfl, Nat.le_of_ble_eq_true rfl⟩) hS (fun q _ h => hFc q h) hFc (fun r9 u t H1 locs ht hvm hw hB hz1 hk1 hS => ?_)
      obtain ⟨hP1, hK1, hD1⟩ := hB
      rw [ht] at hP1
      rw [hw]
      obtain ⟨hP, hD⟩ := va_join (wr := []) (w1 := (mw_W h q g I1 A1)) hP hD [0, 1, 2, 3, 4, 5, 6, 7, 8, 9, 10, 11, 12, 13, 14, 15, 16, 17, 18, 19, 20] [] rfl rfl (by decide) (by decide) hk1 hFc hP1 hD1
      generalize H1 = H at hP hS ⊢
      have hP : va_P (dC, dI) vwCl (mw_W h q g I1 A1) H := hP
      have hD : va_D B9 (mw_W h q g I1 A1) := hD
      refine lv_iload_n hx hb d_M_lineStart_7 rfl (lv_at hl 1 rfl) ?_
      refine lv_icmp_ge (tgt := 17) hx hb d_M_lineStart_8 (by decide) (fun hc1 => ?_) (fun hc1 => ?_)
      ·
        have hf := wk_ift hc1 hf
        refine lv_iload_n hx hb d_M_lineStart_17 rfl (lv_at hl 2 rfl) ?_
        obtain ⟨e1, e2, e3⟩ := wk_inj hf
        subst e1
        subst e2
        subst e3
        exact W.iret (v := (X 2)) hx hb hr (fun t ht hW => ⟨⟨(X 2), (), rfl, rfl, by rw [ht]; exact hP, va_K.moved hW.alike hK, hD⟩, hS.F ht⟩) hS.2.2 d_M_lineStart_18
      ·
        have hf := wk_iff hc1 hf
        refine lv_iinc (k := 2) (v := ((X 2) + 1)) (lv' := [(2, .int ((X 2) + 1)), (0, .ref h), (1, .int (X 1))]) hx hb d_M_lineStart_11 hl rfl (wk_inc (by decide)) (by decide) rfl (fun ls hl => ?_)
        have hl : lv_has ls 3 [(2, .int ((X 2) + 1)), (0, .ref h), (1, .int (X 1))] := hl
        refine lv_goto (tgt := 2) hx hb d_M_lineStart_14 (by decide) ?_
        exact hrc2 I1 A1 (upd X 2 ((X 2) + 1)) _ _ _ hf (lv_sub hl [1, 2, 0] rfl) hP hD hS
  have key : ∀ n : Nat, (∀ (I : MI) (A : MA) (X : Nat → Int32) (ls : Array Slot) (H : Heap) (locs : List Loc), f_M_lineStart_go n 2 I A X = some (r, I', A') → lv_has ls 3 [(0, .ref h), (1, .int (X 1)), (2, .int (X 2))] → va_P (dC, dI) vwCl (mw_W h q g I A) H → va_D B9 (mw_W h q g I A) → va_S B9 s.heap H locs → W p l e (headSpec w_M_lineStart ({ frames := 2, cells := 0, slots := 0, locals := 44 })).room s m ([.ref h, .int k1] : List Value).toArray below meth c H locs 0 0 (MQ below (va_Qi (fun (r9 : Int32) (_ : Unit) => r9 = r) (fun (_ : Unit) t => va_P (dC, dI) vwCl (mw_W h q g I' A') t.heap ∧ va_K (dC, dI) vwCl (mw_T g) t ∧ va_D B9 (mw_W h q g I' A')) B9) ([.ref h, .int k1] : List Value).toArray s 0 0 B9) (F0 m 2 ls [])) := by
    intro n
    induction n with
    | zero => exact fun I A X ls H locs hf => (by cases hf)
    | succ n ih =>
      have ih2 := ih
      exact stp2 (f_M_lineStart_go n) ih2
  unfold f_M_lineStart f_M_lineStart_e at hf
  have hrc2 := key wk_FUEL
  refine lv_iconst (v := 0) hx hb d_M_lineStart_0 (by decide) ?_
  refine lv_istore_n (lv' := [(2, .int 0), (0, .ref h), (1, .int k1)]) hx hb d_M_lineStart_1 rfl hl (by decide) rfl (fun ls hl => ?_)
  have hl : lv_has ls 3 [(2, .int 0), (0, .ref h), (1, .int k1)] := hl
  exact hrc2 I A (upd (upd (fun _ => 0) 1 k1) 2 0) _ _ _ hf (lv_sub hl [1, 2, 0] rfl) hP hD hS

set_option maxHeartbeats 8000000 in
set_option maxRecDepth 100000 in
theorem cm_M_line (l : Launch) (dC : Nat → ClassId) (dI : Nat → Nat → Nat) (h : Nat) (q : Nat → Nat) (g : Nat → ClassId) (sz : Nat) (I : MI) (A : MA) (k1 k2 : Int32) (r : Int32) (I' : MI) (A' : MA) (hf : f_M_line I A k1 k2 = some (r, I', A')) : Met l y_M_line w_M_line ({ frames := 3, cells := 0, slots := 0, locals := 66 }) (va_Pc [.ref h, .int k1, .int k2] (fun U => U.heap.size = sz ∧ va_P (dC, dI) vwCl (mw_W h q g I A) U.heap ∧ va_K (dC, dI) vwCl (mw_T g) U ∧ va_D (fun _ => True) (mw_W h q g I A))) (va_Qi (fun (r9 : Int32) (_ : Unit) => r9 = r) (fun (_ : Unit) t => va_P (dC, dI) vwCl (mw_W h q g I' A') t.heap ∧ va_K (dC, dI) vwCl (mw_T g) t ∧ va_D (va_A (mw_W h q g I A) sz) (mw_W h q g I' A')) (va_A (mw_W h q g I A) sz)) 0 0 (va_A (mw_W h q g I A) sz) := by
  refine Met.ofW (cc := prog_6_method_51_code) (maxL := 7) (ret := (some .int)) (by decide) rfl ?_
  intro p e s m args below meth c s₁ B hml hv
  obtain ⟨rfl, hsz, hP, hK, hD0⟩ := hv
  have hx := B.exec
  have hb := B.bytes
  have hr := B.returns
  have hts := atoms_spec (ws := w_M_line) B.pre
  have hown : s.vm.findClass R_M = some m.cls := findClass_of_methodNamed B.named
  have hlocks := B.notSynchronized
  subst hsz
  have hD := hD0.self (sz := s.heap.size)
  generalize hAe : va_A (mw_W h q g I A) s.heap.size = B9 at hD ⊢
  have hA : ∀ q : Nat, s.heap.size ≤ q → B9 q := fun q h => by rw [← hAe]; exact Or.inr h
  clear hAe
  have hS : va_S B9 s.heap s.heap [] := va_S.rf
  have hl := lv_entry ([.ref h, .int k1, .int k2]) (n := 7) (Nat.le_of_ble_eq_true rfl)
  rw [lg_entry_eq]
  generalize (lg_sl ([.ref h, .int k1, .int k2]) ++ List.replicate (7 - (lg_sl ([.ref h, .int k1, .int k2])).length) Slot.unset).toArray = ls at hl ⊢
  have hl : lv_has ls 7 [(0, .ref h), (1, .int k1), (2, .int k2)] := hl
  have blk105 : ∀ (rc : Nat → MI → MA → (Nat → Int32) → Option (Int32 × MI × MA)) (hrc117 : ∀ (I : MI) (A : MA) (X : Nat → Int32) (ls : Array Slot) (H : Heap) (locs : List Loc), rc 117 I A X = some (r, I', A') → lv_has ls 7 [(0, .ref h), (1, .int (X 1)), (2, .int (X 2)), (3, .int (X 3)), (4, .int (X 4)), (5, .int (X 5)), (6, .int (X 6))] → va_P (dC, dI) vwCl (mw_W h q g I A) H → va_D B9 (mw_W h q g I A) → va_S B9 s.heap H locs → W p l e (headSpec w_M_line ({ frames := 3, cells := 0, slots := 0, locals := 66 })).room s m ([.ref h, .int k1, .int k2] : List Value).toArray below meth c H locs 0 0 (MQ below (va_Qi (fun (r9 : Int32) (_ : Unit) => r9 = r) (fun (_ : Unit) t => va_P (dC, dI) vwCl (mw_W h q g I' A') t.heap ∧ va_K (dC, dI) vwCl (mw_T g) t ∧ va_D B9 (mw_W h q g I' A')) B9) ([.ref h, .int k1, .int k2] : List Value).toArray s 0 0 B9) (F0 m 117 ls [])), ∀ (I : MI) (A : MA) (X : Nat → Int32) (s0 : Int32) (ls : Array Slot) (H : Heap) (locs : List Loc), f_M_line_105 rc I A X s0 = some (r, I', A') → lv_has ls 7 [(0, .ref h), (1, .int (X 1)), (2, .int (X 2)), (3, .int (X 3)), (4, .int (X 4))] → va_P (dC, dI) vwCl (mw_W h q g I A) H → va_D B9 (mw_W h q g I A) → va_S B9 s.heap H locs → W p l e (headSpec w_M_line ({ frames := 3, cells := 0, slots := 0, locals := 66 })).room s m ([.ref h, .int k1, .int k2] : List Value).toArray below meth c H locs 0 0 (MQ below (va_Qi (fun (r9 : Int32) (_ : Unit) => r9 = r) (fun (_ : Unit) t => va_P (dC, dI) vwCl (mw_W h q g I' A') t.heap ∧ va_K (dC, dI) vwCl (mw_T g) t ∧ va_D B9 (mw_W h q g I' A')) B9) ([.ref h, .int k1, .int k2] : List Value).toArray s 0 0 B9) (F0 m 105 ls [.int s0]) := by
    intro rc hrc117 I A X s0 ls H locs hf hl hP hD hS
    unfold f_M_line_105 at hf
    obtain ⟨e1, e2, e3⟩ := wk_inj hf
    subst e1
    subst e2
    subst e3
    exact W.iret (v := s0) hx hb hr (fun t ht hW => ⟨⟨s0, (), rfl, rfl, by rw [ht]; exact hP, va_K.moved hW.alike hK, hD⟩, hS.F ht⟩) hS.2.2 d_M_line_105
  have blk75 : ∀ (rc : Nat → MI → MA → (Nat → Int32) → Option (Int32 × MI × MA)) (hrc117 : ∀ (I : MI) (A : MA) (X : Nat → Int32) (ls : Array Slot) (H : Heap) (locs : List Loc), rc 117 I A X = some (r, I', A') → lv_has ls 7 [(0, .ref h), (1, .int (X 1)), (2, .int (X 2)), (3, .int (X 3)), (4, .int (X 4)), (5, .int (X 5)), (6, .int (X 6))] → va_P (dC, dI) vwCl (mw_W h q g I A) H → va_D B9 (mw_W h q g I A) → va_S B9 s.heap H locs → W p l e (headSpec w_M_line ({ frames := 3, cells := 0, slots := 0, locals := 66 })).room s m ([.ref h, .int k1, .int k2] : List Value).toArray below meth c H locs 0 0 (MQ below (va_Qi (fun (r9 : Int32) (_ : Unit) => r9 = r) (fun (_ : Unit) t => va_P (dC, dI) vwCl (mw_W h q g I' A') t.heap ∧ va_K (dC, dI) vwCl (mw_T g) t ∧ va_D B9 (mw_W h q g I' A')) B9) ([.ref h, .int k1, .int k2] : List Value).toArray s 0 0 B9) (F0 m 117 ls [])), ∀ (I : MI) (A : MA) (X : Nat → Int32) (s0 : Int32) (ls : Array Slot) (H : Heap) (locs : List Loc), f_M_line_75 rc I A X s0 = some (r, I', A') → lv_has ls 7 [(0, .ref h), (1, .int (X 1)), (2, .int (X 2)), (3, .int (X 3)), (4, .int (X 4))] → va_P (dC, dI) vwCl (mw_W h q g I A) H → va_D B9 (mw_W h q g I A) → va_S B9 s.heap H locs → W p l e (headSpec w_M_line ({ frames := 3, cells := 0, slots := 0, locals := 66 })).room s m ([.ref h, .int k1, .int k2] : List Value).toArray below meth c H locs 0 0 (MQ below (va_Qi (fun (r9 : Int32) (_ : Unit) => r9 = r) (fun (_ : Unit) t => va_P (dC, dI) vwCl (mw_W h q g I' A') t.heap ∧ va_K (dC, dI) vwCl (mw_T g) t ∧ va_D B9 (mw_W h q g I' A')) B9) ([.ref h, .int k1, .int k2] : List Value).toArray s 0 0 B9) (F0 m 75 ls [.int s0, .ref h]) := by
    intro rc hrc117 I A X s0 ls H locs hf hl hP hD hS
    unfold f_M_line_75 at hf
    refine va_put (D := (dC, dI)) (ci := 4) (v := .int s0) (ty := .int) (C := R_M) (T := F_M) (N := 38) hx hb hts (fun w h => List.mem_cons_of_mem _ (in_M w h)) t_M tk_M n_M hown hK hP hD hS 0 rfl rfl 0 (by decide) (hts _ (List.mem_cons_of_mem _ lk_60)) (fun _ h9 => h9) rfl (by decide +kernel) rfl rfl (Nat.le_of_ble_eq_true rfl) d_M_line_75 (fun H locs hP hD hS => ?_)
    obtain ⟨I1, hI1, hf⟩ := wk_letE hf
    have hP : va_P (dC, dI) vwCl (mw_W h q g I1 A) H := by rw [hI1]; exact hP
    have hD : va_D B9 (mw_W h q g I1 A) := by rw [hI1]; exact hD
    clear hI1
    refine lv_aload_n hx hb d_M_line_78 rfl (lv_at hl 0 rfl) ?_
    refine va_get (D := (dC, dI)) (ci := 4) (v := .int (I1 0)) (C := R_M) (T := F_M) (N := 38) hx hb hts (fun w h => List.mem_cons_of_mem _ (in_M w h)) hown hK hP 0 rfl rfl 0 (by decide) (hts _ (List.mem_cons_of_mem _ lk_60)) (fun _ h9 => h9) rfl d_M_line_79 ?_
    refine lv_if_le (tgt := 87) hx hb d_M_line_82 (by decide) (fun hc1 => ?_) (fun hc1 => ?_)
    ·
      have hf := wk_ift hc1 hf
      refine lv_iload_n hx hb d_M_line_87 rfl (lv_at hl 1 rfl) ?_
      refine lv_iconst (v := 2) hx hb d_M_line_88 (by decide) ?_
      refine lv_icmp_ge (tgt := 106) hx hb d_M_line_89 (by decide) (fun hc2 => ?_) (fun hc2 => ?_)
      ·
        have hf := wk_ift hc2 hf
        refine lv_aload_n hx hb d_M_line_106 rfl (lv_at hl 0 rfl) ?_
        refine lv_iload_n hx hb d_M_line_107 rfl (lv_at hl 2 rfl) ?_
        have hPc := hP.sub (ws' := (mw_W h q g I1 A)) [0, 1, 2, 3, 4, 5, 6, 7, 8, 9, 10, 11, 12, 13, 14, 15, 16, 17, 18, 19, 20] rfl
        have hDc := hD.sub (ws' := (mw_W h q g I1 A)) [0, 1, 2, 3, 4, 5, 6, 7, 8, 9, 10, 11, 12, 13, 14, 15, 16, 17, 18, 19, 20] (by decide) rfl
        have hKc := hK.sub (tys' := (mw_T g)) [0, 1, 2, 3, 4, 5, 6, 7, 8, 9, 10, 11, 12, 13, 14, 15, 16, 17, 18, 19] rfl
        have hFc := va_free (wc := (mw_W h q g I1 A)) hD hS hA [0, 1, 2, 3, 4, 5, 6, 7, 8, 9, 10, 11, 12, 13, 14, 15, 16, 17, 18, 19, 20] rfl
        cases hg2 : f_M_lineStart I1 A (X 2) with
        | none => rw [hg2] at hf; cases hf
        | some z2 =>
          obtain ⟨r2, I2, A2⟩ := z2
          rw [hg2] at hf
          dsimp only [Option.bind_some] at hf
          refine va_calli (va_runV (As := [.int (X 2)]) (rest := []) ⟨hx, hb, hml, hown, hts⟩ (cm_M_lineStart l dC dI h q g _ I1 A (X 2) r2 I2 A2 hg2) (cwV 1 hts (gd_v lk_215 lk_216 lk_217 lk_46 lk_214) rfl rfl rfl (by decide +kernel) ⟨Nat.le_of_ble_eq_true rfl, Nat.le_of_ble_eq_true rfl⟩) ⟨fun a U g mk q => by obtain ⟨q0, q1, qP, qK, qD⟩ := q; exact ⟨q0, q1, qP, va_K.moved (u := U) (U := U.calling g mk a) (Vm.Alike.refl U.vm) qK, qD⟩, va_recv (ci := 4) (q0 := 0) hK hP rfl rfl, fun U hU hW => ⟨rfl, by rw [hU], by rw [hU]; exact hPc, va_K.moved hW.alike hKc, hDc.weaken (fun _ _ _ _ => trivial)⟩⟩ rfl rfl hl.1 rfl (lv_room (Nat.le_of_ble_eq_true rfl)) d_M_line_108 ⟨Nat.le_of_ble_eq_true rfl, Nat.le_of_ble_eq_true rfl⟩) hS (fun q _ h => hFc q h) hFc (fun r9 u t H1 locs ht hvm hw hB hz1 hk1 hS => ?_)
          obtain ⟨hP1, hK1, hD1⟩ := hB
          rw [ht] at hP1
          rw [hw]
          obtain ⟨hP, hD⟩ := va_join (wr := []) (w1 := (mw_W h q g I2 A2)) hP hD [0, 1, 2, 3, 4, 5, 6, 7, 8, 9, 10, 11, 12, 13, 14, 15, 16, 17, 18, 19, 20] [] rfl rfl (by decide) (by decide) hk1 hFc hP1 hD1
          generalize H1 = H at hP hS ⊢
          have hP : va_P (dC, dI) vwCl (mw_W h q g I2 A2) H := hP
          have hD : va_D B9 (mw_W h q g I2 A2) := hD
          refine lv_istore (lv' := [(5, .int r2), (0, .ref h), (1, .int (X 1)), (2, .int (X 2)), (3, .int (X 3)), (4, .int (X 4))]) hx hb d_M_line_111 hl (by decide) rfl (fun ls hl => ?_)
          have hl : lv_has ls 7 [(5, .int r2), (0, .ref h), (1, .int (X 1)), (2, .int (X 2)), (3, .int (X 3)), (4, .int (X 4))] := hl
          refine lv_iload hx hb d_M_line_113 (lv_at hl 0 rfl) ?_
          refine lv_istore (lv' := [(6, .int r2), (5, .int r2), (0, .ref h), (1, .int (X 1)), (2, .int (X 2)), (3, .int (X 3)), (4, .int (X 4))]) hx hb d_M_line_115 hl (by decide) rfl (fun ls hl => ?_)
          have hl : lv_has ls 7 [(6, .int r2), (5, .int r2), (0, .ref h), (1, .int (X 1)), (2, .int (X 2)), (3, .int (X 3)), (4, .int (X 4))] := hl
          exact hrc117 I2 A2 (upd (upd X 5 r2) 6 r2) _ _ _ hf (lv_sub hl [2, 3, 4, 5, 6, 1, 0] rfl) hP hD hS
      ·
        have hf := wk_iff hc2 hf
        refine lv_iload_n hx hb d_M_line_92 rfl (lv_at hl 1 rfl) ?_
        refine lv_if_ne (tgt := 100) hx hb d_M_line_93 (by decide) (fun hc3 => ?_) (fun hc3 => ?_)
        ·
          have hf := wk_iff hc3 hf
          refine lv_aload_n hx hb d_M_line_100 rfl (lv_at hl 0 rfl) ?_
          refine lv_iload_n hx hb d_M_line_101 rfl (lv_at hl 2 rfl) ?_
          have hPc := hP.sub (ws' := (mw_W h q g I1 A)) [0, 1, 2, 3, 4, 5, 6, 7, 8, 9, 10, 11, 12, 13, 14, 15, 16, 17, 18, 19, 20] rfl
          have hDc := hD.sub (ws' := (mw_W h q g I1 A)) [0, 1, 2, 3, 4, 5, 6, 7, 8, 9, 10, 11, 12, 13, 14, 15, 16, 17, 18, 19, 20] (by decide) rfl
          have hKc := hK.sub (tys' := (mw_T g)) [0, 1, 2, 3, 4, 5, 6, 7, 8, 9, 10, 11, 12, 13, 14, 15, 16, 17, 18, 19] rfl
          have hFc := va_free (wc := (mw_W h q g I1 A)) hD hS hA [0, 1, 2, 3, 4, 5, 6, 7, 8, 9, 10, 11, 12, 13, 14, 15, 16, 17, 18, 19, 20] rfl
          cases hg2 : f_M_breaks I1 A (X 2) with
          | none => rw [hg2] at hf; cases hf
          | some z2 =>
            obtain ⟨r2, I2, A2⟩ := z2
            rw [hg2] at hf
            dsimp only [Option.bind_some] at hf
            refine va_calli (va_runV (As := [.int (X 2)]) (rest := []) ⟨hx, hb, hml, hown, hts⟩ (cm_M_breaks l dC dI h q g _ I1 A (X 2) r2 I2 A2 hg2) (cwV 1 hts (gd_v lk_211 lk_212 lk_213 lk_46 lk_76) rfl rfl rfl (by decide +kernel) ⟨Nat.le_of_ble_eq_true rfl, Nat.le_of_ble_eq_true rfl⟩) ⟨fun a U g mk q => by obtain ⟨q0, q1, qP, qK, qD⟩ := q; exact ⟨q0, q1, qP, va_K.moved (u := U) (U := U.calling g mk a) (Vm.Alike.refl U.vm) qK, qD⟩, va_recv (ci := 4) (q0 := 0) hK hP rfl rfl, fun U hU hW => ⟨rfl, by rw [hU], by rw [hU]; exact hPc, va_K.moved hW.alike hKc, hDc.weaken (fun _ _ _ _ => trivial)⟩⟩ rfl rfl hl.1 rfl (lv_room (Nat.le_of_ble_eq_true rfl)) d_M_line_102 ⟨Nat.le_of_ble_eq_true rfl, Nat.le_of_ble_eq_true rfl⟩) hS (fun q _ h => hFc q h) hFc (fun r9 u t H1 locs ht hvm hw hB hz1 hk1 hS => ?_)
            obtain ⟨hP1, hK1, hD1⟩ := hB
            rw [ht] at hP1
            rw [hw]
            obtain ⟨hP, hD⟩ := va_join (wr := []) (w1 := (mw_W h q g I2 A2)) hP hD [0, 1, 2, 3, 4, 5, 6, 7, 8, 9, 10, 11, 12, 13, 14, 15, 16, 17, 18, 19, 20] [] rfl rfl (by decide) (by decide) hk1 hFc hP1 hD1
            generalize H1 = H at hP hS ⊢
            have hP : va_P (dC, dI) vwCl (mw_W h q g I2 A2) H := hP
            have hD : va_D B9 (mw_W h q g I2 A2) := hD
            exact blk105 rc hrc117 I2 A2 X r2 _ _ _ hf (lv_sub hl [0, 1, 2, 3, 4] rfl) hP hD hS
        ·
          have hf := wk_ift hc3 hf
          refine lv_iload_n hx hb d_M_line_96 rfl (lv_at hl 3 rfl) ?_
          refine lv_goto (tgt := 105) hx hb d_M_line_97 (by decide) ?_
          exact blk105 rc hrc117 I1 A X (X 3) _ _ _ hf (lv_sub hl [0, 1, 2, 3, 4] rfl) hP hD hS
    ·
      have hf := wk_iff hc1 hf
      refine lv_iconst (v := 0) hx hb d_M_line_85 (by decide) ?_
      obtain ⟨e1, e2, e3⟩ := wk_inj hf
      subst e1
      subst e2
      subst e3
      exact W.iret (v := 0) hx hb hr (fun t ht hW => ⟨⟨0, (), rfl, rfl, by rw [ht]; exact hP, va_K.moved hW.alike hK, hD⟩, hS.F ht⟩) hS.2.2 d_M_line_86
  have blk61 : ∀ (rc : Nat → MI → MA → (Nat → Int32) → Option (Int32 × MI × MA)) (hrc117 : ∀ (I : MI) (A : MA) (X : Nat → Int32) (ls : Array Slot) (H : Heap) (locs : List Loc), rc 117 I A X = some (r, I', A') → lv_has ls 7 [(0, .ref h), (1, .int (X 1)), (2, .int (X 2)), (3, .int (X 3)), (4, .int (X 4)), (5, .int (X 5)), (6, .int (X 6))] → va_P (dC, dI) vwCl (mw_W h q g I A) H → va_D B9 (mw_W h q g I A) → va_S B9 s.heap H locs → W p l e (headSpec w_M_line ({ frames := 3, cells := 0, slots := 0, locals := 66 })).room s m ([.ref h, .int k1, .int k2] : List Value).toArray below meth c H locs 0 0 (MQ below (va_Qi (fun (r9 : Int32) (_ : Unit) => r9 = r) (fun (_ : Unit) t => va_P (dC, dI) vwCl (mw_W h q g I' A') t.heap ∧ va_K (dC, dI) vwCl (mw_T g) t ∧ va_D B9 (mw_W h q g I' A')) B9) ([.ref h, .int k1, .int k2] : List Value).toArray s 0 0 B9) (F0 m 117 ls [])), ∀ (I : MI) (A : MA) (X : Nat → Int32) (ls : Array Slot) (H : Heap) (locs : List Loc), f_M_line_61 rc I A X = some (r, I', A') → lv_has ls 7 [(0, .ref h), (1, .int (X 1)), (2, .int (X 2)), (3, .int (X 3)), (4, .int (X 4))] → va_P (dC, dI) vwCl (mw_W h q g I A) H → va_D B9 (mw_W h q g I A) → va_S B9 s.heap H locs → W p l e (headSpec w_M_line ({ frames := 3, cells := 0, slots := 0, locals := 66 })).room s m ([.ref h, .int k1, .int k2] : List Value).toArray below meth c H locs 0 0 (MQ below (va_Qi (fun (r9 : Int32) (_ : Unit) => r9 = r) (fun (_ : Unit) t => va_P (dC, dI) vwCl (mw_W h q g I' A') t.heap ∧ va_K (dC, dI) vwCl (mw_T g) t ∧ va_D B9 (mw_W h q g I' A')) B9) ([.ref h, .int k1, .int k2] : List Value).toArray s 0 0 B9) (F0 m 61 ls [.ref h]) := by
    intro rc hrc117 I A X ls H locs hf hl hP hD hS
    unfold f_M_line_61 at hf
    refine lv_iconst (v := 1) hx hb d_M_line_61 (by decide) ?_
    refine lv_goto (tgt := 75) hx hb d_M_line_62 (by decide) ?_
    exact blk75 rc hrc117 I A X 1 _ _ _ hf (lv_sub hl [0, 1, 2, 3, 4] rfl) hP hD hS
  have blk49 : ∀ (rc : Nat → MI → MA → (Nat → Int32) → Option (Int32 × MI × MA)) (hrc117 : ∀ (I : MI) (A : MA) (X : Nat → Int32) (ls : Array Slot) (H : Heap) (locs : List Loc), rc 117 I A X = some (r, I', A') → lv_has ls 7 [(0, .ref h), (1, .int (X 1)), (2, .int (X 2)), (3, .int (X 3)), (4, .int (X 4)), (5, .int (X 5)), (6, .int (X 6))] → va_P (dC, dI) vwCl (mw_W h q g I A) H → va_D B9 (mw_W h q g I A) → va_S B9 s.heap H locs → W p l e (headSpec w_M_line ({ frames := 3, cells := 0, slots := 0, locals := 66 })).room s m ([.ref h, .int k1, .int k2] : List Value).toArray below meth c H locs 0 0 (MQ below (va_Qi (fun (r9 : Int32) (_ : Unit) => r9 = r) (fun (_ : Unit) t => va_P (dC, dI) vwCl (mw_W h q g I' A') t.heap ∧ va_K (dC, dI) vwCl (mw_T g) t ∧ va_D B9 (mw_W h q g I' A')) B9) ([.ref h, .int k1, .int k2] : List Value).toArray s 0 0 B9) (F0 m 117 ls [])), ∀ (I : MI) (A : MA) (X : Nat → Int32) (s0 : Int32) (ls : Array Slot) (H : Heap) (locs : List Loc), f_M_line_49 rc I A X s0 = some (r, I', A') → lv_has ls 7 [(0, .ref h), (1, .int (X 1)), (2, .int (X 2)), (3, .int (X 3))] → va_P (dC, dI) vwCl (mw_W h q g I A) H → va_D B9 (mw_W h q g I A) → va_S B9 s.heap H locs → W p l e (headSpec w_M_line ({ frames := 3, cells := 0, slots := 0, locals := 66 })).room s m ([.ref h, .int k1, .int k2] : List Value).toArray below meth c H locs 0 0 (MQ below (va_Qi (fun (r9 : Int32) (_ : Unit) => r9 = r) (fun (_ : Unit) t => va_P (dC, dI) vwCl (mw_W h q g I' A') t.heap ∧ va_K (dC, dI) vwCl (mw_T g) t ∧ va_D B9 (mw_W h q g I' A')) B9) ([.ref h, .int k1, .int k2] : List Value).toArray s 0 0 B9) (F0 m 49 ls [.int s0]) := by
    intro rc hrc117 I A X s0 ls H locs hf hl hP hD hS
    unfold f_M_line_49 at hf
    refine lv_istore (lv' := [(4, .int s0), (0, .ref h), (1, .int (X 1)), (2, .int (X 2)), (3, .int (X 3))]) hx hb d_M_line_49 hl (by decide) rfl (fun ls hl => ?_)
    have hl : lv_has ls 7 [(4, .int s0), (0, .ref h), (1, .int (X 1)), (2, .int (X 2)), (3, .int (X 3))] := hl
    refine lv_aload_n hx hb d_M_line_51 rfl (lv_at hl 1 rfl) ?_
    refine lv_iload_n hx hb d_M_line_52 rfl (lv_at hl 2 rfl) ?_
    refine lv_if_lt (tgt := 61) hx hb d_M_line_53 (by decide) (fun hc1 => ?_) (fun hc1 => ?_)
    ·
      have hf := wk_ift hc1 hf
      exact blk61 rc hrc117 I A (upd X 4 s0) _ _ _ hf (lv_sub hl [1, 2, 3, 4, 0] rfl) hP hD hS
    ·
      have hf := wk_iff hc1 hf
      refine lv_iload_n hx hb d_M_line_56 rfl (lv_at hl 2 rfl) ?_
      refine lv_iconst (v := 3) hx hb d_M_line_57 (by decide) ?_
      refine lv_icmp_le (tgt := 65) hx hb d_M_line_58 (by decide) (fun hc2 => ?_) (fun hc2 => ?_)
      ·
        have hf := wk_ift hc2 hf
        refine lv_iload hx hb d_M_line_65 (lv_at hl 0 rfl) ?_
        refine lv_if_ne (tgt := 74) hx hb d_M_line_67 (by decide) (fun hc3 => ?_) (fun hc3 => ?_)
        ·
          have hf := wk_iff hc3 hf
          refine lv_iconst (v := 0) hx hb d_M_line_74 (by decide) ?_
          exact blk75 rc hrc117 I A (upd X 4 s0) 0 _ _ _ hf (lv_sub hl [1, 2, 3, 4, 0] rfl) hP hD hS
        ·
          have hf := wk_ift hc3 hf
          refine lv_iconst (v := 2) hx hb d_M_line_70 (by decide) ?_
          refine lv_goto (tgt := 75) hx hb d_M_line_71 (by decide) ?_
          exact blk75 rc hrc117 I A (upd X 4 s0) 2 _ _ _ hf (lv_sub hl [1, 2, 3, 4, 0] rfl) hP hD hS
      ·
        have hf := wk_iff hc2 hf
        exact blk61 rc hrc117 I A (upd X 4 s0) _ _ _ hf (lv_sub hl [1, 2, 3, 4, 0] rfl) hP hD hS
  have blk44 : ∀ (rc : Nat → MI → MA → (Nat → Int32) → Option (Int32 × MI × MA)) (hrc117 : ∀ (I : MI) (A : MA) (X : Nat → Int32) (ls : Array Slot) (H : Heap) (locs : List Loc), rc 117 I A X = some (r, I', A') → lv_has ls 7 [(0, .ref h), (1, .int (X 1)), (2, .int (X 2)), (3, .int (X 3)), (4, .int (X 4)), (5, .int (X 5)), (6, .int (X 6))] → va_P (dC, dI) vwCl (mw_W h q g I A) H → va_D B9 (mw_W h q g I A) → va_S B9 s.heap H locs → W p l e (headSpec w_M_line ({ frames := 3, cells := 0, slots := 0, locals := 66 })).room s m ([.ref h, .int k1, .int k2] : List Value).toArray below meth c H locs 0 0 (MQ below (va_Qi (fun (r9 : Int32) (_ : Unit) => r9 = r) (fun (_ : Unit) t => va_P (dC, dI) vwCl (mw_W h q g I' A') t.heap ∧ va_K (dC, dI) vwCl (mw_T g) t ∧ va_D B9 (mw_W h q g I' A')) B9) ([.ref h, .int k1, .int k2] : List Value).toArray s 0 0 B9) (F0 m 117 ls [])), ∀ (I : MI) (A : MA) (X : Nat → Int32) (ls : Array Slot) (H : Heap) (locs : List Loc), f_M_line_44 rc I A X = some (r, I', A') → lv_has ls 7 [(0, .ref h), (1, .int (X 1)), (2, .int (X 2)), (3, .int (X 3))] → va_P (dC, dI) vwCl (mw_W h q g I A) H → va_D B9 (mw_W h q g I A) → va_S B9 s.heap H locs → W p l e (headSpec w_M_line ({ frames := 3, cells := 0, slots := 0, locals := 66 })).room s m ([.ref h, .int k1, .int k2] : List Value).toArray below meth c H locs 0 0 (MQ below (va_Qi (fun (r9 : Int32) (_ : Unit) => r9 = r) (fun (_ : Unit) t => va_P (dC, dI) vwCl (mw_W h q g I' A') t.heap ∧ va_K (dC, dI) vwCl (mw_T g) t ∧ va_D B9 (mw_W h q g I' A')) B9) ([.ref h, .int k1, .int k2] : List Value).toArray s 0 0 B9) (F0 m 44 ls []) := by
    intro rc hrc117 I A X ls H locs hf hl hP hD hS
    unfold f_M_line_44 at hf
    refine lv_iconst (v := 1) hx hb d_M_line_44 (by decide) ?_
    refine lv_goto (tgt := 49) hx hb d_M_line_45 (by decide) ?_
    exact blk49 rc hrc117 I A X 1 _ _ _ hf (lv_sub hl [0, 1, 2, 3] rfl) hP hD hS
  have blk48 : ∀ (rc : Nat → MI → MA → (Nat → Int32) → Option (Int32 × MI × MA)) (hrc117 : ∀ (I : MI) (A : MA) (X : Nat → Int32) (ls : Array Slot) (H : Heap) (locs : List Loc), rc 117 I A X = some (r, I', A') → lv_has ls 7 [(0, .ref h), (1, .int (X 1)), (2, .int (X 2)), (3, .int (X 3)), (4, .int (X 4)), (5, .int (X 5)), (6, .int (X 6))] → va_P (dC, dI) vwCl (mw_W h q g I A) H → va_D B9 (mw_W h q g I A) → va_S B9 s.heap H locs → W p l e (headSpec w_M_line ({ frames := 3, cells := 0, slots := 0, locals := 66 })).room s m ([.ref h, .int k1, .int k2] : List Value).toArray below meth c H locs 0 0 (MQ below (va_Qi (fun (r9 : Int32) (_ : Unit) => r9 = r) (fun (_ : Unit) t => va_P (dC, dI) vwCl (mw_W h q g I' A') t.heap ∧ va_K (dC, dI) vwCl (mw_T g) t ∧ va_D B9 (mw_W h q g I' A')) B9) ([.ref h, .int k1, .int k2] : List Value).toArray s 0 0 B9) (F0 m 117 ls [])), ∀ (I : MI) (A : MA) (X : Nat → Int32) (ls : Array Slot) (H : Heap) (locs : List Loc), f_M_line_48 rc I A X = some (r, I', A') → lv_has ls 7 [(0, .ref h), (1, .int (X 1)), (2, .int (X 2)), (3, .int (X 3))] → va_P (dC, dI) vwCl (mw_W h q g I A) H → va_D B9 (mw_W h q g I A) → va_S B9 s.heap H locs → W p l e (headSpec w_M_line ({ frames := 3, cells := 0, slots := 0, locals := 66 })).room s m ([.ref h, .int k1, .int k2] : List Value).toArray below meth c H locs 0 0 (MQ below (va_Qi (fun (r9 : Int32) (_ : Unit) => r9 = r) (fun (_ : Unit) t => va_P (dC, dI) vwCl (mw_W h q g I' A') t.heap ∧ va_K (dC, dI) vwCl (mw_T g) t ∧ va_D B9 (mw_W h q g I' A')) B9) ([.ref h, .int k1, .int k2] : List Value).toArray s 0 0 B9) (F0 m 48 ls []) := by
    intro rc hrc117 I A X ls H locs hf hl hP hD hS
    unfold f_M_line_48 at hf
    refine lv_iconst (v := 0) hx hb d_M_line_48 (by decide) ?_
    exact blk49 rc hrc117 I A X 0 _ _ _ hf (lv_sub hl [0, 1, 2, 3] rfl) hP hD hS
  have blk158 : ∀ (rc : Nat → MI → MA → (Nat → Int32) → Option (Int32 × MI × MA)) (hrc117 : ∀ (I : MI) (A : MA) (X : Nat → Int32) (ls : Array Slot) (H : Heap) (locs : List Loc), rc 117 I A X = some (r, I', A') → lv_has ls 7 [(0, .ref h), (1, .int (X 1)), (2, .int (X 2)), (3, .int (X 3)), (4, .int (X 4)), (5, .int (X 5)), (6, .int (X 6))] → va_P (dC, dI) vwCl (mw_W h q g I A) H → va_D B9 (mw_W h q g I A) → va_S B9 s.heap H locs → W p l e (headSpec w_M_line ({ frames := 3, cells := 0, slots := 0, locals := 66 })).room s m ([.ref h, .int k1, .int k2] : List Value).toArray below meth c H locs 0 0 (MQ below (va_Qi (fun (r9 : Int32) (_ : Unit) => r9 = r) (fun (_ : Unit) t => va_P (dC, dI) vwCl (mw_W h q g I' A') t.heap ∧ va_K (dC, dI) vwCl (mw_T g) t ∧ va_D B9 (mw_W h q g I' A')) B9) ([.ref h, .int k1, .int k2] : List Value).toArray s 0 0 B9) (F0 m 117 ls [])), ∀ (I : MI) (A : MA) (X : Nat → Int32) (s0 : Int32) (ls : Array Slot) (H : Heap) (locs : List Loc), f_M_line_158 rc I A X s0 = some (r, I', A') → lv_has ls 7 [(0, .ref h), (1, .int (X 1)), (2, .int (X 2)), (3, .int (X 3)), (4, .int (X 4)), (5, .int (X 5)), (6, .int (X 6))] → va_P (dC, dI) vwCl (mw_W h q g I A) H → va_D B9 (mw_W h q g I A) → va_S B9 s.heap H locs → W p l e (headSpec w_M_line ({ frames := 3, cells := 0, slots := 0, locals := 66 })).room s m ([.ref h, .int k1, .int k2] : List Value).toArray below meth c H locs 0 0 (MQ below (va_Qi (fun (r9 : Int32) (_ : Unit) => r9 = r) (fun (_ : Unit) t => va_P (dC, dI) vwCl (mw_W h q g I' A') t.heap ∧ va_K (dC, dI) vwCl (mw_T g) t ∧ va_D B9 (mw_W h q g I' A')) B9) ([.ref h, .int k1, .int k2] : List Value).toArray s 0 0 B9) (F0 m 158 ls [.int s0]) := by
    intro rc hrc117 I A X s0 ls H locs hf hl hP hD hS
    unfold f_M_line_158 at hf
    obtain ⟨e1, e2, e3⟩ := wk_inj hf
    subst e1
    subst e2
    subst e3
    exact W.iret (v := s0) hx hb hr (fun t ht hW => ⟨⟨s0, (), rfl, rfl, by rw [ht]; exact hP, va_K.moved hW.alike hK, hD⟩, hS.F ht⟩) hS.2.2 d_M_line_158
  have blk143 : ∀ (rc : Nat → MI → MA → (Nat → Int32) → Option (Int32 × MI × MA)) (hrc117 : ∀ (I : MI) (A : MA) (X : Nat → Int32) (ls : Array Slot) (H : Heap) (locs : List Loc), rc 117 I A X = some (r, I', A') → lv_has ls 7 [(0, .ref h), (1, .int (X 1)), (2, .int (X 2)), (3, .int (X 3)), (4, .int (X 4)), (5, .int (X 5)), (6, .int (X 6))] → va_P (dC, dI) vwCl (mw_W h q g I A) H → va_D B9 (mw_W h q g I A) → va_S B9 s.heap H locs → W p l e (headSpec w_M_line ({ frames := 3, cells := 0, slots := 0, locals := 66 })).room s m ([.ref h, .int k1, .int k2] : List Value).toArray below meth c H locs 0 0 (MQ below (va_Qi (fun (r9 : Int32) (_ : Unit) => r9 = r) (fun (_ : Unit) t => va_P (dC, dI) vwCl (mw_W h q g I' A') t.heap ∧ va_K (dC, dI) vwCl (mw_T g) t ∧ va_D B9 (mw_W h q g I' A')) B9) ([.ref h, .int k1, .int k2] : List Value).toArray s 0 0 B9) (F0 m 117 ls [])), ∀ (I : MI) (A : MA) (X : Nat → Int32) (ls : Array Slot) (H : Heap) (locs : List Loc), f_M_line_143 rc I A X = some (r, I', A') → lv_has ls 7 [(0, .ref h), (1, .int (X 1)), (2, .int (X 2)), (3, .int (X 3)), (4, .int (X 4)), (5, .int (X 5)), (6, .int (X 6))] → va_P (dC, dI) vwCl (mw_W h q g I A) H → va_D B9 (mw_W h q g I A) → va_S B9 s.heap H locs → W p l e (headSpec w_M_line ({ frames := 3, cells := 0, slots := 0, locals := 66 })).room s m ([.ref h, .int k1, .int k2] : List Value).toArray below meth c H locs 0 0 (MQ below (va_Qi (fun (r9 : Int32) (_ : Unit) => r9 = r) (fun (_ : Unit) t => va_P (dC, dI) vwCl (mw_W h q g I' A') t.heap ∧ va_K (dC, dI) vwCl (mw_T g) t ∧ va_D B9 (mw_W h q g I' A')) B9) ([.ref h, .int k1, .int k2] : List Value).toArray s 0 0 B9) (F0 m 143 ls []) := by
    intro rc hrc117 I A X ls H locs hf hl hP hD hS
    unfold f_M_line_143 at hf
    refine lv_iload_n hx hb d_M_line_143 rfl (lv_at hl 1 rfl) ?_
    refine lv_iconst (v := 2) hx hb d_M_line_144 (by decide) ?_
    refine lv_icmp_ne (tgt := 153) hx hb d_M_line_145 (by decide) (fun hc1 => ?_) (fun hc1 => ?_)
    ·
      have hf := wk_iff hc1 hf
      refine lv_iload hx hb d_M_line_153 (lv_at hl 6 rfl) ?_
      refine lv_iload hx hb d_M_line_155 (lv_at hl 5 rfl) ?_
      refine lv_isub hx hb d_M_line_157 ?_
      exact blk158 rc hrc117 I A X ((X 6) - (X 5)) _ _ _ hf (lv_sub hl [0, 1, 2, 3, 4, 5, 6] rfl) hP hD hS
    ·
      have hf := wk_ift hc1 hf
      refine lv_iload hx hb d_M_line_148 (lv_at hl 5 rfl) ?_
      refine lv_goto (tgt := 158) hx hb d_M_line_150 (by decide) ?_
      exact blk158 rc hrc117 I A X (X 5) _ _ _ hf (lv_sub hl [0, 1, 2, 3, 4, 5, 6] rfl) hP hD hS
  have stp117 : ∀ (rc : Nat → MI → MA → (Nat → Int32) → Option (Int32 × MI × MA)) (hrc117 : ∀ (I : MI) (A : MA) (X : Nat → Int32) (ls : Array Slot) (H : Heap) (locs : List Loc), rc 117 I A X = some (r, I', A') → lv_has ls 7 [(0, .ref h), (1, .int (X 1)), (2, .int (X 2)), (3, .int (X 3)), (4, .int (X 4)), (5, .int (X 5)), (6, .int (X 6))] → va_P (dC, dI) vwCl (mw_W h q g I A) H → va_D B9 (mw_W h q g I A) → va_S B9 s.heap H locs → W p l e (headSpec w_M_line ({ frames := 3, cells := 0, slots := 0, locals := 66 })).room s m ([.ref h, .int k1, .int k2] : List Value).toArray below meth c H locs 0 0 (MQ below (va_Qi (fun (r9 : Int32) (_ : Unit) => r9 = r) (fun (_ : Unit) t => va_P (dC, dI) vwCl (mw_W h q g I' A') t.heap ∧ va_K (dC, dI) vwCl (mw_T g) t ∧ va_D B9 (mw_W h q g I' A')) B9) ([.ref h, .int k1, .int k2] : List Value).toArray s 0 0 B9) (F0 m 117 ls [])), ∀ (I : MI) (A : MA) (X : Nat → Int32) (ls : Array Slot) (H : Heap) (locs : List Loc), f_M_line_117 rc I A X = some (r, I', A') → lv_has ls 7 [(0, .ref h), (1, .int (X 1)), (2, .int (X 2)), (3, .int (X 3)), (4, .int (X 4)), (5, .int (X 5)), (6, .int (X 6))] → va_P (dC, dI) vwCl (mw_W h q g I A) H → va_D B9 (mw_W h q g I A) → va_S B9 s.heap H locs → W p l e (headSpec w_M_line ({ frames := 3, cells := 0, slots := 0, locals := 66 })).room s m ([.ref h, .int k1, .int k2] : List Value).toArray below meth c H locs 0 0 (MQ below (va_Qi (fun (r9 : Int32) (_ : Unit) => r9 = r) (fun (_ : Unit) t => va_P (dC, dI) vwCl (mw_W h q g I' A') t.heap ∧ va_K (dC, dI) vwCl (mw_T g) t ∧ va_D B9 (mw_W h q g I' A')) B9) ([.ref h, .int k1, .int k2] : List Value).toArray s 0 0 B9) (F0 m 117 ls []) := by
    intro rc hrc117 I A X ls H locs hf hl hP hD hS
    unfold f_M_line_117 at hf
    refine lv_iload hx hb d_M_line_117 (lv_at hl 6 rfl) ?_
    refine lv_aload_n hx hb d_M_line_119 rfl (lv_at hl 0 rfl) ?_
    have hPc := hP.sub (ws' := (mw_W h q g I A)) [0, 1, 2, 3, 4, 5, 6, 7, 8, 9, 10, 11, 12, 13, 14, 15, 16, 17, 18, 19, 20] rfl
    have hDc := hD.sub (ws' := (mw_W h q g I A)) [0, 1, 2, 3, 4, 5, 6, 7, 8, 9, 10, 11, 12, 13, 14, 15, 16, 17, 18, 19, 20] (by decide) rfl
    have hKc := hK.sub (tys' := (mw_T g)) [0, 1, 2, 3, 4, 5, 6, 7, 8, 9, 10, 11, 12, 13, 14, 15, 16, 17, 18, 19] rfl
    have hFc := va_free (wc := (mw_W h q g I A)) hD hS hA [0, 1, 2, 3, 4, 5, 6, 7, 8, 9, 10, 11, 12, 13, 14, 15, 16, 17, 18, 19, 20] rfl
    cases hg1 : f_M_textLength I A with
    | none => rw [hg1] at hf; cases hf
    | some z1 =>
      obtain ⟨r1, I1, A1⟩ := z1
      rw [hg1] at hf
      dsimp only [Option.bind_some] at hf
      refine va_calli (va_runV (As := []) (rest := [.int (X 6)]) ⟨hx, hb, hml, hown, hts⟩ (cm_M_textLength l dC dI h q g _ I A r1 I1 A1 hg1) (cwV 0 hts (gd_v lk_57 lk_58 lk_59 lk_46 lk_56) rfl rfl rfl (by decide +kernel) ⟨Nat.le_of_ble_eq_true rfl, Nat.le_of_ble_eq_true rfl⟩) ⟨fun a U g mk q => by obtain ⟨q0, q1, qP, qK, qD⟩ := q; exact ⟨q0, q1, qP, va_K.moved (u := U) (U := U.calling g mk a) (Vm.Alike.refl U.vm) qK, qD⟩, va_recv (ci := 4) (q0 := 0) hK hP rfl rfl, fun U hU hW => ⟨rfl, by rw [hU], by rw [hU]; exact hPc, va_K.moved hW.alike hKc, hDc.weaken (fun _ _ _ _ => trivial)⟩⟩ rfl rfl hl.1 rfl (lv_room (Nat.le_of_ble_eq_true rfl)) d_M_line_120 ⟨Nat.le_of_ble_eq_true rfl, Nat.le_of_ble_eq_true rfl⟩) hS (fun q _ h => hFc q h) hFc (fun r9 u t H1 locs ht hvm hw hB hz1 hk1 hS => ?_)
      obtain ⟨hP1, hK1, hD1⟩ := hB
      rw [ht] at hP1
      rw [hw]
      obtain ⟨hP, hD⟩ := va_join (wr := []) (w1 := (mw_W h q g I1 A1)) hP hD [0, 1, 2, 3, 4, 5, 6, 7, 8, 9, 10, 11, 12, 13, 14, 15, 16, 17, 18, 19, 20] [] rfl rfl (by decide) (by decide) hk1 hFc hP1 hD1
      generalize H1 = H at hP hS ⊢
      have hP : va_P (dC, dI) vwCl (mw_W h q g I1 A1) H := hP
      have hD : va_D B9 (mw_W h q g I1 A1) := hD
      refine lv_icmp_ge (tgt := 143) hx hb d_M_line_123 (by decide) (fun hc1 => ?_) (fun hc1 => ?_)
      ·
        have hf := wk_ift hc1 hf
        exact blk143 rc hrc117 I1 A1 X _ _ _ hf (lv_sub hl [0, 1, 2, 3, 4, 5, 6] rfl) hP hD hS
      ·
        have hf := wk_iff hc1 hf
        refine lv_aload_n hx hb d_M_line_126 rfl (lv_at hl 0 rfl) ?_
        refine lv_iload hx hb d_M_line_127 (lv_at hl 6 rfl) ?_
        have hPc := hP.sub (ws' := (mw_W h q g I1 A1)) [0, 1, 2, 3, 4, 5, 6, 7, 8, 9, 10, 11, 12, 13, 14, 15, 16, 17, 18, 19, 20] rfl
        have hDc := hD.sub (ws' := (mw_W h q g I1 A1)) [0, 1, 2, 3, 4, 5, 6, 7, 8, 9, 10, 11, 12, 13, 14, 15, 16, 17, 18, 19, 20] (by decide) rfl
        have hKc := hK.sub (tys' := (mw_T g)) [0, 1, 2, 3, 4, 5, 6, 7, 8, 9, 10, 11, 12, 13, 14, 15, 16, 17, 18, 19] rfl
        have hFc := va_free (wc := (mw_W h q g I1 A1)) hD hS hA [0, 1, 2, 3, 4, 5, 6, 7, 8, 9, 10, 11, 12, 13, 14, 15, 16, 17, 18, 19, 20] rfl
        cases hg2 : f_M_charAt I1 A1 (X 6) with
        | none => rw [hg2] at hf; cases hf
        | some z2 =>
          obtain ⟨r2, I2, A2⟩ := z2
          rw [hg2] at hf
          dsimp only [Option.bind_some] at hf
          refine va_calli (va_runV (As := [.int (X 6)]) (rest := []) ⟨hx, hb, hml, hown, hts⟩ (cm_M_charAt l dC dI h q g _ I1 A1 (X 6) r2 I2 A2 hg2) (cwV 1 hts (gd_v lk_51 lk_52 lk_53 lk_46 lk_50) rfl rfl rfl (by decide +kernel) ⟨Nat.le_of_ble_eq_true rfl, Nat.le_of_ble_eq_true rfl⟩) ⟨fun a U g mk q => by obtain ⟨q0, q1, qP, qK, qD⟩ := q; exact ⟨q0, q1, qP, va_K.moved (u := U) (U := U.calling g mk a) (Vm.Alike.refl U.vm) qK, qD⟩, va_recv (ci := 4) (q0 := 0) hK hP rfl rfl, fun U hU hW => ⟨rfl, by rw [hU], by rw [hU]; exact hPc, va_K.moved hW.alike hKc, hDc.weaken (fun _ _ _ _ => trivial)⟩⟩ rfl rfl hl.1 rfl (lv_room (Nat.le_of_ble_eq_true rfl)) d_M_line_129 ⟨Nat.le_of_ble_eq_true rfl, Nat.le_of_ble_eq_true rfl⟩) hS (fun q _ h => hFc q h) hFc (fun r9 u t H1 locs ht hvm hw hB hz1 hk1 hS => ?_)
          obtain ⟨hP1, hK1, hD1⟩ := hB
          rw [ht] at hP1
          rw [hw]
          obtain ⟨hP, hD⟩ := va_join (wr := []) (w1 := (mw_W h q g I2 A2)) hP hD [0, 1, 2, 3, 4, 5, 6, 7, 8, 9, 10, 11, 12, 13, 14, 15, 16, 17, 18, 19, 20] [] rfl rfl (by decide) (by decide) hk1 hFc hP1 hD1
          generalize H1 = H at hP hS ⊢
          have hP : va_P (dC, dI) vwCl (mw_W h q g I2 A2) H := hP
          have hD : va_D B9 (mw_W h q g I2 A2) := hD
          refine lv_bipush (v := 10) hx hb d_M_line_132 (by decide) ?_
          refine lv_icmp_eq (tgt := 143) hx hb d_M_line_134 (by decide) (fun hc2 => ?_) (fun hc2 => ?_)
          ·
            have hf := wk_ift hc2 hf
            exact blk143 rc hrc117 I2 A2 X _ _ _ hf (lv_sub hl [0, 1, 2, 3, 4, 5, 6] rfl) hP hD hS
          ·
            have hf := wk_iff hc2 hf
            refine lv_iinc (k := 6) (v := ((X 6) + 1)) (lv' := [(6, .int ((X 6) + 1)), (0, .ref h), (1, .int (X 1)), (2, .int (X 2)), (3, .int (X 3)), (4, .int (X 4)), (5, .int (X 5))]) hx hb d_M_line_137 hl rfl (wk_inc (by decide)) (by decide) rfl (fun ls hl => ?_)
            have hl : lv_has ls 7 [(6, .int ((X 6) + 1)), (0, .ref h), (1, .int (X 1)), (2, .int (X 2)), (3, .int (X 3)), (4, .int (X 4)), (5, .int (X 5))] := hl
            refine lv_goto (tgt := 117) hx hb d_M_line_140 (by decide) ?_
            exact hrc117 I2 A2 (upd X 6 ((X 6) + 1)) _ _ _ hf (lv_sub hl [1, 2, 3, 4, 5, 6, 0] rfl) hP hD hS
  have key : ∀ n : Nat, (∀ (I : MI) (A : MA) (X : Nat → Int32) (ls : Array Slot) (H : Heap) (locs : List Loc), f_M_line_go n 117 I A X = some (r, I', A') → lv_has ls 7 [(0, .ref h), (1, .int (X 1)), (2, .int (X 2)), (3, .int (X 3)), (4, .int (X 4)), (5, .int (X 5)), (6, .int (X 6))] → va_P (dC, dI) vwCl (mw_W h q g I A) H → va_D B9 (mw_W h q g I A) → va_S B9 s.heap H locs → W p l e (headSpec w_M_line ({ frames := 3, cells := 0, slots := 0, locals := 66 })).room s m ([.ref h, .int k1, .int k2] : List Value).toArray below meth c H locs 0 0 (MQ below (va_Qi (fun (r9 : Int32) (_ : Unit) => r9 = r) (fun (_ : Unit) t => va_P (dC, dI) vwCl (mw_W h q g I' A') t.heap ∧ va_K (dC, dI) vwCl (mw_T g) t ∧ va_D B9 (mw_W h q g I' A')) B9) ([.ref h, .int k1, .int k2] : List Value).toArray s 0 0 B9) (F0 m 117 ls [])) := by
    intro n
    induction n with
    | zero => exact fun I A X ls H locs hf => (by cases hf)
    | succ n ih =>
      have ih117 := ih
      exact stp117 (f_M_line_go n) ih117
  unfold f_M_line f_M_line_e at hf
  have hrc117 := key wk_FUEL
  refine lv_aload_n hx hb d_M_line_0 rfl (lv_at hl 0 rfl) ?_
  refine lv_aload_n hx hb d_M_line_1 rfl (lv_at hl 0 rfl) ?_
  have hPc := hP.sub (ws' := (mw_W h q g I A)) [0, 1, 2, 3, 4, 5, 6, 7, 8, 9, 10, 11, 12, 13, 14, 15, 16, 17, 18, 19, 20] rfl
  have hDc := hD.sub (ws' := (mw_W h q g I A)) [0, 1, 2, 3, 4, 5, 6, 7, 8, 9, 10, 11, 12, 13, 14, 15, 16, 17, 18, 19, 20] (by decide) rfl
  have hKc := hK.sub (tys' := (mw_T g)) [0, 1, 2, 3, 4, 5, 6, 7, 8, 9, 10, 11, 12, 13, 14, 15, 16, 17, 18, 19] rfl
  have hFc := va_free (wc := (mw_W h q g I A)) hD hS hA [0, 1, 2, 3, 4, 5, 6, 7, 8, 9, 10, 11, 12, 13, 14, 15, 16, 17, 18, 19, 20] rfl
  cases hg1 : f_M_textLength I A with
  | none => rw [hg1] at hf; cases hf
  | some z1 =>
    obtain ⟨r1, I1, A1⟩ := z1
    rw [hg1] at hf
    dsimp only [Option.bind_some] at hf
    refine va_calli (va_runV (As := []) (rest := [.ref h]) ⟨hx, hb, hml, hown, hts⟩ (cm_M_textLength l dC dI h q g _ I A r1 I1 A1 hg1) (cwV 0 hts (gd_v lk_57 lk_58 lk_59 lk_46 lk_56) rfl rfl rfl (by decide +kernel) ⟨Nat.le_of_ble_eq_true rfl, Nat.le_of_ble_eq_true rfl⟩) ⟨fun a U g mk q => by obtain ⟨q0, q1, qP, qK, qD⟩ := q; exact ⟨q0, q1, qP, va_K.moved (u := U) (U := U.calling g mk a) (Vm.Alike.refl U.vm) qK, qD⟩, va_recv (ci := 4) (q0 := 0) hK hP rfl rfl, fun U hU hW => ⟨rfl, by rw [hU], by rw [hU]; exact hPc, va_K.moved hW.alike hKc, hDc.weaken (fun _ _ _ _ => trivial)⟩⟩ rfl rfl hl.1 rfl (lv_room (Nat.le_of_ble_eq_true rfl)) d_M_line_2 ⟨Nat.le_of_ble_eq_true rfl, Nat.le_of_ble_eq_true rfl⟩) hS (fun q _ h => hFc q h) hFc (fun r9 u t H1 locs ht hvm hw hB hz1 hk1 hS => ?_)
    obtain ⟨hP1, hK1, hD1⟩ := hB
    rw [ht] at hP1
    rw [hw]
    obtain ⟨hP, hD⟩ := va_join (wr := []) (w1 := (mw_W h q g I1 A1)) hP hD [0, 1, 2, 3, 4, 5, 6, 7, 8, 9, 10, 11, 12, 13, 14, 15, 16, 17, 18, 19, 20] [] rfl rfl (by decide) (by decide) hk1 hFc hP1 hD1
    generalize H1 = H at hP hS ⊢
    have hP : va_P (dC, dI) vwCl (mw_W h q g I1 A1) H := hP
    have hD : va_D B9 (mw_W h q g I1 A1) := hD
    have hPc := hP.sub (ws' := (mw_W h q g I1 A1)) [0, 1, 2, 3, 4, 5, 6, 7, 8, 9, 10, 11, 12, 13, 14, 15, 16, 17, 18, 19, 20] rfl
    have hDc := hD.sub (ws' := (mw_W h q g I1 A1)) [0, 1, 2, 3, 4, 5, 6, 7, 8, 9, 10, 11, 12, 13, 14, 15, 16, 17, 18, 19, 20] (by decide) rfl
    have hKc := hK.sub (tys' := (mw_T g)) [0, 1, 2, 3, 4, 5, 6, 7, 8, 9, 10, 11, 12, 13, 14, 15, 16, 17, 18, 19] rfl
    have hFc := va_free (wc := (mw_W h q g I1 A1)) hD hS hA [0, 1, 2, 3, 4, 5, 6, 7, 8, 9, 10, 11, 12, 13, 14, 15, 16, 17, 18, 19, 20] rfl
    cases hg2 : f_M_breaks I1 A1 r1 with
    | none => rw [hg2] at hf; cases hf
    | some z2 =>
      obtain ⟨r2, I2, A2⟩ := z2
      rw [hg2] at hf
      dsimp only [Option.bind_some] at hf
      refine va_calli (va_runV (As := [.int r1]) (rest := []) ⟨hx, hb, hml, hown, hts⟩ (cm_M_breaks l dC dI h q g _ I1 A1 r1 r2 I2 A2 hg2) (cwV 1 hts (gd_v lk_211 lk_212 lk_213 lk_46 lk_76) rfl rfl rfl (by decide +kernel) ⟨Nat.le_of_ble_eq_true rfl, Nat.le_of_ble_eq_true rfl⟩) ⟨fun a U g mk q => by obtain ⟨q0, q1, qP, qK, qD⟩ := q; exact ⟨q0, q1, qP, va_K.moved (u := U) (U := U.calling g mk a) (Vm.Alike.refl U.vm) qK, qD⟩, va_recv (ci := 4) (q0 := 0) hK hP rfl rfl, fun U hU hW => ⟨rfl, by rw [hU], by rw [hU]; exact hPc, va_K.moved hW.alike hKc, hDc.weaken (fun _ _ _ _ => trivial)⟩⟩ rfl rfl hl.1 rfl (lv_room (Nat.le_of_ble_eq_true rfl)) d_M_line_5 ⟨Nat.le_of_ble_eq_true rfl, Nat.le_of_ble_eq_true rfl⟩) hS (fun q _ h => hFc q h) hFc (fun r9 u t H1 locs ht hvm hw hB hz1 hk1 hS => ?_)
      obtain ⟨hP1, hK1, hD1⟩ := hB
      rw [ht] at hP1
      rw [hw]
      obtain ⟨hP, hD⟩ := va_join (wr := []) (w1 := (mw_W h q g I2 A2)) hP hD [0, 1, 2, 3, 4, 5, 6, 7, 8, 9, 10, 11, 12, 13, 14, 15, 16, 17, 18, 19, 20] [] rfl rfl (by decide) (by decide) hk1 hFc hP1 hD1
      generalize H1 = H at hP hS ⊢
      have hP : va_P (dC, dI) vwCl (mw_W h q g I2 A2) H := hP
      have hD : va_D B9 (mw_W h q g I2 A2) := hD
      refine lv_iconst (v := 1) hx hb d_M_line_8 (by decide) ?_
      refine lv_iadd hx hb d_M_line_9 ?_
      refine lv_istore_n (lv' := [(3, .int (r2 + 1)), (0, .ref h), (1, .int k1), (2, .int k2)]) hx hb d_M_line_10 rfl hl (by decide) rfl (fun ls hl => ?_)
      have hl : lv_has ls 7 [(3, .int (r2 + 1)), (0, .ref h), (1, .int k1), (2, .int k2)] := hl
      refine lv_iload_n hx hb d_M_line_11 rfl (lv_at hl 2 rfl) ?_
      refine lv_if_eq (tgt := 44) hx hb d_M_line_12 (by decide) (fun hc1 => ?_) (fun hc1 => ?_)
      ·
        have hf := wk_ift hc1 hf
        exact blk44 _ hrc117 I2 A2 (upd (upd (upd (fun _ => 0) 1 k1) 2 k2) 3 (r2 + 1)) _ _ _ hf (lv_sub hl [1, 2, 3, 0] rfl) hP hD hS
      ·
        have hf := wk_iff hc1 hf
        refine lv_iload_n hx hb d_M_line_15 rfl (lv_at hl 2 rfl) ?_
        refine lv_iconst (v := 1) hx hb d_M_line_16 (by decide) ?_
        refine lv_icmp_ne (tgt := 35) hx hb d_M_line_17 (by decide) (fun hc2 => ?_) (fun hc2 => ?_)
        ·
          have hf := wk_iff hc2 hf
          refine lv_iload_n hx hb d_M_line_35 rfl (lv_at hl 3 rfl) ?_
          refine lv_if_lt (tgt := 48) hx hb d_M_line_36 (by decide) (fun hc3 => ?_) (fun hc3 => ?_)
          ·
            have hf := wk_ift hc3 hf
            exact blk48 _ hrc117 I2 A2 (upd (upd (upd (fun _ => 0) 1 k1) 2 k2) 3 (r2 + 1)) _ _ _ hf (lv_sub hl [1, 2, 3, 0] rfl) hP hD hS
          ·
            have hf := wk_iff hc3 hf
            refine lv_iload_n hx hb d_M_line_39 rfl (lv_at hl 3 rfl) ?_
            refine lv_iload_n hx hb d_M_line_40 rfl (lv_at hl 0 rfl) ?_
            refine lv_icmp_ge (tgt := 48) hx hb d_M_line_41 (by decide) (fun hc4 => ?_) (fun hc4 => ?_)
            ·
              have hf := wk_ift hc4 hf
              exact blk48 _ hrc117 I2 A2 (upd (upd (upd (fun _ => 0) 1 k1) 2 k2) 3 (r2 + 1)) _ _ _ hf (lv_sub hl [1, 2, 3, 0] rfl) hP hD hS
            ·
              have hf := wk_iff hc4 hf
              exact blk44 _ hrc117 I2 A2 (upd (upd (upd (fun _ => 0) 1 k1) 2 k2) 3 (r2 + 1)) _ _ _ hf (lv_sub hl [1, 2, 3, 0] rfl) hP hD hS
        ·
          have hf := wk_ift hc2 hf
          refine lv_iload_n hx hb d_M_line_20 rfl (lv_at hl 3 rfl) ?_
          refine lv_if_lt (tgt := 48) hx hb d_M_line_21 (by decide) (fun hc3 => ?_) (fun hc3 => ?_)
          ·
            have hf := wk_ift hc3 hf
            exact blk48 _ hrc117 I2 A2 (upd (upd (upd (fun _ => 0) 1 k1) 2 k2) 3 (r2 + 1)) _ _ _ hf (lv_sub hl [1, 2, 3, 0] rfl) hP hD hS
          ·
            have hf := wk_iff hc3 hf
            refine lv_iload_n hx hb d_M_line_24 rfl (lv_at hl 3 rfl) ?_
            refine lv_aload_n hx hb d_M_line_25 rfl (lv_at hl 1 rfl) ?_
            have hPc := hP.sub (ws' := (mw_W h q g I2 A2)) [0, 1, 2, 3, 4, 5, 6, 7, 8, 9, 10, 11, 12, 13, 14, 15, 16, 17, 18, 19, 20] rfl
            have hDc := hD.sub (ws' := (mw_W h q g I2 A2)) [0, 1, 2, 3, 4, 5, 6, 7, 8, 9, 10, 11, 12, 13, 14, 15, 16, 17, 18, 19, 20] (by decide) rfl
            have hKc := hK.sub (tys' := (mw_T g)) [0, 1, 2, 3, 4, 5, 6, 7, 8, 9, 10, 11, 12, 13, 14, 15, 16, 17, 18, 19] rfl
            have hFc := va_free (wc := (mw_W h q g I2 A2)) hD hS hA [0, 1, 2, 3, 4, 5, 6, 7, 8, 9, 10, 11, 12, 13, 14, 15, 16, 17, 18, 19, 20] rfl
            cases hg3 : f_M_textLength I2 A2 with
            | none => rw [hg3] at hf; cases hf
            | some z3 =>
              obtain ⟨r3, I3, A3⟩ := z3
              rw [hg3] at hf
              dsimp only [Option.bind_some] at hf
              refine va_calli (va_runV (As := []) (rest := [.int k2]) ⟨hx, hb, hml, hown, hts⟩ (cm_M_textLength l dC dI h q g _ I2 A2 r3 I3 A3 hg3) (cwV 0 hts (gd_v lk_57 lk_58 lk_59 lk_46 lk_56) rfl rfl rfl (by decide +kernel) ⟨Nat.le_of_ble_eq_true rfl, Nat.le_of_ble_eq_true rfl⟩) ⟨fun a U g mk q => by obtain ⟨q0, q1, qP, qK, qD⟩ := q; exact ⟨q0, q1, qP, va_K.moved (u := U) (U := U.calling g mk a) (Vm.Alike.refl U.vm) qK, qD⟩, va_recv (ci := 4) (q0 := 0) hK hP rfl rfl, fun U hU hW => ⟨rfl, by rw [hU], by rw [hU]; exact hPc, va_K.moved hW.alike hKc, hDc.weaken (fun _ _ _ _ => trivial)⟩⟩ rfl rfl hl.1 rfl (lv_room (Nat.le_of_ble_eq_true rfl)) d_M_line_26 ⟨Nat.le_of_ble_eq_true rfl, Nat.le_of_ble_eq_true rfl⟩) hS (fun q _ h => hFc q h) hFc (fun r9 u t H1 locs ht hvm hw hB hz1 hk1 hS => ?_)
              obtain ⟨hP1, hK1, hD1⟩ := hB
              rw [ht] at hP1
              rw [hw]
              obtain ⟨hP, hD⟩ := va_join (wr := []) (w1 := (mw_W h q g I3 A3)) hP hD [0, 1, 2, 3, 4, 5, 6, 7, 8, 9, 10, 11, 12, 13, 14, 15, 16, 17, 18, 19, 20] [] rfl rfl (by decide) (by decide) hk1 hFc hP1 hD1
              generalize H1 = H at hP hS ⊢
              have hP : va_P (dC, dI) vwCl (mw_W h q g I3 A3) H := hP
              have hD : va_D B9 (mw_W h q g I3 A3) := hD
              refine lv_icmp_gt (tgt := 48) hx hb d_M_line_29 (by decide) (fun hc4 => ?_) (fun hc4 => ?_)
              ·
                have hf := wk_ift hc4 hf
                exact blk48 _ hrc117 I3 A3 (upd (upd (upd (fun _ => 0) 1 k1) 2 k2) 3 (r2 + 1)) _ _ _ hf (lv_sub hl [1, 2, 3, 0] rfl) hP hD hS
              ·
                have hf := wk_iff hc4 hf
                refine lv_goto (tgt := 44) hx hb d_M_line_32 (by decide) ?_
                exact blk44 _ hrc117 I3 A3 (upd (upd (upd (fun _ => 0) 1 k1) 2 k2) 3 (r2 + 1)) _ _ _ hf (lv_sub hl [1, 2, 3, 0] rfl) hP hD hS

-- 16.mcon11
set_option maxHeartbeats 8000000 in
set_option maxRecDepth 100000 in
theorem cm_M_parent (l : Launch) (dC : Nat → ClassId) (dI : Nat → Nat → Nat) (h : Nat) (q : Nat → Nat) (g : Nat → ClassId) (sz : Nat) (I : MI) (A : MA) (k1 : Int32) (r : Int32) (I' : MI) (A' : MA) (hf : f_M_parent I A k1 = some (r, I', A')) : Met l y_M_parent w_M_parent ({ frames := 0, cells := 0, slots := 0, locals := 0 }) (va_Pc [.ref h, .int k1] (fun U => U.heap.size = sz ∧ va_P (dC, dI) vwCl (mw_W h q g I A) U.heap ∧ va_K (dC, dI) vwCl (mw_T g) U ∧ va_D (fun _ => True) (mw_W h q g I A))) (va_Qi (fun (r9 : Int32) (_ : Unit) => r9 = r) (fun (_ : Unit) t => va_P (dC, dI) vwCl (mw_W h q g I' A') t.heap ∧ va_K (dC, dI) vwCl (mw_T g) t ∧ va_D (va_A (mw_W h q g I A) sz) (mw_W h q g I' A')) (va_A (mw_W h q g I A) sz)) 0 0 (va_A (mw_W h q g I A) sz) := by
  refine Met.ofW (cc := prog_6_method_53_code) (maxL := 2) (ret := (some .int)) (by decide) rfl ?_
  intro p e s m args below meth c s₁ B hml hv
  obtain ⟨rfl, hsz, hP, hK, hD0⟩ := hv
  have hx := B.exec
  have hb := B.bytes
  have hr := B.returns
  have hts := atoms_spec (ws := w_M_parent) B.pre
  have hown : s.vm.findClass R_M = some m.cls := findClass_of_methodNamed B.named
  have hlocks := B.notSynchronized
  subst hsz
  have hD := hD0.self (sz := s.heap.size)
  generalize hAe : va_A (mw_W h q g I A) s.heap.size = B9 at hD ⊢
  have hA : ∀ q : Nat, s.heap.size ≤ q → B9 q := fun q h => by rw [← hAe]; exact Or.inr h
  clear hAe
  have hS : va_S B9 s.heap s.heap [] := va_S.rf
  have hl := lv_entry ([.ref h, .int k1]) (n := 2) (Nat.le_of_ble_eq_true rfl)
  rw [lg_entry_eq]
  generalize (lg_sl ([.ref h, .int k1]) ++ List.replicate (2 - (lg_sl ([.ref h, .int k1])).length) Slot.unset).toArray = ls at hl ⊢
  have hl : lv_has ls 2 [(0, .ref h), (1, .int k1)] := hl
  have blk38 : ∀ (I : MI) (A : MA) (X : Nat → Int32) (s0 : Int32) (ls : Array Slot) (H : Heap) (locs : List Loc), f_M_parent_38 I A X s0 = some (r, I', A') → lv_has ls 2 [(0, .ref h), (1, .int (X 1))] → va_P (dC, dI) vwCl (mw_W h q g I A) H → va_D B9 (mw_W h q g I A) → va_S B9 s.heap H locs → W p l e (headSpec w_M_parent ({ frames := 0, cells := 0, slots := 0, locals := 0 })).room s m ([.ref h, .int k1] : List Value).toArray below meth c H locs 0 0 (MQ below (va_Qi (fun (r9 : Int32) (_ : Unit) => r9 = r) (fun (_ : Unit) t => va_P (dC, dI) vwCl (mw_W h q g I' A') t.heap ∧ va_K (dC, dI) vwCl (mw_T g) t ∧ va_D B9 (mw_W h q g I' A')) B9) ([.ref h, .int k1] : List Value).toArray s 0 0 B9) (F0 m 38 ls [.int s0]) := by
    intro I A X s0 ls H locs hf hl hP hD hS
    unfold f_M_parent_38 at hf
    obtain ⟨e1, e2, e3⟩ := wk_inj hf
    subst e1
    subst e2
    subst e3
    exact W.iret (v := s0) hx hb hr (fun t ht hW => ⟨⟨s0, (), rfl, rfl, by rw [ht]; exact hP, va_K.moved hW.alike hK, hD⟩, hS.F ht⟩) hS.2.2 d_M_parent_38
  have blk18 : ∀ (I : MI) (A : MA) (X : Nat → Int32) (s0 : Int32) (ls : Array Slot) (H : Heap) (locs : List Loc), f_M_parent_18 I A X s0 = some (r, I', A') → lv_has ls 2 [(0, .ref h), (1, .int (X 1))] → va_P (dC, dI) vwCl (mw_W h q g I A) H → va_D B9 (mw_W h q g I A) → va_S B9 s.heap H locs → W p l e (headSpec w_M_parent ({ frames := 0, cells := 0, slots := 0, locals := 0 })).room s m ([.ref h, .int k1] : List Value).toArray below meth c H locs 0 0 (MQ below (va_Qi (fun (r9 : Int32) (_ : Unit) => r9 = r) (fun (_ : Unit) t => va_P (dC, dI) vwCl (mw_W h q g I' A') t.heap ∧ va_K (dC, dI) vwCl (mw_T g) t ∧ va_D B9 (mw_W h q g I' A')) B9) ([.ref h, .int k1] : List Value).toArray s 0 0 B9) (F0 m 18 ls [.int s0, .ref h]) := by
    intro I A X s0 ls H locs hf hl hP hD hS
    unfold f_M_parent_18 at hf
    refine va_put (D := (dC, dI)) (ci := 4) (v := .int s0) (ty := .int) (C := R_M) (T := F_M) (N := 38) hx hb hts (fun w h => List.mem_cons_of_mem _ (in_M w h)) t_M tk_M n_M hown hK hP hD hS 0 rfl rfl 0 (by decide) (hts _ (List.mem_cons_of_mem _ lk_60)) (fun _ h9 => h9) rfl (by decide +kernel) rfl rfl (Nat.le_of_ble_eq_true rfl) d_M_parent_18 (fun H locs hP hD hS => ?_)
    obtain ⟨I1, hI1, hf⟩ := wk_letE hf
    have hP : va_P (dC, dI) vwCl (mw_W h q g I1 A) H := by rw [hI1]; exact hP
    have hD : va_D B9 (mw_W h q g I1 A) := by rw [hI1]; exact hD
    clear hI1
    refine lv_aload_n hx hb d_M_parent_21 rfl (lv_at hl 0 rfl) ?_
    refine va_get (D := (dC, dI)) (ci := 4) (v := .int (I1 0)) (C := R_M) (T := F_M) (N := 38) hx hb hts (fun w h => List.mem_cons_of_mem _ (in_M w h)) hown hK hP 0 rfl rfl 0 (by decide) (hts _ (List.mem_cons_of_mem _ lk_60)) (fun _ h9 => h9) rfl d_M_parent_22 ?_
    refine lv_if_ne (tgt := 37) hx hb d_M_parent_25 (by decide) (fun hc1 => ?_) (fun hc1 => ?_)
    ·
      have hf := wk_iff hc1 hf
      refine lv_iconst (v := 0) hx hb d_M_parent_37 (by decide) ?_
      exact blk38 I1 A X 0 _ _ _ hf (lv_sub hl [0, 1] rfl) hP hD hS
    ·
      have hf := wk_ift hc1 hf
      refine lv_aload_n hx hb d_M_parent_28 rfl (lv_at hl 0 rfl) ?_
      refine va_get (D := (dC, dI)) (ci := 4) (v := .ref (q 8)) (C := R_M) (T := F_M) (N := 38) hx hb hts (fun w h => List.mem_cons_of_mem _ (in_M w h)) hown hK hP 0 rfl rfl 8 (by decide) (hts _ (List.mem_cons_of_mem _ lk_148)) (fun _ h9 => h9) rfl d_M_parent_29 ?_
      refine lv_iload_n hx hb d_M_parent_32 rfl (lv_at hl 1 rfl) ?_
      obtain ⟨hc2, hf⟩ := wk_if hf
      refine va_iald hx hb hK hP 5 4 rfl rfl (wk_inb_ok hc2) d_M_parent_33 ?_
      refine lv_goto (tgt := 38) hx hb d_M_parent_34 (by decide) ?_
      exact blk38 I1 A X ((A 8) ((X 1)).toNatClampNeg) _ _ _ hf (lv_sub hl [0, 1] rfl) hP hD hS
  have blk13 : ∀ (I : MI) (A : MA) (X : Nat → Int32) (ls : Array Slot) (H : Heap) (locs : List Loc), f_M_parent_13 I A X = some (r, I', A') → lv_has ls 2 [(0, .ref h), (1, .int (X 1))] → va_P (dC, dI) vwCl (mw_W h q g I A) H → va_D B9 (mw_W h q g I A) → va_S B9 s.heap H locs → W p l e (headSpec w_M_parent ({ frames := 0, cells := 0, slots := 0, locals := 0 })).room s m ([.ref h, .int k1] : List Value).toArray below meth c H locs 0 0 (MQ below (va_Qi (fun (r9 : Int32) (_ : Unit) => r9 = r) (fun (_ : Unit) t => va_P (dC, dI) vwCl (mw_W h q g I' A') t.heap ∧ va_K (dC, dI) vwCl (mw_T g) t ∧ va_D B9 (mw_W h q g I' A')) B9) ([.ref h, .int k1] : List Value).toArray s 0 0 B9) (F0 m 13 ls [.ref h]) := by
    intro I A X ls H locs hf hl hP hD hS
    unfold f_M_parent_13 at hf
    refine lv_iconst (v := 1) hx hb d_M_parent_13 (by decide) ?_
    refine lv_goto (tgt := 18) hx hb d_M_parent_14 (by decide) ?_
    exact blk18 I A X 1 _ _ _ hf (lv_sub hl [0, 1] rfl) hP hD hS
  unfold f_M_parent at hf
  refine lv_aload_n hx hb d_M_parent_0 rfl (lv_at hl 0 rfl) ?_
  refine lv_iload_n hx hb d_M_parent_1 rfl (lv_at hl 1 rfl) ?_
  refine lv_if_lt (tgt := 13) hx hb d_M_parent_2 (by decide) (fun hc1 => ?_) (fun hc1 => ?_)
  ·
    have hf := wk_ift hc1 hf
    exact blk13 I A (upd (fun _ => 0) 1 k1) _ _ _ hf (lv_sub hl [0, 1] rfl) hP hD hS
  ·
    have hf := wk_iff hc1 hf
    refine lv_iload_n hx hb d_M_parent_5 rfl (lv_at hl 1 rfl) ?_
    refine lv_aload_n hx hb d_M_parent_6 rfl (lv_at hl 0 rfl) ?_
    refine va_get (D := (dC, dI)) (ci := 4) (v := .int (I 3)) (C := R_M) (T := F_M) (N := 38) hx hb hts (fun w h => List.mem_cons_of_mem _ (in_M w h)) hown hK hP 0 rfl rfl 3 (by decide) (hts _ (List.mem_cons_of_mem _ lk_147)) (fun _ h9 => h9) rfl d_M_parent_7 ?_
    refine lv_icmp_lt (tgt := 17) hx hb d_M_parent_10 (by decide) (fun hc2 => ?_) (fun hc2 => ?_)
    ·
      have hf := wk_ift hc2 hf
      refine lv_iconst (v := 0) hx hb d_M_parent_17 (by decide) ?_
      exact blk18 I A (upd (fun _ => 0) 1 k1) 0 _ _ _ hf (lv_sub hl [0, 1] rfl) hP hD hS
    ·
      have hf := wk_iff hc2 hf
      exact blk13 I A (upd (fun _ => 0) 1 k1) _ _ _ hf (lv_sub hl [0, 1] rfl) hP hD hS

set_option maxHeartbeats 8000000 in
set_option maxRecDepth 100000 in
theorem cm_M_redo (l : Launch) (dC : Nat → ClassId) (dI : Nat → Nat → Nat) (h : Nat) (q : Nat → Nat) (g : Nat → ClassId) (sz : Nat) (I : MI) (A : MA) (r : Int32) (I' : MI) (A' : MA) (hf : f_M_redo I A  = some (r, I', A')) : Met l y_M_redo w_M_redo ({ frames := 1, cells := 0, slots := 0, locals := 21 }) (va_Pc [.ref h] (fun U => U.heap.size = sz ∧ va_P (dC, dI) vwCl (mw_W h q g I A) U.heap ∧ va_K (dC, dI) vwCl (mw_T g) U ∧ va_D (fun _ => True) (mw_W h q g I A))) (va_Qi (fun (r9 : Int32) (_ : Unit) => r9 = r) (fun (_ : Unit) t => va_P (dC, dI) vwCl (mw_W h q g I' A') t.heap ∧ va_K (dC, dI) vwCl (mw_T g) t ∧ va_D (va_A (mw_W h q g I A) sz) (mw_W h q g I' A')) (va_A (mw_W h q g I A) sz)) 0 0 (va_A (mw_W h q g I A) sz) := by
  refine Met.ofW (cc := prog_6_method_19_code) (maxL := 3) (ret := (some .int)) (by decide) rfl ?_
  intro p e s m args below meth c s₁ B hml hv
  obtain ⟨rfl, hsz, hP, hK, hD0⟩ := hv
  have hx := B.exec
  have hb := B.bytes
  have hr := B.returns
  have hts := atoms_spec (ws := w_M_redo) B.pre
  have hown : s.vm.findClass R_M = some m.cls := findClass_of_methodNamed B.named
  have hlocks := B.notSynchronized
  subst hsz
  have hD := hD0.self (sz := s.heap.size)
  generalize hAe : va_A (mw_W h q g I A) s.heap.size = B9 at hD ⊢
  have hA : ∀ q : Nat, s.heap.size ≤ q → B9 q := fun q h => by rw [← hAe]; exact Or.inr h
  clear hAe
  have hS : va_S B9 s.heap s.heap [] := va_S.rf
  have hl := lv_entry ([.ref h]) (n := 3) (Nat.le_of_ble_eq_true rfl)
  rw [lg_entry_eq]
  generalize (lg_sl ([.ref h]) ++ List.replicate (3 - (lg_sl ([.ref h])).length) Slot.unset).toArray = ls at hl ⊢
  have hl : lv_has ls 3 [(0, .ref h)] := hl
  have blk96 : ∀ (rc : Nat → MI → MA → (Nat → Int32) → Option (Int32 × MI × MA)) (hrc4 : ∀ (I : MI) (A : MA) (X : Nat → Int32) (ls : Array Slot) (H : Heap) (locs : List Loc), rc 4 I A X = some (r, I', A') → lv_has ls 3 [(0, .ref h), (1, .int (X 1)), (2, .int (X 2))] → va_P (dC, dI) vwCl (mw_W h q g I A) H → va_D B9 (mw_W h q g I A) → va_S B9 s.heap H locs → W p l e (headSpec w_M_redo ({ frames := 1, cells := 0, slots := 0, locals := 21 })).room s m ([.ref h] : List Value).toArray below meth c H locs 0 0 (MQ below (va_Qi (fun (r9 : Int32) (_ : Unit) => r9 = r) (fun (_ : Unit) t => va_P (dC, dI) vwCl (mw_W h q g I' A') t.heap ∧ va_K (dC, dI) vwCl (mw_T g) t ∧ va_D B9 (mw_W h q g I' A')) B9) ([.ref h] : List Value).toArray s 0 0 B9) (F0 m 4 ls [])), ∀ (I : MI) (A : MA) (X : Nat → Int32) (s0 : Int32) (ls : Array Slot) (H : Heap) (locs : List Loc), f_M_redo_96 rc I A X s0 = some (r, I', A') → lv_has ls 3 [(0, .ref h), (1, .int (X 1)), (2, .int (X 2))] → va_P (dC, dI) vwCl (mw_W h q g I A) H → va_D B9 (mw_W h q g I A) → va_S B9 s.heap H locs → W p l e (headSpec w_M_redo ({ frames := 1, cells := 0, slots := 0, locals := 21 })).room s m ([.ref h] : List Value).toArray below meth c H locs 0 0 (MQ below (va_Qi (fun (r9 : Int32) (_ : Unit) => r9 = r) (fun (_ : Unit) t => va_P (dC, dI) vwCl (mw_W h q g I' A') t.heap ∧ va_K (dC, dI) vwCl (mw_T g) t ∧ va_D B9 (mw_W h q g I' A')) B9) ([.ref h] : List Value).toArray s 0 0 B9) (F0 m 96 ls [.int s0]) := by
    intro rc hrc4 I A X s0 ls H locs hf hl hP hD hS
    unfold f_M_redo_96 at hf
    obtain ⟨e1, e2, e3⟩ := wk_inj hf
    subst e1
    subst e2
    subst e3
    exact W.iret (v := s0) hx hb hr (fun t ht hW => ⟨⟨s0, (), rfl, rfl, by rw [ht]; exact hP, va_K.moved hW.alike hK, hD⟩, hS.F ht⟩) hS.2.2 d_M_redo_96
  have blk81 : ∀ (rc : Nat → MI → MA → (Nat → Int32) → Option (Int32 × MI × MA)) (hrc4 : ∀ (I : MI) (A : MA) (X : Nat → Int32) (ls : Array Slot) (H : Heap) (locs : List Loc), rc 4 I A X = some (r, I', A') → lv_has ls 3 [(0, .ref h), (1, .int (X 1)), (2, .int (X 2))] → va_P (dC, dI) vwCl (mw_W h q g I A) H → va_D B9 (mw_W h q g I A) → va_S B9 s.heap H locs → W p l e (headSpec w_M_redo ({ frames := 1, cells := 0, slots := 0, locals := 21 })).room s m ([.ref h] : List Value).toArray below meth c H locs 0 0 (MQ below (va_Qi (fun (r9 : Int32) (_ : Unit) => r9 = r) (fun (_ : Unit) t => va_P (dC, dI) vwCl (mw_W h q g I' A') t.heap ∧ va_K (dC, dI) vwCl (mw_T g) t ∧ va_D B9 (mw_W h q g I' A')) B9) ([.ref h] : List Value).toArray s 0 0 B9) (F0 m 4 ls [])), ∀ (I : MI) (A : MA) (X : Nat → Int32) (ls : Array Slot) (H : Heap) (locs : List Loc), f_M_redo_81 rc I A X = some (r, I', A') → lv_has ls 3 [(0, .ref h), (1, .int (X 1)), (2, .int (X 2))] → va_P (dC, dI) vwCl (mw_W h q g I A) H → va_D B9 (mw_W h q g I A) → va_S B9 s.heap H locs → W p l e (headSpec w_M_redo ({ frames := 1, cells := 0, slots := 0, locals := 21 })).room s m ([.ref h] : List Value).toArray below meth c H locs 0 0 (MQ below (va_Qi (fun (r9 : Int32) (_ : Unit) => r9 = r) (fun (_ : Unit) t => va_P (dC, dI) vwCl (mw_W h q g I' A') t.heap ∧ va_K (dC, dI) vwCl (mw_T g) t ∧ va_D B9 (mw_W h q g I' A')) B9) ([.ref h] : List Value).toArray s 0 0 B9) (F0 m 81 ls []) := by
    intro rc hrc4 I A X ls H locs hf hl hP hD hS
    unfold f_M_redo_81 at hf
    refine lv_aload_n hx hb d_M_redo_81 rfl (lv_at hl 0 rfl) ?_
    refine va_get (D := (dC, dI)) (ci := 4) (v := .int (I 0)) (C := R_M) (T := F_M) (N := 38) hx hb hts (fun w h => List.mem_cons_of_mem _ (in_M w h)) hown hK hP 0 rfl rfl 0 (by decide) (hts _ (List.mem_cons_of_mem _ lk_60)) (fun _ h9 => h9) rfl d_M_redo_82 ?_
    refine lv_if_ne (tgt := 95) hx hb d_M_redo_85 (by decide) (fun hc1 => ?_) (fun hc1 => ?_)
    ·
      have hf := wk_iff hc1 hf
      refine lv_iconst (v := 0) hx hb d_M_redo_95 (by decide) ?_
      exact blk96 rc hrc4 I A X 0 _ _ _ hf (lv_sub hl [0, 1, 2] rfl) hP hD hS
    ·
      have hf := wk_ift hc1 hf
      refine lv_aload_n hx hb d_M_redo_88 rfl (lv_at hl 0 rfl) ?_
      refine va_get (D := (dC, dI)) (ci := 4) (v := .int (I 4)) (C := R_M) (T := F_M) (N := 38) hx hb hts (fun w h => List.mem_cons_of_mem _ (in_M w h)) hown hK hP 0 rfl rfl 4 (by decide) (hts _ (List.mem_cons_of_mem _ lk_49)) (fun _ h9 => h9) rfl d_M_redo_89 ?_
      refine lv_goto (tgt := 96) hx hb d_M_redo_92 (by decide) ?_
      exact blk96 rc hrc4 I A X (I 4) _ _ _ hf (lv_sub hl [0, 1, 2] rfl) hP hD hS
  have blk66 : ∀ (rc : Nat → MI → MA → (Nat → Int32) → Option (Int32 × MI × MA)) (hrc4 : ∀ (I : MI) (A : MA) (X : Nat → Int32) (ls : Array Slot) (H : Heap) (locs : List Loc), rc 4 I A X = some (r, I', A') → lv_has ls 3 [(0, .ref h), (1, .int (X 1)), (2, .int (X 2))] → va_P (dC, dI) vwCl (mw_W h q g I A) H → va_D B9 (mw_W h q g I A) → va_S B9 s.heap H locs → W p l e (headSpec w_M_redo ({ frames := 1, cells := 0, slots := 0, locals := 21 })).room s m ([.ref h] : List Value).toArray below meth c H locs 0 0 (MQ below (va_Qi (fun (r9 : Int32) (_ : Unit) => r9 = r) (fun (_ : Unit) t => va_P (dC, dI) vwCl (mw_W h q g I' A') t.heap ∧ va_K (dC, dI) vwCl (mw_T g) t ∧ va_D B9 (mw_W h q g I' A')) B9) ([.ref h] : List Value).toArray s 0 0 B9) (F0 m 4 ls [])), ∀ (I : MI) (A : MA) (X : Nat → Int32) (s0 : Int32) (ls : Array Slot) (H : Heap) (locs : List Loc), f_M_redo_66 rc I A X s0 = some (r, I', A') → lv_has ls 3 [(0, .ref h), (1, .int (X 1)), (2, .int (X 2))] → va_P (dC, dI) vwCl (mw_W h q g I A) H → va_D B9 (mw_W h q g I A) → va_S B9 s.heap H locs → W p l e (headSpec w_M_redo ({ frames := 1, cells := 0, slots := 0, locals := 21 })).room s m ([.ref h] : List Value).toArray below meth c H locs 0 0 (MQ below (va_Qi (fun (r9 : Int32) (_ : Unit) => r9 = r) (fun (_ : Unit) t => va_P (dC, dI) vwCl (mw_W h q g I' A') t.heap ∧ va_K (dC, dI) vwCl (mw_T g) t ∧ va_D B9 (mw_W h q g I' A')) B9) ([.ref h] : List Value).toArray s 0 0 B9) (F0 m 66 ls [.int s0, .ref h]) := by
    intro rc hrc4 I A X s0 ls H locs hf hl hP hD hS
    unfold f_M_redo_66 at hf
    refine va_put (D := (dC, dI)) (ci := 4) (v := .int s0) (ty := .int) (C := R_M) (T := F_M) (N := 38) hx hb hts (fun w h => List.mem_cons_of_mem _ (in_M w h)) t_M tk_M n_M hown hK hP hD hS 0 rfl rfl 0 (by decide) (hts _ (List.mem_cons_of_mem _ lk_60)) (fun _ h9 => h9) rfl (by decide +kernel) rfl rfl (Nat.le_of_ble_eq_true rfl) d_M_redo_66 (fun H locs hP hD hS => ?_)
    obtain ⟨I1, hI1, hf⟩ := wk_letE hf
    have hP : va_P (dC, dI) vwCl (mw_W h q g I1 A) H := by rw [hI1]; exact hP
    have hD : va_D B9 (mw_W h q g I1 A) := by rw [hI1]; exact hD
    clear hI1
    refine lv_aload_n hx hb d_M_redo_69 rfl (lv_at hl 0 rfl) ?_
    refine va_get (D := (dC, dI)) (ci := 4) (v := .int (I1 0)) (C := R_M) (T := F_M) (N := 38) hx hb hts (fun w h => List.mem_cons_of_mem _ (in_M w h)) hown hK hP 0 rfl rfl 0 (by decide) (hts _ (List.mem_cons_of_mem _ lk_60)) (fun _ h9 => h9) rfl d_M_redo_70 ?_
    refine lv_if_ne (tgt := 81) hx hb d_M_redo_73 (by decide) (fun hc1 => ?_) (fun hc1 => ?_)
    ·
      have hf := wk_iff hc1 hf
      exact blk81 rc hrc4 I1 A X _ _ _ hf (lv_sub hl [0, 1, 2] rfl) hP hD hS
    ·
      have hf := wk_ift hc1 hf
      refine lv_aload_n hx hb d_M_redo_76 rfl (lv_at hl 0 rfl) ?_
      refine lv_iload_n hx hb d_M_redo_77 rfl (lv_at hl 1 rfl) ?_
      have hPc := hP.sub (ws' := (mw_W h q g I1 A)) [0, 1, 2, 3, 4, 5, 6, 7, 8, 9, 10, 11, 12, 13, 14, 15, 16, 17, 18, 19, 20] rfl
      have hDc := hD.sub (ws' := (mw_W h q g I1 A)) [0, 1, 2, 3, 4, 5, 6, 7, 8, 9, 10, 11, 12, 13, 14, 15, 16, 17, 18, 19, 20] (by decide) rfl
      have hKc := hK.sub (tys' := (mw_T g)) [0, 1, 2, 3, 4, 5, 6, 7, 8, 9, 10, 11, 12, 13, 14, 15, 16, 17, 18, 19] rfl
      have hFc := va_free (wc := (mw_W h q g I1 A)) hD hS hA [0, 1, 2, 3, 4, 5, 6, 7, 8, 9, 10, 11, 12, 13, 14, 15, 16, 17, 18, 19, 20] rfl
      cases hg2 : f_M_come I1 A (X 1) with
      | none => rw [hg2] at hf; cases hf
      | some z2 =>
        obtain ⟨r2, I2, A2⟩ := z2
        rw [hg2] at hf
        dsimp only [Option.bind_some] at hf
        refine va_callv (va_runV (As := [.int (X 1)]) (rest := []) ⟨hx, hb, hml, hown, hts⟩ (cm_M_come l dC dI h q g _ I1 A (X 1) r2 I2 A2 hg2) (cwV 1 hts (gd_v lk_149 lk_150 lk_151 lk_46 lk_130) rfl rfl rfl (by decide +kernel) ⟨Nat.le_of_ble_eq_true rfl, Nat.le_of_ble_eq_true rfl⟩) ⟨fun a U g mk q => by obtain ⟨q0, q1, qP, qK, qD⟩ := q; exact ⟨q0, q1, qP, va_K.moved (u := U) (U := U.calling g mk a) (Vm.Alike.refl U.vm) qK, qD⟩, va_recv (ci := 4) (q0 := 0) hK hP rfl rfl, fun U hU hW => ⟨rfl, by rw [hU], by rw [hU]; exact hPc, va_K.moved hW.alike hKc, hDc.weaken (fun _ _ _ _ => trivial)⟩⟩ rfl rfl hl.1 rfl (lv_room (Nat.le_of_ble_eq_true rfl)) d_M_redo_78 ⟨Nat.le_of_ble_eq_true rfl, Nat.le_of_ble_eq_true rfl⟩) hS (fun q _ h => hFc q h) hFc (fun u t H1 locs ht hvm hw hB hz1 hk1 hS => ?_)
        obtain ⟨hP1, hK1, hD1⟩ := hB
        rw [ht] at hP1
        obtain ⟨hP, hD⟩ := va_join (wr := []) (w1 := (mw_W h q g I2 A2)) hP hD [0, 1, 2, 3, 4, 5, 6, 7, 8, 9, 10, 11, 12, 13, 14, 15, 16, 17, 18, 19, 20] [] rfl rfl (by decide) (by decide) hk1 hFc hP1 hD1
        generalize H1 = H at hP hS ⊢
        have hP : va_P (dC, dI) vwCl (mw_W h q g I2 A2) H := hP
        have hD : va_D B9 (mw_W h q g I2 A2) := hD
        exact blk81 rc hrc4 I2 A2 X _ _ _ hf (lv_sub hl [0, 1, 2] rfl) hP hD hS
  have blk49 : ∀ (rc : Nat → MI → MA → (Nat → Int32) → Option (Int32 × MI × MA)) (hrc4 : ∀ (I : MI) (A : MA) (X : Nat → Int32) (ls : Array Slot) (H : Heap) (locs : List Loc), rc 4 I A X = some (r, I', A') → lv_has ls 3 [(0, .ref h), (1, .int (X 1)), (2, .int (X 2))] → va_P (dC, dI) vwCl (mw_W h q g I A) H → va_D B9 (mw_W h q g I A) → va_S B9 s.heap H locs → W p l e (headSpec w_M_redo ({ frames := 1, cells := 0, slots := 0, locals := 21 })).room s m ([.ref h] : List Value).toArray below meth c H locs 0 0 (MQ below (va_Qi (fun (r9 : Int32) (_ : Unit) => r9 = r) (fun (_ : Unit) t => va_P (dC, dI) vwCl (mw_W h q g I' A') t.heap ∧ va_K (dC, dI) vwCl (mw_T g) t ∧ va_D B9 (mw_W h q g I' A')) B9) ([.ref h] : List Value).toArray s 0 0 B9) (F0 m 4 ls [])), ∀ (I : MI) (A : MA) (X : Nat → Int32) (s0 : Int32) (ls : Array Slot) (H : Heap) (locs : List Loc), f_M_redo_49 rc I A X s0 = some (r, I', A') → lv_has ls 3 [(0, .ref h), (1, .int (X 1)), (2, .int (X 2))] → va_P (dC, dI) vwCl (mw_W h q g I A) H → va_D B9 (mw_W h q g I A) → va_S B9 s.heap H locs → W p l e (headSpec w_M_redo ({ frames := 1, cells := 0, slots := 0, locals := 21 })).room s m ([.ref h] : List Value).toArray below meth c H locs 0 0 (MQ below (va_Qi (fun (r9 : Int32) (_ : Unit) => r9 = r) (fun (_ : Unit) t => va_P (dC, dI) vwCl (mw_W h q g I' A') t.heap ∧ va_K (dC, dI) vwCl (mw_T g) t ∧ va_D B9 (mw_W h q g I' A')) B9) ([.ref h] : List Value).toArray s 0 0 B9) (F0 m 49 ls [.int s0]) := by
    intro rc hrc4 I A X s0 ls H locs hf hl hP hD hS
    unfold f_M_redo_49 at hf
    refine lv_istore_n (lv' := [(1, .int s0), (0, .ref h), (2, .int (X 2))]) hx hb d_M_redo_49 rfl hl (by decide) rfl (fun ls hl => ?_)
    have hl : lv_has ls 3 [(1, .int s0), (0, .ref h), (2, .int (X 2))] := hl
    refine lv_iinc (k := 2) (v := ((X 2) + 1)) (lv' := [(2, .int ((X 2) + 1)), (1, .int s0), (0, .ref h)]) hx hb d_M_redo_50 hl rfl (wk_inc (by decide)) (by decide) rfl (fun ls hl => ?_)
    have hl : lv_has ls 3 [(2, .int ((X 2) + 1)), (1, .int s0), (0, .ref h)] := hl
    refine lv_goto (tgt := 4) hx hb d_M_redo_53 (by decide) ?_
    exact hrc4 I A (upd (upd X 1 s0) 2 ((X 2) + 1)) _ _ _ hf (lv_sub hl [2, 1, 0] rfl) hP hD hS
  have blk48 : ∀ (rc : Nat → MI → MA → (Nat → Int32) → Option (Int32 × MI × MA)) (hrc4 : ∀ (I : MI) (A : MA) (X : Nat → Int32) (ls : Array Slot) (H : Heap) (locs : List Loc), rc 4 I A X = some (r, I', A') → lv_has ls 3 [(0, .ref h), (1, .int (X 1)), (2, .int (X 2))] → va_P (dC, dI) vwCl (mw_W h q g I A) H → va_D B9 (mw_W h q g I A) → va_S B9 s.heap H locs → W p l e (headSpec w_M_redo ({ frames := 1, cells := 0, slots := 0, locals := 21 })).room s m ([.ref h] : List Value).toArray below meth c H locs 0 0 (MQ below (va_Qi (fun (r9 : Int32) (_ : Unit) => r9 = r) (fun (_ : Unit) t => va_P (dC, dI) vwCl (mw_W h q g I' A') t.heap ∧ va_K (dC, dI) vwCl (mw_T g) t ∧ va_D B9 (mw_W h q g I' A')) B9) ([.ref h] : List Value).toArray s 0 0 B9) (F0 m 4 ls [])), ∀ (I : MI) (A : MA) (X : Nat → Int32) (ls : Array Slot) (H : Heap) (locs : List Loc), f_M_redo_48 rc I A X = some (r, I', A') → lv_has ls 3 [(0, .ref h), (1, .int (X 1)), (2, .int (X 2))] → va_P (dC, dI) vwCl (mw_W h q g I A) H → va_D B9 (mw_W h q g I A) → va_S B9 s.heap H locs → W p l e (headSpec w_M_redo ({ frames := 1, cells := 0, slots := 0, locals := 21 })).room s m ([.ref h] : List Value).toArray below meth c H locs 0 0 (MQ below (va_Qi (fun (r9 : Int32) (_ : Unit) => r9 = r) (fun (_ : Unit) t => va_P (dC, dI) vwCl (mw_W h q g I' A') t.heap ∧ va_K (dC, dI) vwCl (mw_T g) t ∧ va_D B9 (mw_W h q g I' A')) B9) ([.ref h] : List Value).toArray s 0 0 B9) (F0 m 48 ls []) := by
    intro rc hrc4 I A X ls H locs hf hl hP hD hS
    unfold f_M_redo_48 at hf
    refine lv_iload_n hx hb d_M_redo_48 rfl (lv_at hl 1 rfl) ?_
    exact blk49 rc hrc4 I A X (X 1) _ _ _ hf (lv_sub hl [0, 1, 2] rfl) hP hD hS
  have blk44 : ∀ (rc : Nat → MI → MA → (Nat → Int32) → Option (Int32 × MI × MA)) (hrc4 : ∀ (I : MI) (A : MA) (X : Nat → Int32) (ls : Array Slot) (H : Heap) (locs : List Loc), rc 4 I A X = some (r, I', A') → lv_has ls 3 [(0, .ref h), (1, .int (X 1)), (2, .int (X 2))] → va_P (dC, dI) vwCl (mw_W h q g I A) H → va_D B9 (mw_W h q g I A) → va_S B9 s.heap H locs → W p l e (headSpec w_M_redo ({ frames := 1, cells := 0, slots := 0, locals := 21 })).room s m ([.ref h] : List Value).toArray below meth c H locs 0 0 (MQ below (va_Qi (fun (r9 : Int32) (_ : Unit) => r9 = r) (fun (_ : Unit) t => va_P (dC, dI) vwCl (mw_W h q g I' A') t.heap ∧ va_K (dC, dI) vwCl (mw_T g) t ∧ va_D B9 (mw_W h q g I' A')) B9) ([.ref h] : List Value).toArray s 0 0 B9) (F0 m 4 ls [])), ∀ (I : MI) (A : MA) (X : Nat → Int32) (ls : Array Slot) (H : Heap) (locs : List Loc), f_M_redo_44 rc I A X = some (r, I', A') → lv_has ls 3 [(0, .ref h), (1, .int (X 1)), (2, .int (X 2))] → va_P (dC, dI) vwCl (mw_W h q g I A) H → va_D B9 (mw_W h q g I A) → va_S B9 s.heap H locs → W p l e (headSpec w_M_redo ({ frames := 1, cells := 0, slots := 0, locals := 21 })).room s m ([.ref h] : List Value).toArray below meth c H locs 0 0 (MQ below (va_Qi (fun (r9 : Int32) (_ : Unit) => r9 = r) (fun (_ : Unit) t => va_P (dC, dI) vwCl (mw_W h q g I' A') t.heap ∧ va_K (dC, dI) vwCl (mw_T g) t ∧ va_D B9 (mw_W h q g I' A')) B9) ([.ref h] : List Value).toArray s 0 0 B9) (F0 m 44 ls []) := by
    intro rc hrc4 I A X ls H locs hf hl hP hD hS
    unfold f_M_redo_44 at hf
    refine lv_iload_n hx hb d_M_redo_44 rfl (lv_at hl 2 rfl) ?_
    refine lv_goto (tgt := 49) hx hb d_M_redo_45 (by decide) ?_
    exact blk49 rc hrc4 I A X (X 2) _ _ _ hf (lv_sub hl [0, 1, 2] rfl) hP hD hS
  have stp4 : ∀ (rc : Nat → MI → MA → (Nat → Int32) → Option (Int32 × MI × MA)) (hrc4 : ∀ (I : MI) (A : MA) (X : Nat → Int32) (ls : Array Slot) (H : Heap) (locs : List Loc), rc 4 I A X = some (r, I', A') → lv_has ls 3 [(0, .ref h), (1, .int (X 1)), (2, .int (X 2))] → va_P (dC, dI) vwCl (mw_W h q g I A) H → va_D B9 (mw_W h q g I A) → va_S B9 s.heap H locs → W p l e (headSpec w_M_redo ({ frames := 1, cells := 0, slots := 0, locals := 21 })).room s m ([.ref h] : List Value).toArray below meth c H locs 0 0 (MQ below (va_Qi (fun (r9 : Int32) (_ : Unit) => r9 = r) (fun (_ : Unit) t => va_P (dC, dI) vwCl (mw_W h q g I' A') t.heap ∧ va_K (dC, dI) vwCl (mw_T g) t ∧ va_D B9 (mw_W h q g I' A')) B9) ([.ref h] : List Value).toArray s 0 0 B9) (F0 m 4 ls [])), ∀ (I : MI) (A : MA) (X : Nat → Int32) (ls : Array Slot) (H : Heap) (locs : List Loc), f_M_redo_4 rc I A X = some (r, I', A') → lv_has ls 3 [(0, .ref h), (1, .int (X 1)), (2, .int (X 2))] → va_P (dC, dI) vwCl (mw_W h q g I A) H → va_D B9 (mw_W h q g I A) → va_S B9 s.heap H locs → W p l e (headSpec w_M_redo ({ frames := 1, cells := 0, slots := 0, locals := 21 })).room s m ([.ref h] : List Value).toArray below meth c H locs 0 0 (MQ below (va_Qi (fun (r9 : Int32) (_ : Unit) => r9 = r) (fun (_ : Unit) t => va_P (dC, dI) vwCl (mw_W h q g I' A') t.heap ∧ va_K (dC, dI) vwCl (mw_T g) t ∧ va_D B9 (mw_W h q g I' A')) B9) ([.ref h] : List Value).toArray s 0 0 B9) (F0 m 4 ls []) := by
    intro rc hrc4 I A X ls H locs hf hl hP hD hS
    unfold f_M_redo_4 at hf
    refine lv_iload_n hx hb d_M_redo_4 rfl (lv_at hl 2 rfl) ?_
    refine lv_aload_n hx hb d_M_redo_5 rfl (lv_at hl 0 rfl) ?_
    refine va_get (D := (dC, dI)) (ci := 4) (v := .int (I 3)) (C := R_M) (T := F_M) (N := 38) hx hb hts (fun w h => List.mem_cons_of_mem _ (in_M w h)) hown hK hP 0 rfl rfl 3 (by decide) (hts _ (List.mem_cons_of_mem _ lk_147)) (fun _ h9 => h9) rfl d_M_redo_6 ?_
    refine lv_icmp_ge (tgt := 56) hx hb d_M_redo_9 (by decide) (fun hc1 => ?_) (fun hc1 => ?_)
    ·
      have hf := wk_ift hc1 hf
      refine lv_aload_n hx hb d_M_redo_56 rfl (lv_at hl 0 rfl) ?_
      refine lv_iload_n hx hb d_M_redo_57 rfl (lv_at hl 1 rfl) ?_
      refine lv_if_ge (tgt := 65) hx hb d_M_redo_58 (by decide) (fun hc2 => ?_) (fun hc2 => ?_)
      ·
        have hf := wk_ift hc2 hf
        refine lv_iconst (v := 0) hx hb d_M_redo_65 (by decide) ?_
        exact blk66 rc hrc4 I A X 0 _ _ _ hf (lv_sub hl [0, 1, 2] rfl) hP hD hS
      ·
        have hf := wk_iff hc2 hf
        refine lv_iconst (v := 1) hx hb d_M_redo_61 (by decide) ?_
        refine lv_goto (tgt := 66) hx hb d_M_redo_62 (by decide) ?_
        exact blk66 rc hrc4 I A X 1 _ _ _ hf (lv_sub hl [0, 1, 2] rfl) hP hD hS
    ·
      have hf := wk_iff hc1 hf
      refine lv_aload_n hx hb d_M_redo_12 rfl (lv_at hl 0 rfl) ?_
      refine va_get (D := (dC, dI)) (ci := 4) (v := .ref (q 8)) (C := R_M) (T := F_M) (N := 38) hx hb hts (fun w h => List.mem_cons_of_mem _ (in_M w h)) hown hK hP 0 rfl rfl 8 (by decide) (hts _ (List.mem_cons_of_mem _ lk_148)) (fun _ h9 => h9) rfl d_M_redo_13 ?_
      refine lv_iload_n hx hb d_M_redo_16 rfl (lv_at hl 2 rfl) ?_
      obtain ⟨hc2, hf⟩ := wk_if hf
      refine va_iald hx hb hK hP 5 4 rfl rfl (wk_inb_ok hc2) d_M_redo_17 ?_
      refine lv_aload_n hx hb d_M_redo_18 rfl (lv_at hl 0 rfl) ?_
      refine va_get (D := (dC, dI)) (ci := 4) (v := .int (I 4)) (C := R_M) (T := F_M) (N := 38) hx hb hts (fun w h => List.mem_cons_of_mem _ (in_M w h)) hown hK hP 0 rfl rfl 4 (by decide) (hts _ (List.mem_cons_of_mem _ lk_49)) (fun _ h9 => h9) rfl d_M_redo_19 ?_
      refine lv_icmp_ne (tgt := 48) hx hb d_M_redo_22 (by decide) (fun hc3 => ?_) (fun hc3 => ?_)
      ·
        have hf := wk_iff hc3 hf
        exact blk48 rc hrc4 I A X _ _ _ hf (lv_sub hl [0, 1, 2] rfl) hP hD hS
      ·
        have hf := wk_ift hc3 hf
        refine lv_iload_n hx hb d_M_redo_25 rfl (lv_at hl 1 rfl) ?_
        refine lv_if_lt (tgt := 44) hx hb d_M_redo_26 (by decide) (fun hc4 => ?_) (fun hc4 => ?_)
        ·
          have hf := wk_ift hc4 hf
          exact blk44 rc hrc4 I A X _ _ _ hf (lv_sub hl [0, 1, 2] rfl) hP hD hS
        ·
          have hf := wk_iff hc4 hf
          refine lv_aload_n hx hb d_M_redo_29 rfl (lv_at hl 0 rfl) ?_
          refine va_get (D := (dC, dI)) (ci := 4) (v := .ref (q 9)) (C := R_M) (T := F_M) (N := 38) hx hb hts (fun w h => List.mem_cons_of_mem _ (in_M w h)) hown hK hP 0 rfl rfl 9 (by decide) (hts _ (List.mem_cons_of_mem _ lk_129)) (fun _ h9 => h9) rfl d_M_redo_30 ?_
          refine lv_iload_n hx hb d_M_redo_33 rfl (lv_at hl 2 rfl) ?_
          obtain ⟨hc5, hf⟩ := wk_if hf
          refine va_iald hx hb hK hP 6 5 rfl rfl (wk_inb_ok hc5) d_M_redo_34 ?_
          refine lv_aload_n hx hb d_M_redo_35 rfl (lv_at hl 0 rfl) ?_
          refine va_get (D := (dC, dI)) (ci := 4) (v := .ref (q 9)) (C := R_M) (T := F_M) (N := 38) hx hb hts (fun w h => List.mem_cons_of_mem _ (in_M w h)) hown hK hP 0 rfl rfl 9 (by decide) (hts _ (List.mem_cons_of_mem _ lk_129)) (fun _ h9 => h9) rfl d_M_redo_36 ?_
          refine lv_iload_n hx hb d_M_redo_39 rfl (lv_at hl 1 rfl) ?_
          obtain ⟨hc6, hf⟩ := wk_if hf
          refine va_iald hx hb hK hP 6 5 rfl rfl (wk_inb_ok hc6) d_M_redo_40 ?_
          refine lv_icmp_le (tgt := 48) hx hb d_M_redo_41 (by decide) (fun hc7 => ?_) (fun hc7 => ?_)
          ·
            have hf := wk_ift hc7 hf
            exact blk48 rc hrc4 I A X _ _ _ hf (lv_sub hl [0, 1, 2] rfl) hP hD hS
          ·
            have hf := wk_iff hc7 hf
            exact blk44 rc hrc4 I A X _ _ _ hf (lv_sub hl [0, 1, 2] rfl) hP hD hS
  have key : ∀ n : Nat, (∀ (I : MI) (A : MA) (X : Nat → Int32) (ls : Array Slot) (H : Heap) (locs : List Loc), f_M_redo_go n 4 I A X = some (r, I', A') → lv_has ls 3 [(0, .ref h), (1, .int (X 1)), (2, .int (X 2))] → va_P (dC, dI) vwCl (mw_W h q g I A) H → va_D B9 (mw_W h q g I A) → va_S B9 s.heap H locs → W p l e (headSpec w_M_redo ({ frames := 1, cells := 0, slots := 0, locals := 21 })).room s m ([.ref h] : List Value).toArray below meth c H locs 0 0 (MQ below (va_Qi (fun (r9 : Int32) (_ : Unit) => r9 = r) (fun (_ : Unit) t => va_P (dC, dI) vwCl (mw_W h q g I' A') t.heap ∧ va_K (dC, dI) vwCl (mw_T g) t ∧ va_D B9 (mw_W h q g I' A')) B9) ([.ref h] : List Value).toArray s 0 0 B9) (F0 m 4 ls [])) := by
    intro n
    induction n with
    | zero => exact fun I A X ls H locs hf => (by cases hf)
    | succ n ih =>
      have ih4 := ih
      exact stp4 (f_M_redo_go n) ih4
  unfold f_M_redo f_M_redo_e at hf
  have hrc4 := key wk_FUEL
  refine lv_iconst (v := (-1)) hx hb d_M_redo_0 (by decide) ?_
  refine lv_istore_n (lv' := [(1, .int (-1)), (0, .ref h)]) hx hb d_M_redo_1 rfl hl (by decide) rfl (fun ls hl => ?_)
  have hl : lv_has ls 3 [(1, .int (-1)), (0, .ref h)] := hl
  refine lv_iconst (v := 0) hx hb d_M_redo_2 (by decide) ?_
  refine lv_istore_n (lv' := [(2, .int 0), (1, .int (-1)), (0, .ref h)]) hx hb d_M_redo_3 rfl hl (by decide) rfl (fun ls hl => ?_)
  have hl : lv_has ls 3 [(2, .int 0), (1, .int (-1)), (0, .ref h)] := hl
  exact hrc4 I A (upd (upd (fun _ => 0) 1 (-1)) 2 0) _ _ _ hf (lv_sub hl [2, 1, 0] rfl) hP hD hS

set_option maxHeartbeats 8000000 in
set_option maxRecDepth 100000 in
theorem cm_M_replace (l : Launch) (dC : Nat → ClassId) (dI : Nat → Nat → Nat) (h : Nat) (q : Nat → Nat) (g : Nat → ClassId) (sz : Nat) (I : MI) (A : MA) (r : Int32) (I' : MI) (A' : MA) (hf : f_M_replace I A  = some (r, I', A')) : Met l y_M_replace w_M_replace ({ frames := 5, cells := 0, slots := 0, locals := 115 }) (va_Pc [.ref h] (fun U => U.heap.size = sz ∧ va_P (dC, dI) vwCl (mw_W h q g I A) U.heap ∧ va_K (dC, dI) vwCl (mw_T g) U ∧ va_D (fun _ => True) (mw_W h q g I A))) (va_Qi (fun (r9 : Int32) (_ : Unit) => r9 = r) (fun (_ : Unit) t => va_P (dC, dI) vwCl (mw_W h q g I' A') t.heap ∧ va_K (dC, dI) vwCl (mw_T g) t ∧ va_D (va_A (mw_W h q g I A) sz) (mw_W h q g I' A')) (va_A (mw_W h q g I A) sz)) 0 0 (va_A (mw_W h q g I A) sz) := by
  refine Met.ofW (cc := prog_6_method_46_code) (maxL := 4) (ret := (some .int)) (by decide) rfl ?_
  intro p e s m args below meth c s₁ B hml hv
  obtain ⟨rfl, hsz, hP, hK, hD0⟩ := hv
  have hx := B.exec
  have hb := B.bytes
  have hr := B.returns
  have hts := atoms_spec (ws := w_M_replace) B.pre
  have hown : s.vm.findClass R_M = some m.cls := findClass_of_methodNamed B.named
  have hlocks := B.notSynchronized
  subst hsz
  have hD := hD0.self (sz := s.heap.size)
  generalize hAe : va_A (mw_W h q g I A) s.heap.size = B9 at hD ⊢
  have hA : ∀ q : Nat, s.heap.size ≤ q → B9 q := fun q h => by rw [← hAe]; exact Or.inr h
  clear hAe
  have hS : va_S B9 s.heap s.heap [] := va_S.rf
  have hl := lv_entry ([.ref h]) (n := 4) (Nat.le_of_ble_eq_true rfl)
  rw [lg_entry_eq]
  generalize (lg_sl ([.ref h]) ++ List.replicate (4 - (lg_sl ([.ref h])).length) Slot.unset).toArray = ls at hl ⊢
  have hl : lv_has ls 4 [(0, .ref h)] := hl
  have blk13 : ∀ (rc : Nat → MI → MA → (Nat → Int32) → Option (Int32 × MI × MA)) (hrc36 : ∀ (I : MI) (A : MA) (X : Nat → Int32) (ls : Array Slot) (H : Heap) (locs : List Loc), rc 36 I A X = some (r, I', A') → lv_has ls 4 [(0, .ref h), (1, .int (X 1)), (2, .int (X 2)), (3, .int (X 3))] → va_P (dC, dI) vwCl (mw_W h q g I A) H → va_D B9 (mw_W h q g I A) → va_S B9 s.heap H locs → W p l e (headSpec w_M_replace ({ frames := 5, cells := 0, slots := 0, locals := 115 })).room s m ([.ref h] : List Value).toArray below meth c H locs 0 0 (MQ below (va_Qi (fun (r9 : Int32) (_ : Unit) => r9 = r) (fun (_ : Unit) t => va_P (dC, dI) vwCl (mw_W h q g I' A') t.heap ∧ va_K (dC, dI) vwCl (mw_T g) t ∧ va_D B9 (mw_W h q g I' A')) B9) ([.ref h] : List Value).toArray s 0 0 B9) (F0 m 36 ls [])), ∀ (I : MI) (A : MA) (X : Nat → Int32) (s0 : Int32) (ls : Array Slot) (H : Heap) (locs : List Loc), f_M_replace_13 rc I A X s0 = some (r, I', A') → lv_has ls 4 [(0, .ref h)] → va_P (dC, dI) vwCl (mw_W h q g I A) H → va_D B9 (mw_W h q g I A) → va_S B9 s.heap H locs → W p l e (headSpec w_M_replace ({ frames := 5, cells := 0, slots := 0, locals := 115 })).room s m ([.ref h] : List Value).toArray below meth c H locs 0 0 (MQ below (va_Qi (fun (r9 : Int32) (_ : Unit) => r9 = r) (fun (_ : Unit) t => va_P (dC, dI) vwCl (mw_W h q g I' A') t.heap ∧ va_K (dC, dI) vwCl (mw_T g) t ∧ va_D B9 (mw_W h q g I' A')) B9) ([.ref h] : List Value).toArray s 0 0 B9) (F0 m 13 ls [.int s0, .ref h]) := by
    intro rc hrc36 I A X s0 ls H locs hf hl hP hD hS
    unfold f_M_replace_13 at hf
    refine va_put (D := (dC, dI)) (ci := 4) (v := .int s0) (ty := .int) (C := R_M) (T := F_M) (N := 38) hx hb hts (fun w h => List.mem_cons_of_mem _ (in_M w h)) t_M tk_M n_M hown hK hP hD hS 0 rfl rfl 0 (by decide) (hts _ (List.mem_cons_of_mem _ lk_60)) (fun _ h9 => h9) rfl (by decide +kernel) rfl rfl (Nat.le_of_ble_eq_true rfl) d_M_replace_13 (fun H locs hP hD hS => ?_)
    obtain ⟨I1, hI1, hf⟩ := wk_letE hf
    have hP : va_P (dC, dI) vwCl (mw_W h q g I1 A) H := by rw [hI1]; exact hP
    have hD : va_D B9 (mw_W h q g I1 A) := by rw [hI1]; exact hD
    clear hI1
    refine lv_aload_n hx hb d_M_replace_16 rfl (lv_at hl 0 rfl) ?_
    refine va_get (D := (dC, dI)) (ci := 4) (v := .int (I1 0)) (C := R_M) (T := F_M) (N := 38) hx hb hts (fun w h => List.mem_cons_of_mem _ (in_M w h)) hown hK hP 0 rfl rfl 0 (by decide) (hts _ (List.mem_cons_of_mem _ lk_60)) (fun _ h9 => h9) rfl d_M_replace_17 ?_
    refine lv_if_le (tgt := 25) hx hb d_M_replace_20 (by decide) (fun hc1 => ?_) (fun hc1 => ?_)
    ·
      have hf := wk_ift hc1 hf
      refine lv_aload_n hx hb d_M_replace_25 rfl (lv_at hl 0 rfl) ?_
      refine lv_iconst (v := 0) hx hb d_M_replace_26 (by decide) ?_
      refine va_put (D := (dC, dI)) (ci := 4) (v := .int 0) (ty := .int) (C := R_M) (T := F_M) (N := 38) hx hb hts (fun w h => List.mem_cons_of_mem _ (in_M w h)) t_M tk_M n_M hown hK hP hD hS 0 rfl rfl 36 (by decide) (hts _ (List.mem_cons_of_mem _ lk_39)) (fun _ h9 => h9) rfl (by decide +kernel) rfl rfl (Nat.le_of_ble_eq_true rfl) d_M_replace_27 (fun H locs hP hD hS => ?_)
      obtain ⟨I2, hI2, hf⟩ := wk_letE hf
      have hP : va_P (dC, dI) vwCl (mw_W h q g I2 A) H := by rw [hI2]; exact hP
      have hD : va_D B9 (mw_W h q g I2 A) := by rw [hI2]; exact hD
      clear hI2
      refine lv_iconst (v := 0) hx hb d_M_replace_30 (by decide) ?_
      refine lv_istore_n (lv' := [(1, .int 0), (0, .ref h)]) hx hb d_M_replace_31 rfl hl (by decide) rfl (fun ls hl => ?_)
      have hl : lv_has ls 4 [(1, .int 0), (0, .ref h)] := hl
      refine lv_iconst (v := 0) hx hb d_M_replace_32 (by decide) ?_
      refine lv_istore_n (lv' := [(2, .int 0), (1, .int 0), (0, .ref h)]) hx hb d_M_replace_33 rfl hl (by decide) rfl (fun ls hl => ?_)
      have hl : lv_has ls 4 [(2, .int 0), (1, .int 0), (0, .ref h)] := hl
      refine lv_iconst (v := 0) hx hb d_M_replace_34 (by decide) ?_
      refine lv_istore_n (lv' := [(3, .int 0), (2, .int 0), (1, .int 0), (0, .ref h)]) hx hb d_M_replace_35 rfl hl (by decide) rfl (fun ls hl => ?_)
      have hl : lv_has ls 4 [(3, .int 0), (2, .int 0), (1, .int 0), (0, .ref h)] := hl
      exact hrc36 I2 A (upd (upd (upd X 1 0) 2 0) 3 0) _ _ _ hf (lv_sub hl [3, 2, 1, 0] rfl) hP hD hS
    ·
      have hf := wk_iff hc1 hf
      refine lv_iconst (v := 0) hx hb d_M_replace_23 (by decide) ?_
      obtain ⟨e1, e2, e3⟩ := wk_inj hf
      subst e1
      subst e2
      subst e3
      exact W.iret (v := 0) hx hb hr (fun t ht hW => ⟨⟨0, (), rfl, rfl, by rw [ht]; exact hP, va_K.moved hW.alike hK, hD⟩, hS.F ht⟩) hS.2.2 d_M_replace_24
  have blk132 : ∀ (rc : Nat → MI → MA → (Nat → Int32) → Option (Int32 × MI × MA)) (hrc36 : ∀ (I : MI) (A : MA) (X : Nat → Int32) (ls : Array Slot) (H : Heap) (locs : List Loc), rc 36 I A X = some (r, I', A') → lv_has ls 4 [(0, .ref h), (1, .int (X 1)), (2, .int (X 2)), (3, .int (X 3))] → va_P (dC, dI) vwCl (mw_W h q g I A) H → va_D B9 (mw_W h q g I A) → va_S B9 s.heap H locs → W p l e (headSpec w_M_replace ({ frames := 5, cells := 0, slots := 0, locals := 115 })).room s m ([.ref h] : List Value).toArray below meth c H locs 0 0 (MQ below (va_Qi (fun (r9 : Int32) (_ : Unit) => r9 = r) (fun (_ : Unit) t => va_P (dC, dI) vwCl (mw_W h q g I' A') t.heap ∧ va_K (dC, dI) vwCl (mw_T g) t ∧ va_D B9 (mw_W h q g I' A')) B9) ([.ref h] : List Value).toArray s 0 0 B9) (F0 m 36 ls [])), ∀ (I : MI) (A : MA) (X : Nat → Int32) (ls : Array Slot) (H : Heap) (locs : List Loc), f_M_replace_132 rc I A X = some (r, I', A') → lv_has ls 4 [(0, .ref h), (1, .int (X 1)), (2, .int (X 2)), (3, .int (X 3))] → va_P (dC, dI) vwCl (mw_W h q g I A) H → va_D B9 (mw_W h q g I A) → va_S B9 s.heap H locs → W p l e (headSpec w_M_replace ({ frames := 5, cells := 0, slots := 0, locals := 115 })).room s m ([.ref h] : List Value).toArray below meth c H locs 0 0 (MQ below (va_Qi (fun (r9 : Int32) (_ : Unit) => r9 = r) (fun (_ : Unit) t => va_P (dC, dI) vwCl (mw_W h q g I' A') t.heap ∧ va_K (dC, dI) vwCl (mw_T g) t ∧ va_D B9 (mw_W h q g I' A')) B9) ([.ref h] : List Value).toArray s 0 0 B9) (F0 m 132 ls []) := by
    intro rc hrc36 I A X ls H locs hf hl hP hD hS
    unfold f_M_replace_132 at hf
    refine lv_aload_n hx hb d_M_replace_132 rfl (lv_at hl 0 rfl) ?_
    refine lv_iconst (v := 0) hx hb d_M_replace_133 (by decide) ?_
    refine va_put (D := (dC, dI)) (ci := 4) (v := .int 0) (ty := .int) (C := R_M) (T := F_M) (N := 38) hx hb hts (fun w h => List.mem_cons_of_mem _ (in_M w h)) t_M tk_M n_M hown hK hP hD hS 0 rfl rfl 1 (by decide) (hts _ (List.mem_cons_of_mem _ lk_41)) (fun _ h9 => h9) rfl (by decide +kernel) rfl rfl (Nat.le_of_ble_eq_true rfl) d_M_replace_134 (fun H locs hP hD hS => ?_)
    obtain ⟨I1, hI1, hf⟩ := wk_letE hf
    have hP : va_P (dC, dI) vwCl (mw_W h q g I1 A) H := by rw [hI1]; exact hP
    have hD : va_D B9 (mw_W h q g I1 A) := by rw [hI1]; exact hD
    clear hI1
    refine lv_iload_n hx hb d_M_replace_137 rfl (lv_at hl 1 rfl) ?_
    obtain ⟨e1, e2, e3⟩ := wk_inj hf
    subst e1
    subst e2
    subst e3
    exact W.iret (v := (X 1)) hx hb hr (fun t ht hW => ⟨⟨(X 1), (), rfl, rfl, by rw [ht]; exact hP, va_K.moved hW.alike hK, hD⟩, hS.F ht⟩) hS.2.2 d_M_replace_138
  have blk111 : ∀ (rc : Nat → MI → MA → (Nat → Int32) → Option (Int32 × MI × MA)) (hrc36 : ∀ (I : MI) (A : MA) (X : Nat → Int32) (ls : Array Slot) (H : Heap) (locs : List Loc), rc 36 I A X = some (r, I', A') → lv_has ls 4 [(0, .ref h), (1, .int (X 1)), (2, .int (X 2)), (3, .int (X 3))] → va_P (dC, dI) vwCl (mw_W h q g I A) H → va_D B9 (mw_W h q g I A) → va_S B9 s.heap H locs → W p l e (headSpec w_M_replace ({ frames := 5, cells := 0, slots := 0, locals := 115 })).room s m ([.ref h] : List Value).toArray below meth c H locs 0 0 (MQ below (va_Qi (fun (r9 : Int32) (_ : Unit) => r9 = r) (fun (_ : Unit) t => va_P (dC, dI) vwCl (mw_W h q g I' A') t.heap ∧ va_K (dC, dI) vwCl (mw_T g) t ∧ va_D B9 (mw_W h q g I' A')) B9) ([.ref h] : List Value).toArray s 0 0 B9) (F0 m 36 ls [])), ∀ (I : MI) (A : MA) (X : Nat → Int32) (s0 : Int32) (ls : Array Slot) (H : Heap) (locs : List Loc), f_M_replace_111 rc I A X s0 = some (r, I', A') → lv_has ls 4 [(0, .ref h), (1, .int (X 1)), (2, .int (X 2)), (3, .int (X 3))] → va_P (dC, dI) vwCl (mw_W h q g I A) H → va_D B9 (mw_W h q g I A) → va_S B9 s.heap H locs → W p l e (headSpec w_M_replace ({ frames := 5, cells := 0, slots := 0, locals := 115 })).room s m ([.ref h] : List Value).toArray below meth c H locs 0 0 (MQ below (va_Qi (fun (r9 : Int32) (_ : Unit) => r9 = r) (fun (_ : Unit) t => va_P (dC, dI) vwCl (mw_W h q g I' A') t.heap ∧ va_K (dC, dI) vwCl (mw_T g) t ∧ va_D B9 (mw_W h q g I' A')) B9) ([.ref h] : List Value).toArray s 0 0 B9) (F0 m 111 ls [.int s0, .ref h]) := by
    intro rc hrc36 I A X s0 ls H locs hf hl hP hD hS
    unfold f_M_replace_111 at hf
    refine va_put (D := (dC, dI)) (ci := 4) (v := .int s0) (ty := .int) (C := R_M) (T := F_M) (N := 38) hx hb hts (fun w h => List.mem_cons_of_mem _ (in_M w h)) t_M tk_M n_M hown hK hP hD hS 0 rfl rfl 0 (by decide) (hts _ (List.mem_cons_of_mem _ lk_60)) (fun _ h9 => h9) rfl (by decide +kernel) rfl rfl (Nat.le_of_ble_eq_true rfl) d_M_replace_111 (fun H locs hP hD hS => ?_)
    obtain ⟨I1, hI1, hf⟩ := wk_letE hf
    have hP : va_P (dC, dI) vwCl (mw_W h q g I1 A) H := by rw [hI1]; exact hP
    have hD : va_D B9 (mw_W h q g I1 A) := by rw [hI1]; exact hD
    clear hI1
    refine lv_aload_n hx hb d_M_replace_114 rfl (lv_at hl 0 rfl) ?_
    refine va_get (D := (dC, dI)) (ci := 4) (v := .int (I1 0)) (C := R_M) (T := F_M) (N := 38) hx hb hts (fun w h => List.mem_cons_of_mem _ (in_M w h)) hown hK hP 0 rfl rfl 0 (by decide) (hts _ (List.mem_cons_of_mem _ lk_60)) (fun _ h9 => h9) rfl d_M_replace_115 ?_
    refine lv_if_le (tgt := 123) hx hb d_M_replace_118 (by decide) (fun hc1 => ?_) (fun hc1 => ?_)
    ·
      have hf := wk_ift hc1 hf
      refine lv_iload_n hx hb d_M_replace_123 rfl (lv_at hl 1 rfl) ?_
      refine lv_if_le (tgt := 132) hx hb d_M_replace_124 (by decide) (fun hc2 => ?_) (fun hc2 => ?_)
      ·
        have hf := wk_ift hc2 hf
        exact blk132 rc hrc36 I1 A X _ _ _ hf (lv_sub hl [0, 1, 2, 3] rfl) hP hD hS
      ·
        have hf := wk_iff hc2 hf
        refine lv_aload_n hx hb d_M_replace_127 rfl (lv_at hl 0 rfl) ?_
        refine lv_iload_n hx hb d_M_replace_128 rfl (lv_at hl 3 rfl) ?_
        have hPc := hP.sub (ws' := (mw_W h q g I1 A)) [0, 1, 2, 3, 4, 5, 6, 7, 8, 9, 10, 11, 12, 13, 14, 15, 16, 17, 18, 19, 20] rfl
        have hDc := hD.sub (ws' := (mw_W h q g I1 A)) [0, 1, 2, 3, 4, 5, 6, 7, 8, 9, 10, 11, 12, 13, 14, 15, 16, 17, 18, 19, 20] (by decide) rfl
        have hKc := hK.sub (tys' := (mw_T g)) [0, 1, 2, 3, 4, 5, 6, 7, 8, 9, 10, 11, 12, 13, 14, 15, 16, 17, 18, 19] rfl
        have hFc := va_free (wc := (mw_W h q g I1 A)) hD hS hA [0, 1, 2, 3, 4, 5, 6, 7, 8, 9, 10, 11, 12, 13, 14, 15, 16, 17, 18, 19, 20] rfl
        cases hg2 : f_M_edit I1 A (X 3) with
        | none => rw [hg2] at hf; cases hf
        | some z2 =>
          obtain ⟨r2, I2, A2⟩ := z2
          rw [hg2] at hf
          dsimp only [Option.bind_some] at hf
          refine va_callv (va_runV (As := [.int (X 3)]) (rest := []) ⟨hx, hb, hml, hown, hts⟩ (cm_M_edit l dC dI h q g _ I1 A (X 3) r2 I2 A2 hg2) (cwV 1 hts (gd_v lk_164 lk_165 lk_166 lk_46 lk_152) rfl rfl rfl (by decide +kernel) ⟨Nat.le_of_ble_eq_true rfl, Nat.le_of_ble_eq_true rfl⟩) ⟨fun a U g mk q => by obtain ⟨q0, q1, qP, qK, qD⟩ := q; exact ⟨q0, q1, qP, va_K.moved (u := U) (U := U.calling g mk a) (Vm.Alike.refl U.vm) qK, qD⟩, va_recv (ci := 4) (q0 := 0) hK hP rfl rfl, fun U hU hW => ⟨rfl, by rw [hU], by rw [hU]; exact hPc, va_K.moved hW.alike hKc, hDc.weaken (fun _ _ _ _ => trivial)⟩⟩ rfl rfl hl.1 rfl (lv_room (Nat.le_of_ble_eq_true rfl)) d_M_replace_129 ⟨Nat.le_of_ble_eq_true rfl, Nat.le_of_ble_eq_true rfl⟩) hS (fun q _ h => hFc q h) hFc (fun u t H1 locs ht hvm hw hB hz1 hk1 hS => ?_)
          obtain ⟨hP1, hK1, hD1⟩ := hB
          rw [ht] at hP1
          obtain ⟨hP, hD⟩ := va_join (wr := []) (w1 := (mw_W h q g I2 A2)) hP hD [0, 1, 2, 3, 4, 5, 6, 7, 8, 9, 10, 11, 12, 13, 14, 15, 16, 17, 18, 19, 20] [] rfl rfl (by decide) (by decide) hk1 hFc hP1 hD1
          generalize H1 = H at hP hS ⊢
          have hP : va_P (dC, dI) vwCl (mw_W h q g I2 A2) H := hP
          have hD : va_D B9 (mw_W h q g I2 A2) := hD
          exact blk132 rc hrc36 I2 A2 X _ _ _ hf (lv_sub hl [0, 1, 2, 3] rfl) hP hD hS
    ·
      have hf := wk_iff hc1 hf
      refine lv_iconst (v := 0) hx hb d_M_replace_121 (by decide) ?_
      obtain ⟨e1, e2, e3⟩ := wk_inj hf
      subst e1
      subst e2
      subst e3
      exact W.iret (v := 0) hx hb hr (fun t ht hW => ⟨⟨0, (), rfl, rfl, by rw [ht]; exact hP, va_K.moved hW.alike hK, hD⟩, hS.F ht⟩) hS.2.2 d_M_replace_122
  have blk110 : ∀ (rc : Nat → MI → MA → (Nat → Int32) → Option (Int32 × MI × MA)) (hrc36 : ∀ (I : MI) (A : MA) (X : Nat → Int32) (ls : Array Slot) (H : Heap) (locs : List Loc), rc 36 I A X = some (r, I', A') → lv_has ls 4 [(0, .ref h), (1, .int (X 1)), (2, .int (X 2)), (3, .int (X 3))] → va_P (dC, dI) vwCl (mw_W h q g I A) H → va_D B9 (mw_W h q g I A) → va_S B9 s.heap H locs → W p l e (headSpec w_M_replace ({ frames := 5, cells := 0, slots := 0, locals := 115 })).room s m ([.ref h] : List Value).toArray below meth c H locs 0 0 (MQ below (va_Qi (fun (r9 : Int32) (_ : Unit) => r9 = r) (fun (_ : Unit) t => va_P (dC, dI) vwCl (mw_W h q g I' A') t.heap ∧ va_K (dC, dI) vwCl (mw_T g) t ∧ va_D B9 (mw_W h q g I' A')) B9) ([.ref h] : List Value).toArray s 0 0 B9) (F0 m 36 ls [])), ∀ (I : MI) (A : MA) (X : Nat → Int32) (ls : Array Slot) (H : Heap) (locs : List Loc), f_M_replace_110 rc I A X = some (r, I', A') → lv_has ls 4 [(0, .ref h), (1, .int (X 1)), (2, .int (X 2)), (3, .int (X 3))] → va_P (dC, dI) vwCl (mw_W h q g I A) H → va_D B9 (mw_W h q g I A) → va_S B9 s.heap H locs → W p l e (headSpec w_M_replace ({ frames := 5, cells := 0, slots := 0, locals := 115 })).room s m ([.ref h] : List Value).toArray below meth c H locs 0 0 (MQ below (va_Qi (fun (r9 : Int32) (_ : Unit) => r9 = r) (fun (_ : Unit) t => va_P (dC, dI) vwCl (mw_W h q g I' A') t.heap ∧ va_K (dC, dI) vwCl (mw_T g) t ∧ va_D B9 (mw_W h q g I' A')) B9) ([.ref h] : List Value).toArray s 0 0 B9) (F0 m 110 ls [.ref h]) := by
    intro rc hrc36 I A X ls H locs hf hl hP hD hS
    unfold f_M_replace_110 at hf
    refine lv_iconst (v := 0) hx hb d_M_replace_110 (by decide) ?_
    exact blk111 rc hrc36 I A X 0 _ _ _ hf (lv_sub hl [0, 1, 2, 3] rfl) hP hD hS
  have blk106 : ∀ (rc : Nat → MI → MA → (Nat → Int32) → Option (Int32 × MI × MA)) (hrc36 : ∀ (I : MI) (A : MA) (X : Nat → Int32) (ls : Array Slot) (H : Heap) (locs : List Loc), rc 36 I A X = some (r, I', A') → lv_has ls 4 [(0, .ref h), (1, .int (X 1)), (2, .int (X 2)), (3, .int (X 3))] → va_P (dC, dI) vwCl (mw_W h q g I A) H → va_D B9 (mw_W h q g I A) → va_S B9 s.heap H locs → W p l e (headSpec w_M_replace ({ frames := 5, cells := 0, slots := 0, locals := 115 })).room s m ([.ref h] : List Value).toArray below meth c H locs 0 0 (MQ below (va_Qi (fun (r9 : Int32) (_ : Unit) => r9 = r) (fun (_ : Unit) t => va_P (dC, dI) vwCl (mw_W h q g I' A') t.heap ∧ va_K (dC, dI) vwCl (mw_T g) t ∧ va_D B9 (mw_W h q g I' A')) B9) ([.ref h] : List Value).toArray s 0 0 B9) (F0 m 36 ls [])), ∀ (I : MI) (A : MA) (X : Nat → Int32) (ls : Array Slot) (H : Heap) (locs : List Loc), f_M_replace_106 rc I A X = some (r, I', A') → lv_has ls 4 [(0, .ref h), (1, .int (X 1)), (2, .int (X 2)), (3, .int (X 3))] → va_P (dC, dI) vwCl (mw_W h q g I A) H → va_D B9 (mw_W h q g I A) → va_S B9 s.heap H locs → W p l e (headSpec w_M_replace ({ frames := 5, cells := 0, slots := 0, locals := 115 })).room s m ([.ref h] : List Value).toArray below meth c H locs 0 0 (MQ below (va_Qi (fun (r9 : Int32) (_ : Unit) => r9 = r) (fun (_ : Unit) t => va_P (dC, dI) vwCl (mw_W h q g I' A') t.heap ∧ va_K (dC, dI) vwCl (mw_T g) t ∧ va_D B9 (mw_W h q g I' A')) B9) ([.ref h] : List Value).toArray s 0 0 B9) (F0 m 106 ls [.ref h]) := by
    intro rc hrc36 I A X ls H locs hf hl hP hD hS
    unfold f_M_replace_106 at hf
    refine lv_iconst (v := 1) hx hb d_M_replace_106 (by decide) ?_
    refine lv_goto (tgt := 111) hx hb d_M_replace_107 (by decide) ?_
    exact blk111 rc hrc36 I A X 1 _ _ _ hf (lv_sub hl [0, 1, 2, 3] rfl) hP hD hS
  have stp36 : ∀ (rc : Nat → MI → MA → (Nat → Int32) → Option (Int32 × MI × MA)) (hrc36 : ∀ (I : MI) (A : MA) (X : Nat → Int32) (ls : Array Slot) (H : Heap) (locs : List Loc), rc 36 I A X = some (r, I', A') → lv_has ls 4 [(0, .ref h), (1, .int (X 1)), (2, .int (X 2)), (3, .int (X 3))] → va_P (dC, dI) vwCl (mw_W h q g I A) H → va_D B9 (mw_W h q g I A) → va_S B9 s.heap H locs → W p l e (headSpec w_M_replace ({ frames := 5, cells := 0, slots := 0, locals := 115 })).room s m ([.ref h] : List Value).toArray below meth c H locs 0 0 (MQ below (va_Qi (fun (r9 : Int32) (_ : Unit) => r9 = r) (fun (_ : Unit) t => va_P (dC, dI) vwCl (mw_W h q g I' A') t.heap ∧ va_K (dC, dI) vwCl (mw_T g) t ∧ va_D B9 (mw_W h q g I' A')) B9) ([.ref h] : List Value).toArray s 0 0 B9) (F0 m 36 ls [])), ∀ (I : MI) (A : MA) (X : Nat → Int32) (ls : Array Slot) (H : Heap) (locs : List Loc), f_M_replace_36 rc I A X = some (r, I', A') → lv_has ls 4 [(0, .ref h), (1, .int (X 1)), (2, .int (X 2)), (3, .int (X 3))] → va_P (dC, dI) vwCl (mw_W h q g I A) H → va_D B9 (mw_W h q g I A) → va_S B9 s.heap H locs → W p l e (headSpec w_M_replace ({ frames := 5, cells := 0, slots := 0, locals := 115 })).room s m ([.ref h] : List Value).toArray below meth c H locs 0 0 (MQ below (va_Qi (fun (r9 : Int32) (_ : Unit) => r9 = r) (fun (_ : Unit) t => va_P (dC, dI) vwCl (mw_W h q g I' A') t.heap ∧ va_K (dC, dI) vwCl (mw_T g) t ∧ va_D B9 (mw_W h q g I' A')) B9) ([.ref h] : List Value).toArray s 0 0 B9) (F0 m 36 ls []) := by
    intro rc hrc36 I A X ls H locs hf hl hP hD hS
    unfold f_M_replace_36 at hf
    refine lv_aload_n hx hb d_M_replace_36 rfl (lv_at hl 0 rfl) ?_
    refine lv_iload_n hx hb d_M_replace_37 rfl (lv_at hl 2 rfl) ?_
    have hPc := hP.sub (ws' := (mw_W h q g I A)) [0, 1, 2, 3, 4, 5, 6, 7, 8, 9, 10, 11, 12, 13, 14, 15, 16, 17, 18, 19, 20] rfl
    have hDc := hD.sub (ws' := (mw_W h q g I A)) [0, 1, 2, 3, 4, 5, 6, 7, 8, 9, 10, 11, 12, 13, 14, 15, 16, 17, 18, 19, 20] (by decide) rfl
    have hKc := hK.sub (tys' := (mw_T g)) [0, 1, 2, 3, 4, 5, 6, 7, 8, 9, 10, 11, 12, 13, 14, 15, 16, 17, 18, 19] rfl
    have hFc := va_free (wc := (mw_W h q g I A)) hD hS hA [0, 1, 2, 3, 4, 5, 6, 7, 8, 9, 10, 11, 12, 13, 14, 15, 16, 17, 18, 19, 20] rfl
    cases hg1 : f_M_look I A (X 2) with
    | none => rw [hg1] at hf; cases hf
    | some z1 =>
      obtain ⟨r1, I1, A1⟩ := z1
      rw [hg1] at hf
      dsimp only [Option.bind_some] at hf
      refine va_calli (va_runV (As := [.int (X 2)]) (rest := []) ⟨hx, hb, hml, hown, hts⟩ (cm_M_look l dC dI h q g _ I A (X 2) r1 I1 A1 hg1) (cwV 1 hts (gd_v lk_199 lk_200 lk_201 lk_46 lk_198) rfl rfl rfl (by decide +kernel) ⟨Nat.le_of_ble_eq_true rfl, Nat.le_of_ble_eq_true rfl⟩) ⟨fun a U g mk q => by obtain ⟨q0, q1, qP, qK, qD⟩ := q; exact ⟨q0, q1, qP, va_K.moved (u := U) (U := U.calling g mk a) (Vm.Alike.refl U.vm) qK, qD⟩, va_recv (ci := 4) (q0 := 0) hK hP rfl rfl, fun U hU hW => ⟨rfl, by rw [hU], by rw [hU]; exact hPc, va_K.moved hW.alike hKc, hDc.weaken (fun _ _ _ _ => trivial)⟩⟩ rfl rfl hl.1 rfl (lv_room (Nat.le_of_ble_eq_true rfl)) d_M_replace_38 ⟨Nat.le_of_ble_eq_true rfl, Nat.le_of_ble_eq_true rfl⟩) hS (fun q _ h => hFc q h) hFc (fun r9 u t H1 locs ht hvm hw hB hz1 hk1 hS => ?_)
      obtain ⟨hP1, hK1, hD1⟩ := hB
      rw [ht] at hP1
      rw [hw]
      obtain ⟨hP, hD⟩ := va_join (wr := []) (w1 := (mw_W h q g I1 A1)) hP hD [0, 1, 2, 3, 4, 5, 6, 7, 8, 9, 10, 11, 12, 13, 14, 15, 16, 17, 18, 19, 20] [] rfl rfl (by decide) (by decide) hk1 hFc hP1 hD1
      generalize H1 = H at hP hS ⊢
      have hP : va_P (dC, dI) vwCl (mw_W h q g I1 A1) H := hP
      have hD : va_D B9 (mw_W h q g I1 A1) := hD
      refine lv_if_eq (tgt := 73) hx hb d_M_replace_41 (by decide) (fun hc1 => ?_) (fun hc1 => ?_)
      ·
        have hf := wk_ift hc1 hf
        refine lv_aload_n hx hb d_M_replace_73 rfl (lv_at hl 0 rfl) ?_
        refine lv_iload_n hx hb d_M_replace_74 rfl (lv_at hl 2 rfl) ?_
        refine lv_aload_n hx hb d_M_replace_75 rfl (lv_at hl 0 rfl) ?_
        have hPc := hP.sub (ws' := (mw_W h q g I1 A1)) [0, 1, 2, 3, 4, 5, 6, 7, 8, 9, 10, 11, 12, 13, 14, 15, 16, 17, 18, 19, 20] rfl
        have hDc := hD.sub (ws' := (mw_W h q g I1 A1)) [0, 1, 2, 3, 4, 5, 6, 7, 8, 9, 10, 11, 12, 13, 14, 15, 16, 17, 18, 19, 20] (by decide) rfl
        have hKc := hK.sub (tys' := (mw_T g)) [0, 1, 2, 3, 4, 5, 6, 7, 8, 9, 10, 11, 12, 13, 14, 15, 16, 17, 18, 19] rfl
        have hFc := va_free (wc := (mw_W h q g I1 A1)) hD hS hA [0, 1, 2, 3, 4, 5, 6, 7, 8, 9, 10, 11, 12, 13, 14, 15, 16, 17, 18, 19, 20] rfl
        cases hg2 : f_M_textLength I1 A1 with
        | none => rw [hg2] at hf; cases hf
        | some z2 =>
          obtain ⟨r2, I2, A2⟩ := z2
          rw [hg2] at hf
          dsimp only [Option.bind_some] at hf
          refine va_calli (va_runV (As := []) (rest := [.int (X 2), .ref h]) ⟨hx, hb, hml, hown, hts⟩ (cm_M_textLength l dC dI h q g _ I1 A1 r2 I2 A2 hg2) (cwV 0 hts (gd_v lk_57 lk_58 lk_59 lk_46 lk_56) rfl rfl rfl (by decide +kernel) ⟨Nat.le_of_ble_eq_true rfl, Nat.le_of_ble_eq_true rfl⟩) ⟨fun a U g mk q => by obtain ⟨q0, q1, qP, qK, qD⟩ := q; exact ⟨q0, q1, qP, va_K.moved (u := U) (U := U.calling g mk a) (Vm.Alike.refl U.vm) qK, qD⟩, va_recv (ci := 4) (q0 := 0) hK hP rfl rfl, fun U hU hW => ⟨rfl, by rw [hU], by rw [hU]; exact hPc, va_K.moved hW.alike hKc, hDc.weaken (fun _ _ _ _ => trivial)⟩⟩ rfl rfl hl.1 rfl (lv_room (Nat.le_of_ble_eq_true rfl)) d_M_replace_76 ⟨Nat.le_of_ble_eq_true rfl, Nat.le_of_ble_eq_true rfl⟩) hS (fun q _ h => hFc q h) hFc (fun r9 u t H1 locs ht hvm hw hB hz1 hk1 hS => ?_)
          obtain ⟨hP1, hK1, hD1⟩ := hB
          rw [ht] at hP1
          rw [hw]
          obtain ⟨hP, hD⟩ := va_join (wr := []) (w1 := (mw_W h q g I2 A2)) hP hD [0, 1, 2, 3, 4, 5, 6, 7, 8, 9, 10, 11, 12, 13, 14, 15, 16, 17, 18, 19, 20] [] rfl rfl (by decide) (by decide) hk1 hFc hP1 hD1
          generalize H1 = H at hP hS ⊢
          have hP : va_P (dC, dI) vwCl (mw_W h q g I2 A2) H := hP
          have hD : va_D B9 (mw_W h q g I2 A2) := hD
          have hPc := hP.sub (ws' := (mw_W h q g I2 A2)) [0, 1, 2, 3, 4, 5, 6, 7, 8, 9, 10, 11, 12, 13, 14, 15, 16, 17, 18, 19, 20] rfl
          have hDc := hD.sub (ws' := (mw_W h q g I2 A2)) [0, 1, 2, 3, 4, 5, 6, 7, 8, 9, 10, 11, 12, 13, 14, 15, 16, 17, 18, 19, 20] (by decide) rfl
          have hKc := hK.sub (tys' := (mw_T g)) [0, 1, 2, 3, 4, 5, 6, 7, 8, 9, 10, 11, 12, 13, 14, 15, 16, 17, 18, 19] rfl
          have hFc := va_free (wc := (mw_W h q g I2 A2)) hD hS hA [0, 1, 2, 3, 4, 5, 6, 7, 8, 9, 10, 11, 12, 13, 14, 15, 16, 17, 18, 19, 20] rfl
          cases hg3 : f_M_addText I2 A2 (X 2) r2 with
          | none => rw [hg3] at hf; cases hf
          | some z3 =>
            obtain ⟨r3, I3, A3⟩ := z3
            rw [hg3] at hf
            dsimp only [Option.bind_some] at hf
            refine va_callv (va_runV (As := [.int (X 2), .int r2]) (rest := []) ⟨hx, hb, hml, hown, hts⟩ (cm_M_addText l dC dI h q g _ I2 A2 (X 2) r2 r3 I3 A3 hg3) (cwV 2 hts (gd_v lk_161 lk_162 lk_163 lk_46 lk_54) rfl rfl rfl (by decide +kernel) ⟨Nat.le_of_ble_eq_true rfl, Nat.le_of_ble_eq_true rfl⟩) ⟨fun a U g mk q => by obtain ⟨q0, q1, qP, qK, qD⟩ := q; exact ⟨q0, q1, qP, va_K.moved (u := U) (U := U.calling g mk a) (Vm.Alike.refl U.vm) qK, qD⟩, va_recv (ci := 4) (q0 := 0) hK hP rfl rfl, fun U hU hW => ⟨rfl, by rw [hU], by rw [hU]; exact hPc, va_K.moved hW.alike hKc, hDc.weaken (fun _ _ _ _ => trivial)⟩⟩ rfl rfl hl.1 rfl (lv_room (Nat.le_of_ble_eq_true rfl)) d_M_replace_79 ⟨Nat.le_of_ble_eq_true rfl, Nat.le_of_ble_eq_true rfl⟩) hS (fun q _ h => hFc q h) hFc (fun u t H1 locs ht hvm hw hB hz1 hk1 hS => ?_)
            obtain ⟨hP1, hK1, hD1⟩ := hB
            rw [ht] at hP1
            obtain ⟨hP, hD⟩ := va_join (wr := []) (w1 := (mw_W h q g I3 A3)) hP hD [0, 1, 2, 3, 4, 5, 6, 7, 8, 9, 10, 11, 12, 13, 14, 15, 16, 17, 18, 19, 20] [] rfl rfl (by decide) (by decide) hk1 hFc hP1 hD1
            generalize H1 = H at hP hS ⊢
            have hP : va_P (dC, dI) vwCl (mw_W h q g I3 A3) H := hP
            have hD : va_D B9 (mw_W h q g I3 A3) := hD
            refine lv_aload_n hx hb d_M_replace_82 rfl (lv_at hl 0 rfl) ?_
            refine lv_iload_n hx hb d_M_replace_83 rfl (lv_at hl 1 rfl) ?_
            refine lv_if_le (tgt := 110) hx hb d_M_replace_84 (by decide) (fun hc2 => ?_) (fun hc2 => ?_)
            ·
              have hf := wk_ift hc2 hf
              exact blk110 rc hrc36 I3 A3 X _ _ _ hf (lv_sub hl [0, 1, 2, 3] rfl) hP hD hS
            ·
              have hf := wk_iff hc2 hf
              refine lv_aload_n hx hb d_M_replace_87 rfl (lv_at hl 0 rfl) ?_
              refine va_get (D := (dC, dI)) (ci := 4) (v := .int (I3 36)) (C := R_M) (T := F_M) (N := 38) hx hb hts (fun w h => List.mem_cons_of_mem _ (in_M w h)) hown hK hP 0 rfl rfl 36 (by decide) (hts _ (List.mem_cons_of_mem _ lk_39)) (fun _ h9 => h9) rfl d_M_replace_88 ?_
              refine lv_sipush (v := 160) hx hb d_M_replace_91 (by decide) ?_
              refine lv_icmp_gt (tgt := 106) hx hb d_M_replace_94 (by decide) (fun hc3 => ?_) (fun hc3 => ?_)
              ·
                have hf := wk_ift hc3 hf
                exact blk106 rc hrc36 I3 A3 X _ _ _ hf (lv_sub hl [0, 1, 2, 3] rfl) hP hD hS
              ·
                have hf := wk_iff hc3 hf
                refine lv_aload_n hx hb d_M_replace_97 rfl (lv_at hl 0 rfl) ?_
                refine va_get (D := (dC, dI)) (ci := 4) (v := .int (I3 3)) (C := R_M) (T := F_M) (N := 38) hx hb hts (fun w h => List.mem_cons_of_mem _ (in_M w h)) hown hK hP 0 rfl rfl 3 (by decide) (hts _ (List.mem_cons_of_mem _ lk_147)) (fun _ h9 => h9) rfl d_M_replace_98 ?_
                refine lv_bipush (v := 40) hx hb d_M_replace_101 (by decide) ?_
                refine lv_icmp_ne (tgt := 110) hx hb d_M_replace_103 (by decide) (fun hc4 => ?_) (fun hc4 => ?_)
                ·
                  have hf := wk_iff hc4 hf
                  exact blk110 rc hrc36 I3 A3 X _ _ _ hf (lv_sub hl [0, 1, 2, 3] rfl) hP hD hS
                ·
                  have hf := wk_ift hc4 hf
                  exact blk106 rc hrc36 I3 A3 X _ _ _ hf (lv_sub hl [0, 1, 2, 3] rfl) hP hD hS
      ·
        have hf := wk_iff hc1 hf
        refine lv_aload_n hx hb d_M_replace_44 rfl (lv_at hl 0 rfl) ?_
        refine lv_iload_n hx hb d_M_replace_45 rfl (lv_at hl 2 rfl) ?_
        refine lv_aload_n hx hb d_M_replace_46 rfl (lv_at hl 0 rfl) ?_
        refine va_get (D := (dC, dI)) (ci := 4) (v := .int (I1 34)) (C := R_M) (T := F_M) (N := 38) hx hb hts (fun w h => List.mem_cons_of_mem _ (in_M w h)) hown hK hP 0 rfl rfl 34 (by decide) (hts _ (List.mem_cons_of_mem _ lk_171)) (fun _ h9 => h9) rfl d_M_replace_47 ?_
        have hPc := hP.sub (ws' := (mw_W h q g I1 A1)) [0, 1, 2, 3, 4, 5, 6, 7, 8, 9, 10, 11, 12, 13, 14, 15, 16, 17, 18, 19, 20] rfl
        have hDc := hD.sub (ws' := (mw_W h q g I1 A1)) [0, 1, 2, 3, 4, 5, 6, 7, 8, 9, 10, 11, 12, 13, 14, 15, 16, 17, 18, 19, 20] (by decide) rfl
        have hKc := hK.sub (tys' := (mw_T g)) [0, 1, 2, 3, 4, 5, 6, 7, 8, 9, 10, 11, 12, 13, 14, 15, 16, 17, 18, 19] rfl
        have hFc := va_free (wc := (mw_W h q g I1 A1)) hD hS hA [0, 1, 2, 3, 4, 5, 6, 7, 8, 9, 10, 11, 12, 13, 14, 15, 16, 17, 18, 19, 20] rfl
        cases hg2 : f_M_addText I1 A1 (X 2) (I1 34) with
        | none => rw [hg2] at hf; cases hf
        | some z2 =>
          obtain ⟨r2, I2, A2⟩ := z2
          rw [hg2] at hf
          dsimp only [Option.bind_some] at hf
          refine va_callv (va_runV (As := [.int (X 2), .int (I1 34)]) (rest := []) ⟨hx, hb, hml, hown, hts⟩ (cm_M_addText l dC dI h q g _ I1 A1 (X 2) (I1 34) r2 I2 A2 hg2) (cwV 2 hts (gd_v lk_161 lk_162 lk_163 lk_46 lk_54) rfl rfl rfl (by decide +kernel) ⟨Nat.le_of_ble_eq_true rfl, Nat.le_of_ble_eq_true rfl⟩) ⟨fun a U g mk q => by obtain ⟨q0, q1, qP, qK, qD⟩ := q; exact ⟨q0, q1, qP, va_K.moved (u := U) (U := U.calling g mk a) (Vm.Alike.refl U.vm) qK, qD⟩, va_recv (ci := 4) (q0 := 0) hK hP rfl rfl, fun U hU hW => ⟨rfl, by rw [hU], by rw [hU]; exact hPc, va_K.moved hW.alike hKc, hDc.weaken (fun _ _ _ _ => trivial)⟩⟩ rfl rfl hl.1 rfl (lv_room (Nat.le_of_ble_eq_true rfl)) d_M_replace_50 ⟨Nat.le_of_ble_eq_true rfl, Nat.le_of_ble_eq_true rfl⟩) hS (fun q _ h => hFc q h) hFc (fun u t H1 locs ht hvm hw hB hz1 hk1 hS => ?_)
          obtain ⟨hP1, hK1, hD1⟩ := hB
          rw [ht] at hP1
          obtain ⟨hP, hD⟩ := va_join (wr := []) (w1 := (mw_W h q g I2 A2)) hP hD [0, 1, 2, 3, 4, 5, 6, 7, 8, 9, 10, 11, 12, 13, 14, 15, 16, 17, 18, 19, 20] [] rfl rfl (by decide) (by decide) hk1 hFc hP1 hD1
          generalize H1 = H at hP hS ⊢
          have hP : va_P (dC, dI) vwCl (mw_W h q g I2 A2) H := hP
          have hD : va_D B9 (mw_W h q g I2 A2) := hD
          refine lv_aload_n hx hb d_M_replace_53 rfl (lv_at hl 0 rfl) ?_
          have hPc := hP.sub (ws' := (mw_W h q g I2 A2)) [0, 1, 2, 3, 4, 5, 6, 7, 8, 9, 10, 11, 12, 13, 14, 15, 16, 17, 18, 19, 20] rfl
          have hDc := hD.sub (ws' := (mw_W h q g I2 A2)) [0, 1, 2, 3, 4, 5, 6, 7, 8, 9, 10, 11, 12, 13, 14, 15, 16, 17, 18, 19, 20] (by decide) rfl
          have hKc := hK.sub (tys' := (mw_T g)) [0, 1, 2, 3, 4, 5, 6, 7, 8, 9, 10, 11, 12, 13, 14, 15, 16, 17, 18, 19] rfl
          have hFc := va_free (wc := (mw_W h q g I2 A2)) hD hS hA [0, 1, 2, 3, 4, 5, 6, 7, 8, 9, 10, 11, 12, 13, 14, 15, 16, 17, 18, 19, 20] rfl
          cases hg3 : f_M_addSlip I2 A2 with
          | none => rw [hg3] at hf; cases hf
          | some z3 =>
            obtain ⟨r3, I3, A3⟩ := z3
            rw [hg3] at hf
            dsimp only [Option.bind_some] at hf
            refine va_callv (va_runV (As := []) (rest := []) ⟨hx, hb, hml, hown, hts⟩ (cm_M_addSlip l dC dI h q g _ I2 A2 r3 I3 A3 hg3) (cwV 0 hts (gd_v lk_204 lk_205 lk_206 lk_46 lk_47) rfl rfl rfl (by decide +kernel) ⟨Nat.le_of_ble_eq_true rfl, Nat.le_of_ble_eq_true rfl⟩) ⟨fun a U g mk q => by obtain ⟨q0, q1, qP, qK, qD⟩ := q; exact ⟨q0, q1, qP, va_K.moved (u := U) (U := U.calling g mk a) (Vm.Alike.refl U.vm) qK, qD⟩, va_recv (ci := 4) (q0 := 0) hK hP rfl rfl, fun U hU hW => ⟨rfl, by rw [hU], by rw [hU]; exact hPc, va_K.moved hW.alike hKc, hDc.weaken (fun _ _ _ _ => trivial)⟩⟩ rfl rfl hl.1 rfl (lv_room (Nat.le_of_ble_eq_true rfl)) d_M_replace_54 ⟨Nat.le_of_ble_eq_true rfl, Nat.le_of_ble_eq_true rfl⟩) hS (fun q _ h => hFc q h) hFc (fun u t H1 locs ht hvm hw hB hz1 hk1 hS => ?_)
            obtain ⟨hP1, hK1, hD1⟩ := hB
            rw [ht] at hP1
            obtain ⟨hP, hD⟩ := va_join (wr := []) (w1 := (mw_W h q g I3 A3)) hP hD [0, 1, 2, 3, 4, 5, 6, 7, 8, 9, 10, 11, 12, 13, 14, 15, 16, 17, 18, 19, 20] [] rfl rfl (by decide) (by decide) hk1 hFc hP1 hD1
            generalize H1 = H at hP hS ⊢
            have hP : va_P (dC, dI) vwCl (mw_W h q g I3 A3) H := hP
            have hD : va_D B9 (mw_W h q g I3 A3) := hD
            refine lv_aload_n hx hb d_M_replace_57 rfl (lv_at hl 0 rfl) ?_
            refine va_get (D := (dC, dI)) (ci := 4) (v := .int (I3 36)) (C := R_M) (T := F_M) (N := 38) hx hb hts (fun w h => List.mem_cons_of_mem _ (in_M w h)) hown hK hP 0 rfl rfl 36 (by decide) (hts _ (List.mem_cons_of_mem _ lk_39)) (fun _ h9 => h9) rfl d_M_replace_58 ?_
            refine lv_istore_n (lv' := [(3, .int (I3 36)), (0, .ref h), (1, .int (X 1)), (2, .int (X 2))]) hx hb d_M_replace_61 rfl hl (by decide) rfl (fun ls hl => ?_)
            have hl : lv_has ls 4 [(3, .int (I3 36)), (0, .ref h), (1, .int (X 1)), (2, .int (X 2))] := hl
            refine lv_aload_n hx hb d_M_replace_62 rfl (lv_at hl 1 rfl) ?_
            refine va_get (D := (dC, dI)) (ci := 4) (v := .int (I3 35)) (C := R_M) (T := F_M) (N := 38) hx hb hts (fun w h => List.mem_cons_of_mem _ (in_M w h)) hown hK hP 0 rfl rfl 35 (by decide) (hts _ (List.mem_cons_of_mem _ lk_170)) (fun _ h9 => h9) rfl d_M_replace_63 ?_
            refine lv_istore_n (lv' := [(2, .int (I3 35)), (3, .int (I3 36)), (0, .ref h), (1, .int (X 1))]) hx hb d_M_replace_66 rfl hl (by decide) rfl (fun ls hl => ?_)
            have hl : lv_has ls 4 [(2, .int (I3 35)), (3, .int (I3 36)), (0, .ref h), (1, .int (X 1))] := hl
            refine lv_iinc (k := 3) (v := ((X 1) + 1)) (lv' := [(1, .int ((X 1) + 1)), (2, .int (I3 35)), (3, .int (I3 36)), (0, .ref h)]) hx hb d_M_replace_67 hl rfl (wk_inc (by decide)) (by decide) rfl (fun ls hl => ?_)
            have hl : lv_has ls 4 [(1, .int ((X 1) + 1)), (2, .int (I3 35)), (3, .int (I3 36)), (0, .ref h)] := hl
            refine lv_goto (tgt := 36) hx hb d_M_replace_70 (by decide) ?_
            exact hrc36 I3 A3 (upd (upd (upd X 1 ((X 1) + 1)) 2 (I3 35)) 3 (I3 36)) _ _ _ hf (lv_sub hl [3, 0, 1, 2] rfl) hP hD hS
  have key : ∀ n : Nat, (∀ (I : MI) (A : MA) (X : Nat → Int32) (ls : Array Slot) (H : Heap) (locs : List Loc), f_M_replace_go n 36 I A X = some (r, I', A') → lv_has ls 4 [(0, .ref h), (1, .int (X 1)), (2, .int (X 2)), (3, .int (X 3))] → va_P (dC, dI) vwCl (mw_W h q g I A) H → va_D B9 (mw_W h q g I A) → va_S B9 s.heap H locs → W p l e (headSpec w_M_replace ({ frames := 5, cells := 0, slots := 0, locals := 115 })).room s m ([.ref h] : List Value).toArray below meth c H locs 0 0 (MQ below (va_Qi (fun (r9 : Int32) (_ : Unit) => r9 = r) (fun (_ : Unit) t => va_P (dC, dI) vwCl (mw_W h q g I' A') t.heap ∧ va_K (dC, dI) vwCl (mw_T g) t ∧ va_D B9 (mw_W h q g I' A')) B9) ([.ref h] : List Value).toArray s 0 0 B9) (F0 m 36 ls [])) := by
    intro n
    induction n with
    | zero => exact fun I A X ls H locs hf => (by cases hf)
    | succ n ih =>
      have ih36 := ih
      exact stp36 (f_M_replace_go n) ih36
  unfold f_M_replace f_M_replace_e at hf
  have hrc36 := key wk_FUEL
  refine lv_aload_n hx hb d_M_replace_0 rfl (lv_at hl 0 rfl) ?_
  refine lv_aload_n hx hb d_M_replace_1 rfl (lv_at hl 0 rfl) ?_
  refine va_get (D := (dC, dI)) (ci := 4) (v := .int (I 13)) (C := R_M) (T := F_M) (N := 38) hx hb hts (fun w h => List.mem_cons_of_mem _ (in_M w h)) hown hK hP 0 rfl rfl 13 (by decide) (hts _ (List.mem_cons_of_mem _ lk_142)) (fun _ h9 => h9) rfl d_M_replace_2 ?_
  refine lv_if_eq (tgt := 12) hx hb d_M_replace_5 (by decide) (fun hc1 => ?_) (fun hc1 => ?_)
  ·
    have hf := wk_ift hc1 hf
    refine lv_iconst (v := 1) hx hb d_M_replace_12 (by decide) ?_
    exact blk13 _ hrc36 I A (fun _ => 0) 1 _ _ _ hf (lv_sub hl [0] rfl) hP hD hS
  ·
    have hf := wk_iff hc1 hf
    refine lv_iconst (v := 0) hx hb d_M_replace_8 (by decide) ?_
    refine lv_goto (tgt := 13) hx hb d_M_replace_9 (by decide) ?_
    exact blk13 _ hrc36 I A (fun _ => 0) 0 _ _ _ hf (lv_sub hl [0] rfl) hP hD hS

-- 16.mcon12
set_option maxHeartbeats 8000000 in
set_option maxRecDepth 100000 in
theorem cm_M_thrown (l : Launch) (dC : Nat → ClassId) (dI : Nat → Nat → Nat) (h : Nat) (q : Nat → Nat) (g : Nat → ClassId) (sz : Nat) (I : MI) (A : MA) (r : Int32) (I' : MI) (A' : MA) (hf : f_M_thrown I A  = some (r, I', A')) : Met l y_M_thrown w_M_thrown ({ frames := 0, cells := 0, slots := 0, locals := 0 }) (va_Pc [.ref h] (fun U => U.heap.size = sz ∧ va_P (dC, dI) vwCl (mw_W h q g I A) U.heap ∧ va_K (dC, dI) vwCl (mw_T g) U ∧ va_D (fun _ => True) (mw_W h q g I A))) (va_Qi (fun (r9 : Int32) (_ : Unit) => r9 = r) (fun (_ : Unit) t => va_P (dC, dI) vwCl (mw_W h q g I' A') t.heap ∧ va_K (dC, dI) vwCl (mw_T g) t ∧ va_D (va_A (mw_W h q g I A) sz) (mw_W h q g I' A')) (va_A (mw_W h q g I A) sz)) 0 0 (va_A (mw_W h q g I A) sz) := by
  refine Met.ofW (cc := prog_6_method_2_code) (maxL := 1) (ret := (some .int)) (by decide) rfl ?_
  intro p e s m args below meth c s₁ B hml hv
  obtain ⟨rfl, hsz, hP, hK, hD0⟩ := hv
  have hx := B.exec
  have hb := B.bytes
  have hr := B.returns
  have hts := atoms_spec (ws := w_M_thrown) B.pre
  have hown : s.vm.findClass R_M = some m.cls := findClass_of_methodNamed B.named
  have hlocks := B.notSynchronized
  subst hsz
  have hD := hD0.self (sz := s.heap.size)
  generalize hAe : va_A (mw_W h q g I A) s.heap.size = B9 at hD ⊢
  have hA : ∀ q : Nat, s.heap.size ≤ q → B9 q := fun q h => by rw [← hAe]; exact Or.inr h
  clear hAe
  have hS : va_S B9 s.heap s.heap [] := va_S.rf
  have hl := lv_entry ([.ref h]) (n := 1) (Nat.le_of_ble_eq_true rfl)
  rw [lg_entry_eq]
  generalize (lg_sl ([.ref h]) ++ List.replicate (1 - (lg_sl ([.ref h])).length) Slot.unset).toArray = ls at hl ⊢
  have hl : lv_has ls 1 [(0, .ref h)] := hl
  unfold f_M_thrown at hf
  refine lv_aload_n hx hb d_M_thrown_0 rfl (lv_at hl 0 rfl) ?_
  refine va_get (D := (dC, dI)) (ci := 4) (v := .int (I 0)) (C := R_M) (T := F_M) (N := 38) hx hb hts (fun w h => List.mem_cons_of_mem _ (in_M w h)) hown hK hP 0 rfl rfl 0 (by decide) (hts _ (List.mem_cons_of_mem _ lk_60)) (fun _ h9 => h9) rfl d_M_thrown_1 ?_
  obtain ⟨e1, e2, e3⟩ := wk_inj hf
  subst e1
  subst e2
  subst e3
  exact W.iret (v := (I 0)) hx hb hr (fun t ht hW => ⟨⟨(I 0), (), rfl, rfl, by rw [ht]; exact hP, va_K.moved hW.alike hK, hD⟩, hS.F ht⟩) hS.2.2 d_M_thrown_4

set_option maxHeartbeats 8000000 in
set_option maxRecDepth 100000 in
theorem cm_M_type (l : Launch) (dC : Nat → ClassId) (dI : Nat → Nat → Nat) (h : Nat) (q : Nat → Nat) (g : Nat → ClassId) (sz : Nat) (I : MI) (A : MA) (k1 : Int32) (r : Int32) (I' : MI) (A' : MA) (hf : f_M_type I A k1 = some (r, I', A')) : Met l y_M_type w_M_type ({ frames := 1, cells := 0, slots := 0, locals := 20 }) (va_Pc [.ref h, .int k1] (fun U => U.heap.size = sz ∧ va_P (dC, dI) vwCl (mw_W h q g I A) U.heap ∧ va_K (dC, dI) vwCl (mw_T g) U ∧ va_D (fun _ => True) (mw_W h q g I A))) (va_Qi (fun (r9 : Int32) (_ : Unit) => r9 = r) (fun (_ : Unit) t => va_P (dC, dI) vwCl (mw_W h q g I' A') t.heap ∧ va_K (dC, dI) vwCl (mw_T g) t ∧ va_D (va_A (mw_W h q g I A) sz) (mw_W h q g I' A')) (va_A (mw_W h q g I A) sz)) 0 0 (va_A (mw_W h q g I A) sz) := by
  refine Met.ofW (cc := prog_6_method_4_code) (maxL := 2) (ret := (some .boolean)) (by decide) rfl ?_
  intro p e s m args below meth c s₁ B hml hv
  obtain ⟨rfl, hsz, hP, hK, hD0⟩ := hv
  have hx := B.exec
  have hb := B.bytes
  have hr := B.returns
  have hts := atoms_spec (ws := w_M_type) B.pre
  have hown : s.vm.findClass R_M = some m.cls := findClass_of_methodNamed B.named
  have hlocks := B.notSynchronized
  subst hsz
  have hD := hD0.self (sz := s.heap.size)
  generalize hAe : va_A (mw_W h q g I A) s.heap.size = B9 at hD ⊢
  have hA : ∀ q : Nat, s.heap.size ≤ q → B9 q := fun q h => by rw [← hAe]; exact Or.inr h
  clear hAe
  have hS : va_S B9 s.heap s.heap [] := va_S.rf
  have hl := lv_entry ([.ref h, .int k1]) (n := 2) (Nat.le_of_ble_eq_true rfl)
  rw [lg_entry_eq]
  generalize (lg_sl ([.ref h, .int k1]) ++ List.replicate (2 - (lg_sl ([.ref h, .int k1])).length) Slot.unset).toArray = ls at hl ⊢
  have hl : lv_has ls 2 [(0, .ref h), (1, .int k1)] := hl
  have blk21 : ∀ (I : MI) (A : MA) (X : Nat → Int32) (ls : Array Slot) (H : Heap) (locs : List Loc), f_M_type_21 I A X = some (r, I', A') → lv_has ls 2 [(0, .ref h), (1, .int (X 1))] → va_P (dC, dI) vwCl (mw_W h q g I A) H → va_D B9 (mw_W h q g I A) → va_S B9 s.heap H locs → W p l e (headSpec w_M_type ({ frames := 1, cells := 0, slots := 0, locals := 20 })).room s m ([.ref h, .int k1] : List Value).toArray below meth c H locs 0 0 (MQ below (va_Qi (fun (r9 : Int32) (_ : Unit) => r9 = r) (fun (_ : Unit) t => va_P (dC, dI) vwCl (mw_W h q g I' A') t.heap ∧ va_K (dC, dI) vwCl (mw_T g) t ∧ va_D B9 (mw_W h q g I' A')) B9) ([.ref h, .int k1] : List Value).toArray s 0 0 B9) (F0 m 21 ls []) := by
    intro I A X ls H locs hf hl hP hD hS
    unfold f_M_type_21 at hf
    refine lv_iconst (v := 0) hx hb d_M_type_21 (by decide) ?_
    obtain ⟨e1, e2, e3⟩ := wk_inj hf
    subst e1
    subst e2
    subst e3
    exact W.zret (v := 0) hx hb hr rfl (fun t ht hW => ⟨⟨0, (), rfl, rfl, by rw [ht]; exact hP, va_K.moved hW.alike hK, hD⟩, hS.F ht⟩) hS.2.2 d_M_type_22
  unfold f_M_type at hf
  refine lv_aload_n hx hb d_M_type_0 rfl (lv_at hl 0 rfl) ?_
  refine lv_iconst (v := 0) hx hb d_M_type_1 (by decide) ?_
  refine va_put (D := (dC, dI)) (ci := 4) (v := .int 0) (ty := .int) (C := R_M) (T := F_M) (N := 38) hx hb hts (fun w h => List.mem_cons_of_mem _ (in_M w h)) t_M tk_M n_M hown hK hP hD hS 0 rfl rfl 0 (by decide) (hts _ (List.mem_cons_of_mem _ lk_60)) (fun _ h9 => h9) rfl (by decide +kernel) rfl rfl (Nat.le_of_ble_eq_true rfl) d_M_type_2 (fun H locs hP hD hS => ?_)
  obtain ⟨I1, hI1, hf⟩ := wk_letE hf
  have hP : va_P (dC, dI) vwCl (mw_W h q g I1 A) H := by rw [hI1]; exact hP
  have hD : va_D B9 (mw_W h q g I1 A) := by rw [hI1]; exact hD
  clear hI1
  refine lv_iload_n hx hb d_M_type_5 rfl (lv_at hl 1 rfl) ?_
  have hPc := hP.sub (ws' := []) [] rfl
  have hDc := hD.sub (ws' := []) [] (by decide) rfl
  have hKc := hK.sub (tys' := []) [] rfl
  have hFc := va_free (wc := []) hD hS hA [] rfl
  cases hg2 : f_M_isCharacter  k1 with
  | none => rw [hg2] at hf; cases hf
  | some z2 =>
    rw [hg2] at hf
    dsimp only [Option.bind_some] at hf
    refine va_calli (va_runS (As := [.int k1]) (rest := []) ⟨hx, hb, hml, hown, hts⟩ (cm_M_isCharacter l dC dI  _  k1 z2 hg2) (cwS 1 hts (gd_s lk_223 lk_224 lk_46 lk_208) rfl rfl rfl (by decide +kernel) ⟨Nat.le_of_ble_eq_true rfl, Nat.le_of_ble_eq_true rfl⟩) ⟨fun a U g mk q => by obtain ⟨q0, q1, qP, qK, qD⟩ := q; exact ⟨q0, q1, qP, va_K.moved (u := U) (U := U.calling g mk a) (Vm.Alike.refl U.vm) qK, qD⟩, fun U hU hW => ⟨rfl, by rw [hU], by rw [hU]; exact hPc, va_K.moved hW.alike hKc, hDc.weaken (fun _ _ _ _ => trivial)⟩⟩ rfl rfl hl.1 rfl (lv_room (Nat.le_of_ble_eq_true rfl)) d_M_type_6 ⟨Nat.le_of_ble_eq_true rfl, Nat.le_of_ble_eq_true rfl⟩) hS (fun q _ h => hFc q h) hFc (fun r9 u t H1 locs ht hvm hw hB hz1 hk1 hS => ?_)
    obtain ⟨hP1, hK1, hD1⟩ := hB
    rw [ht] at hP1
    rw [hw]
    obtain ⟨hP, hD⟩ := va_join (wr := (mw_W h q g I1 A)) (w1 := []) hP hD [] [0, 1, 2, 3, 4, 5, 6, 7, 8, 9, 10, 11, 12, 13, 14, 15, 16, 17, 18, 19, 20] rfl rfl (by decide) (by decide) hk1 hFc hP1 hD1
    generalize H1 = H at hP hS ⊢
    have hP : va_P (dC, dI) vwCl (mw_W h q g I1 A) H := hP
    have hD : va_D B9 (mw_W h q g I1 A) := hD
    refine lv_if_eq (tgt := 21) hx hb d_M_type_9 (by decide) (fun hc1 => ?_) (fun hc1 => ?_)
    ·
      have hf := wk_ift hc1 hf
      exact blk21 I1 A (upd (fun _ => 0) 1 k1) _ _ _ hf (lv_sub hl [0, 1] rfl) hP hD hS
    ·
      have hf := wk_iff hc1 hf
      refine lv_aload_n hx hb d_M_type_12 rfl (lv_at hl 0 rfl) ?_
      refine va_get (D := (dC, dI)) (ci := 4) (v := .int (I1 1)) (C := R_M) (T := F_M) (N := 38) hx hb hts (fun w h => List.mem_cons_of_mem _ (in_M w h)) hown hK hP 0 rfl rfl 1 (by decide) (hts _ (List.mem_cons_of_mem _ lk_41)) (fun _ h9 => h9) rfl d_M_type_13 ?_
      refine lv_bipush (v := 24) hx hb d_M_type_16 (by decide) ?_
      refine lv_icmp_ne (tgt := 23) hx hb d_M_type_18 (by decide) (fun hc2 => ?_) (fun hc2 => ?_)
      ·
        have hf := wk_iff hc2 hf
        refine lv_aload_n hx hb d_M_type_23 rfl (lv_at hl 0 rfl) ?_
        refine va_get (D := (dC, dI)) (ci := 4) (v := .ref (q 2)) (C := R_M) (T := F_M) (N := 38) hx hb hts (fun w h => List.mem_cons_of_mem _ (in_M w h)) hown hK hP 0 rfl rfl 2 (by decide) (hts _ (List.mem_cons_of_mem _ lk_42)) (fun _ h9 => h9) rfl d_M_type_24 ?_
        refine lv_aload_n hx hb d_M_type_27 rfl (lv_at hl 0 rfl) ?_
        refine va_get (D := (dC, dI)) (ci := 4) (v := .int (I1 1)) (C := R_M) (T := F_M) (N := 38) hx hb hts (fun w h => List.mem_cons_of_mem _ (in_M w h)) hown hK hP 0 rfl rfl 1 (by decide) (hts _ (List.mem_cons_of_mem _ lk_41)) (fun _ h9 => h9) rfl d_M_type_28 ?_
        refine lv_iload_n hx hb d_M_type_31 rfl (lv_at hl 1 rfl) ?_
        obtain ⟨hc3, hf⟩ := wk_if hf
        refine va_cast hx hb hK hP hD hS 1 0 rfl rfl (wk_inb_ok hc3) d_M_type_32 (fun H locs hP hD hS => ?_)
        obtain ⟨A3, hA3, hf⟩ := wk_letE hf
        have hP : va_P (dC, dI) vwCl (mw_W h q g I1 A3) H := by rw [hA3]; exact hP
        have hD : va_D B9 (mw_W h q g I1 A3) := by rw [hA3]; exact hD
        clear hA3
        refine lv_aload_n hx hb d_M_type_33 rfl (lv_at hl 0 rfl) ?_
        refine lv_dup hx hb d_M_type_34 rfl ?_
        refine va_get (D := (dC, dI)) (ci := 4) (v := .int (I1 1)) (C := R_M) (T := F_M) (N := 38) hx hb hts (fun w h => List.mem_cons_of_mem _ (in_M w h)) hown hK hP 0 rfl rfl 1 (by decide) (hts _ (List.mem_cons_of_mem _ lk_41)) (fun _ h9 => h9) rfl d_M_type_35 ?_
        refine lv_iconst (v := 1) hx hb d_M_type_38 (by decide) ?_
        refine lv_iadd hx hb d_M_type_39 ?_
        refine va_put (D := (dC, dI)) (ci := 4) (v := .int ((I1 1) + 1)) (ty := .int) (C := R_M) (T := F_M) (N := 38) hx hb hts (fun w h => List.mem_cons_of_mem _ (in_M w h)) t_M tk_M n_M hown hK hP hD hS 0 rfl rfl 1 (by decide) (hts _ (List.mem_cons_of_mem _ lk_41)) (fun _ h9 => h9) rfl (by decide +kernel) rfl rfl (Nat.le_of_ble_eq_true rfl) d_M_type_40 (fun H locs hP hD hS => ?_)
        obtain ⟨I4, hI4, hf⟩ := wk_letE hf
        have hP : va_P (dC, dI) vwCl (mw_W h q g I4 A3) H := by rw [hI4]; exact hP
        have hD : va_D B9 (mw_W h q g I4 A3) := by rw [hI4]; exact hD
        clear hI4
        refine lv_iconst (v := 1) hx hb d_M_type_43 (by decide) ?_
        obtain ⟨e1, e2, e3⟩ := wk_inj hf
        subst e1
        subst e2
        subst e3
        exact W.zret (v := 1) hx hb hr rfl (fun t ht hW => ⟨⟨1, (), rfl, rfl, by rw [ht]; exact hP, va_K.moved hW.alike hK, hD⟩, hS.F ht⟩) hS.2.2 d_M_type_44
      ·
        have hf := wk_ift hc2 hf
        exact blk21 I1 A (upd (fun _ => 0) 1 k1) _ _ _ hf (lv_sub hl [0, 1] rfl) hP hD hS

set_option maxHeartbeats 8000000 in
set_option maxRecDepth 100000 in
theorem cm_M_undo (l : Launch) (dC : Nat → ClassId) (dI : Nat → Nat → Nat) (h : Nat) (q : Nat → Nat) (g : Nat → ClassId) (sz : Nat) (I : MI) (A : MA) (r : Int32) (I' : MI) (A' : MA) (hf : f_M_undo I A  = some (r, I', A')) : Met l y_M_undo w_M_undo ({ frames := 1, cells := 0, slots := 0, locals := 21 }) (va_Pc [.ref h] (fun U => U.heap.size = sz ∧ va_P (dC, dI) vwCl (mw_W h q g I A) U.heap ∧ va_K (dC, dI) vwCl (mw_T g) U ∧ va_D (fun _ => True) (mw_W h q g I A))) (va_Qi (fun (r9 : Int32) (_ : Unit) => r9 = r) (fun (_ : Unit) t => va_P (dC, dI) vwCl (mw_W h q g I' A') t.heap ∧ va_K (dC, dI) vwCl (mw_T g) t ∧ va_D (va_A (mw_W h q g I A) sz) (mw_W h q g I' A')) (va_A (mw_W h q g I A) sz)) 0 0 (va_A (mw_W h q g I A) sz) := by
  refine Met.ofW (cc := prog_6_method_18_code) (maxL := 1) (ret := (some .int)) (by decide) rfl ?_
  intro p e s m args below meth c s₁ B hml hv
  obtain ⟨rfl, hsz, hP, hK, hD0⟩ := hv
  have hx := B.exec
  have hb := B.bytes
  have hr := B.returns
  have hts := atoms_spec (ws := w_M_undo) B.pre
  have hown : s.vm.findClass R_M = some m.cls := findClass_of_methodNamed B.named
  have hlocks := B.notSynchronized
  subst hsz
  have hD := hD0.self (sz := s.heap.size)
  generalize hAe : va_A (mw_W h q g I A) s.heap.size = B9 at hD ⊢
  have hA : ∀ q : Nat, s.heap.size ≤ q → B9 q := fun q h => by rw [← hAe]; exact Or.inr h
  clear hAe
  have hS : va_S B9 s.heap s.heap [] := va_S.rf
  have hl := lv_entry ([.ref h]) (n := 1) (Nat.le_of_ble_eq_true rfl)
  rw [lg_entry_eq]
  generalize (lg_sl ([.ref h]) ++ List.replicate (1 - (lg_sl ([.ref h])).length) Slot.unset).toArray = ls at hl ⊢
  have hl : lv_has ls 1 [(0, .ref h)] := hl
  have blk51 : ∀ (I : MI) (A : MA) (X : Nat → Int32) (s0 : Int32) (ls : Array Slot) (H : Heap) (locs : List Loc), f_M_undo_51 I A X s0 = some (r, I', A') → lv_has ls 1 [(0, .ref h)] → va_P (dC, dI) vwCl (mw_W h q g I A) H → va_D B9 (mw_W h q g I A) → va_S B9 s.heap H locs → W p l e (headSpec w_M_undo ({ frames := 1, cells := 0, slots := 0, locals := 21 })).room s m ([.ref h] : List Value).toArray below meth c H locs 0 0 (MQ below (va_Qi (fun (r9 : Int32) (_ : Unit) => r9 = r) (fun (_ : Unit) t => va_P (dC, dI) vwCl (mw_W h q g I' A') t.heap ∧ va_K (dC, dI) vwCl (mw_T g) t ∧ va_D B9 (mw_W h q g I' A')) B9) ([.ref h] : List Value).toArray s 0 0 B9) (F0 m 51 ls [.int s0]) := by
    intro I A X s0 ls H locs hf hl hP hD hS
    unfold f_M_undo_51 at hf
    obtain ⟨e1, e2, e3⟩ := wk_inj hf
    subst e1
    subst e2
    subst e3
    exact W.iret (v := s0) hx hb hr (fun t ht hW => ⟨⟨s0, (), rfl, rfl, by rw [ht]; exact hP, va_K.moved hW.alike hK, hD⟩, hS.F ht⟩) hS.2.2 d_M_undo_51
  have blk36 : ∀ (I : MI) (A : MA) (X : Nat → Int32) (ls : Array Slot) (H : Heap) (locs : List Loc), f_M_undo_36 I A X = some (r, I', A') → lv_has ls 1 [(0, .ref h)] → va_P (dC, dI) vwCl (mw_W h q g I A) H → va_D B9 (mw_W h q g I A) → va_S B9 s.heap H locs → W p l e (headSpec w_M_undo ({ frames := 1, cells := 0, slots := 0, locals := 21 })).room s m ([.ref h] : List Value).toArray below meth c H locs 0 0 (MQ below (va_Qi (fun (r9 : Int32) (_ : Unit) => r9 = r) (fun (_ : Unit) t => va_P (dC, dI) vwCl (mw_W h q g I' A') t.heap ∧ va_K (dC, dI) vwCl (mw_T g) t ∧ va_D B9 (mw_W h q g I' A')) B9) ([.ref h] : List Value).toArray s 0 0 B9) (F0 m 36 ls []) := by
    intro I A X ls H locs hf hl hP hD hS
    unfold f_M_undo_36 at hf
    refine lv_aload_n hx hb d_M_undo_36 rfl (lv_at hl 0 rfl) ?_
    refine va_get (D := (dC, dI)) (ci := 4) (v := .int (I 0)) (C := R_M) (T := F_M) (N := 38) hx hb hts (fun w h => List.mem_cons_of_mem _ (in_M w h)) hown hK hP 0 rfl rfl 0 (by decide) (hts _ (List.mem_cons_of_mem _ lk_60)) (fun _ h9 => h9) rfl d_M_undo_37 ?_
    refine lv_if_ne (tgt := 50) hx hb d_M_undo_40 (by decide) (fun hc1 => ?_) (fun hc1 => ?_)
    ·
      have hf := wk_iff hc1 hf
      refine lv_iconst (v := 0) hx hb d_M_undo_50 (by decide) ?_
      exact blk51 I A X 0 _ _ _ hf (lv_sub hl [0] rfl) hP hD hS
    ·
      have hf := wk_ift hc1 hf
      refine lv_aload_n hx hb d_M_undo_43 rfl (lv_at hl 0 rfl) ?_
      refine va_get (D := (dC, dI)) (ci := 4) (v := .int (I 4)) (C := R_M) (T := F_M) (N := 38) hx hb hts (fun w h => List.mem_cons_of_mem _ (in_M w h)) hown hK hP 0 rfl rfl 4 (by decide) (hts _ (List.mem_cons_of_mem _ lk_49)) (fun _ h9 => h9) rfl d_M_undo_44 ?_
      refine lv_goto (tgt := 51) hx hb d_M_undo_47 (by decide) ?_
      exact blk51 I A X (I 4) _ _ _ hf (lv_sub hl [0] rfl) hP hD hS
  have blk13 : ∀ (I : MI) (A : MA) (X : Nat → Int32) (s0 : Int32) (ls : Array Slot) (H : Heap) (locs : List Loc), f_M_undo_13 I A X s0 = some (r, I', A') → lv_has ls 1 [(0, .ref h)] → va_P (dC, dI) vwCl (mw_W h q g I A) H → va_D B9 (mw_W h q g I A) → va_S B9 s.heap H locs → W p l e (headSpec w_M_undo ({ frames := 1, cells := 0, slots := 0, locals := 21 })).room s m ([.ref h] : List Value).toArray below meth c H locs 0 0 (MQ below (va_Qi (fun (r9 : Int32) (_ : Unit) => r9 = r) (fun (_ : Unit) t => va_P (dC, dI) vwCl (mw_W h q g I' A') t.heap ∧ va_K (dC, dI) vwCl (mw_T g) t ∧ va_D B9 (mw_W h q g I' A')) B9) ([.ref h] : List Value).toArray s 0 0 B9) (F0 m 13 ls [.int s0, .ref h]) := by
    intro I A X s0 ls H locs hf hl hP hD hS
    unfold f_M_undo_13 at hf
    refine va_put (D := (dC, dI)) (ci := 4) (v := .int s0) (ty := .int) (C := R_M) (T := F_M) (N := 38) hx hb hts (fun w h => List.mem_cons_of_mem _ (in_M w h)) t_M tk_M n_M hown hK hP hD hS 0 rfl rfl 0 (by decide) (hts _ (List.mem_cons_of_mem _ lk_60)) (fun _ h9 => h9) rfl (by decide +kernel) rfl rfl (Nat.le_of_ble_eq_true rfl) d_M_undo_13 (fun H locs hP hD hS => ?_)
    obtain ⟨I1, hI1, hf⟩ := wk_letE hf
    have hP : va_P (dC, dI) vwCl (mw_W h q g I1 A) H := by rw [hI1]; exact hP
    have hD : va_D B9 (mw_W h q g I1 A) := by rw [hI1]; exact hD
    clear hI1
    refine lv_aload_n hx hb d_M_undo_16 rfl (lv_at hl 0 rfl) ?_
    refine va_get (D := (dC, dI)) (ci := 4) (v := .int (I1 0)) (C := R_M) (T := F_M) (N := 38) hx hb hts (fun w h => List.mem_cons_of_mem _ (in_M w h)) hown hK hP 0 rfl rfl 0 (by decide) (hts _ (List.mem_cons_of_mem _ lk_60)) (fun _ h9 => h9) rfl d_M_undo_17 ?_
    refine lv_if_ne (tgt := 36) hx hb d_M_undo_20 (by decide) (fun hc1 => ?_) (fun hc1 => ?_)
    ·
      have hf := wk_iff hc1 hf
      exact blk36 I1 A X _ _ _ hf (lv_sub hl [0] rfl) hP hD hS
    ·
      have hf := wk_ift hc1 hf
      refine lv_aload_n hx hb d_M_undo_23 rfl (lv_at hl 0 rfl) ?_
      refine lv_aload_n hx hb d_M_undo_24 rfl (lv_at hl 0 rfl) ?_
      refine va_get (D := (dC, dI)) (ci := 4) (v := .ref (q 8)) (C := R_M) (T := F_M) (N := 38) hx hb hts (fun w h => List.mem_cons_of_mem _ (in_M w h)) hown hK hP 0 rfl rfl 8 (by decide) (hts _ (List.mem_cons_of_mem _ lk_148)) (fun _ h9 => h9) rfl d_M_undo_25 ?_
      refine lv_aload_n hx hb d_M_undo_28 rfl (lv_at hl 0 rfl) ?_
      refine va_get (D := (dC, dI)) (ci := 4) (v := .int (I1 4)) (C := R_M) (T := F_M) (N := 38) hx hb hts (fun w h => List.mem_cons_of_mem _ (in_M w h)) hown hK hP 0 rfl rfl 4 (by decide) (hts _ (List.mem_cons_of_mem _ lk_49)) (fun _ h9 => h9) rfl d_M_undo_29 ?_
      obtain ⟨hc2, hf⟩ := wk_if hf
      refine va_iald hx hb hK hP 5 4 rfl rfl (wk_inb_ok hc2) d_M_undo_32 ?_
      have hPc := hP.sub (ws' := (mw_W h q g I1 A)) [0, 1, 2, 3, 4, 5, 6, 7, 8, 9, 10, 11, 12, 13, 14, 15, 16, 17, 18, 19, 20] rfl
      have hDc := hD.sub (ws' := (mw_W h q g I1 A)) [0, 1, 2, 3, 4, 5, 6, 7, 8, 9, 10, 11, 12, 13, 14, 15, 16, 17, 18, 19, 20] (by decide) rfl
      have hKc := hK.sub (tys' := (mw_T g)) [0, 1, 2, 3, 4, 5, 6, 7, 8, 9, 10, 11, 12, 13, 14, 15, 16, 17, 18, 19] rfl
      have hFc := va_free (wc := (mw_W h q g I1 A)) hD hS hA [0, 1, 2, 3, 4, 5, 6, 7, 8, 9, 10, 11, 12, 13, 14, 15, 16, 17, 18, 19, 20] rfl
      cases hg2 : f_M_come I1 A ((A 8) ((I1 4)).toNatClampNeg) with
      | none => rw [hg2] at hf; cases hf
      | some z2 =>
        obtain ⟨r2, I2, A2⟩ := z2
        rw [hg2] at hf
        dsimp only [Option.bind_some] at hf
        refine va_callv (va_runV (As := [.int ((A 8) ((I1 4)).toNatClampNeg)]) (rest := []) ⟨hx, hb, hml, hown, hts⟩ (cm_M_come l dC dI h q g _ I1 A ((A 8) ((I1 4)).toNatClampNeg) r2 I2 A2 hg2) (cwV 1 hts (gd_v lk_149 lk_150 lk_151 lk_46 lk_130) rfl rfl rfl (by decide +kernel) ⟨Nat.le_of_ble_eq_true rfl, Nat.le_of_ble_eq_true rfl⟩) ⟨fun a U g mk q => by obtain ⟨q0, q1, qP, qK, qD⟩ := q; exact ⟨q0, q1, qP, va_K.moved (u := U) (U := U.calling g mk a) (Vm.Alike.refl U.vm) qK, qD⟩, va_recv (ci := 4) (q0 := 0) hK hP rfl rfl, fun U hU hW => ⟨rfl, by rw [hU], by rw [hU]; exact hPc, va_K.moved hW.alike hKc, hDc.weaken (fun _ _ _ _ => trivial)⟩⟩ rfl rfl hl.1 rfl (lv_room (Nat.le_of_ble_eq_true rfl)) d_M_undo_33 ⟨Nat.le_of_ble_eq_true rfl, Nat.le_of_ble_eq_true rfl⟩) hS (fun q _ h => hFc q h) hFc (fun u t H1 locs ht hvm hw hB hz1 hk1 hS => ?_)
        obtain ⟨hP1, hK1, hD1⟩ := hB
        rw [ht] at hP1
        obtain ⟨hP, hD⟩ := va_join (wr := []) (w1 := (mw_W h q g I2 A2)) hP hD [0, 1, 2, 3, 4, 5, 6, 7, 8, 9, 10, 11, 12, 13, 14, 15, 16, 17, 18, 19, 20] [] rfl rfl (by decide) (by decide) hk1 hFc hP1 hD1
        generalize H1 = H at hP hS ⊢
        have hP : va_P (dC, dI) vwCl (mw_W h q g I2 A2) H := hP
        have hD : va_D B9 (mw_W h q g I2 A2) := hD
        exact blk36 I2 A2 X _ _ _ hf (lv_sub hl [0] rfl) hP hD hS
  unfold f_M_undo at hf
  refine lv_aload_n hx hb d_M_undo_0 rfl (lv_at hl 0 rfl) ?_
  refine lv_aload_n hx hb d_M_undo_1 rfl (lv_at hl 0 rfl) ?_
  refine va_get (D := (dC, dI)) (ci := 4) (v := .int (I 4)) (C := R_M) (T := F_M) (N := 38) hx hb hts (fun w h => List.mem_cons_of_mem _ (in_M w h)) hown hK hP 0 rfl rfl 4 (by decide) (hts _ (List.mem_cons_of_mem _ lk_49)) (fun _ h9 => h9) rfl d_M_undo_2 ?_
  refine lv_if_ne (tgt := 12) hx hb d_M_undo_5 (by decide) (fun hc1 => ?_) (fun hc1 => ?_)
  ·
    have hf := wk_iff hc1 hf
    refine lv_iconst (v := 0) hx hb d_M_undo_12 (by decide) ?_
    exact blk13 I A (fun _ => 0) 0 _ _ _ hf (lv_sub hl [0] rfl) hP hD hS
  ·
    have hf := wk_ift hc1 hf
    refine lv_iconst (v := 1) hx hb d_M_undo_8 (by decide) ?_
    refine lv_goto (tgt := 13) hx hb d_M_undo_9 (by decide) ?_
    exact blk13 I A (fun _ => 0) 1 _ _ _ hf (lv_sub hl [0] rfl) hP hD hS

set_option maxHeartbeats 8000000 in
set_option maxRecDepth 100000 in
theorem cm_M_wipe (l : Launch) (dC : Nat → ClassId) (dI : Nat → Nat → Nat) (h : Nat) (q : Nat → Nat) (g : Nat → ClassId) (sz : Nat) (I : MI) (A : MA) (r : Int32) (I' : MI) (A' : MA) (hf : f_M_wipe I A  = some (r, I', A')) : Met l y_M_wipe w_M_wipe ({ frames := 0, cells := 0, slots := 0, locals := 0 }) (va_Pc [.ref h] (fun U => U.heap.size = sz ∧ va_P (dC, dI) vwCl (mw_W h q g I A) U.heap ∧ va_K (dC, dI) vwCl (mw_T g) U ∧ va_D (fun _ => True) (mw_W h q g I A))) (va_Qi (fun (r9 : Int32) (_ : Unit) => r9 = r) (fun (_ : Unit) t => va_P (dC, dI) vwCl (mw_W h q g I' A') t.heap ∧ va_K (dC, dI) vwCl (mw_T g) t ∧ va_D (va_A (mw_W h q g I A) sz) (mw_W h q g I' A')) (va_A (mw_W h q g I A) sz)) 0 0 (va_A (mw_W h q g I A) sz) := by
  refine Met.ofW (cc := prog_6_method_5_code) (maxL := 2) (ret := (some .int)) (by decide) rfl ?_
  intro p e s m args below meth c s₁ B hml hv
  obtain ⟨rfl, hsz, hP, hK, hD0⟩ := hv
  have hx := B.exec
  have hb := B.bytes
  have hr := B.returns
  have hts := atoms_spec (ws := w_M_wipe) B.pre
  have hown : s.vm.findClass R_M = some m.cls := findClass_of_methodNamed B.named
  have hlocks := B.notSynchronized
  subst hsz
  have hD := hD0.self (sz := s.heap.size)
  generalize hAe : va_A (mw_W h q g I A) s.heap.size = B9 at hD ⊢
  have hA : ∀ q : Nat, s.heap.size ≤ q → B9 q := fun q h => by rw [← hAe]; exact Or.inr h
  clear hAe
  have hS : va_S B9 s.heap s.heap [] := va_S.rf
  have hl := lv_entry ([.ref h]) (n := 2) (Nat.le_of_ble_eq_true rfl)
  rw [lg_entry_eq]
  generalize (lg_sl ([.ref h]) ++ List.replicate (2 - (lg_sl ([.ref h])).length) Slot.unset).toArray = ls at hl ⊢
  have hl : lv_has ls 2 [(0, .ref h)] := hl
  unfold f_M_wipe at hf
  refine lv_aload_n hx hb d_M_wipe_0 rfl (lv_at hl 0 rfl) ?_
  refine lv_iconst (v := 0) hx hb d_M_wipe_1 (by decide) ?_
  refine va_put (D := (dC, dI)) (ci := 4) (v := .int 0) (ty := .int) (C := R_M) (T := F_M) (N := 38) hx hb hts (fun w h => List.mem_cons_of_mem _ (in_M w h)) t_M tk_M n_M hown hK hP hD hS 0 rfl rfl 0 (by decide) (hts _ (List.mem_cons_of_mem _ lk_60)) (fun _ h9 => h9) rfl (by decide +kernel) rfl rfl (Nat.le_of_ble_eq_true rfl) d_M_wipe_2 (fun H locs hP hD hS => ?_)
  obtain ⟨I1, hI1, hf⟩ := wk_letE hf
  have hP : va_P (dC, dI) vwCl (mw_W h q g I1 A) H := by rw [hI1]; exact hP
  have hD : va_D B9 (mw_W h q g I1 A) := by rw [hI1]; exact hD
  clear hI1
  refine lv_aload_n hx hb d_M_wipe_5 rfl (lv_at hl 0 rfl) ?_
  refine va_get (D := (dC, dI)) (ci := 4) (v := .int (I1 1)) (C := R_M) (T := F_M) (N := 38) hx hb hts (fun w h => List.mem_cons_of_mem _ (in_M w h)) hown hK hP 0 rfl rfl 1 (by decide) (hts _ (List.mem_cons_of_mem _ lk_41)) (fun _ h9 => h9) rfl d_M_wipe_6 ?_
  refine lv_istore_n (lv' := [(1, .int (I1 1)), (0, .ref h)]) hx hb d_M_wipe_9 rfl hl (by decide) rfl (fun ls hl => ?_)
  have hl : lv_has ls 2 [(1, .int (I1 1)), (0, .ref h)] := hl
  refine lv_aload_n hx hb d_M_wipe_10 rfl (lv_at hl 1 rfl) ?_
  refine lv_iconst (v := 0) hx hb d_M_wipe_11 (by decide) ?_
  refine va_put (D := (dC, dI)) (ci := 4) (v := .int 0) (ty := .int) (C := R_M) (T := F_M) (N := 38) hx hb hts (fun w h => List.mem_cons_of_mem _ (in_M w h)) t_M tk_M n_M hown hK hP hD hS 0 rfl rfl 1 (by decide) (hts _ (List.mem_cons_of_mem _ lk_41)) (fun _ h9 => h9) rfl (by decide +kernel) rfl rfl (Nat.le_of_ble_eq_true rfl) d_M_wipe_12 (fun H locs hP hD hS => ?_)
  obtain ⟨I2, hI2, hf⟩ := wk_letE hf
  have hP : va_P (dC, dI) vwCl (mw_W h q g I2 A) H := by rw [hI2]; exact hP
  have hD : va_D B9 (mw_W h q g I2 A) := by rw [hI2]; exact hD
  clear hI2
  refine lv_iload_n hx hb d_M_wipe_15 rfl (lv_at hl 0 rfl) ?_
  obtain ⟨e1, e2, e3⟩ := wk_inj hf
  subst e1
  subst e2
  subst e3
  exact W.iret (v := (I1 1)) hx hb hr (fun t ht hW => ⟨⟨(I1 1), (), rfl, rfl, by rw [ht]; exact hP, va_K.moved hW.alike hK, hD⟩, hS.F ht⟩) hS.2.2 d_M_wipe_16

