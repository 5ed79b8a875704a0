set_option maxHeartbeats 8000000 in
set_option maxRecDepth 100000 in
theorem cm_P_openGroup (l : Launch) (dC : Nat → ClassId) (dI : Nat → Nat → Nat) (h : Nat) (q : Nat → Nat) (g : Nat → ClassId) (hm : Nat) (qm : Nat → Nat) (gm : Nat → ClassId) (so : Nat) (sg : ClassId) (sx : Nat → Int32) (sz : Nat) (I : MI) (A : MA) (M : MI) (MB : MA) (L : ML) (r : Int32) (I' : MI) (A' : MA) (M' : MI) (MB' : MA) (L' : ML) (hf : f_P_openGroup sx I A M MB L  = some (r, I', A', M', MB', L')) : Met l y_P_openGroup w_P_openGroup ({ frames := 2, cells := 0, slots := 0, locals := 44 }) (va_Pc [.ref h] (fun U => U.heap.size = sz ∧ va_P (dC, dI) vwCl (rw_W h q g hm qm gm so sg sx I A M MB L) U.heap ∧ va_K (dC, dI) vwCl (rw_T h q g hm qm gm so sg sx) U ∧ va_D (fun _ => True) (rw_W h q g hm qm gm so sg sx I A M MB L))) (va_Qv (fun (u : Unit) => u = u) (fun (_ : Unit) t => va_P (dC, dI) vwCl (rw_W h q g hm qm gm so sg sx I' A' M' MB' L') t.heap ∧ va_K (dC, dI) vwCl (rw_T h q g hm qm gm so sg sx) t ∧ va_D (va_A (rw_W h q g hm qm gm so sg sx I A M MB L) sz) (rw_W h q g hm qm gm so sg sx I' A' M' MB' L')) (va_A (rw_W h q g hm qm gm so sg sx I A M MB L) sz)) 0 0 (va_A (rw_W h q g hm qm gm so sg sx I A M MB L) sz) := by
  refine Met.ofW (cc := prog_3_method_13_code) (maxL := 1) (ret := none) (by decide) rfl ?_
  intro p e s m args below meth c s₁ B hml hv
  obtain ⟨rfl, hsz, hP, hK, hD0⟩ := hv
  have hx := B.exec
  have hb := B.bytes
  have hr := B.returns
  have hts := atoms_spec (ws := w_P_openGroup) B.pre
  have hown : s.vm.findClass "DraftTree$PatternReader" = some m.cls := findClass_of_methodNamed B.named
  have hlocks := B.notSynchronized
  subst hsz
  have hD := hD0.self (sz := s.heap.size)
  generalize hAe : va_A (rw_W h q g hm qm gm so sg sx I A M MB L) s.heap.size = B9 at hD ⊢
  have hA : ∀ q : Nat, s.heap.size ≤ q → B9 q := fun q h => by rw [← hAe]; exact Or.inr h
  clear hAe
  have hS : va_S B9 s.heap s.heap [] := va_S.rf
  have hl := lv_entry ([.ref h]) (n := 1) (Nat.le_of_ble_eq_true rfl)
  rw [lg_entry_eq]
  generalize (lg_sl ([.ref h]) ++ List.replicate (1 - (lg_sl ([.ref h])).length) Slot.unset).toArray = ls at hl ⊢
  have hl : lv_has ls 1 [(0, .ref h)] := hl
  unfold f_P_openGroup at hf
  refine lv_aload_n hx hb d_P_openGroup_0 rfl (lv_at hl 0 rfl) ?_
  refine va_get (D := (dC, dI)) (ci := 2) (v := .int (I 8)) (C := R_P) (T := F_P) (N := 13) hx hb hts (fun w h => List.mem_cons_of_mem _ (in_P w h)) hown hK hP 0 rfl rfl 8 (by decide) (hts _ (List.mem_cons_of_mem _ lk_332)) (fun _ h9 => h9) rfl d_P_openGroup_1 ?_
  refine lv_bipush (v := 8) hx hb d_P_openGroup_4 (by decide) ?_
  refine lv_icmp_ne (tgt := 18) hx hb d_P_openGroup_6 (by decide) (fun hc1 => ?_) (fun hc1 => ?_)
  ·
    have hf := wk_iff hc1 hf
    refine lv_aload_n hx hb d_P_openGroup_18 rfl (lv_at hl 0 rfl) ?_
    refine lv_dup hx hb d_P_openGroup_19 rfl ?_
    refine va_get (D := (dC, dI)) (ci := 2) (v := .int (I 8)) (C := R_P) (T := F_P) (N := 13) hx hb hts (fun w h => List.mem_cons_of_mem _ (in_P w h)) hown hK hP 0 rfl rfl 8 (by decide) (hts _ (List.mem_cons_of_mem _ lk_332)) (fun _ h9 => h9) rfl d_P_openGroup_20 ?_
    refine lv_iconst (v := 1) hx hb d_P_openGroup_23 (by decide) ?_
    refine lv_iadd hx hb d_P_openGroup_24 ?_
    refine va_put (D := (dC, dI)) (ci := 2) (v := .int ((I 8) + 1)) (ty := .int) (C := R_P) (T := F_P) (N := 13) hx hb hts (fun w h => List.mem_cons_of_mem _ (in_P w h)) t_P tk_P n_P hown hK hP hD hS 0 rfl rfl 8 (by decide) (hts _ (List.mem_cons_of_mem _ lk_332)) (fun _ h9 => h9) rfl (by decide +kernel) rfl rfl (Nat.le_of_ble_eq_true rfl) d_P_openGroup_25 (fun H locs hP hD hS => ?_)
    obtain ⟨I1, hI1, hf⟩ := wk_letE hf
    have hP : va_P (dC, dI) vwCl (rw_W h q g hm qm gm so sg sx I1 A M MB L) H := by rw [hI1]; exact hP
    have hD : va_D B9 (rw_W h q g hm qm gm so sg sx I1 A M MB L) := by rw [hI1]; exact hD
    clear hI1
    refine lv_aload_n hx hb d_P_openGroup_28 rfl (lv_at hl 0 rfl) ?_
    refine lv_aload_n hx hb d_P_openGroup_29 rfl (lv_at hl 0 rfl) ?_
    refine va_get (D := (dC, dI)) (ci := 2) (v := .int (I1 12)) (C := R_P) (T := F_P) (N := 13) hx hb hts (fun w h => List.mem_cons_of_mem _ (in_P w h)) hown hK hP 0 rfl rfl 12 (by decide) (hts _ (List.mem_cons_of_mem _ lk_343)) (fun _ h9 => h9) rfl d_P_openGroup_30 ?_
    have hPc := hP.sub (ws' := (rw_W h q g hm qm gm so sg sx I1 A M MB L)) [0, 1, 2, 3, 4, 5, 6, 7, 8, 9, 10, 11] rfl
    have hDc := hD.sub (ws' := (rw_W h q g hm qm gm so sg sx I1 A M MB L)) [0, 1, 2, 3, 4, 5, 6, 7, 8, 9, 10, 11] (by decide) rfl
    have hKc := hK.sub (tys' := (rw_T h q g hm qm gm so sg sx)) [0, 1, 2, 3, 4, 5, 6, 7, 8, 9] rfl
    have hFc := va_free (wc := (rw_W h q g hm qm gm so sg sx I1 A M MB L)) hD hS hA [0, 1, 2, 3, 4, 5, 6, 7, 8, 9, 10, 11] rfl
    cases hg2 : f_P_openChoice sx I1 A M MB L (I1 12) with
    | none => rw [hg2] at hf; cases hf
    | some z2 =>
      obtain ⟨r2, I2, A2, M2, MB2, L2⟩ := z2
      rw [hg2] at hf
      dsimp only [Option.bind_some] at hf
      refine va_callv (va_runV (As := [.int (I1 12)]) (rest := []) ⟨hx, hb, hml, hown, hts⟩ (cm_P_openChoice l dC dI h q g hm qm gm so sg sx _  I1 A M MB L (I1 12) r2 I2 A2 M2 MB2 L2 hg2) (cwV 1 hts (gd_v lk_350 lk_351 lk_352 lk_348 lk_349) rfl rfl rfl (by decide +kernel) ⟨Nat.le_of_ble_eq_true rfl, Nat.le_of_ble_eq_true rfl⟩) ⟨fun a U g mk q => by obtain ⟨q0, q1, qP, qK, qD⟩ := q; exact ⟨q0, q1, qP, va_K.moved (u := U) (U := U.calling g mk a) (Vm.Alike.refl U.vm) qK, qD⟩, va_recv (ci := 2) (q0 := 0) hK hP rfl rfl, fun U hU hW => ⟨rfl, by rw [hU], by rw [hU]; exact hPc, va_K.moved hW.alike hKc, hDc.weaken (fun _ _ _ _ => trivial)⟩⟩ rfl rfl hl.1 rfl (lv_room (Nat.le_of_ble_eq_true rfl)) d_P_openGroup_33 ⟨Nat.le_of_ble_eq_true rfl, Nat.le_of_ble_eq_true rfl⟩) hS (fun q _ h => hFc q h) hFc (fun u t H1 locs ht hvm hw hB hz1 hk1 hS => ?_)
      obtain ⟨hP1, hK1, hD1⟩ := hB
      rw [ht] at hP1
      obtain ⟨hP, hD⟩ := va_join (wr := (([] : List Nat).map (fun i => ((rw_W h q g hm qm gm so sg sx I1 A M MB L)).getD i (0, .inr (0, []))))) (w1 := (rw_W h q g hm qm gm so sg sx I2 A2 M2 MB2 L2)) hP hD [0, 1, 2, 3, 4, 5, 6, 7, 8, 9, 10, 11] [] rfl rfl (by decide) (by decide) hk1 hFc hP1 hD1
      generalize H1 = H at hP hS ⊢
      have hP := hP.sub (ws' := (rw_W h q g hm qm gm so sg sx I2 A2 M2 MB2 L2)) [0, 1, 2, 3, 4, 5, 6, 7, 8, 9, 10, 11] rfl
      have hD := hD.sub (ws' := (rw_W h q g hm qm gm so sg sx I2 A2 M2 MB2 L2)) [0, 1, 2, 3, 4, 5, 6, 7, 8, 9, 10, 11] (by decide) rfl
      obtain ⟨e0, e1, e2, e3, e4, e5⟩ := wk_inj5 hf
      subst e0
      subst e1
      subst e2
      subst e3
      subst e4
      subst e5
      exact W.vret hx hb hr (fun t ht hW => ⟨⟨(), rfl, rfl, by rw [ht]; exact hP, va_K.moved hW.alike hK, hD⟩, hS.F ht⟩) hS.2.2 d_P_openGroup_36
  ·
    have hf := wk_ift hc1 hf
    refine lv_aload_n hx hb d_P_openGroup_9 rfl (lv_at hl 0 rfl) ?_
    refine lv_aload_n hx hb d_P_openGroup_10 rfl (lv_at hl 0 rfl) ?_
    refine va_get (D := (dC, dI)) (ci := 2) (v := .int (I 7)) (C := R_P) (T := F_P) (N := 13) hx hb hts (fun w h => List.mem_cons_of_mem _ (in_P w h)) hown hK hP 0 rfl rfl 7 (by decide) (hts _ (List.mem_cons_of_mem _ lk_328)) (fun _ h9 => h9) rfl d_P_openGroup_11 ?_
    refine va_put (D := (dC, dI)) (ci := 2) (v := .int (I 7)) (ty := .int) (C := R_P) (T := F_P) (N := 13) hx hb hts (fun w h => List.mem_cons_of_mem _ (in_P w h)) t_P tk_P n_P hown hK hP hD hS 0 rfl rfl 9 (by decide) (hts _ (List.mem_cons_of_mem _ lk_329)) (fun _ h9 => h9) rfl (by decide +kernel) rfl rfl (Nat.le_of_ble_eq_true rfl) d_P_openGroup_14 (fun H locs hP hD hS => ?_)
    obtain ⟨I1, hI1, hf⟩ := wk_letE hf
    have hP : va_P (dC, dI) vwCl (rw_W h q g hm qm gm so sg sx I1 A M MB L) H := by rw [hI1]; exact hP
    have hD : va_D B9 (rw_W h q g hm qm gm so sg sx I1 A M MB L) := by rw [hI1]; exact hD
    clear hI1
    obtain ⟨e0, e1, e2, e3, e4, e5⟩ := wk_inj5 hf
    subst e0
    subst e1
    subst e2
    subst e3
    subst e4
    subst e5
    exact W.vret hx hb hr (fun t ht hW => ⟨⟨(), rfl, rfl, by rw [ht]; exact hP, va_K.moved hW.alike hK, hD⟩, hS.F ht⟩) hS.2.2 d_P_openGroup_17

set_option maxHeartbeats 8000000 in
set_option maxRecDepth 100000 in
theorem cm_P_addPart (l : Launch) (dC : Nat → ClassId) (dI : Nat → Nat → Nat) (h : Nat) (q : Nat → Nat) (g : Nat → ClassId) (hm : Nat) (qm : Nat → Nat) (gm : Nat → ClassId) (so : Nat) (sg : ClassId) (sx : Nat → Int32) (sz : Nat) (I : MI) (A : MA) (M : MI) (MB : MA) (L : ML) (k1 : Int32) (k2 : Int32) (r : Int32) (I' : MI) (A' : MA) (M' : MI) (MB' : MA) (L' : ML) (hf : f_P_addPart sx I A M MB L  k1 k2 = some (r, I', A', M', MB', L')) : Met l y_P_addPart w_P_addPart ({ frames := 0, cells := 0, slots := 0, locals := 0 }) (va_Pc [.ref h, .int k1, .int k2] (fun U => U.heap.size = sz ∧ va_P (dC, dI) vwCl (rw_W h q g hm qm gm so sg sx I A M MB L) U.heap ∧ va_K (dC, dI) vwCl (rw_T h q g hm qm gm so sg sx) U ∧ va_D (fun _ => True) (rw_W h q g hm qm gm so sg sx I A M MB L))) (va_Qv (fun (u : Unit) => u = u) (fun (_ : Unit) t => va_P (dC, dI) vwCl (rw_W h q g hm qm gm so sg sx I' A' M' MB' L') t.heap ∧ va_K (dC, dI) vwCl (rw_T h q g hm qm gm so sg sx) t ∧ va_D (va_A (rw_W h q g hm qm gm so sg sx I A M MB L) sz) (rw_W h q g hm qm gm so sg sx I' A' M' MB' L')) (va_A (rw_W h q g hm qm gm so sg sx I A M MB L) sz)) 0 0 (va_A (rw_W h q g hm qm gm so sg sx I A M MB L) sz) := by
  refine Met.ofW (cc := prog_3_method_18_code) (maxL := 3) (ret := none) (by decide) rfl ?_
  intro p e s m args below meth c s₁ B hml hv
  obtain ⟨rfl, hsz, hP, hK, hD0⟩ := hv
  have hx := B.exec
  have hb := B.bytes
  have hr := B.returns
  have hts := atoms_spec (ws := w_P_addPart) B.pre
  have hown : s.vm.findClass "DraftTree$PatternReader" = some m.cls := findClass_of_methodNamed B.named
  have hlocks := B.notSynchronized
  subst hsz
  have hD := hD0.self (sz := s.heap.size)
  generalize hAe : va_A (rw_W h q g hm qm gm so sg sx I A M MB L) s.heap.size = B9 at hD ⊢
  have hA : ∀ q : Nat, s.heap.size ≤ q → B9 q := fun q h => by rw [← hAe]; exact Or.inr h
  clear hAe
  have hS : va_S B9 s.heap s.heap [] := va_S.rf
  have hl := lv_entry ([.ref h, .int k1, .int k2]) (n := 3) (Nat.le_of_ble_eq_true rfl)
  rw [lg_entry_eq]
  generalize (lg_sl ([.ref h, .int k1, .int k2]) ++ List.replicate (3 - (lg_sl ([.ref h, .int k1, .int k2])).length) Slot.unset).toArray = ls at hl ⊢
  have hl : lv_has ls 3 [(0, .ref h), (1, .int k1), (2, .int k2)] := hl
  unfold f_P_addPart at hf
  refine lv_aload_n hx hb d_P_addPart_0 rfl (lv_at hl 0 rfl) ?_
  refine lv_aload_n hx hb d_P_addPart_1 rfl (lv_at hl 0 rfl) ?_
  refine va_get (D := (dC, dI)) (ci := 2) (v := .int (I 12)) (C := R_P) (T := F_P) (N := 13) hx hb hts (fun w h => List.mem_cons_of_mem _ (in_P w h)) hown hK hP 0 rfl rfl 12 (by decide) (hts _ (List.mem_cons_of_mem _ lk_343)) (fun _ h9 => h9) rfl d_P_addPart_2 ?_
  refine va_put (D := (dC, dI)) (ci := 2) (v := .int (I 12)) (ty := .int) (C := R_P) (T := F_P) (N := 13) hx hb hts (fun w h => List.mem_cons_of_mem _ (in_P w h)) t_P tk_P n_P hown hK hP hD hS 0 rfl rfl 10 (by decide) (hts _ (List.mem_cons_of_mem _ lk_341)) (fun _ h9 => h9) rfl (by decide +kernel) rfl rfl (Nat.le_of_ble_eq_true rfl) d_P_addPart_5 (fun H locs hP hD hS => ?_)
  obtain ⟨I1, hI1, hf⟩ := wk_letE hf
  have hP : va_P (dC, dI) vwCl (rw_W h q g hm qm gm so sg sx I1 A M MB L) H := by rw [hI1]; exact hP
  have hD : va_D B9 (rw_W h q g hm qm gm so sg sx I1 A M MB L) := by rw [hI1]; exact hD
  clear hI1
  refine lv_aload_n hx hb d_P_addPart_8 rfl (lv_at hl 0 rfl) ?_
  refine va_get (D := (dC, dI)) (ci := 2) (v := .ref hm) (C := R_P) (T := F_P) (N := 13) hx hb hts (fun w h => List.mem_cons_of_mem _ (in_P w h)) hown hK hP 0 rfl rfl 4 (by decide) (hts _ (List.mem_cons_of_mem _ lk_330)) (fun _ h9 => h9) rfl d_P_addPart_9 ?_
  refine va_get (D := (dC, dI)) (ci := 3) (v := .ref (qm 1)) (C := R_A) (T := F_A) (N := 10) hx hb hts (fun w h => List.mem_cons_of_mem _ (in_A w h)) hown hK hP 5 rfl rfl 1 (by decide) (hts _ (List.mem_cons_of_mem _ lk_357)) (fun _ h9 => h9) rfl d_P_addPart_12 ?_
  refine lv_aload_n hx hb d_P_addPart_15 rfl (lv_at hl 0 rfl) ?_
  refine va_get (D := (dC, dI)) (ci := 2) (v := .int (I1 10)) (C := R_P) (T := F_P) (N := 13) hx hb hts (fun w h => List.mem_cons_of_mem _ (in_P w h)) hown hK hP 0 rfl rfl 10 (by decide) (hts _ (List.mem_cons_of_mem _ lk_341)) (fun _ h9 => h9) rfl d_P_addPart_16 ?_
  refine lv_iload_n hx hb d_P_addPart_19 rfl (lv_at hl 1 rfl) ?_
  obtain ⟨hc1, hf⟩ := wk_if hf
  refine va_iast hx hb hK hP hD hS 7 5 rfl rfl (wk_inb_ok hc1) d_P_addPart_20 (fun H locs hP hD hS => ?_)
  obtain ⟨MB2, hMB2, hf⟩ := wk_letE hf
  have hP : va_P (dC, dI) vwCl (rw_W h q g hm qm gm so sg sx I1 A M MB2 L) H := by rw [hMB2]; exact hP
  have hD : va_D B9 (rw_W h q g hm qm gm so sg sx I1 A M MB2 L) := by rw [hMB2]; exact hD
  clear hMB2
  refine lv_aload_n hx hb d_P_addPart_21 rfl (lv_at hl 0 rfl) ?_
  refine lv_iload_n hx hb d_P_addPart_22 rfl (lv_at hl 1 rfl) ?_
  refine va_put (D := (dC, dI)) (ci := 2) (v := .int k1) (ty := .int) (C := R_P) (T := F_P) (N := 13) hx hb hts (fun w h => List.mem_cons_of_mem _ (in_P w h)) t_P tk_P n_P hown hK hP hD hS 0 rfl rfl 11 (by decide) (hts _ (List.mem_cons_of_mem _ lk_342)) (fun _ h9 => h9) rfl (by decide +kernel) rfl rfl (Nat.le_of_ble_eq_true rfl) d_P_addPart_23 (fun H locs hP hD hS => ?_)
  obtain ⟨I3, hI3, hf⟩ := wk_letE hf
  have hP : va_P (dC, dI) vwCl (rw_W h q g hm qm gm so sg sx I3 A M MB2 L) H := by rw [hI3]; exact hP
  have hD : va_D B9 (rw_W h q g hm qm gm so sg sx I3 A M MB2 L) := by rw [hI3]; exact hD
  clear hI3
  refine lv_aload_n hx hb d_P_addPart_26 rfl (lv_at hl 0 rfl) ?_
  refine lv_iload_n hx hb d_P_addPart_27 rfl (lv_at hl 2 rfl) ?_
  refine va_put (D := (dC, dI)) (ci := 2) (v := .int k2) (ty := .int) (C := R_P) (T := F_P) (N := 13) hx hb hts (fun w h => List.mem_cons_of_mem _ (in_P w h)) t_P tk_P n_P hown hK hP hD hS 0 rfl rfl 12 (by decide) (hts _ (List.mem_cons_of_mem _ lk_343)) (fun _ h9 => h9) rfl (by decide +kernel) rfl rfl (Nat.le_of_ble_eq_true rfl) d_P_addPart_28 (fun H locs hP hD hS => ?_)
  obtain ⟨I4, hI4, hf⟩ := wk_letE hf
  have hP : va_P (dC, dI) vwCl (rw_W h q g hm qm gm so sg sx I4 A M MB2 L) H := by rw [hI4]; exact hP
  have hD : va_D B9 (rw_W h q g hm qm gm so sg sx I4 A M MB2 L) := by rw [hI4]; exact hD
  clear hI4
  obtain ⟨e0, e1, e2, e3, e4, e5⟩ := wk_inj5 hf
  subst e0
  subst e1
  subst e2
  subst e3
  subst e4
  subst e5
  exact W.vret hx hb hr (fun t ht hW => ⟨⟨(), rfl, rfl, by rw [ht]; exact hP, va_K.moved hW.alike hK, hD⟩, hS.F ht⟩) hS.2.2 d_P_addPart_31

set_option maxHeartbeats 8000000 in
set_option maxRecDepth 100000 in
theorem cm_P_closeGroup (l : Launch) (dC : Nat → ClassId) (dI : Nat → Nat → Nat) (h : Nat) (q : Nat → Nat) (g : Nat → ClassId) (hm : Nat) (qm : Nat → Nat) (gm : Nat → ClassId) (so : Nat) (sg : ClassId) (sx : Nat → Int32) (sz : Nat) (I : MI) (A : MA) (M : MI) (MB : MA) (L : ML) (r : Int32) (I' : MI) (A' : MA) (M' : MI) (MB' : MA) (L' : ML) (hf : f_P_closeGroup sx I A M MB L  = some (r, I', A', M', MB', L')) : Met l y_P_closeGroup w_P_closeGroup ({ frames := 1, cells := 0, slots := 0, locals := 22 }) (va_Pc [.ref h] (fun U => U.heap.size = sz ∧ va_P (dC, dI) vwCl (rw_W h q g hm qm gm so sg sx I A M MB L) U.heap ∧ va_K (dC, dI) vwCl (rw_T h q g hm qm gm so sg sx) U ∧ va_D (fun _ => True) (rw_W h q g hm qm gm so sg sx I A M MB L))) (va_Qv (fun (u : Unit) => u = u) (fun (_ : Unit) t => va_P (dC, dI) vwCl (rw_W h q g hm qm gm so sg sx I' A' M' MB' L') t.heap ∧ va_K (dC, dI) vwCl (rw_T h q g hm qm gm so sg sx) t ∧ va_D (va_A (rw_W h q g hm qm gm so sg sx I A M MB L) sz) (rw_W h q g hm qm gm so sg sx I' A' M' MB' L')) (va_A (rw_W h q g hm qm gm so sg sx I A M MB L) sz)) 0 0 (va_A (rw_W h q g hm qm gm so sg sx I A M MB L) sz) := by
  refine Met.ofW (cc := prog_3_method_14_code) (maxL := 3) (ret := none) (by decide) rfl ?_
  intro p e s m args below meth c s₁ B hml hv
  obtain ⟨rfl, hsz, hP, hK, hD0⟩ := hv
  have hx := B.exec
  have hb := B.bytes
  have hr := B.returns
  have hts := atoms_spec (ws := w_P_closeGroup) B.pre
  have hown : s.vm.findClass "DraftTree$PatternReader" = some m.cls := findClass_of_methodNamed B.named
  have hlocks := B.notSynchronized
  subst hsz
  have hD := hD0.self (sz := s.heap.size)
  generalize hAe : va_A (rw_W h q g hm qm gm so sg sx I A M MB L) s.heap.size = B9 at hD ⊢
  have hA : ∀ q : Nat, s.heap.size ≤ q → B9 q := fun q h => by rw [← hAe]; exact Or.inr h
  clear hAe
  have hS : va_S B9 s.heap s.heap [] := va_S.rf
  have hl := lv_entry ([.ref h]) (n := 3) (Nat.le_of_ble_eq_true rfl)
  rw [lg_entry_eq]
  generalize (lg_sl ([.ref h]) ++ List.replicate (3 - (lg_sl ([.ref h])).length) Slot.unset).toArray = ls at hl ⊢
  have hl : lv_has ls 3 [(0, .ref h)] := hl
  unfold f_P_closeGroup at hf
  refine lv_aload_n hx hb d_P_closeGroup_0 rfl (lv_at hl 0 rfl) ?_
  refine va_get (D := (dC, dI)) (ci := 2) (v := .int (I 8)) (C := R_P) (T := F_P) (N := 13) hx hb hts (fun w h => List.mem_cons_of_mem _ (in_P w h)) hown hK hP 0 rfl rfl 8 (by decide) (hts _ (List.mem_cons_of_mem _ lk_332)) (fun _ h9 => h9) rfl d_P_closeGroup_1 ?_
  refine lv_if_ne (tgt := 16) hx hb d_P_closeGroup_4 (by decide) (fun hc1 => ?_) (fun hc1 => ?_)
  ·
    have hf := wk_iff hc1 hf
    refine lv_aload_n hx hb d_P_closeGroup_16 rfl (lv_at hl 0 rfl) ?_
    refine va_get (D := (dC, dI)) (ci := 2) (v := .ref (q 0)) (C := R_P) (T := F_P) (N := 13) hx hb hts (fun w h => List.mem_cons_of_mem _ (in_P w h)) hown hK hP 0 rfl rfl 0 (by decide) (hts _ (List.mem_cons_of_mem _ lk_337)) (fun _ h9 => h9) rfl d_P_closeGroup_17 ?_
    refine lv_aload_n hx hb d_P_closeGroup_20 rfl (lv_at hl 0 rfl) ?_
    refine va_get (D := (dC, dI)) (ci := 2) (v := .int (I 8)) (C := R_P) (T := F_P) (N := 13) hx hb hts (fun w h => List.mem_cons_of_mem _ (in_P w h)) hown hK hP 0 rfl rfl 8 (by decide) (hts _ (List.mem_cons_of_mem _ lk_332)) (fun _ h9 => h9) rfl d_P_closeGroup_21 ?_
    obtain ⟨hc2, hf⟩ := wk_if hf
    refine va_iald hx hb hK hP 1 0 rfl rfl (wk_inb_ok hc2) d_P_closeGroup_24 ?_
    refine lv_istore_n (lv' := [(1, .int (A 0 ((I 8)).toNatClampNeg)), (0, .ref h)]) hx hb d_P_closeGroup_25 rfl hl (by decide) rfl (fun ls hl => ?_)
    have hl : lv_has ls 3 [(1, .int (A 0 ((I 8)).toNatClampNeg)), (0, .ref h)] := hl
    refine lv_aload_n hx hb d_P_closeGroup_26 rfl (lv_at hl 1 rfl) ?_
    refine va_get (D := (dC, dI)) (ci := 2) (v := .ref (q 1)) (C := R_P) (T := F_P) (N := 13) hx hb hts (fun w h => List.mem_cons_of_mem _ (in_P w h)) hown hK hP 0 rfl rfl 1 (by decide) (hts _ (List.mem_cons_of_mem _ lk_338)) (fun _ h9 => h9) rfl d_P_closeGroup_27 ?_
    refine lv_aload_n hx hb d_P_closeGroup_30 rfl (lv_at hl 1 rfl) ?_
    refine va_get (D := (dC, dI)) (ci := 2) (v := .int (I 8)) (C := R_P) (T := F_P) (N := 13) hx hb hts (fun w h => List.mem_cons_of_mem _ (in_P w h)) hown hK hP 0 rfl rfl 8 (by decide) (hts _ (List.mem_cons_of_mem _ lk_332)) (fun _ h9 => h9) rfl d_P_closeGroup_31 ?_
    obtain ⟨hc3, hf⟩ := wk_if hf
    refine va_iald hx hb hK hP 2 1 rfl rfl (wk_inb_ok hc3) d_P_closeGroup_34 ?_
    refine lv_istore_n (lv' := [(2, .int (A 1 ((I 8)).toNatClampNeg)), (1, .int (A 0 ((I 8)).toNatClampNeg)), (0, .ref h)]) hx hb d_P_closeGroup_35 rfl hl (by decide) rfl (fun ls hl => ?_)
    have hl : lv_has ls 3 [(2, .int (A 1 ((I 8)).toNatClampNeg)), (1, .int (A 0 ((I 8)).toNatClampNeg)), (0, .ref h)] := hl
    refine lv_aload_n hx hb d_P_closeGroup_36 rfl (lv_at hl 2 rfl) ?_
    refine va_get (D := (dC, dI)) (ci := 2) (v := .ref hm) (C := R_P) (T := F_P) (N := 13) hx hb hts (fun w h => List.mem_cons_of_mem _ (in_P w h)) hown hK hP 0 rfl rfl 4 (by decide) (hts _ (List.mem_cons_of_mem _ lk_330)) (fun _ h9 => h9) rfl d_P_closeGroup_37 ?_
    refine va_get (D := (dC, dI)) (ci := 3) (v := .ref (qm 1)) (C := R_A) (T := F_A) (N := 10) hx hb hts (fun w h => List.mem_cons_of_mem _ (in_A w h)) hown hK hP 5 rfl rfl 1 (by decide) (hts _ (List.mem_cons_of_mem _ lk_357)) (fun _ h9 => h9) rfl d_P_closeGroup_40 ?_
    refine lv_aload_n hx hb d_P_closeGroup_43 rfl (lv_at hl 2 rfl) ?_
    refine va_get (D := (dC, dI)) (ci := 2) (v := .int (I 12)) (C := R_P) (T := F_P) (N := 13) hx hb hts (fun w h => List.mem_cons_of_mem _ (in_P w h)) hown hK hP 0 rfl rfl 12 (by decide) (hts _ (List.mem_cons_of_mem _ lk_343)) (fun _ h9 => h9) rfl d_P_closeGroup_44 ?_
    refine lv_iload_n hx hb d_P_closeGroup_47 rfl (lv_at hl 0 rfl) ?_
    obtain ⟨hc4, hf⟩ := wk_if hf
    refine va_iast hx hb hK hP hD hS 7 5 rfl rfl (wk_inb_ok hc4) d_P_closeGroup_48 (fun H locs hP hD hS => ?_)
    obtain ⟨MB1, hMB1, hf⟩ := wk_letE hf
    have hP : va_P (dC, dI) vwCl (rw_W h q g hm qm gm so sg sx I A M MB1 L) H := by rw [hMB1]; exact hP
    have hD : va_D B9 (rw_W h q g hm qm gm so sg sx I A M MB1 L) := by rw [hMB1]; exact hD
    clear hMB1
    refine lv_aload_n hx hb d_P_closeGroup_49 rfl (lv_at hl 2 rfl) ?_
    refine lv_aload_n hx hb d_P_closeGroup_50 rfl (lv_at hl 2 rfl) ?_
    refine va_get (D := (dC, dI)) (ci := 2) (v := .ref (q 3)) (C := R_P) (T := F_P) (N := 13) hx hb hts (fun w h => List.mem_cons_of_mem _ (in_P w h)) hown hK hP 0 rfl rfl 3 (by decide) (hts _ (List.mem_cons_of_mem _ lk_339)) (fun _ h9 => h9) rfl d_P_closeGroup_51 ?_
    refine lv_aload_n hx hb d_P_closeGroup_54 rfl (lv_at hl 2 rfl) ?_
    refine va_get (D := (dC, dI)) (ci := 2) (v := .int (I 8)) (C := R_P) (T := F_P) (N := 13) hx hb hts (fun w h => List.mem_cons_of_mem _ (in_P w h)) hown hK hP 0 rfl rfl 8 (by decide) (hts _ (List.mem_cons_of_mem _ lk_332)) (fun _ h9 => h9) rfl d_P_closeGroup_55 ?_
    obtain ⟨hc5, hf⟩ := wk_if hf
    refine va_iald hx hb hK hP 4 3 rfl rfl (wk_inb_ok hc5) d_P_closeGroup_58 ?_
    refine va_put (D := (dC, dI)) (ci := 2) (v := .int (A 3 ((I 8)).toNatClampNeg)) (ty := .int) (C := R_P) (T := F_P) (N := 13) hx hb hts (fun w h => List.mem_cons_of_mem _ (in_P w h)) t_P tk_P n_P hown hK hP hD hS 0 rfl rfl 12 (by decide) (hts _ (List.mem_cons_of_mem _ lk_343)) (fun _ h9 => h9) rfl (by decide +kernel) rfl rfl (Nat.le_of_ble_eq_true rfl) d_P_closeGroup_59 (fun H locs hP hD hS => ?_)
    obtain ⟨I2, hI2, hf⟩ := wk_letE hf
    have hP : va_P (dC, dI) vwCl (rw_W h q g hm qm gm so sg sx I2 A M MB1 L) H := by rw [hI2]; exact hP
    have hD : va_D B9 (rw_W h q g hm qm gm so sg sx I2 A M MB1 L) := by rw [hI2]; exact hD
    clear hI2
    refine lv_aload_n hx hb d_P_closeGroup_62 rfl (lv_at hl 2 rfl) ?_
    refine lv_dup hx hb d_P_closeGroup_63 rfl ?_
    refine va_get (D := (dC, dI)) (ci := 2) (v := .int (I2 8)) (C := R_P) (T := F_P) (N := 13) hx hb hts (fun w h => List.mem_cons_of_mem _ (in_P w h)) hown hK hP 0 rfl rfl 8 (by decide) (hts _ (List.mem_cons_of_mem _ lk_332)) (fun _ h9 => h9) rfl d_P_closeGroup_64 ?_
    refine lv_iconst (v := 1) hx hb d_P_closeGroup_67 (by decide) ?_
    refine lv_isub hx hb d_P_closeGroup_68 ?_
    refine va_put (D := (dC, dI)) (ci := 2) (v := .int ((I2 8) - 1)) (ty := .int) (C := R_P) (T := F_P) (N := 13) hx hb hts (fun w h => List.mem_cons_of_mem _ (in_P w h)) t_P tk_P n_P hown hK hP hD hS 0 rfl rfl 8 (by decide) (hts _ (List.mem_cons_of_mem _ lk_332)) (fun _ h9 => h9) rfl (by decide +kernel) rfl rfl (Nat.le_of_ble_eq_true rfl) d_P_closeGroup_69 (fun H locs hP hD hS => ?_)
    obtain ⟨I3, hI3, hf⟩ := wk_letE hf
    have hP : va_P (dC, dI) vwCl (rw_W h q g hm qm gm so sg sx I3 A M MB1 L) H := by rw [hI3]; exact hP
    have hD : va_D B9 (rw_W h q g hm qm gm so sg sx I3 A M MB1 L) := by rw [hI3]; exact hD
    clear hI3
    refine lv_aload_n hx hb d_P_closeGroup_72 rfl (lv_at hl 2 rfl) ?_
    refine lv_iload_n hx hb d_P_closeGroup_73 rfl (lv_at hl 1 rfl) ?_
    refine lv_iload_n hx hb d_P_closeGroup_74 rfl (lv_at hl 0 rfl) ?_
    have hPc := hP.sub (ws' := (rw_W h q g hm qm gm so sg sx I3 A M MB1 L)) [0, 1, 2, 3, 4, 5, 6, 7, 8, 9, 10, 11] rfl
    have hDc := hD.sub (ws' := (rw_W h q g hm qm gm so sg sx I3 A M MB1 L)) [0, 1, 2, 3, 4, 5, 6, 7, 8, 9, 10, 11] (by decide) rfl
    have hKc := hK.sub (tys' := (rw_T h q g hm qm gm so sg sx)) [0, 1, 2, 3, 4, 5, 6, 7, 8, 9] rfl
    have hFc := va_free (wc := (rw_W h q g hm qm gm so sg sx I3 A M MB1 L)) hD hS hA [0, 1, 2, 3, 4, 5, 6, 7, 8, 9, 10, 11] rfl
    cases hg4 : f_P_addPart sx I3 A M MB1 L (A 0 ((I 8)).toNatClampNeg) (A 1 ((I 8)).toNatClampNeg) with
    | none => rw [hg4] at hf; cases hf
    | some z4 =>
      obtain ⟨r4, I4, A4, M4, MB4, L4⟩ := z4
      rw [hg4] at hf
      dsimp only [Option.bind_some] at hf
      refine va_callv (va_runV (As := [.int (A 0 ((I 8)).toNatClampNeg), .int (A 1 ((I 8)).toNatClampNeg)]) (rest := []) ⟨hx, hb, hml, hown, hts⟩ (cm_P_addPart l dC dI h q g hm qm gm so sg sx _  I3 A M MB1 L (A 0 ((I 8)).toNatClampNeg) (A 1 ((I 8)).toNatClampNeg) r4 I4 A4 M4 MB4 L4 hg4) (cwV 2 hts (gd_v lk_359 lk_360 lk_361 lk_348 lk_358) rfl rfl rfl (by decide +kernel) ⟨Nat.le_of_ble_eq_true rfl, Nat.le_of_ble_eq_true rfl⟩) ⟨fun a U g mk q => by obtain ⟨q0, q1, qP, qK, qD⟩ := q; exact ⟨q0, q1, qP, va_K.moved (u := U) (U := U.calling g mk a) (Vm.Alike.refl U.vm) qK, qD⟩, va_recv (ci := 2) (q0 := 0) hK hP rfl rfl, fun U hU hW => ⟨rfl, by rw [hU], by rw [hU]; exact hPc, va_K.moved hW.alike hKc, hDc.weaken (fun _ _ _ _ => trivial)⟩⟩ rfl rfl hl.1 rfl (lv_room (Nat.le_of_ble_eq_true rfl)) d_P_closeGroup_75 ⟨Nat.le_of_ble_eq_true rfl, Nat.le_of_ble_eq_true rfl⟩) hS (fun q _ h => hFc q h) hFc (fun u t H1 locs ht hvm hw hB hz1 hk1 hS => ?_)
      obtain ⟨hP1, hK1, hD1⟩ := hB
      rw [ht] at hP1
      obtain ⟨hP, hD⟩ := va_join (wr := (([] : List Nat).map (fun i => ((rw_W h q g hm qm gm so sg sx I3 A M MB1 L)).getD i (0, .inr (0, []))))) (w1 := (rw_W h q g hm qm gm so sg sx I4 A4 M4 MB4 L4)) hP hD [0, 1, 2, 3, 4, 5, 6, 7, 8, 9, 10, 11] [] rfl rfl (by decide) (by decide) hk1 hFc hP1 hD1
      generalize H1 = H at hP hS ⊢
      have hP := hP.sub (ws' := (rw_W h q g hm qm gm so sg sx I4 A4 M4 MB4 L4)) [0, 1, 2, 3, 4, 5, 6, 7, 8, 9, 10, 11] rfl
      have hD := hD.sub (ws' := (rw_W h q g hm qm gm so sg sx I4 A4 M4 MB4 L4)) [0, 1, 2, 3, 4, 5, 6, 7, 8, 9, 10, 11] (by decide) rfl
      obtain ⟨e0, e1, e2, e3, e4, e5⟩ := wk_inj5 hf
      subst e0
      subst e1
      subst e2
      subst e3
      subst e4
      subst e5
      exact W.vret hx hb hr (fun t ht hW => ⟨⟨(), rfl, rfl, by rw [ht]; exact hP, va_K.moved hW.alike hK, hD⟩, hS.F ht⟩) hS.2.2 d_P_closeGroup_78
  ·
    have hf := wk_ift hc1 hf
    refine lv_aload_n hx hb d_P_closeGroup_7 rfl (lv_at hl 0 rfl) ?_
    refine lv_aload_n hx hb d_P_closeGroup_8 rfl (lv_at hl 0 rfl) ?_
    refine va_get (D := (dC, dI)) (ci := 2) (v := .int (I 7)) (C := R_P) (T := F_P) (N := 13) hx hb hts (fun w h => List.mem_cons_of_mem _ (in_P w h)) hown hK hP 0 rfl rfl 7 (by decide) (hts _ (List.mem_cons_of_mem _ lk_328)) (fun _ h9 => h9) rfl d_P_closeGroup_9 ?_
    refine va_put (D := (dC, dI)) (ci := 2) (v := .int (I 7)) (ty := .int) (C := R_P) (T := F_P) (N := 13) hx hb hts (fun w h => List.mem_cons_of_mem _ (in_P w h)) t_P tk_P n_P hown hK hP hD hS 0 rfl rfl 9 (by decide) (hts _ (List.mem_cons_of_mem _ lk_329)) (fun _ h9 => h9) rfl (by decide +kernel) rfl rfl (Nat.le_of_ble_eq_true rfl) d_P_closeGroup_12 (fun H locs hP hD hS => ?_)
    obtain ⟨I1, hI1, hf⟩ := wk_letE hf
    have hP : va_P (dC, dI) vwCl (rw_W h q g hm qm gm so sg sx I1 A M MB L) H := by rw [hI1]; exact hP
    have hD : va_D B9 (rw_W h q g hm qm gm so sg sx I1 A M MB L) := by rw [hI1]; exact hD
    clear hI1
    obtain ⟨e0, e1, e2, e3, e4, e5⟩ := wk_inj5 hf
    subst e0
    subst e1
    subst e2
    subst e3
    subst e4
    subst e5
    exact W.vret hx hb hr (fun t ht hW => ⟨⟨(), rfl, rfl, by rw [ht]; exact hP, va_K.moved hW.alike hK, hD⟩, hS.F ht⟩) hS.2.2 d_P_closeGroup_15

set_option maxHeartbeats 8000000 in
set_option maxRecDepth 100000 in
theorem cm_P_repeatPart (l : Launch) (dC : Nat → ClassId) (dI : Nat → Nat → Nat) (h : Nat) (q : Nat → Nat) (g : Nat → ClassId) (hm : Nat) (qm : Nat → Nat) (gm : Nat → ClassId) (so : Nat) (sg : ClassId) (sx : Nat → Int32) (sz : Nat) (I : MI) (A : MA) (M : MI) (MB : MA) (L : ML) (k1 : Int32) (r : Int32) (I' : MI) (A' : MA) (M' : MI) (MB' : MA) (L' : ML) (hf : f_P_repeatPart sx I A M MB L  k1 = some (r, I', A', M', MB', L')) : Met l y_P_repeatPart w_P_repeatPart ({ frames := 1, cells := 0, slots := 0, locals := 22 }) (va_Pc [.ref h, .int k1] (fun U => U.heap.size = sz ∧ va_P (dC, dI) vwCl (rw_W h q g hm qm gm so sg sx I A M MB L) U.heap ∧ va_K (dC, dI) vwCl (rw_T h q g hm qm gm so sg sx) U ∧ va_D (fun _ => True) (rw_W h q g hm qm gm so sg sx I A M MB L))) (va_Qv (fun (u : Unit) => u = u) (fun (_ : Unit) t => va_P (dC, dI) vwCl (rw_W h q g hm qm gm so sg sx I' A' M' MB' L') t.heap ∧ va_K (dC, dI) vwCl (rw_T h q g hm qm gm so sg sx) t ∧ va_D (va_A (rw_W h q g hm qm gm so sg sx I A M MB L) sz) (rw_W h q g hm qm gm so sg sx I' A' M' MB' L')) (va_A (rw_W h q g hm qm gm so sg sx I A M MB L) sz)) 0 0 (va_A (rw_W h q g hm qm gm so sg sx I A M MB L) sz) := by
  refine Met.ofW (cc := prog_3_method_19_code) (maxL := 4) (ret := none) (by decide) rfl ?_
  intro p e s m args below meth c s₁ B hml hv
  obtain ⟨rfl, hsz, hP, hK, hD0⟩ := hv
  have hx := B.exec
  have hb := B.bytes
  have hr := B.returns
  have hts := atoms_spec (ws := w_P_repeatPart) B.pre
  have hown : s.vm.findClass "DraftTree$PatternReader" = some m.cls := findClass_of_methodNamed B.named
  have hlocks := B.notSynchronized
  subst hsz
  have hD := hD0.self (sz := s.heap.size)
  generalize hAe : va_A (rw_W h q g hm qm gm so sg sx I A M MB L) s.heap.size = B9 at hD ⊢
  have hA : ∀ q : Nat, s.heap.size ≤ q → B9 q := fun q h => by rw [← hAe]; exact Or.inr h
  clear hAe
  have hS : va_S B9 s.heap s.heap [] := va_S.rf
  have hl := lv_entry ([.ref h, .int k1]) (n := 4) (Nat.le_of_ble_eq_true rfl)
  rw [lg_entry_eq]
  generalize (lg_sl ([.ref h, .int k1]) ++ List.replicate (4 - (lg_sl ([.ref h, .int k1])).length) Slot.unset).toArray = ls at hl ⊢
  have hl : lv_has ls 4 [(0, .ref h), (1, .int k1)] := hl
  have blk108 : ∀ (I : MI) (A : MA) (M : MI) (MB : MA) (L : ML) (X : Nat → Int32) (Y : Nat → Int64) (ls : Array Slot) (H : Heap) (locs : List Loc), f_P_repeatPart_108 sx I A M MB L X Y = some (r, I', A', M', MB', L') → lv_has ls 4 [(0, .ref h), (1, .int (X 1)), (2, .int (X 2)), (3, .int (X 3))] → va_P (dC, dI) vwCl (rw_W h q g hm qm gm so sg sx I A M MB L) H → va_D B9 (rw_W h q g hm qm gm so sg sx I A M MB L) → va_S B9 s.heap H locs → W p l e (headSpec w_P_repeatPart ({ frames := 1, cells := 0, slots := 0, locals := 22 })).room s m ([.ref h, .int k1] : List Value).toArray below meth c H locs 0 0 (MQ below (va_Qv (fun (u : Unit) => u = u) (fun (_ : Unit) t => va_P (dC, dI) vwCl (rw_W h q g hm qm gm so sg sx I' A' M' MB' L') t.heap ∧ va_K (dC, dI) vwCl (rw_T h q g hm qm gm so sg sx) t ∧ va_D B9 (rw_W h q g hm qm gm so sg sx I' A' M' MB' L')) B9) ([.ref h, .int k1] : List Value).toArray s 0 0 B9) (F0 m 108 ls []) := by
    intro I A M MB L X Y ls H locs hf hl hP hD hS
    unfold f_P_repeatPart_108 at hf
    obtain ⟨e0, e1, e2, e3, e4, e5⟩ := wk_inj5 hf
    subst e0
    subst e1
    subst e2
    subst e3
    subst e4
    subst e5
    exact W.vret hx hb hr (fun t ht hW => ⟨⟨(), rfl, rfl, by rw [ht]; exact hP, va_K.moved hW.alike hK, hD⟩, hS.F ht⟩) hS.2.2 d_P_repeatPart_108
  have blk66 : ∀ (I : MI) (A : MA) (M : MI) (MB : MA) (L : ML) (X : Nat → Int32) (Y : Nat → Int64) (ls : Array Slot) (H : Heap) (locs : List Loc), f_P_repeatPart_66 sx I A M MB L X Y = some (r, I', A', M', MB', L') → lv_has ls 4 [(0, .ref h), (1, .int (X 1)), (2, .int (X 2)), (3, .int (X 3))] → va_P (dC, dI) vwCl (rw_W h q g hm qm gm so sg sx I A M MB L) H → va_D B9 (rw_W h q g hm qm gm so sg sx I A M MB L) → va_S B9 s.heap H locs → W p l e (headSpec w_P_repeatPart ({ frames := 1, cells := 0, slots := 0, locals := 22 })).room s m ([.ref h, .int k1] : List Value).toArray below meth c H locs 0 0 (MQ below (va_Qv (fun (u : Unit) => u = u) (fun (_ : Unit) t => va_P (dC, dI) vwCl (rw_W h q g hm qm gm so sg sx I' A' M' MB' L') t.heap ∧ va_K (dC, dI) vwCl (rw_T h q g hm qm gm so sg sx) t ∧ va_D B9 (rw_W h q g hm qm gm so sg sx I' A' M' MB' L')) B9) ([.ref h, .int k1] : List Value).toArray s 0 0 B9) (F0 m 66 ls []) := by
    intro I A M MB L X Y ls H locs hf hl hP hD hS
    unfold f_P_repeatPart_66 at hf
    refine lv_aload_n hx hb d_P_repeatPart_66 rfl (lv_at hl 0 rfl) ?_
    refine va_get (D := (dC, dI)) (ci := 2) (v := .ref hm) (C := R_P) (T := F_P) (N := 13) hx hb hts (fun w h => List.mem_cons_of_mem _ (in_P w h)) hown hK hP 0 rfl rfl 4 (by decide) (hts _ (List.mem_cons_of_mem _ lk_330)) (fun _ h9 => h9) rfl d_P_repeatPart_67 ?_
    refine va_get (D := (dC, dI)) (ci := 3) (v := .ref (qm 1)) (C := R_A) (T := F_A) (N := 10) hx hb hts (fun w h => List.mem_cons_of_mem _ (in_A w h)) hown hK hP 5 rfl rfl 1 (by decide) (hts _ (List.mem_cons_of_mem _ lk_357)) (fun _ h9 => h9) rfl d_P_repeatPart_70 ?_
    refine lv_aload_n hx hb d_P_repeatPart_73 rfl (lv_at hl 0 rfl) ?_
    refine va_get (D := (dC, dI)) (ci := 2) (v := .int (I 12)) (C := R_P) (T := F_P) (N := 13) hx hb hts (fun w h => List.mem_cons_of_mem _ (in_P w h)) hown hK hP 0 rfl rfl 12 (by decide) (hts _ (List.mem_cons_of_mem _ lk_343)) (fun _ h9 => h9) rfl d_P_repeatPart_74 ?_
    refine lv_iload_n hx hb d_P_repeatPart_77 rfl (lv_at hl 3 rfl) ?_
    obtain ⟨hc1, hf⟩ := wk_if hf
    refine va_iast hx hb hK hP hD hS 7 5 rfl rfl (wk_inb_ok hc1) d_P_repeatPart_78 (fun H locs hP hD hS => ?_)
    obtain ⟨MB1, hMB1, hf⟩ := wk_letE hf
    have hP : va_P (dC, dI) vwCl (rw_W h q g hm qm gm so sg sx I A M MB1 L) H := by rw [hMB1]; exact hP
    have hD : va_D B9 (rw_W h q g hm qm gm so sg sx I A M MB1 L) := by rw [hMB1]; exact hD
    clear hMB1
    refine lv_aload_n hx hb d_P_repeatPart_79 rfl (lv_at hl 0 rfl) ?_
    refine lv_iload_n hx hb d_P_repeatPart_80 rfl (lv_at hl 3 rfl) ?_
    refine va_put (D := (dC, dI)) (ci := 2) (v := .int (X 3)) (ty := .int) (C := R_P) (T := F_P) (N := 13) hx hb hts (fun w h => List.mem_cons_of_mem _ (in_P w h)) t_P tk_P n_P hown hK hP hD hS 0 rfl rfl 12 (by decide) (hts _ (List.mem_cons_of_mem _ lk_343)) (fun _ h9 => h9) rfl (by decide +kernel) rfl rfl (Nat.le_of_ble_eq_true rfl) d_P_repeatPart_81 (fun H locs hP hD hS => ?_)
    obtain ⟨I2, hI2, hf⟩ := wk_letE hf
    have hP : va_P (dC, dI) vwCl (rw_W h q g hm qm gm so sg sx I2 A M MB1 L) H := by rw [hI2]; exact hP
    have hD : va_D B9 (rw_W h q g hm qm gm so sg sx I2 A M MB1 L) := by rw [hI2]; exact hD
    clear hI2
    refine lv_iload_n hx hb d_P_repeatPart_84 rfl (lv_at hl 1 rfl) ?_
    refine lv_bipush (v := 43) hx hb d_P_repeatPart_85 (by decide) ?_
    refine lv_icmp_eq (tgt := 108) hx hb d_P_repeatPart_87 (by decide) (fun hc2 => ?_) (fun hc2 => ?_)
    ·
      have hf := wk_ift hc2 hf
      exact blk108 I2 A M MB1 L X Y _ _ _ hf (lv_sub hl [0, 1, 2, 3] rfl) hP hD hS
    ·
      have hf := wk_iff hc2 hf
      refine lv_aload_n hx hb d_P_repeatPart_90 rfl (lv_at hl 0 rfl) ?_
      refine va_get (D := (dC, dI)) (ci := 2) (v := .ref hm) (C := R_P) (T := F_P) (N := 13) hx hb hts (fun w h => List.mem_cons_of_mem _ (in_P w h)) hown hK hP 0 rfl rfl 4 (by decide) (hts _ (List.mem_cons_of_mem _ lk_330)) (fun _ h9 => h9) rfl d_P_repeatPart_91 ?_
      refine va_get (D := (dC, dI)) (ci := 3) (v := .ref (qm 1)) (C := R_A) (T := F_A) (N := 10) hx hb hts (fun w h => List.mem_cons_of_mem _ (in_A w h)) hown hK hP 5 rfl rfl 1 (by decide) (hts _ (List.mem_cons_of_mem _ lk_357)) (fun _ h9 => h9) rfl d_P_repeatPart_94 ?_
      refine lv_aload_n hx hb d_P_repeatPart_97 rfl (lv_at hl 0 rfl) ?_
      refine va_get (D := (dC, dI)) (ci := 2) (v := .int (I2 10)) (C := R_P) (T := F_P) (N := 13) hx hb hts (fun w h => List.mem_cons_of_mem _ (in_P w h)) hown hK hP 0 rfl rfl 10 (by decide) (hts _ (List.mem_cons_of_mem _ lk_341)) (fun _ h9 => h9) rfl d_P_repeatPart_98 ?_
      refine lv_iload_n hx hb d_P_repeatPart_101 rfl (lv_at hl 2 rfl) ?_
      obtain ⟨hc3, hf⟩ := wk_if hf
      refine va_iast hx hb hK hP hD hS 7 5 rfl rfl (wk_inb_ok hc3) d_P_repeatPart_102 (fun H locs hP hD hS => ?_)
      obtain ⟨MB3, hMB3, hf⟩ := wk_letE hf
      have hP : va_P (dC, dI) vwCl (rw_W h q g hm qm gm so sg sx I2 A M MB3 L) H := by rw [hMB3]; exact hP
      have hD : va_D B9 (rw_W h q g hm qm gm so sg sx I2 A M MB3 L) := by rw [hMB3]; exact hD
      clear hMB3
      refine lv_aload_n hx hb d_P_repeatPart_103 rfl (lv_at hl 0 rfl) ?_
      refine lv_iload_n hx hb d_P_repeatPart_104 rfl (lv_at hl 2 rfl) ?_
      refine va_put (D := (dC, dI)) (ci := 2) (v := .int (X 2)) (ty := .int) (C := R_P) (T := F_P) (N := 13) hx hb hts (fun w h => List.mem_cons_of_mem _ (in_P w h)) t_P tk_P n_P hown hK hP hD hS 0 rfl rfl 11 (by decide) (hts _ (List.mem_cons_of_mem _ lk_342)) (fun _ h9 => h9) rfl (by decide +kernel) rfl rfl (Nat.le_of_ble_eq_true rfl) d_P_repeatPart_105 (fun H locs hP hD hS => ?_)
      obtain ⟨I4, hI4, hf⟩ := wk_letE hf
      have hP : va_P (dC, dI) vwCl (rw_W h q g hm qm gm so sg sx I4 A M MB3 L) H := by rw [hI4]; exact hP
      have hD : va_D B9 (rw_W h q g hm qm gm so sg sx I4 A M MB3 L) := by rw [hI4]; exact hD
      clear hI4
      exact blk108 I4 A M MB3 L X Y _ _ _ hf (lv_sub hl [0, 1, 2, 3] rfl) hP hD hS
  unfold f_P_repeatPart at hf
  refine lv_aload_n hx hb d_P_repeatPart_0 rfl (lv_at hl 0 rfl) ?_
  refine va_get (D := (dC, dI)) (ci := 2) (v := .int (I 11)) (C := R_P) (T := F_P) (N := 13) hx hb hts (fun w h => List.mem_cons_of_mem _ (in_P w h)) hown hK hP 0 rfl rfl 11 (by decide) (hts _ (List.mem_cons_of_mem _ lk_342)) (fun _ h9 => h9) rfl d_P_repeatPart_1 ?_
  refine lv_iconst (v := (-1)) hx hb d_P_repeatPart_4 (by decide) ?_
  refine lv_icmp_ne (tgt := 17) hx hb d_P_repeatPart_5 (by decide) (fun hc1 => ?_) (fun hc1 => ?_)
  ·
    have hf := wk_iff hc1 hf
    refine lv_aload_n hx hb d_P_repeatPart_17 rfl (lv_at hl 0 rfl) ?_
    refine va_get (D := (dC, dI)) (ci := 2) (v := .ref hm) (C := R_P) (T := F_P) (N := 13) hx hb hts (fun w h => List.mem_cons_of_mem _ (in_P w h)) hown hK hP 0 rfl rfl 4 (by decide) (hts _ (List.mem_cons_of_mem _ lk_330)) (fun _ h9 => h9) rfl d_P_repeatPart_18 ?_
    refine lv_iconst (v := 0) hx hb d_P_repeatPart_21 (by decide) ?_
    have hPc := hP.sub (ws' := (aw_W hm qm gm M MB L)) [5, 6, 7, 8, 9, 10] rfl
    have hDc := hD.sub (ws' := (aw_W hm qm gm M MB L)) [5, 6, 7, 8, 9, 10] (by decide) rfl
    have hKc := hK.sub (tys' := (aw_T hm qm gm)) [4, 5, 6, 7, 8] rfl
    have hFc := va_free (wc := (aw_W hm qm gm M MB L)) hD hS hA [5, 6, 7, 8, 9, 10] rfl
    cases hg1 : f_A_addNode M MB L 0 with
    | none => rw [hg1] at hf; cases hf
    | some z1 =>
      obtain ⟨r1, M1, MB1, L1⟩ := z1
      rw [hg1] at hf
      dsimp only [Option.bind_some] at hf
      refine va_calli (va_runV (As := [.int 0]) (rest := []) ⟨hx, hb, hml, hown, hts⟩ (cm_A_addNode l dC dI hm qm gm _  M MB L 0 r1 M1 MB1 L1 hg1) (cwV 1 hts (gd_v lk_334 lk_335 lk_336 lk_273 lk_333) rfl rfl rfl (by decide +kernel) ⟨Nat.le_of_ble_eq_true rfl, Nat.le_of_ble_eq_true rfl⟩) ⟨fun a U g mk q => by obtain ⟨q0, q1, qP, qK, qD⟩ := q; exact ⟨q0, q1, qP, va_K.moved (u := U) (U := U.calling g mk a) (Vm.Alike.refl U.vm) qK, qD⟩, va_recv (ci := 3) (q0 := 5) hK hP rfl rfl, fun U hU hW => ⟨rfl, by rw [hU], by rw [hU]; exact hPc, va_K.moved hW.alike hKc, hDc.weaken (fun _ _ _ _ => trivial)⟩⟩ rfl rfl hl.1 rfl (lv_room (Nat.le_of_ble_eq_true rfl)) d_P_repeatPart_22 ⟨Nat.le_of_ble_eq_true rfl, Nat.le_of_ble_eq_true rfl⟩) hS (fun q _ h => hFc q h) hFc (fun r9 u t H1 locs ht hvm hw hB hz1 hk1 hS => ?_)
      obtain ⟨hP1, hK1, hD1⟩ := hB
      rw [ht] at hP1
      rw [hw]
      obtain ⟨hP, hD⟩ := va_join (wr := (([0, 1, 2, 3, 4, 11] : List Nat).map (fun i => ((rw_W h q g hm qm gm so sg sx I A M MB L)).getD i (0, .inr (0, []))))) (w1 := (aw_W hm qm gm M1 MB1 L1)) hP hD [5, 6, 7, 8, 9, 10] [0, 1, 2, 3, 4, 11] rfl rfl (by decide) (by decide) hk1 hFc hP1 hD1
      generalize H1 = H at hP hS ⊢
      have hP := hP.sub (ws' := (rw_W h q g hm qm gm so sg sx I A M1 MB1 L1)) [0, 1, 2, 3, 4, 6, 7, 8, 9, 10, 11, 5] rfl
      have hD := hD.sub (ws' := (rw_W h q g hm qm gm so sg sx I A M1 MB1 L1)) [0, 1, 2, 3, 4, 6, 7, 8, 9, 10, 11, 5] (by decide) rfl
      refine lv_istore_n (lv' := [(2, .int r1), (0, .ref h), (1, .int k1)]) hx hb d_P_repeatPart_25 rfl hl (by decide) rfl (fun ls hl => ?_)
      have hl : lv_has ls 4 [(2, .int r1), (0, .ref h), (1, .int k1)] := hl
      refine lv_aload_n hx hb d_P_repeatPart_26 rfl (lv_at hl 1 rfl) ?_
      refine va_get (D := (dC, dI)) (ci := 2) (v := .ref hm) (C := R_P) (T := F_P) (N := 13) hx hb hts (fun w h => List.mem_cons_of_mem _ (in_P w h)) hown hK hP 0 rfl rfl 4 (by decide) (hts _ (List.mem_cons_of_mem _ lk_330)) (fun _ h9 => h9) rfl d_P_repeatPart_27 ?_
      refine va_get (D := (dC, dI)) (ci := 3) (v := .ref (qm 2)) (C := R_A) (T := F_A) (N := 10) hx hb hts (fun w h => List.mem_cons_of_mem _ (in_A w h)) hown hK hP 5 rfl rfl 2 (by decide) (hts _ (List.mem_cons_of_mem _ lk_366)) (fun _ h9 => h9) rfl d_P_repeatPart_30 ?_
      refine lv_iload_n hx hb d_P_repeatPart_33 rfl (lv_at hl 0 rfl) ?_
      refine lv_aload_n hx hb d_P_repeatPart_34 rfl (lv_at hl 1 rfl) ?_
      refine va_get (D := (dC, dI)) (ci := 2) (v := .int (I 11)) (C := R_P) (T := F_P) (N := 13) hx hb hts (fun w h => List.mem_cons_of_mem _ (in_P w h)) hown hK hP 0 rfl rfl 11 (by decide) (hts _ (List.mem_cons_of_mem _ lk_342)) (fun _ h9 => h9) rfl d_P_repeatPart_35 ?_
      obtain ⟨hc2, hf⟩ := wk_if hf
      refine va_iast hx hb hK hP hD hS 8 6 rfl rfl (wk_inb_ok hc2) d_P_repeatPart_38 (fun H locs hP hD hS => ?_)
      obtain ⟨MB2, hMB2, hf⟩ := wk_letE hf
      have hP : va_P (dC, dI) vwCl (rw_W h q g hm qm gm so sg sx I A M1 MB2 L1) H := by rw [hMB2]; exact hP
      have hD : va_D B9 (rw_W h q g hm qm gm so sg sx I A M1 MB2 L1) := by rw [hMB2]; exact hD
      clear hMB2
      refine lv_iload_n hx hb d_P_repeatPart_39 rfl (lv_at hl 0 rfl) ?_
      refine lv_istore_n (lv' := [(3, .int r1), (2, .int r1), (0, .ref h), (1, .int k1)]) hx hb d_P_repeatPart_40 rfl hl (by decide) rfl (fun ls hl => ?_)
      have hl : lv_has ls 4 [(3, .int r1), (2, .int r1), (0, .ref h), (1, .int k1)] := hl
      refine lv_iload_n hx hb d_P_repeatPart_41 rfl (lv_at hl 3 rfl) ?_
      refine lv_bipush (v := 63) hx hb d_P_repeatPart_42 (by decide) ?_
      refine lv_icmp_ne (tgt := 66) hx hb d_P_repeatPart_44 (by decide) (fun hc3 => ?_) (fun hc3 => ?_)
      ·
        have hf := wk_iff hc3 hf
        exact blk66 I A M1 MB2 L1 (upd (upd (upd (fun _ => 0) 1 k1) 2 r1) 3 r1) (fun _ => 0) _ _ _ hf (lv_sub hl [2, 3, 1, 0] rfl) hP hD hS
      ·
        have hf := wk_ift hc3 hf
        refine lv_aload_n hx hb d_P_repeatPart_47 rfl (lv_at hl 2 rfl) ?_
        refine va_get (D := (dC, dI)) (ci := 2) (v := .ref hm) (C := R_P) (T := F_P) (N := 13) hx hb hts (fun w h => List.mem_cons_of_mem _ (in_P w h)) hown hK hP 0 rfl rfl 4 (by decide) (hts _ (List.mem_cons_of_mem _ lk_330)) (fun _ h9 => h9) rfl d_P_repeatPart_48 ?_
        refine lv_iconst (v := 0) hx hb d_P_repeatPart_51 (by decide) ?_
        have hPc := hP.sub (ws' := (aw_W hm qm gm M1 MB2 L1)) [5, 6, 7, 8, 9, 10] rfl
        have hDc := hD.sub (ws' := (aw_W hm qm gm M1 MB2 L1)) [5, 6, 7, 8, 9, 10] (by decide) rfl
        have hKc := hK.sub (tys' := (aw_T hm qm gm)) [4, 5, 6, 7, 8] rfl
        have hFc := va_free (wc := (aw_W hm qm gm M1 MB2 L1)) hD hS hA [5, 6, 7, 8, 9, 10] rfl
        cases hg3 : f_A_addNode M1 MB2 L1 0 with
        | none => rw [hg3] at hf; cases hf
        | some z3 =>
          obtain ⟨r3, M3, MB3, L3⟩ := z3
          rw [hg3] at hf
          dsimp only [Option.bind_some] at hf
          refine va_calli (va_runV (As := [.int 0]) (rest := []) ⟨hx, hb, hml, hown, hts⟩ (cm_A_addNode l dC dI hm qm gm _  M1 MB2 L1 0 r3 M3 MB3 L3 hg3) (cwV 1 hts (gd_v lk_334 lk_335 lk_336 lk_273 lk_333) rfl rfl rfl (by decide +kernel) ⟨Nat.le_of_ble_eq_true rfl, Nat.le_of_ble_eq_true rfl⟩) ⟨fun a U g mk q => by obtain ⟨q0, q1, qP, qK, qD⟩ := q; exact ⟨q0, q1, qP, va_K.moved (u := U) (U := U.calling g mk a) (Vm.Alike.refl U.vm) qK, qD⟩, va_recv (ci := 3) (q0 := 5) hK hP rfl rfl, fun U hU hW => ⟨rfl, by rw [hU], by rw [hU]; exact hPc, va_K.moved hW.alike hKc, hDc.weaken (fun _ _ _ _ => trivial)⟩⟩ rfl rfl hl.1 rfl (lv_room (Nat.le_of_ble_eq_true rfl)) d_P_repeatPart_52 ⟨Nat.le_of_ble_eq_true rfl, Nat.le_of_ble_eq_true rfl⟩) hS (fun q _ h => hFc q h) hFc (fun r9 u t H1 locs ht hvm hw hB hz1 hk1 hS => ?_)
          obtain ⟨hP1, hK1, hD1⟩ := hB
          rw [ht] at hP1
          rw [hw]
          obtain ⟨hP, hD⟩ := va_join (wr := (([0, 1, 2, 3, 4, 11] : List Nat).map (fun i => ((rw_W h q g hm qm gm so sg sx I A M1 MB2 L1)).getD i (0, .inr (0, []))))) (w1 := (aw_W hm qm gm M3 MB3 L3)) hP hD [5, 6, 7, 8, 9, 10] [0, 1, 2, 3, 4, 11] rfl rfl (by decide) (by decide) hk1 hFc hP1 hD1
          generalize H1 = H at hP hS ⊢
          have hP := hP.sub (ws' := (rw_W h q g hm qm gm so sg sx I A M3 MB3 L3)) [0, 1, 2, 3, 4, 6, 7, 8, 9, 10, 11, 5] rfl
          have hD := hD.sub (ws' := (rw_W h q g hm qm gm so sg sx I A M3 MB3 L3)) [0, 1, 2, 3, 4, 6, 7, 8, 9, 10, 11, 5] (by decide) rfl
          refine lv_istore_n (lv' := [(3, .int r3), (2, .int r1), (0, .ref h), (1, .int k1)]) hx hb d_P_repeatPart_55 rfl hl (by decide) rfl (fun ls hl => ?_)
          have hl : lv_has ls 4 [(3, .int r3), (2, .int r1), (0, .ref h), (1, .int k1)] := hl
          refine lv_aload_n hx hb d_P_repeatPart_56 rfl (lv_at hl 2 rfl) ?_
          refine va_get (D := (dC, dI)) (ci := 2) (v := .ref hm) (C := R_P) (T := F_P) (N := 13) hx hb hts (fun w h => List.mem_cons_of_mem _ (in_P w h)) hown hK hP 0 rfl rfl 4 (by decide) (hts _ (List.mem_cons_of_mem _ lk_330)) (fun _ h9 => h9) rfl d_P_repeatPart_57 ?_
          refine va_get (D := (dC, dI)) (ci := 3) (v := .ref (qm 1)) (C := R_A) (T := F_A) (N := 10) hx hb hts (fun w h => List.mem_cons_of_mem _ (in_A w h)) hown hK hP 5 rfl rfl 1 (by decide) (hts _ (List.mem_cons_of_mem _ lk_357)) (fun _ h9 => h9) rfl d_P_repeatPart_60 ?_
          refine lv_iload_n hx hb d_P_repeatPart_63 rfl (lv_at hl 1 rfl) ?_
          refine lv_iload_n hx hb d_P_repeatPart_64 rfl (lv_at hl 0 rfl) ?_
          obtain ⟨hc4, hf⟩ := wk_if hf
          refine va_iast hx hb hK hP hD hS 7 5 rfl rfl (wk_inb_ok hc4) d_P_repeatPart_65 (fun H locs hP hD hS => ?_)
          obtain ⟨MB4, hMB4, hf⟩ := wk_letE hf
          have hP : va_P (dC, dI) vwCl (rw_W h q g hm qm gm so sg sx I A M3 MB4 L3) H := by rw [hMB4]; exact hP
          have hD : va_D B9 (rw_W h q g hm qm gm so sg sx I A M3 MB4 L3) := by rw [hMB4]; exact hD
          clear hMB4
          exact blk66 I A M3 MB4 L3 (upd (upd (upd (fun _ => 0) 1 k1) 2 r1) 3 r3) (fun _ => 0) _ _ _ hf (lv_sub hl [2, 3, 1, 0] rfl) hP hD hS
  ·
    have hf := wk_ift hc1 hf
    refine lv_aload_n hx hb d_P_repeatPart_8 rfl (lv_at hl 0 rfl) ?_
    refine lv_aload_n hx hb d_P_repeatPart_9 rfl (lv_at hl 0 rfl) ?_
    refine va_get (D := (dC, dI)) (ci := 2) (v := .int (I 7)) (C := R_P) (T := F_P) (N := 13) hx hb hts (fun w h => List.mem_cons_of_mem _ (in_P w h)) hown hK hP 0 rfl rfl 7 (by decide) (hts _ (List.mem_cons_of_mem _ lk_328)) (fun _ h9 => h9) rfl d_P_repeatPart_10 ?_
    refine va_put (D := (dC, dI)) (ci := 2) (v := .int (I 7)) (ty := .int) (C := R_P) (T := F_P) (N := 13) hx hb hts (fun w h => List.mem_cons_of_mem _ (in_P w h)) t_P tk_P n_P hown hK hP hD hS 0 rfl rfl 9 (by decide) (hts _ (List.mem_cons_of_mem _ lk_329)) (fun _ h9 => h9) rfl (by decide +kernel) rfl rfl (Nat.le_of_ble_eq_true rfl) d_P_repeatPart_13 (fun H locs hP hD hS => ?_)
    obtain ⟨I1, hI1, hf⟩ := wk_letE hf
    have hP : va_P (dC, dI) vwCl (rw_W h q g hm qm gm so sg sx I1 A M MB L) H := by rw [hI1]; exact hP
    have hD : va_D B9 (rw_W h q g hm qm gm so sg sx I1 A M MB L) := by rw [hI1]; exact hD
    clear hI1
    obtain ⟨e0, e1, e2, e3, e4, e5⟩ := wk_inj5 hf
    subst e0
    subst e1
    subst e2
    subst e3
    subst e4
    subst e5
    exact W.vret hx hb hr (fun t ht hW => ⟨⟨(), rfl, rfl, by rw [ht]; exact hP, va_K.moved hW.alike hK, hD⟩, hS.F ht⟩) hS.2.2 d_P_repeatPart_16

set_option maxHeartbeats 8000000 in
set_option maxRecDepth 100000 in
theorem cm_P_addNodeAsPart (l : Launch) (dC : Nat → ClassId) (dI : Nat → Nat → Nat) (h : Nat) (q : Nat → Nat) (g : Nat → ClassId) (hm : Nat) (qm : Nat → Nat) (gm : Nat → ClassId) (so : Nat) (sg : ClassId) (sx : Nat → Int32) (sz : Nat) (I : MI) (A : MA) (M : MI) (MB : MA) (L : ML) (k1 : Int32) (r : Int32) (I' : MI) (A' : MA) (M' : MI) (MB' : MA) (L' : ML) (hf : f_P_addNodeAsPart sx I A M MB L  k1 = some (r, I', A', M', MB', L')) : Met l y_P_addNodeAsPart w_P_addNodeAsPart ({ frames := 1, cells := 0, slots := 0, locals := 22 }) (va_Pc [.ref h, .int k1] (fun U => U.heap.size = sz ∧ va_P (dC, dI) vwCl (rw_W h q g hm qm gm so sg sx I A M MB L) U.heap ∧ va_K (dC, dI) vwCl (rw_T h q g hm qm gm so sg sx) U ∧ va_D (fun _ => True) (rw_W h q g hm qm gm so sg sx I A M MB L))) (va_Qi (fun (r9 : Int32) (_ : Unit) => r9 = r) (fun (_ : Unit) t => va_P (dC, dI) vwCl (rw_W h q g hm qm gm so sg sx I' A' M' MB' L') t.heap ∧ va_K (dC, dI) vwCl (rw_T h q g hm qm gm so sg sx) t ∧ va_D (va_A (rw_W h q g hm qm gm so sg sx I A M MB L) sz) (rw_W h q g hm qm gm so sg sx I' A' M' MB' L')) (va_A (rw_W h q g hm qm gm so sg sx I A M MB L) sz)) 0 0 (va_A (rw_W h q g hm qm gm so sg sx I A M MB L) sz) := by
  refine Met.ofW (cc := prog_3_method_17_code) (maxL := 3) (ret := (some .int)) (by decide) rfl ?_
  intro p e s m args below meth c s₁ B hml hv
  obtain ⟨rfl, hsz, hP, hK, hD0⟩ := hv
  have hx := B.exec
  have hb := B.bytes
  have hr := B.returns
  have hts := atoms_spec (ws := w_P_addNodeAsPart) B.pre
  have hown : s.vm.findClass "DraftTree$PatternReader" = some m.cls := findClass_of_methodNamed B.named
  have hlocks := B.notSynchronized
  subst hsz
  have hD := hD0.self (sz := s.heap.size)
  generalize hAe : va_A (rw_W h q g hm qm gm so sg sx I A M MB L) s.heap.size = B9 at hD ⊢
  have hA : ∀ q : Nat, s.heap.size ≤ q → B9 q := fun q h => by rw [← hAe]; exact Or.inr h
  clear hAe
  have hS : va_S B9 s.heap s.heap [] := va_S.rf
  have hl := lv_entry ([.ref h, .int k1]) (n := 3) (Nat.le_of_ble_eq_true rfl)
  rw [lg_entry_eq]
  generalize (lg_sl ([.ref h, .int k1]) ++ List.replicate (3 - (lg_sl ([.ref h, .int k1])).length) Slot.unset).toArray = ls at hl ⊢
  have hl : lv_has ls 3 [(0, .ref h), (1, .int k1)] := hl
  unfold f_P_addNodeAsPart at hf
  refine lv_aload_n hx hb d_P_addNodeAsPart_0 rfl (lv_at hl 0 rfl) ?_
  refine va_get (D := (dC, dI)) (ci := 2) (v := .ref hm) (C := R_P) (T := F_P) (N := 13) hx hb hts (fun w h => List.mem_cons_of_mem _ (in_P w h)) hown hK hP 0 rfl rfl 4 (by decide) (hts _ (List.mem_cons_of_mem _ lk_330)) (fun _ h9 => h9) rfl d_P_addNodeAsPart_1 ?_
  refine lv_iload_n hx hb d_P_addNodeAsPart_4 rfl (lv_at hl 1 rfl) ?_
  have hPc := hP.sub (ws' := (aw_W hm qm gm M MB L)) [5, 6, 7, 8, 9, 10] rfl
  have hDc := hD.sub (ws' := (aw_W hm qm gm M MB L)) [5, 6, 7, 8, 9, 10] (by decide) rfl
  have hKc := hK.sub (tys' := (aw_T hm qm gm)) [4, 5, 6, 7, 8] rfl
  have hFc := va_free (wc := (aw_W hm qm gm M MB L)) hD hS hA [5, 6, 7, 8, 9, 10] rfl
  cases hg1 : f_A_addNode M MB L k1 with
  | none => rw [hg1] at hf; cases hf
  | some z1 =>
    obtain ⟨r1, M1, MB1, L1⟩ := z1
    rw [hg1] at hf
    dsimp only [Option.bind_some] at hf
    refine va_calli (va_runV (As := [.int k1]) (rest := []) ⟨hx, hb, hml, hown, hts⟩ (cm_A_addNode l dC dI hm qm gm _  M MB L k1 r1 M1 MB1 L1 hg1) (cwV 1 hts (gd_v lk_334 lk_335 lk_336 lk_273 lk_333) rfl rfl rfl (by decide +kernel) ⟨Nat.le_of_ble_eq_true rfl, Nat.le_of_ble_eq_true rfl⟩) ⟨fun a U g mk q => by obtain ⟨q0, q1, qP, qK, qD⟩ := q; exact ⟨q0, q1, qP, va_K.moved (u := U) (U := U.calling g mk a) (Vm.Alike.refl U.vm) qK, qD⟩, va_recv (ci := 3) (q0 := 5) hK hP rfl rfl, fun U hU hW => ⟨rfl, by rw [hU], by rw [hU]; exact hPc, va_K.moved hW.alike hKc, hDc.weaken (fun _ _ _ _ => trivial)⟩⟩ rfl rfl hl.1 rfl (lv_room (Nat.le_of_ble_eq_true rfl)) d_P_addNodeAsPart_5 ⟨Nat.le_of_ble_eq_true rfl, Nat.le_of_ble_eq_true rfl⟩) hS (fun q _ h => hFc q h) hFc (fun r9 u t H1 locs ht hvm hw hB hz1 hk1 hS => ?_)
    obtain ⟨hP1, hK1, hD1⟩ := hB
    rw [ht] at hP1
    rw [hw]
    obtain ⟨hP, hD⟩ := va_join (wr := (([0, 1, 2, 3, 4, 11] : List Nat).map (fun i => ((rw_W h q g hm qm gm so sg sx I A M MB L)).getD i (0, .inr (0, []))))) (w1 := (aw_W hm qm gm M1 MB1 L1)) hP hD [5, 6, 7, 8, 9, 10] [0, 1, 2, 3, 4, 11] rfl rfl (by decide) (by decide) hk1 hFc hP1 hD1
    generalize H1 = H at hP hS ⊢
    have hP := hP.sub (ws' := (rw_W h q g hm qm gm so sg sx I A M1 MB1 L1)) [0, 1, 2, 3, 4, 6, 7, 8, 9, 10, 11, 5] rfl
    have hD := hD.sub (ws' := (rw_W h q g hm qm gm so sg sx I A M1 MB1 L1)) [0, 1, 2, 3, 4, 6, 7, 8, 9, 10, 11, 5] (by decide) rfl
    refine lv_istore_n (lv' := [(2, .int r1), (0, .ref h), (1, .int k1)]) hx hb d_P_addNodeAsPart_8 rfl hl (by decide) rfl (fun ls hl => ?_)
    have hl : lv_has ls 3 [(2, .int r1), (0, .ref h), (1, .int k1)] := hl
    refine lv_aload_n hx hb d_P_addNodeAsPart_9 rfl (lv_at hl 1 rfl) ?_
    refine lv_iload_n hx hb d_P_addNodeAsPart_10 rfl (lv_at hl 0 rfl) ?_
    refine lv_iload_n hx hb d_P_addNodeAsPart_11 rfl (lv_at hl 0 rfl) ?_
    have hPc := hP.sub (ws' := (rw_W h q g hm qm gm so sg sx I A M1 MB1 L1)) [0, 1, 2, 3, 4, 5, 6, 7, 8, 9, 10, 11] rfl
    have hDc := hD.sub (ws' := (rw_W h q g hm qm gm so sg sx I A M1 MB1 L1)) [0, 1, 2, 3, 4, 5, 6, 7, 8, 9, 10, 11] (by decide) rfl
    have hKc := hK.sub (tys' := (rw_T h q g hm qm gm so sg sx)) [0, 1, 2, 3, 4, 5, 6, 7, 8, 9] rfl
    have hFc := va_free (wc := (rw_W h q g hm qm gm so sg sx I A M1 MB1 L1)) hD hS hA [0, 1, 2, 3, 4, 5, 6, 7, 8, 9, 10, 11] rfl
    cases hg2 : f_P_addPart sx I A M1 MB1 L1 r1 r1 with
    | none => rw [hg2] at hf; cases hf
    | some z2 =>
      obtain ⟨r2, I2, A2, M2, MB2, L2⟩ := z2
      rw [hg2] at hf
      dsimp only [Option.bind_some] at hf
      refine va_callv (va_runV (As := [.int r1, .int r1]) (rest := []) ⟨hx, hb, hml, hown, hts⟩ (cm_P_addPart l dC dI h q g hm qm gm so sg sx _  I A M1 MB1 L1 r1 r1 r2 I2 A2 M2 MB2 L2 hg2) (cwV 2 hts (gd_v lk_359 lk_360 lk_361 lk_348 lk_358) rfl rfl rfl (by decide +kernel) ⟨Nat.le_of_ble_eq_true rfl, Nat.le_of_ble_eq_true rfl⟩) ⟨fun a U g mk q => by obtain ⟨q0, q1, qP, qK, qD⟩ := q; exact ⟨q0, q1, qP, va_K.moved (u := U) (U := U.calling g mk a) (Vm.Alike.refl U.vm) qK, qD⟩, va_recv (ci := 2) (q0 := 0) hK hP rfl rfl, fun U hU hW => ⟨rfl, by rw [hU], by rw [hU]; exact hPc, va_K.moved hW.alike hKc, hDc.weaken (fun _ _ _ _ => trivial)⟩⟩ rfl rfl hl.1 rfl (lv_room (Nat.le_of_ble_eq_true rfl)) d_P_addNodeAsPart_12 ⟨Nat.le_of_ble_eq_true rfl, Nat.le_of_ble_eq_true rfl⟩) hS (fun q _ h => hFc q h) hFc (fun u t H1 locs ht hvm hw hB hz1 hk1 hS => ?_)
      obtain ⟨hP1, hK1, hD1⟩ := hB
      rw [ht] at hP1
      obtain ⟨hP, hD⟩ := va_join (wr := (([] : List Nat).map (fun i => ((rw_W h q g hm qm gm so sg sx I A M1 MB1 L1)).getD i (0, .inr (0, []))))) (w1 := (rw_W h q g hm qm gm so sg sx I2 A2 M2 MB2 L2)) hP hD [0, 1, 2, 3, 4, 5, 6, 7, 8, 9, 10, 11] [] rfl rfl (by decide) (by decide) hk1 hFc hP1 hD1
      generalize H1 = H at hP hS ⊢
      have hP := hP.sub (ws' := (rw_W h q g hm qm gm so sg sx I2 A2 M2 MB2 L2)) [0, 1, 2, 3, 4, 5, 6, 7, 8, 9, 10, 11] rfl
      have hD := hD.sub (ws' := (rw_W h q g hm qm gm so sg sx I2 A2 M2 MB2 L2)) [0, 1, 2, 3, 4, 5, 6, 7, 8, 9, 10, 11] (by decide) rfl
      refine lv_iload_n hx hb d_P_addNodeAsPart_15 rfl (lv_at hl 0 rfl) ?_
      obtain ⟨e0, e1, e2, e3, e4, e5⟩ := wk_inj5 hf
      subst e0
      subst e1
      subst e2
      subst e3
      subst e4
      subst e5
      exact W.iret (v := r1) hx hb hr (fun t ht hW => ⟨⟨r1, (), rfl, rfl, by rw [ht]; exact hP, va_K.moved hW.alike hK, hD⟩, hS.F ht⟩) hS.2.2 d_P_addNodeAsPart_16

