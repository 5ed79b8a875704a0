set_option maxHeartbeats 4000000 in
set_option maxRecDepth 100000 in
theorem c_L_find (l : Launch) (hfl : l.flags = flags0) (dC : Nat → ClassId) (dI : Nat → Nat → Nat) (a0 r0 r1 r2 r3 r4 r5 r6 r7 : Nat) (sz : Nat) (k0 : Int32)  : Met l y_L_find w_L_find ({ frames := 7, cells := 1, slots := 6, locals := 102 }) (va_Pc [.ref a0, .int k0, .ref r7] (fun U => U.heap.size = sz ∧ va_P (dC, dI) vwCl [(a0, .inr (0, [.ref r0, .int 0, .ref r1, .int 1, .int 0, .ref r2, .int 0, .int (-1), .ref r3, .ref r4, .int 0, .int (-1), .ref r5, .ref r6]))] U.heap ∧ va_K (dC, dI) vwCl [] U ∧ va_D (fun _ => True) [(a0, .inr (0, [.ref r0, .int 0, .ref r1, .int 1, .int 0, .ref r2, .int 0, .int (-1), .ref r3, .ref r4, .int 0, .int (-1), .ref r5, .ref r6]))] ∧ th_Zs U)) (va_Qi (fun (r : Int32) (_ : Unit) => r = 1) (fun (_ : Unit) t => va_P (dC, dI) vwCl [(a0, .inr (0, [.ref r0, .int 0, .ref r1, .int 1, .int 0, .ref r2, .int 0, .int (-1), .ref r3, .ref r4, .int 0, .int (-1), .ref r5, .ref r6]))] t.heap ∧ va_K (dC, dI) vwCl [] t ∧ va_D (va_A [(a0, .inr (0, [.ref r0, .int 0, .ref r1, .int 1, .int 0, .ref r2, .int 0, .int (-1), .ref r3, .ref r4, .int 0, .int (-1), .ref r5, .ref r6]))] sz) [(a0, .inr (0, [.ref r0, .int 0, .ref r1, .int 1, .int 0, .ref r2, .int 0, .int (-1), .ref r3, .ref r4, .int 0, .int (-1), .ref r5, .ref r6]))]) (va_A [(a0, .inr (0, [.ref r0, .int 0, .ref r1, .int 1, .int 0, .ref r2, .int 0, .int (-1), .ref r3, .ref r4, .int 0, .int (-1), .ref r5, .ref r6]))] sz)) 1 6 (va_A [(a0, .inr (0, [.ref r0, .int 0, .ref r1, .int 1, .int 0, .ref r2, .int 0, .int (-1), .ref r3, .ref r4, .int 0, .int (-1), .ref r5, .ref r6]))] sz) := by
  refine th_ofWw (tab := [(0, 9, 12, 13), (0, 9, 15, 23), (0, 9, 18, 33)]) (cc := method_7_code) (maxL := 4) (ret := (some .int)) (by decide) rfl ?_
  intro p e s m args below meth c s₁ B hml htab hv
  obtain ⟨rfl, hsz, hP, hK, hD0, hZ⟩ := hv
  have hx := B.exec
  have hb := B.bytes
  have hr := B.returns
  have hts := atoms_spec (ws := w_L_find) B.pre
  have hown : s.vm.findClass R_L = some m.cls := findClass_of_methodNamed B.named
  have hlocks := B.notSynchronized
  have htr := Launch.traces_off hfl B.admits
  subst hsz
  have hD := hD0.self (sz := s.heap.size)
  generalize hAe : va_A [(a0, .inr (0, [.ref r0, .int 0, .ref r1, .int 1, .int 0, .ref r2, .int 0, .int (-1), .ref r3, .ref r4, .int 0, .int (-1), .ref r5, .ref r6]))] s.heap.size = A at hD ⊢
  have hA : ∀ q : Nat, s.heap.size ≤ q → A q := fun q h => by rw [← hAe]; exact Or.inr h
  have hS : va_S A s.heap s.heap [] := va_S.rf
  have hP : va_P (dC, dI) vwCl [(a0, .inr (0, [.ref r0, .int 0, .ref r1, .int 1, .int 0, .ref r2, .int 0, .int (-1), .ref r3, .ref r4, .int 0, .int (-1), .ref r5, .ref r6]))] s.heap := hP
  have hl := lv_entry ([.ref a0, .int k0, .ref r7]) (n := 4) (Nat.le_of_ble_eq_true rfl)
  rw [lg_entry_eq]
  generalize (lg_sl ([.ref a0, .int k0, .ref r7]) ++ List.replicate (4 - (lg_sl ([.ref a0, .int k0, .ref r7])).length) Slot.unset).toArray = ls at hl ⊢
  have hl : lv_has ls 4 [(0, .ref a0), (1, .int k0), (2, .ref r7)] := hl
  refine lv_aload_n hx hb d_L_find_0 rfl (lv_at hl 2 rfl) ?_
  refine lv_iconst (v := 0) hx hb d_L_find_1 (by decide) ?_
  refine lv_aload_n hx hb d_L_find_2 rfl (lv_at hl 0 rfl) ?_
  refine lv_iload_n hx hb d_L_find_3 rfl (lv_at hl 1 rfl) ?_
  have hPc := hP.sub (ws' := [(a0, .inr (0, [.ref r0, .int 0, .ref r1, .int 1, .int 0, .ref r2, .int 0, .int (-1), .ref r3, .ref r4, .int 0, .int (-1), .ref r5, .ref r6]))]) [0] rfl
  have hDc := hD.sub (ws' := [(a0, .inr (0, [.ref r0, .int 0, .ref r1, .int 1, .int 0, .ref r2, .int 0, .int (-1), .ref r3, .ref r4, .int 0, .int (-1), .ref r5, .ref r6]))]) [0] (by decide) rfl
  have hKc := hK.sub (tys' := []) [] rfl
  have hFc := va_free (wc := [(a0, .inr (0, [.ref r0, .int 0, .ref r1, .int 1, .int 0, .ref r2, .int 0, .int (-1), .ref r3, .ref r4, .int 0, .int (-1), .ref r5, .ref r6]))]) hD hS hA [0] rfl
  refine th_catch (own := R_L) (C := "java/lang/IllegalStateException") (hpc := 12) (A1 := fun _ => False) (th_runV (As := [.int k0]) (rest := [.int 0, .ref r7]) ⟨hx, hb, hml, hown, hts⟩ (c_D_find l hfl dC dI a0 r0 r1 r2 r3 r4 r5 r6 s.heap.size k0) (cwV 1 hts (gd_v lk_366 lk_367 lk_368 lk_16 lk_365) rfl rfl rfl (by decide +kernel) ⟨Nat.le_of_ble_eq_true rfl, Nat.le_of_ble_eq_true rfl⟩) ⟨fun a U g mk q => by obtain ⟨q0, q1, qP, qK, qD, qZ⟩ := q; exact ⟨q0, q1, qP, va_K.moved (u := U) (U := U.calling g mk a) (Vm.Alike.refl U.vm) qK, qD, th_Zs.calling qZ⟩, va_recv (ci := 0) (q0 := 0) hK hP rfl rfl, fun U hU hW => ⟨rfl, by rw [hU], by rw [hU]; exact hPc, va_K.moved hW.alike hKc, hDc.weaken (fun _ _ _ _ => trivial), hZ.same hU hW⟩⟩ rfl rfl hl.1 rfl (lv_room (Nat.le_of_ble_eq_true rfl)) d_L_find_4 ⟨Nat.le_of_ble_eq_true rfl, Nat.le_of_ble_eq_true rfl⟩) hown htab (by refine ⟨⟨by decide, by decide, by decide⟩, "java/lang/IllegalStateException", (hts _ (List.mem_cons_of_mem _ lk_369)), ?_⟩; exact Or.inl ⟨rfl, rfl⟩) (fun _ _ _ h => h) hS (fun _ _ h => h.elim) (fun _ h => h.elim) (fun x st₀ t H1 locs ht hvm _ _ hz1 hk1 hS => ?_)
  have hP := hP.kept (fun k q hk => hk1 q.1 (hP k q hk).lt (fun z => z))
  generalize H1 = H at hP hS ⊢
  refine W.cs (cells' := 1) (slots' := 6) rfl rfl ?_
  refine lv_astore_n (lv' := [(3, .ref x), (0, .ref a0), (1, .int k0), (2, .ref r7)]) hx hb d_L_find_12 rfl hl (by decide) rfl (fun ls hl => ?_)
  have hl : lv_has ls 4 [(3, .ref x), (0, .ref a0), (1, .int k0), (2, .ref r7)] := hl
  refine lv_iconst (v := 1) hx hb d_L_find_13 (by decide) ?_
  have hP9 := hP.sub (ws' := [(a0, .inr (0, [.ref r0, .int 0, .ref r1, .int 1, .int 0, .ref r2, .int 0, .int (-1), .ref r3, .ref r4, .int 0, .int (-1), .ref r5, .ref r6]))]) [0] rfl
  have hD9 := hD.sub (ws' := [(a0, .inr (0, [.ref r0, .int 0, .ref r1, .int 1, .int 0, .ref r2, .int 0, .int (-1), .ref r3, .ref r4, .int 0, .int (-1), .ref r5, .ref r6]))]) [0] (by decide) rfl
  have hK9 := hK.sub (tys' := []) [] rfl
  exact W.iret (v := 1) hx hb hr (fun t ht hW => ⟨⟨1, (), rfl, rfl, by rw [ht]; exact hP9, va_K.moved hW.alike hK9, hD9⟩, hS.F ht⟩) hS.2.2 d_L_find_14

set_option maxHeartbeats 4000000 in
set_option maxRecDepth 100000 in
theorem c_M_find (l : Launch) (dC : Nat → ClassId) (dI : Nat → Nat → Nat) (a0 r0 r1 r2 r3 r4 r5 r6 r7 r8 r9 r10 r11 r12 r13 r14 r15 r16 r17 r18 r19 : Nat) (sz : Nat) (k0 : Int32)  : Met l y_M_find w_M_find ({ frames := 0, cells := 0, slots := 0, locals := 0 }) (va_Pc [.ref a0, .int k0] (fun U => U.heap.size = sz ∧ va_P (dC, dI) vwCl [(a0, .inr (4, [.int 0, .int 0, .ref r0, .int 1, .int 0, .ref r1, .ref r2, .ref r3, .ref r4, .ref r5, .int 0, .int 0, .int (-1), .int 0, .int (-1), .int 0, .ref r6, .int 0, .ref r7, .ref r8, .ref r9, .ref r10, .ref r11, .int 0, .int 0, .int 0, .ref r12, .ref r13, .int 0, .ref r14, .ref r15, .ref r16, .ref r17, .ref r18, .int 0, .int 0, .int 0, .ref r19]))] U.heap ∧ va_K (dC, dI) vwCl [] U ∧ va_D (fun _ => True) [(a0, .inr (4, [.int 0, .int 0, .ref r0, .int 1, .int 0, .ref r1, .ref r2, .ref r3, .ref r4, .ref r5, .int 0, .int 0, .int (-1), .int 0, .int (-1), .int 0, .ref r6, .int 0, .ref r7, .ref r8, .ref r9, .ref r10, .ref r11, .int 0, .int 0, .int 0, .ref r12, .ref r13, .int 0, .ref r14, .ref r15, .ref r16, .ref r17, .ref r18, .int 0, .int 0, .int 0, .ref r19]))])) (va_Qi (fun (r : Int32) (_ : Unit) => r = 0) (fun (_ : Unit) t => va_P (dC, dI) vwCl [(a0, .inr (4, [.int 1, .int 0, .ref r0, .int 1, .int 0, .ref r1, .ref r2, .ref r3, .ref r4, .ref r5, .int 0, .int 0, .int (-1), .int 0, .int (-1), .int 0, .ref r6, .int 0, .ref r7, .ref r8, .ref r9, .ref r10, .ref r11, .int 0, .int 0, .int 0, .ref r12, .ref r13, .int 0, .ref r14, .ref r15, .ref r16, .ref r17, .ref r18, .int 0, .int 0, .int 0, .ref r19]))] t.heap ∧ va_K (dC, dI) vwCl [] t ∧ va_D (va_A [(a0, .inr (4, [.int 0, .int 0, .ref r0, .int 1, .int 0, .ref r1, .ref r2, .ref r3, .ref r4, .ref r5, .int 0, .int 0, .int (-1), .int 0, .int (-1), .int 0, .ref r6, .int 0, .ref r7, .ref r8, .ref r9, .ref r10, .ref r11, .int 0, .int 0, .int 0, .ref r12, .ref r13, .int 0, .ref r14, .ref r15, .ref r16, .ref r17, .ref r18, .int 0, .int 0, .int 0, .ref r19]))] sz) [(a0, .inr (4, [.int 1, .int 0, .ref r0, .int 1, .int 0, .ref r1, .ref r2, .ref r3, .ref r4, .ref r5, .int 0, .int 0, .int (-1), .int 0, .int (-1), .int 0, .ref r6, .int 0, .ref r7, .ref r8, .ref r9, .ref r10, .ref r11, .int 0, .int 0, .int 0, .ref r12, .ref r13, .int 0, .ref r14, .ref r15, .ref r16, .ref r17, .ref r18, .int 0, .int 0, .int 0, .ref r19]))]) (va_A [(a0, .inr (4, [.int 0, .int 0, .ref r0, .int 1, .int 0, .ref r1, .ref r2, .ref r3, .ref r4, .ref r5, .int 0, .int 0, .int (-1), .int 0, .int (-1), .int 0, .ref r6, .int 0, .ref r7, .ref r8, .ref r9, .ref r10, .ref r11, .int 0, .int 0, .int 0, .ref r12, .ref r13, .int 0, .ref r14, .ref r15, .ref r16, .ref r17, .ref r18, .int 0, .int 0, .int 0, .ref r19]))] sz)) 0 0 (va_A [(a0, .inr (4, [.int 0, .int 0, .ref r0, .int 1, .int 0, .ref r1, .ref r2, .ref r3, .ref r4, .ref r5, .int 0, .int 0, .int (-1), .int 0, .int (-1), .int 0, .ref r6, .int 0, .ref r7, .ref r8, .ref r9, .ref r10, .ref r11, .int 0, .int 0, .int 0, .ref r12, .ref r13, .int 0, .ref r14, .ref r15, .ref r16, .ref r17, .ref r18, .int 0, .int 0, .int 0, .ref r19]))] sz) := by
  refine Met.ofW (cc := prog_6_method_45_code) (maxL := 2) (ret := (some .int)) (by decide) rfl ?_
  intro p e s m args below meth c s₁ B hml hv
  obtain ⟨rfl, hsz, hP, hK, hD0⟩ := hv
  have hx := B.exec
  have hb := B.bytes
  have hr := B.returns
  have hts := atoms_spec (ws := w_M_find) B.pre
  have hown : s.vm.findClass R_M = some m.cls := findClass_of_methodNamed B.named
  have hlocks := B.notSynchronized
  subst hsz
  have hD := hD0.self (sz := s.heap.size)
  generalize hAe : va_A [(a0, .inr (4, [.int 0, .int 0, .ref r0, .int 1, .int 0, .ref r1, .ref r2, .ref r3, .ref r4, .ref r5, .int 0, .int 0, .int (-1), .int 0, .int (-1), .int 0, .ref r6, .int 0, .ref r7, .ref r8, .ref r9, .ref r10, .ref r11, .int 0, .int 0, .int 0, .ref r12, .ref r13, .int 0, .ref r14, .ref r15, .ref r16, .ref r17, .ref r18, .int 0, .int 0, .int 0, .ref r19]))] s.heap.size = A at hD ⊢
  have hA : ∀ q : Nat, s.heap.size ≤ q → A q := fun q h => by rw [← hAe]; exact Or.inr h
  have hS : va_S A s.heap s.heap [] := va_S.rf
  have hP : va_P (dC, dI) vwCl [(a0, .inr (4, [.int 0, .int 0, .ref r0, .int 1, .int 0, .ref r1, .ref r2, .ref r3, .ref r4, .ref r5, .int 0, .int 0, .int (-1), .int 0, .int (-1), .int 0, .ref r6, .int 0, .ref r7, .ref r8, .ref r9, .ref r10, .ref r11, .int 0, .int 0, .int 0, .ref r12, .ref r13, .int 0, .ref r14, .ref r15, .ref r16, .ref r17, .ref r18, .int 0, .int 0, .int 0, .ref r19]))] s.heap := hP
  have hl := lv_entry ([.ref a0, .int k0]) (n := 2) (Nat.le_of_ble_eq_true rfl)
  rw [lg_entry_eq]
  generalize (lg_sl ([.ref a0, .int k0]) ++ List.replicate (2 - (lg_sl ([.ref a0, .int k0])).length) Slot.unset).toArray = ls at hl ⊢
  have hl : lv_has ls 2 [(0, .ref a0), (1, .int k0)] := hl
  refine lv_aload_n hx hb d_M_find_0 rfl (lv_at hl 0 rfl) ?_
  refine lv_aload_n hx hb d_M_find_1 rfl (lv_at hl 0 rfl) ?_
  refine va_get (D := (dC, dI)) (ci := 4) (v := .int 0) (C := R_M) (T := F_M) (N := 38) hx hb hts (fun w h => List.mem_cons_of_mem _ (in_M w h)) hown hK hP 0 rfl rfl 13 (by decide) (hts _ (List.mem_cons_of_mem _ lk_350)) (fun _ h9 => h9) rfl d_M_find_2 ?_
  refine lv_if_ne (tgt := 12) hx hb d_M_find_5 (by decide) (fun h => absurd (by decide +kernel) h) (fun _ => ?_)
  refine lv_iconst (v := 1) hx hb d_M_find_8 (by decide) ?_
  refine lv_goto (tgt := 29) hx hb d_M_find_9 (by decide) ?_
  refine va_put (D := (dC, dI)) (ci := 4) (v := .int 1) (ty := .int) (C := R_M) (T := F_M) (N := 38) hx hb hts (fun w h => List.mem_cons_of_mem _ (in_M w h)) t_M tk_M n_M hown hK hP hD hS 0 rfl rfl 0 (by decide) (hts _ (List.mem_cons_of_mem _ lk_175)) (fun _ h9 => h9) rfl (by decide +kernel) rfl rfl (Nat.le_of_ble_eq_true rfl) d_M_find_29 (fun H locs hP hD hS => ?_)
  have hP : va_P (dC, dI) vwCl [(a0, .inr (4, [.int 1, .int 0, .ref r0, .int 1, .int 0, .ref r1, .ref r2, .ref r3, .ref r4, .ref r5, .int 0, .int 0, .int (-1), .int 0, .int (-1), .int 0, .ref r6, .int 0, .ref r7, .ref r8, .ref r9, .ref r10, .ref r11, .int 0, .int 0, .int 0, .ref r12, .ref r13, .int 0, .ref r14, .ref r15, .ref r16, .ref r17, .ref r18, .int 0, .int 0, .int 0, .ref r19]))] H := hP
  have hD : va_D A [(a0, .inr (4, [.int 1, .int 0, .ref r0, .int 1, .int 0, .ref r1, .ref r2, .ref r3, .ref r4, .ref r5, .int 0, .int 0, .int (-1), .int 0, .int (-1), .int 0, .ref r6, .int 0, .ref r7, .ref r8, .ref r9, .ref r10, .ref r11, .int 0, .int 0, .int 0, .ref r12, .ref r13, .int 0, .ref r14, .ref r15, .ref r16, .ref r17, .ref r18, .int 0, .int 0, .int 0, .ref r19]))] := hD
  refine lv_aload_n hx hb d_M_find_32 rfl (lv_at hl 0 rfl) ?_
  refine va_get (D := (dC, dI)) (ci := 4) (v := .int 1) (C := R_M) (T := F_M) (N := 38) hx hb hts (fun w h => List.mem_cons_of_mem _ (in_M w h)) hown hK hP 0 rfl rfl 0 (by decide) (hts _ (List.mem_cons_of_mem _ lk_175)) (fun _ h9 => h9) rfl d_M_find_33 ?_
  refine lv_if_ne (tgt := 52) hx hb d_M_find_36 (by decide) (fun _ => ?_) (fun h => absurd h (by decide +kernel))
  refine lv_aload_n hx hb d_M_find_52 rfl (lv_at hl 0 rfl) ?_
  refine va_get (D := (dC, dI)) (ci := 4) (v := .int 1) (C := R_M) (T := F_M) (N := 38) hx hb hts (fun w h => List.mem_cons_of_mem _ (in_M w h)) hown hK hP 0 rfl rfl 0 (by decide) (hts _ (List.mem_cons_of_mem _ lk_175)) (fun _ h9 => h9) rfl d_M_find_53 ?_
  refine lv_if_le (tgt := 61) hx hb d_M_find_56 (by decide) (fun h => absurd h (by decide +kernel)) (fun _ => ?_)
  refine lv_iconst (v := 0) hx hb d_M_find_59 (by decide) ?_
  have hP9 := hP.sub (ws' := [(a0, .inr (4, [.int 1, .int 0, .ref r0, .int 1, .int 0, .ref r1, .ref r2, .ref r3, .ref r4, .ref r5, .int 0, .int 0, .int (-1), .int 0, .int (-1), .int 0, .ref r6, .int 0, .ref r7, .ref r8, .ref r9, .ref r10, .ref r11, .int 0, .int 0, .int 0, .ref r12, .ref r13, .int 0, .ref r14, .ref r15, .ref r16, .ref r17, .ref r18, .int 0, .int 0, .int 0, .ref r19]))]) [0] rfl
  have hD9 := hD.sub (ws' := [(a0, .inr (4, [.int 1, .int 0, .ref r0, .int 1, .int 0, .ref r1, .ref r2, .ref r3, .ref r4, .ref r5, .int 0, .int 0, .int (-1), .int 0, .int (-1), .int 0, .ref r6, .int 0, .ref r7, .ref r8, .ref r9, .ref r10, .ref r11, .int 0, .int 0, .int 0, .ref r12, .ref r13, .int 0, .ref r14, .ref r15, .ref r16, .ref r17, .ref r18, .int 0, .int 0, .int 0, .ref r19]))]) [0] (by decide) rfl
  have hK9 := hK.sub (tys' := []) [] rfl
  exact W.iret (v := 0) hx hb hr (fun t ht hW => ⟨⟨0, (), rfl, rfl, by rw [ht]; exact hP9, va_K.moved hW.alike hK9, hD9⟩, hS.F ht⟩) hS.2.2 d_M_find_60

set_option maxHeartbeats 4000000 in
set_option maxRecDepth 100000 in
theorem c_D_replace (l : Launch) (hfl : l.flags = flags0) (dC : Nat → ClassId) (dI : Nat → Nat → Nat) (a0 r0 r1 r2 r3 r4 r5 r6 : Nat) (sz : Nat)  : th_Met l y_D_replace w_D_replace ({ frames := 6, cells := 1, slots := 6, locals := 81 }) (va_Pc [.ref a0] (fun U => U.heap.size = sz ∧ va_P (dC, dI) vwCl [(a0, .inr (0, [.ref r0, .int 0, .ref r1, .int 1, .int 0, .ref r2, .int 0, .int (-1), .ref r3, .ref r4, .int 0, .int (-1), .ref r5, .ref r6]))] U.heap ∧ va_K (dC, dI) vwCl [] U ∧ va_D (fun _ => True) [(a0, .inr (0, [.ref r0, .int 0, .ref r1, .int 1, .int 0, .ref r2, .int 0, .int (-1), .ref r3, .ref r4, .int 0, .int (-1), .ref r5, .ref r6]))] ∧ th_Zs U)) (th_Qn "java/lang/IllegalStateException") 1 6 (fun _ => False) := by
  refine th_Met.ofW (cc := prog_1_method_10_code) (maxL := 3) (ret := (some .int)) (by decide) rfl ?_
  intro p e s m args below meth c s₁ B hml hnh hv
  obtain ⟨rfl, hsz, hP, hK, hD0, hZ⟩ := hv
  have hx := B.exec
  have hb := B.bytes
  have hr := B.returns
  have hts := atoms_spec (ws := w_D_replace) B.pre
  have hown : s.vm.findClass R_D = some m.cls := findClass_of_methodNamed B.named
  have hlocks := B.notSynchronized
  have htr := Launch.traces_off hfl B.admits
  subst hsz
  have hD := hD0.self (sz := s.heap.size)
  generalize hAe : va_A [(a0, .inr (0, [.ref r0, .int 0, .ref r1, .int 1, .int 0, .ref r2, .int 0, .int (-1), .ref r3, .ref r4, .int 0, .int (-1), .ref r5, .ref r6]))] s.heap.size = A at hD
  have hA : ∀ q : Nat, s.heap.size ≤ q → A q := fun q h => by rw [← hAe]; exact Or.inr h
  have hS : va_S A s.heap s.heap [] := va_S.rf
  have hP : va_P (dC, dI) vwCl [(a0, .inr (0, [.ref r0, .int 0, .ref r1, .int 1, .int 0, .ref r2, .int 0, .int (-1), .ref r3, .ref r4, .int 0, .int (-1), .ref r5, .ref r6]))] s.heap := hP
  have hl := lv_entry ([.ref a0]) (n := 3) (Nat.le_of_ble_eq_true rfl)
  rw [lg_entry_eq]
  generalize (lg_sl ([.ref a0]) ++ List.replicate (3 - (lg_sl ([.ref a0])).length) Slot.unset).toArray = ls at hl ⊢
  have hl : lv_has ls 3 [(0, .ref a0)] := hl
  refine lv_aload_n hx hb d_D_replace_0 rfl (lv_at hl 0 rfl) ?_
  refine va_get (D := (dC, dI)) (ci := 0) (v := .int 0) (C := R_D) (T := F_D) (N := 14) hx hb hts (fun w h => List.mem_cons_of_mem _ (in_D w h)) hown hK hP 0 rfl rfl 10 (by decide) (hts _ (List.mem_cons_of_mem _ lk_304)) (fun _ h9 => h9) rfl d_D_replace_1 ?_
  refine lv_if_ne (tgt := 15) hx hb d_D_replace_4 (by decide) (fun h => absurd (by decide +kernel) h) (fun _ => ?_)
  exact th_new hx hb htr hown (by decide) (by decide) (oa_1 hts hZ) (hts _ (List.mem_cons_of_mem _ lk_363)) (hts _ (List.mem_cons_of_mem _ lk_364)) hnh (by rw [hl.1, hml]) hS.1 (Nat.le_of_ble_eq_true rfl) (Nat.le_of_ble_eq_true rfl) (Nat.le_of_ble_eq_true rfl) (Nat.le_of_ble_eq_true rfl) hlocks d_D_replace_7 d_D_replace_10 d_D_replace_11 d_D_replace_14

set_option maxHeartbeats 4000000 in
set_option maxRecDepth 100000 in
theorem c_L_replace (l : Launch) (hfl : l.flags = flags0) (dC : Nat → ClassId) (dI : Nat → Nat → Nat) (a0 r0 r1 r2 r3 r4 r5 r6 r7 : Nat) (sz : Nat)  : Met l y_L_replace w_L_replace ({ frames := 7, cells := 1, slots := 6, locals := 103 }) (va_Pc [.ref a0, .ref r7] (fun U => U.heap.size = sz ∧ va_P (dC, dI) vwCl [(a0, .inr (0, [.ref r0, .int 0, .ref r1, .int 1, .int 0, .ref r2, .int 0, .int (-1), .ref r3, .ref r4, .int 0, .int (-1), .ref r5, .ref r6]))] U.heap ∧ va_K (dC, dI) vwCl [] U ∧ va_D (fun _ => True) [(a0, .inr (0, [.ref r0, .int 0, .ref r1, .int 1, .int 0, .ref r2, .int 0, .int (-1), .ref r3, .ref r4, .int 0, .int (-1), .ref r5, .ref r6]))] ∧ th_Zs U)) (va_Qi (fun (r : Int32) (_ : Unit) => r = 1) (fun (_ : Unit) t => va_P (dC, dI) vwCl [(a0, .inr (0, [.ref r0, .int 0, .ref r1, .int 1, .int 0, .ref r2, .int 0, .int (-1), .ref r3, .ref r4, .int 0, .int (-1), .ref r5, .ref r6]))] t.heap ∧ va_K (dC, dI) vwCl [] t ∧ va_D (va_A [(a0, .inr (0, [.ref r0, .int 0, .ref r1, .int 1, .int 0, .ref r2, .int 0, .int (-1), .ref r3, .ref r4, .int 0, .int (-1), .ref r5, .ref r6]))] sz) [(a0, .inr (0, [.ref r0, .int 0, .ref r1, .int 1, .int 0, .ref r2, .int 0, .int (-1), .ref r3, .ref r4, .int 0, .int (-1), .ref r5, .ref r6]))]) (va_A [(a0, .inr (0, [.ref r0, .int 0, .ref r1, .int 1, .int 0, .ref r2, .int 0, .int (-1), .ref r3, .ref r4, .int 0, .int (-1), .ref r5, .ref r6]))] sz)) 1 6 (va_A [(a0, .inr (0, [.ref r0, .int 0, .ref r1, .int 1, .int 0, .ref r2, .int 0, .int (-1), .ref r3, .ref r4, .int 0, .int (-1), .ref r5, .ref r6]))] sz) := by
  refine th_ofWw (tab := [(0, 8, 11, 13)]) (cc := method_8_code) (maxL := 3) (ret := (some .int)) (by decide) rfl ?_
  intro p e s m args below meth c s₁ B hml htab hv
  obtain ⟨rfl, hsz, hP, hK, hD0, hZ⟩ := hv
  have hx := B.exec
  have hb := B.bytes
  have hr := B.returns
  have hts := atoms_spec (ws := w_L_replace) B.pre
  have hown : s.vm.findClass R_L = some m.cls := findClass_of_methodNamed B.named
  have hlocks := B.notSynchronized
  have htr := Launch.traces_off hfl B.admits
  subst hsz
  have hD := hD0.self (sz := s.heap.size)
  generalize hAe : va_A [(a0, .inr (0, [.ref r0, .int 0, .ref r1, .int 1, .int 0, .ref r2, .int 0, .int (-1), .ref r3, .ref r4, .int 0, .int (-1), .ref r5, .ref r6]))] s.heap.size = A at hD ⊢
  have hA : ∀ q : Nat, s.heap.size ≤ q → A q := fun q h => by rw [← hAe]; exact Or.inr h
  have hS : va_S A s.heap s.heap [] := va_S.rf
  have hP : va_P (dC, dI) vwCl [(a0, .inr (0, [.ref r0, .int 0, .ref r1, .int 1, .int 0, .ref r2, .int 0, .int (-1), .ref r3, .ref r4, .int 0, .int (-1), .ref r5, .ref r6]))] s.heap := hP
  have hl := lv_entry ([.ref a0, .ref r7]) (n := 3) (Nat.le_of_ble_eq_true rfl)
  rw [lg_entry_eq]
  generalize (lg_sl ([.ref a0, .ref r7]) ++ List.replicate (3 - (lg_sl ([.ref a0, .ref r7])).length) Slot.unset).toArray = ls at hl ⊢
  have hl : lv_has ls 3 [(0, .ref a0), (1, .ref r7)] := hl
  refine lv_aload_n hx hb d_L_replace_0 rfl (lv_at hl 1 rfl) ?_
  refine lv_iconst (v := 0) hx hb d_L_replace_1 (by decide) ?_
  refine lv_aload_n hx hb d_L_replace_2 rfl (lv_at hl 0 rfl) ?_
  have hPc := hP.sub (ws' := [(a0, .inr (0, [.ref r0, .int 0, .ref r1, .int 1, .int 0, .ref r2, .int 0, .int (-1), .ref r3, .ref r4, .int 0, .int (-1), .ref r5, .ref r6]))]) [0] rfl
  have hDc := hD.sub (ws' := [(a0, .inr (0, [.ref r0, .int 0, .ref r1, .int 1, .int 0, .ref r2, .int 0, .int (-1), .ref r3, .ref r4, .int 0, .int (-1), .ref r5, .ref r6]))]) [0] (by decide) rfl
  have hKc := hK.sub (tys' := []) [] rfl
  have hFc := va_free (wc := [(a0, .inr (0, [.ref r0, .int 0, .ref r1, .int 1, .int 0, .ref r2, .int 0, .int (-1), .ref r3, .ref r4, .int 0, .int (-1), .ref r5, .ref r6]))]) hD hS hA [0] rfl
  refine th_catch (own := R_L) (C := "java/lang/IllegalStateException") (hpc := 11) (A1 := fun _ => False) (th_runV (As := []) (rest := [.int 0, .ref r7]) ⟨hx, hb, hml, hown, hts⟩ (c_D_replace l hfl dC dI a0 r0 r1 r2 r3 r4 r5 r6 s.heap.size) (cwV 0 hts (gd_v lk_378 lk_379 lk_380 lk_16 lk_377) rfl rfl rfl (by decide +kernel) ⟨Nat.le_of_ble_eq_true rfl, Nat.le_of_ble_eq_true rfl⟩) ⟨fun a U g mk q => by obtain ⟨q0, q1, qP, qK, qD, qZ⟩ := q; exact ⟨q0, q1, qP, va_K.moved (u := U) (U := U.calling g mk a) (Vm.Alike.refl U.vm) qK, qD, th_Zs.calling qZ⟩, va_recv (ci := 0) (q0 := 0) hK hP rfl rfl, fun U hU hW => ⟨rfl, by rw [hU], by rw [hU]; exact hPc, va_K.moved hW.alike hKc, hDc.weaken (fun _ _ _ _ => trivial), hZ.same hU hW⟩⟩ rfl rfl hl.1 rfl (lv_room (Nat.le_of_ble_eq_true rfl)) d_L_replace_3 ⟨Nat.le_of_ble_eq_true rfl, Nat.le_of_ble_eq_true rfl⟩) hown htab (by refine ⟨⟨by decide, by decide, by decide⟩, "java/lang/IllegalStateException", (hts _ (List.mem_cons_of_mem _ lk_369)), ?_⟩; exact Or.inl ⟨rfl, rfl⟩) (fun _ _ _ h => h) hS (fun _ _ h => h.elim) (fun _ h => h.elim) (fun x st₀ t H1 locs ht hvm _ _ hz1 hk1 hS => ?_)
  have hP := hP.kept (fun k q hk => hk1 q.1 (hP k q hk).lt (fun z => z))
  generalize H1 = H at hP hS ⊢
  refine W.cs (cells' := 1) (slots' := 6) rfl rfl ?_
  refine lv_astore_n (lv' := [(2, .ref x), (0, .ref a0), (1, .ref r7)]) hx hb d_L_replace_11 rfl hl (by decide) rfl (fun ls hl => ?_)
  have hl : lv_has ls 3 [(2, .ref x), (0, .ref a0), (1, .ref r7)] := hl
  refine lv_iconst (v := 1) hx hb d_L_replace_12 (by decide) ?_
  have hP9 := hP.sub (ws' := [(a0, .inr (0, [.ref r0, .int 0, .ref r1, .int 1, .int 0, .ref r2, .int 0, .int (-1), .ref r3, .ref r4, .int 0, .int (-1), .ref r5, .ref r6]))]) [0] rfl
  have hD9 := hD.sub (ws' := [(a0, .inr (0, [.ref r0, .int 0, .ref r1, .int 1, .int 0, .ref r2, .int 0, .int (-1), .ref r3, .ref r4, .int 0, .int (-1), .ref r5, .ref r6]))]) [0] (by decide) rfl
  have hK9 := hK.sub (tys' := []) [] rfl
  exact W.iret (v := 1) hx hb hr (fun t ht hW => ⟨⟨1, (), rfl, rfl, by rw [ht]; exact hP9, va_K.moved hW.alike hK9, hD9⟩, hS.F ht⟩) hS.2.2 d_L_replace_13

set_option maxHeartbeats 4000000 in
set_option maxRecDepth 100000 in
theorem c_M_replace (l : Launch) (dC : Nat → ClassId) (dI : Nat → Nat → Nat) (a0 r0 r1 r2 r3 r4 r5 r6 r7 r8 r9 r10 r11 r12 r13 r14 r15 r16 r17 r18 r19 : Nat) (sz : Nat)  : Met l y_M_replace w_M_replace ({ frames := 0, cells := 0, slots := 0, locals := 0 }) (va_Pc [.ref a0] (fun U => U.heap.size = sz ∧ va_P (dC, dI) vwCl [(a0, .inr (4, [.int 0, .int 0, .ref r0, .int 1, .int 0, .ref r1, .ref r2, .ref r3, .ref r4, .ref r5, .int 0, .int 0, .int (-1), .int 0, .int (-1), .int 0, .ref r6, .int 0, .ref r7, .ref r8, .ref r9, .ref r10, .ref r11, .int 0, .int 0, .int 0, .ref r12, .ref r13, .int 0, .ref r14, .ref r15, .ref r16, .ref r17, .ref r18, .int 0, .int 0, .int 0, .ref r19]))] U.heap ∧ va_K (dC, dI) vwCl [] U ∧ va_D (fun _ => True) [(a0, .inr (4, [.int 0, .int 0, .ref r0, .int 1, .int 0, .ref r1, .ref r2, .ref r3, .ref r4, .ref r5, .int 0, .int 0, .int (-1), .int 0, .int (-1), .int 0, .ref r6, .int 0, .ref r7, .ref r8, .ref r9, .ref r10, .ref r11, .int 0, .int 0, .int 0, .ref r12, .ref r13, .int 0, .ref r14, .ref r15, .ref r16, .ref r17, .ref r18, .int 0, .int 0, .int 0, .ref r19]))])) (va_Qi (fun (r : Int32) (_ : Unit) => r = 0) (fun (_ : Unit) t => va_P (dC, dI) vwCl [(a0, .inr (4, [.int 1, .int 0, .ref r0, .int 1, .int 0, .ref r1, .ref r2, .ref r3, .ref r4, .ref r5, .int 0, .int 0, .int (-1), .int 0, .int (-1), .int 0, .ref r6, .int 0, .ref r7, .ref r8, .ref r9, .ref r10, .ref r11, .int 0, .int 0, .int 0, .ref r12, .ref r13, .int 0, .ref r14, .ref r15, .ref r16, .ref r17, .ref r18, .int 0, .int 0, .int 0, .ref r19]))] t.heap ∧ va_K (dC, dI) vwCl [] t ∧ va_D (va_A [(a0, .inr (4, [.int 0, .int 0, .ref r0, .int 1, .int 0, .ref r1, .ref r2, .ref r3, .ref r4, .ref r5, .int 0, .int 0, .int (-1), .int 0, .int (-1), .int 0, .ref r6, .int 0, .ref r7, .ref r8, .ref r9, .ref r10, .ref r11, .int 0, .int 0, .int 0, .ref r12, .ref r13, .int 0, .ref r14, .ref r15, .ref r16, .ref r17, .ref r18, .int 0, .int 0, .int 0, .ref r19]))] sz) [(a0, .inr (4, [.int 1, .int 0, .ref r0, .int 1, .int 0, .ref r1, .ref r2, .ref r3, .ref r4, .ref r5, .int 0, .int 0, .int (-1), .int 0, .int (-1), .int 0, .ref r6, .int 0, .ref r7, .ref r8, .ref r9, .ref r10, .ref r11, .int 0, .int 0, .int 0, .ref r12, .ref r13, .int 0, .ref r14, .ref r15, .ref r16, .ref r17, .ref r18, .int 0, .int 0, .int 0, .ref r19]))]) (va_A [(a0, .inr (4, [.int 0, .int 0, .ref r0, .int 1, .int 0, .ref r1, .ref r2, .ref r3, .ref r4, .ref r5, .int 0, .int 0, .int (-1), .int 0, .int (-1), .int 0, .ref r6, .int 0, .ref r7, .ref r8, .ref r9, .ref r10, .ref r11, .int 0, .int 0, .int 0, .ref r12, .ref r13, .int 0, .ref r14, .ref r15, .ref r16, .ref r17, .ref r18, .int 0, .int 0, .int 0, .ref r19]))] sz)) 0 0 (va_A [(a0, .inr (4, [.int 0, .int 0, .ref r0, .int 1, .int 0, .ref r1, .ref r2, .ref r3, .ref r4, .ref r5, .int 0, .int 0, .int (-1), .int 0, .int (-1), .int 0, .ref r6, .int 0, .ref r7, .ref r8, .ref r9, .ref r10, .ref r11, .int 0, .int 0, .int 0, .ref r12, .ref r13, .int 0, .ref r14, .ref r15, .ref r16, .ref r17, .ref r18, .int 0, .int 0, .int 0, .ref r19]))] sz) := by
  refine Met.ofW (cc := prog_6_method_46_code) (maxL := 4) (ret := (some .int)) (by decide) rfl ?_
  intro p e s m args below meth c s₁ B hml hv
  obtain ⟨rfl, hsz, hP, hK, hD0⟩ := hv
  have hx := B.exec
  have hb := B.bytes
  have hr := B.returns
  have hts := atoms_spec (ws := w_M_replace) B.pre
  have hown : s.vm.findClass R_M = some m.cls := findClass_of_methodNamed B.named
  have hlocks := B.notSynchronized
  subst hsz
  have hD := hD0.self (sz := s.heap.size)
  generalize hAe : va_A [(a0, .inr (4, [.int 0, .int 0, .ref r0, .int 1, .int 0, .ref r1, .ref r2, .ref r3, .ref r4, .ref r5, .int 0, .int 0, .int (-1), .int 0, .int (-1), .int 0, .ref r6, .int 0, .ref r7, .ref r8, .ref r9, .ref r10, .ref r11, .int 0, .int 0, .int 0, .ref r12, .ref r13, .int 0, .ref r14, .ref r15, .ref r16, .ref r17, .ref r18, .int 0, .int 0, .int 0, .ref r19]))] s.heap.size = A at hD ⊢
  have hA : ∀ q : Nat, s.heap.size ≤ q → A q := fun q h => by rw [← hAe]; exact Or.inr h
  have hS : va_S A s.heap s.heap [] := va_S.rf
  have hP : va_P (dC, dI) vwCl [(a0, .inr (4, [.int 0, .int 0, .ref r0, .int 1, .int 0, .ref r1, .ref r2, .ref r3, .ref r4, .ref r5, .int 0, .int 0, .int (-1), .int 0, .int (-1), .int 0, .ref r6, .int 0, .ref r7, .ref r8, .ref r9, .ref r10, .ref r11, .int 0, .int 0, .int 0, .ref r12, .ref r13, .int 0, .ref r14, .ref r15, .ref r16, .ref r17, .ref r18, .int 0, .int 0, .int 0, .ref r19]))] s.heap := hP
  have hl := lv_entry ([.ref a0]) (n := 4) (Nat.le_of_ble_eq_true rfl)
  rw [lg_entry_eq]
  generalize (lg_sl ([.ref a0]) ++ List.replicate (4 - (lg_sl ([.ref a0])).length) Slot.unset).toArray = ls at hl ⊢
  have hl : lv_has ls 4 [(0, .ref a0)] := hl
  refine lv_aload_n hx hb d_M_replace_0 rfl (lv_at hl 0 rfl) ?_
  refine lv_aload_n hx hb d_M_replace_1 rfl (lv_at hl 0 rfl) ?_
  refine va_get (D := (dC, dI)) (ci := 4) (v := .int 0) (C := R_M) (T := F_M) (N := 38) hx hb hts (fun w h => List.mem_cons_of_mem _ (in_M w h)) hown hK hP 0 rfl rfl 13 (by decide) (hts _ (List.mem_cons_of_mem _ lk_350)) (fun _ h9 => h9) rfl d_M_replace_2 ?_
  refine lv_if_eq (tgt := 12) hx hb d_M_replace_5 (by decide) (fun _ => ?_) (fun h => absurd (by decide +kernel) h)
  refine lv_iconst (v := 1) hx hb d_M_replace_12 (by decide) ?_
  refine va_put (D := (dC, dI)) (ci := 4) (v := .int 1) (ty := .int) (C := R_M) (T := F_M) (N := 38) hx hb hts (fun w h => List.mem_cons_of_mem _ (in_M w h)) t_M tk_M n_M hown hK hP hD hS 0 rfl rfl 0 (by decide) (hts _ (List.mem_cons_of_mem _ lk_175)) (fun _ h9 => h9) rfl (by decide +kernel) rfl rfl (Nat.le_of_ble_eq_true rfl) d_M_replace_13 (fun H locs hP hD hS => ?_)
  have hP : va_P (dC, dI) vwCl [(a0, .inr (4, [.int 1, .int 0, .ref r0, .int 1, .int 0, .ref r1, .ref r2, .ref r3, .ref r4, .ref r5, .int 0, .int 0, .int (-1), .int 0, .int (-1), .int 0, .ref r6, .int 0, .ref r7, .ref r8, .ref r9, .ref r10, .ref r11, .int 0, .int 0, .int 0, .ref r12, .ref r13, .int 0, .ref r14, .ref r15, .ref r16, .ref r17, .ref r18, .int 0, .int 0, .int 0, .ref r19]))] H := hP
  have hD : va_D A [(a0, .inr (4, [.int 1, .int 0, .ref r0, .int 1, .int 0, .ref r1, .ref r2, .ref r3, .ref r4, .ref r5, .int 0, .int 0, .int (-1), .int 0, .int (-1), .int 0, .ref r6, .int 0, .ref r7, .ref r8, .ref r9, .ref r10, .ref r11, .int 0, .int 0, .int 0, .ref r12, .ref r13, .int 0, .ref r14, .ref r15, .ref r16, .ref r17, .ref r18, .int 0, .int 0, .int 0, .ref r19]))] := hD
  refine lv_aload_n hx hb d_M_replace_16 rfl (lv_at hl 0 rfl) ?_
  refine va_get (D := (dC, dI)) (ci := 4) (v := .int 1) (C := R_M) (T := F_M) (N := 38) hx hb hts (fun w h => List.mem_cons_of_mem _ (in_M w h)) hown hK hP 0 rfl rfl 0 (by decide) (hts _ (List.mem_cons_of_mem _ lk_175)) (fun _ h9 => h9) rfl d_M_replace_17 ?_
  refine lv_if_le (tgt := 25) hx hb d_M_replace_20 (by decide) (fun h => absurd h (by decide +kernel)) (fun _ => ?_)
  refine lv_iconst (v := 0) hx hb d_M_replace_23 (by decide) ?_
  have hP9 := hP.sub (ws' := [(a0, .inr (4, [.int 1, .int 0, .ref r0, .int 1, .int 0, .ref r1, .ref r2, .ref r3, .ref r4, .ref r5, .int 0, .int 0, .int (-1), .int 0, .int (-1), .int 0, .ref r6, .int 0, .ref r7, .ref r8, .ref r9, .ref r10, .ref r11, .int 0, .int 0, .int 0, .ref r12, .ref r13, .int 0, .ref r14, .ref r15, .ref r16, .ref r17, .ref r18, .int 0, .int 0, .int 0, .ref r19]))]) [0] rfl
  have hD9 := hD.sub (ws' := [(a0, .inr (4, [.int 1, .int 0, .ref r0, .int 1, .int 0, .ref r1, .ref r2, .ref r3, .ref r4, .ref r5, .int 0, .int 0, .int (-1), .int 0, .int (-1), .int 0, .ref r6, .int 0, .ref r7, .ref r8, .ref r9, .ref r10, .ref r11, .int 0, .int 0, .int 0, .ref r12, .ref r13, .int 0, .ref r14, .ref r15, .ref r16, .ref r17, .ref r18, .int 0, .int 0, .int 0, .ref r19]))]) [0] (by decide) rfl
  have hK9 := hK.sub (tys' := []) [] rfl
  exact W.iret (v := 0) hx hb hr (fun t ht hW => ⟨⟨0, (), rfl, rfl, by rw [ht]; exact hP9, va_K.moved hW.alike hK9, hD9⟩, hS.F ht⟩) hS.2.2 d_M_replace_24

set_option maxHeartbeats 4000000 in
set_option maxRecDepth 100000 in
theorem c_D_undo (l : Launch) (hfl : l.flags = flags0) (dC : Nat → ClassId) (dI : Nat → Nat → Nat) (a0 a1 a2 r0 r1 r2 r3 r4 r5 : Nat) (t0 : ClassId) (sz : Nat)  : th_Met l y_D_undo w_D_undo ({ frames := 6, cells := 1, slots := 6, locals := 81 }) (va_Pc [.ref a0] (fun U => U.heap.size = sz ∧ va_P (dC, dI) vwCl [(a0, .inr (0, [.ref r0, .int 0, .ref a1, .int 1, .int 0, .ref r1, .int 0, .int (-1), .ref r2, .ref r3, .int 0, .int (-1), .ref r4, .ref r5])), (a1, .inl (t0, 40, .inr (.inr (.inr (.inr (va_up (fun _ => none) 0 (some a2))))))), (a2, .inr (1, [.ref r1, .int (-1), .int 0, .int (-1)]))] U.heap ∧ va_K (dC, dI) vwCl [(t0, (.object "DraftTree$State"))] U ∧ va_D (fun _ => True) [(a0, .inr (0, [.ref r0, .int 0, .ref a1, .int 1, .int 0, .ref r1, .int 0, .int (-1), .ref r2, .ref r3, .int 0, .int (-1), .ref r4, .ref r5])), (a1, .inl (t0, 40, .inr (.inr (.inr (.inr (va_up (fun _ => none) 0 (some a2))))))), (a2, .inr (1, [.ref r1, .int (-1), .int 0, .int (-1)]))] ∧ th_Zs U)) (th_Qn "java/util/NoSuchElementException") 1 6 (fun _ => False) := by
  refine th_Met.ofW (cc := prog_1_method_11_code) (maxL := 2) (ret := (some .int)) (by decide) rfl ?_
  intro p e s m args below meth c s₁ B hml hnh hv
  obtain ⟨rfl, hsz, hP, hK, hD0, hZ⟩ := hv
  have hx := B.exec
  have hb := B.bytes
  have hr := B.returns
  have hts := atoms_spec (ws := w_D_undo) B.pre
  have hown : s.vm.findClass R_D = some m.cls := findClass_of_methodNamed B.named
  have hlocks := B.notSynchronized
  have htr := Launch.traces_off hfl B.admits
  subst hsz
  have hD := hD0.self (sz := s.heap.size)
  generalize hAe : va_A [(a0, .inr (0, [.ref r0, .int 0, .ref a1, .int 1, .int 0, .ref r1, .int 0, .int (-1), .ref r2, .ref r3, .int 0, .int (-1), .ref r4, .ref r5])), (a1, .inl (t0, 40, .inr (.inr (.inr (.inr (va_up (fun _ => none) 0 (some a2))))))), (a2, .inr (1, [.ref r1, .int (-1), .int 0, .int (-1)]))] s.heap.size = A at hD
  have hA : ∀ q : Nat, s.heap.size ≤ q → A q := fun q h => by rw [← hAe]; exact Or.inr h
  have hS : va_S A s.heap s.heap [] := va_S.rf
  have hP : va_P (dC, dI) vwCl [(a0, .inr (0, [.ref r0, .int 0, .ref a1, .int 1, .int 0, .ref r1, .int 0, .int (-1), .ref r2, .ref r3, .int 0, .int (-1), .ref r4, .ref r5])), (a1, .inl (t0, 40, .inr (.inr (.inr (.inr (va_up (fun _ => none) 0 (some a2))))))), (a2, .inr (1, [.ref r1, .int (-1), .int 0, .int (-1)]))] s.heap := hP
  have hl := lv_entry ([.ref a0]) (n := 2) (Nat.le_of_ble_eq_true rfl)
  rw [lg_entry_eq]
  generalize (lg_sl ([.ref a0]) ++ List.replicate (2 - (lg_sl ([.ref a0])).length) Slot.unset).toArray = ls at hl ⊢
  have hl : lv_has ls 2 [(0, .ref a0)] := hl
  refine lv_aload_n hx hb d_D_undo_0 rfl (lv_at hl 0 rfl) ?_
  refine va_get (D := (dC, dI)) (ci := 0) (v := .ref a1) (C := R_D) (T := F_D) (N := 14) hx hb hts (fun w h => List.mem_cons_of_mem _ (in_D w h)) hown hK hP 0 rfl rfl 2 (by decide) (hts _ (List.mem_cons_of_mem _ lk_23)) (fun _ h9 => h9) rfl d_D_undo_1 ?_
  refine lv_aload_n hx hb d_D_undo_4 rfl (lv_at hl 0 rfl) ?_
  refine va_get (D := (dC, dI)) (ci := 0) (v := .int 0) (C := R_D) (T := F_D) (N := 14) hx hb hts (fun w h => List.mem_cons_of_mem _ (in_D w h)) hown hK hP 0 rfl rfl 4 (by decide) (hts _ (List.mem_cons_of_mem _ lk_201)) (fun _ h9 => h9) rfl d_D_undo_5 ?_
  refine va_aldq hx hb hK hP 1 0 rfl rfl (wk_in (by decide +kernel)) d_D_undo_8 ?_
  refine wk_top (w := .ref a2) rfl ?_
  refine va_get (D := (dC, dI)) (ci := 1) (v := .int (-1)) (C := R_S) (T := F_S) (N := 4) hx hb hts (fun w h => List.mem_cons_of_mem _ (in_S w h)) hown hK hP 2 rfl rfl 1 (by decide) (hts _ (List.mem_cons_of_mem _ lk_388)) (fun _ h9 => h9) rfl d_D_undo_9 ?_
  refine lv_istore_n (lv' := [(1, .int (-1)), (0, .ref a0)]) hx hb d_D_undo_12 rfl hl (by decide) rfl (fun ls hl => ?_)
  have hl : lv_has ls 2 [(1, .int (-1)), (0, .ref a0)] := hl
  refine lv_iload_n hx hb d_D_undo_13 rfl (lv_at hl 0 rfl) ?_
  refine lv_iconst (v := (-1)) hx hb d_D_undo_14 (by decide) ?_
  refine lv_icmp_ne (tgt := 26) hx hb d_D_undo_15 (by decide) (fun h => absurd (by decide +kernel) h) (fun _ => ?_)
  exact th_new hx hb htr hown (by decide) (by decide) (oa_2 hts hZ) (hts _ (List.mem_cons_of_mem _ lk_389)) (hts _ (List.mem_cons_of_mem _ lk_390)) hnh (by rw [hl.1, hml]) hS.1 (Nat.le_of_ble_eq_true rfl) (Nat.le_of_ble_eq_true rfl) (Nat.le_of_ble_eq_true rfl) (Nat.le_of_ble_eq_true rfl) hlocks d_D_undo_18 d_D_undo_21 d_D_undo_22 d_D_undo_25

set_option maxHeartbeats 4000000 in
set_option maxRecDepth 100000 in
theorem c_L_undo (l : Launch) (hfl : l.flags = flags0) (dC : Nat → ClassId) (dI : Nat → Nat → Nat) (a0 a1 a2 r0 r1 r2 r3 r4 r5 r6 : Nat) (t0 : ClassId) (sz : Nat)  : Met l y_L_undo w_L_undo ({ frames := 7, cells := 1, slots := 6, locals := 102 }) (va_Pc [.ref a0, .ref r6] (fun U => U.heap.size = sz ∧ va_P (dC, dI) vwCl [(a0, .inr (0, [.ref r0, .int 0, .ref a1, .int 1, .int 0, .ref r1, .int 0, .int (-1), .ref r2, .ref r3, .int 0, .int (-1), .ref r4, .ref r5])), (a1, .inl (t0, 40, .inr (.inr (.inr (.inr (va_up (fun _ => none) 0 (some a2))))))), (a2, .inr (1, [.ref r1, .int (-1), .int 0, .int (-1)]))] U.heap ∧ va_K (dC, dI) vwCl [(t0, (.object "DraftTree$State"))] U ∧ va_D (fun _ => True) [(a0, .inr (0, [.ref r0, .int 0, .ref a1, .int 1, .int 0, .ref r1, .int 0, .int (-1), .ref r2, .ref r3, .int 0, .int (-1), .ref r4, .ref r5])), (a1, .inl (t0, 40, .inr (.inr (.inr (.inr (va_up (fun _ => none) 0 (some a2))))))), (a2, .inr (1, [.ref r1, .int (-1), .int 0, .int (-1)]))] ∧ th_Zs U)) (va_Qi (fun (r : Int32) (_ : Unit) => r = 1) (fun (_ : Unit) t => va_P (dC, dI) vwCl [(a0, .inr (0, [.ref r0, .int 0, .ref a1, .int 1, .int 0, .ref r1, .int 0, .int (-1), .ref r2, .ref r3, .int 0, .int (-1), .ref r4, .ref r5])), (a1, .inl (t0, 40, .inr (.inr (.inr (.inr (va_up (fun _ => none) 0 (some a2))))))), (a2, .inr (1, [.ref r1, .int (-1), .int 0, .int (-1)]))] t.heap ∧ va_K (dC, dI) vwCl [(t0, (.object "DraftTree$State"))] t ∧ va_D (va_A [(a0, .inr (0, [.ref r0, .int 0, .ref a1, .int 1, .int 0, .ref r1, .int 0, .int (-1), .ref r2, .ref r3, .int 0, .int (-1), .ref r4, .ref r5])), (a1, .inl (t0, 40, .inr (.inr (.inr (.inr (va_up (fun _ => none) 0 (some a2))))))), (a2, .inr (1, [.ref r1, .int (-1), .int 0, .int (-1)]))] sz) [(a0, .inr (0, [.ref r0, .int 0, .ref a1, .int 1, .int 0, .ref r1, .int 0, .int (-1), .ref r2, .ref r3, .int 0, .int (-1), .ref r4, .ref r5])), (a1, .inl (t0, 40, .inr (.inr (.inr (.inr (va_up (fun _ => none) 0 (some a2))))))), (a2, .inr (1, [.ref r1, .int (-1), .int 0, .int (-1)]))]) (va_A [(a0, .inr (0, [.ref r0, .int 0, .ref a1, .int 1, .int 0, .ref r1, .int 0, .int (-1), .ref r2, .ref r3, .int 0, .int (-1), .ref r4, .ref r5])), (a1, .inl (t0, 40, .inr (.inr (.inr (.inr (va_up (fun _ => none) 0 (some a2))))))), (a2, .inr (1, [.ref r1, .int (-1), .int 0, .int (-1)]))] sz)) 1 6 (va_A [(a0, .inr (0, [.ref r0, .int 0, .ref a1, .int 1, .int 0, .ref r1, .int 0, .int (-1), .ref r2, .ref r3, .int 0, .int (-1), .ref r4, .ref r5])), (a1, .inl (t0, 40, .inr (.inr (.inr (.inr (va_up (fun _ => none) 0 (some a2))))))), (a2, .inr (1, [.ref r1, .int (-1), .int 0, .int (-1)]))] sz) := by
  refine th_ofWw (tab := [(0, 8, 11, 33)]) (cc := method_9_code) (maxL := 3) (ret := (some .int)) (by decide) rfl ?_
  intro p e s m args below meth c s₁ B hml htab hv
  obtain ⟨rfl, hsz, hP, hK, hD0, hZ⟩ := hv
  have hx := B.exec
  have hb := B.bytes
  have hr := B.returns
  have hts := atoms_spec (ws := w_L_undo) B.pre
  have hown : s.vm.findClass R_L = some m.cls := findClass_of_methodNamed B.named
  have hlocks := B.notSynchronized
  have htr := Launch.traces_off hfl B.admits
  subst hsz
  have hD := hD0.self (sz := s.heap.size)
  generalize hAe : va_A [(a0, .inr (0, [.ref r0, .int 0, .ref a1, .int 1, .int 0, .ref r1, .int 0, .int (-1), .ref r2, .ref r3, .int 0, .int (-1), .ref r4, .ref r5])), (a1, .inl (t0, 40, .inr (.inr (.inr (.inr (va_up (fun _ => none) 0 (some a2))))))), (a2, .inr (1, [.ref r1, .int (-1), .int 0, .int (-1)]))] s.heap.size = A at hD ⊢
  have hA : ∀ q : Nat, s.heap.size ≤ q → A q := fun q h => by rw [← hAe]; exact Or.inr h
  have hS : va_S A s.heap s.heap [] := va_S.rf
  have hP : va_P (dC, dI) vwCl [(a0, .inr (0, [.ref r0, .int 0, .ref a1, .int 1, .int 0, .ref r1, .int 0, .int (-1), .ref r2, .ref r3, .int 0, .int (-1), .ref r4, .ref r5])), (a1, .inl (t0, 40, .inr (.inr (.inr (.inr (va_up (fun _ => none) 0 (some a2))))))), (a2, .inr (1, [.ref r1, .int (-1), .int 0, .int (-1)]))] s.heap := hP
  have hl := lv_entry ([.ref a0, .ref r6]) (n := 3) (Nat.le_of_ble_eq_true rfl)
  rw [lg_entry_eq]
  generalize (lg_sl ([.ref a0, .ref r6]) ++ List.replicate (3 - (lg_sl ([.ref a0, .ref r6])).length) Slot.unset).toArray = ls at hl ⊢
  have hl : lv_has ls 3 [(0, .ref a0), (1, .ref r6)] := hl
  refine lv_aload_n hx hb d_L_undo_0 rfl (lv_at hl 1 rfl) ?_
  refine lv_iconst (v := 0) hx hb d_L_undo_1 (by decide) ?_
  refine lv_aload_n hx hb d_L_undo_2 rfl (lv_at hl 0 rfl) ?_
  have hPc := hP.sub (ws' := [(a0, .inr (0, [.ref r0, .int 0, .ref a1, .int 1, .int 0, .ref r1, .int 0, .int (-1), .ref r2, .ref r3, .int 0, .int (-1), .ref r4, .ref r5])), (a1, .inl (t0, 40, .inr (.inr (.inr (.inr (va_up (fun _ => none) 0 (some a2))))))), (a2, .inr (1, [.ref r1, .int (-1), .int 0, .int (-1)]))]) [0, 1, 2] rfl
  have hDc := hD.sub (ws' := [(a0, .inr (0, [.ref r0, .int 0, .ref a1, .int 1, .int 0, .ref r1, .int 0, .int (-1), .ref r2, .ref r3, .int 0, .int (-1), .ref r4, .ref r5])), (a1, .inl (t0, 40, .inr (.inr (.inr (.inr (va_up (fun _ => none) 0 (some a2))))))), (a2, .inr (1, [.ref r1, .int (-1), .int 0, .int (-1)]))]) [0, 1, 2] (by decide) rfl
  have hKc := hK.sub (tys' := [(t0, (.object "DraftTree$State"))]) [0] rfl
  have hFc := va_free (wc := [(a0, .inr (0, [.ref r0, .int 0, .ref a1, .int 1, .int 0, .ref r1, .int 0, .int (-1), .ref r2, .ref r3, .int 0, .int (-1), .ref r4, .ref r5])), (a1, .inl (t0, 40, .inr (.inr (.inr (.inr (va_up (fun _ => none) 0 (some a2))))))), (a2, .inr (1, [.ref r1, .int (-1), .int 0, .int (-1)]))]) hD hS hA [0, 1, 2] rfl
  refine th_catch (own := R_L) (C := "java/util/NoSuchElementException") (hpc := 11) (A1 := fun _ => False) (th_runV (As := []) (rest := [.int 0, .ref r6]) ⟨hx, hb, hml, hown, hts⟩ (c_D_undo l hfl dC dI a0 a1 a2 r0 r1 r2 r3 r4 r5 t0 s.heap.size) (cwV 0 hts (gd_v lk_392 lk_393 lk_394 lk_16 lk_391) rfl rfl rfl (by decide +kernel) ⟨Nat.le_of_ble_eq_true rfl, Nat.le_of_ble_eq_true rfl⟩) ⟨fun a U g mk q => by obtain ⟨q0, q1, qP, qK, qD, qZ⟩ := q; exact ⟨q0, q1, qP, va_K.moved (u := U) (U := U.calling g mk a) (Vm.Alike.refl U.vm) qK, qD, th_Zs.calling qZ⟩, va_recv (ci := 0) (q0 := 0) hK hP rfl rfl, fun U hU hW => ⟨rfl, by rw [hU], by rw [hU]; exact hPc, va_K.moved hW.alike hKc, hDc.weaken (fun _ _ _ _ => trivial), hZ.same hU hW⟩⟩ rfl rfl hl.1 rfl (lv_room (Nat.le_of_ble_eq_true rfl)) d_L_undo_3 ⟨Nat.le_of_ble_eq_true rfl, Nat.le_of_ble_eq_true rfl⟩) hown htab (by refine ⟨⟨by decide, by decide, by decide⟩, "java/util/NoSuchElementException", (hts _ (List.mem_cons_of_mem _ lk_395)), ?_⟩; exact Or.inl ⟨rfl, rfl⟩) (fun _ _ _ h => h) hS (fun _ _ h => h.elim) (fun _ h => h.elim) (fun x st₀ t H1 locs ht hvm _ _ hz1 hk1 hS => ?_)
  have hP := hP.kept (fun k q hk => hk1 q.1 (hP k q hk).lt (fun z => z))
  generalize H1 = H at hP hS ⊢
  refine W.cs (cells' := 1) (slots' := 6) rfl rfl ?_
  refine lv_astore_n (lv' := [(2, .ref x), (0, .ref a0), (1, .ref r6)]) hx hb d_L_undo_11 rfl hl (by decide) rfl (fun ls hl => ?_)
  have hl : lv_has ls 3 [(2, .ref x), (0, .ref a0), (1, .ref r6)] := hl
  refine lv_iconst (v := 1) hx hb d_L_undo_12 (by decide) ?_
  have hP9 := hP.sub (ws' := [(a0, .inr (0, [.ref r0, .int 0, .ref a1, .int 1, .int 0, .ref r1, .int 0, .int (-1), .ref r2, .ref r3, .int 0, .int (-1), .ref r4, .ref r5])), (a1, .inl (t0, 40, .inr (.inr (.inr (.inr (va_up (fun _ => none) 0 (some a2))))))), (a2, .inr (1, [.ref r1, .int (-1), .int 0, .int (-1)]))]) [0, 1, 2] rfl
  have hD9 := hD.sub (ws' := [(a0, .inr (0, [.ref r0, .int 0, .ref a1, .int 1, .int 0, .ref r1, .int 0, .int (-1), .ref r2, .ref r3, .int 0, .int (-1), .ref r4, .ref r5])), (a1, .inl (t0, 40, .inr (.inr (.inr (.inr (va_up (fun _ => none) 0 (some a2))))))), (a2, .inr (1, [.ref r1, .int (-1), .int 0, .int (-1)]))]) [0, 1, 2] (by decide) rfl
  have hK9 := hK.sub (tys' := [(t0, (.object "DraftTree$State"))]) [0] rfl
  exact W.iret (v := 1) hx hb hr (fun t ht hW => ⟨⟨1, (), rfl, rfl, by rw [ht]; exact hP9, va_K.moved hW.alike hK9, hD9⟩, hS.F ht⟩) hS.2.2 d_L_undo_13

set_option maxHeartbeats 4000000 in
set_option maxRecDepth 100000 in
theorem c_M_undo (l : Launch) (dC : Nat → ClassId) (dI : Nat → Nat → Nat) (a0 r0 r1 r2 r3 r4 r5 r6 r7 r8 r9 r10 r11 r12 r13 r14 r15 r16 r17 r18 r19 : Nat) (sz : Nat)  : Met l y_M_undo w_M_undo ({ frames := 0, cells := 0, slots := 0, locals := 0 }) (va_Pc [.ref a0] (fun U => U.heap.size = sz ∧ va_P (dC, dI) vwCl [(a0, .inr (4, [.int 0, .int 0, .ref r0, .int 1, .int 0, .ref r1, .ref r2, .ref r3, .ref r4, .ref r5, .int 0, .int 0, .int (-1), .int 0, .int (-1), .int 0, .ref r6, .int 0, .ref r7, .ref r8, .ref r9, .ref r10, .ref r11, .int 0, .int 0, .int 0, .ref r12, .ref r13, .int 0, .ref r14, .ref r15, .ref r16, .ref r17, .ref r18, .int 0, .int 0, .int 0, .ref r19]))] U.heap ∧ va_K (dC, dI) vwCl [] U ∧ va_D (fun _ => True) [(a0, .inr (4, [.int 0, .int 0, .ref r0, .int 1, .int 0, .ref r1, .ref r2, .ref r3, .ref r4, .ref r5, .int 0, .int 0, .int (-1), .int 0, .int (-1), .int 0, .ref r6, .int 0, .ref r7, .ref r8, .ref r9, .ref r10, .ref r11, .int 0, .int 0, .int 0, .ref r12, .ref r13, .int 0, .ref r14, .ref r15, .ref r16, .ref r17, .ref r18, .int 0, .int 0, .int 0, .ref r19]))])) (va_Qi (fun (r : Int32) (_ : Unit) => r = 0) (fun (_ : Unit) t => va_P (dC, dI) vwCl [(a0, .inr (4, [.int 1, .int 0, .ref r0, .int 1, .int 0, .ref r1, .ref r2, .ref r3, .ref r4, .ref r5, .int 0, .int 0, .int (-1), .int 0, .int (-1), .int 0, .ref r6, .int 0, .ref r7, .ref r8, .ref r9, .ref r10, .ref r11, .int 0, .int 0, .int 0, .ref r12, .ref r13, .int 0, .ref r14, .ref r15, .ref r16, .ref r17, .ref r18, .int 0, .int 0, .int 0, .ref r19]))] t.heap ∧ va_K (dC, dI) vwCl [] t ∧ va_D (va_A [(a0, .inr (4, [.int 0, .int 0, .ref r0, .int 1, .int 0, .ref r1, .ref r2, .ref r3, .ref r4, .ref r5, .int 0, .int 0, .int (-1), .int 0, .int (-1), .int 0, .ref r6, .int 0, .ref r7, .ref r8, .ref r9, .ref r10, .ref r11, .int 0, .int 0, .int 0, .ref r12, .ref r13, .int 0, .ref r14, .ref r15, .ref r16, .ref r17, .ref r18, .int 0, .int 0, .int 0, .ref r19]))] sz) [(a0, .inr (4, [.int 1, .int 0, .ref r0, .int 1, .int 0, .ref r1, .ref r2, .ref r3, .ref r4, .ref r5, .int 0, .int 0, .int (-1), .int 0, .int (-1), .int 0, .ref r6, .int 0, .ref r7, .ref r8, .ref r9, .ref r10, .ref r11, .int 0, .int 0, .int 0, .ref r12, .ref r13, .int 0, .ref r14, .ref r15, .ref r16, .ref r17, .ref r18, .int 0, .int 0, .int 0, .ref r19]))]) (va_A [(a0, .inr (4, [.int 0, .int 0, .ref r0, .int 1, .int 0, .ref r1, .ref r2, .ref r3, .ref r4, .ref r5, .int 0, .int 0, .int (-1), .int 0, .int (-1), .int 0, .ref r6, .int 0, .ref r7, .ref r8, .ref r9, .ref r10, .ref r11, .int 0, .int 0, .int 0, .ref r12, .ref r13, .int 0, .ref r14, .ref r15, .ref r16, .ref r17, .ref r18, .int 0, .int 0, .int 0, .ref r19]))] sz)) 0 0 (va_A [(a0, .inr (4, [.int 0, .int 0, .ref r0, .int 1, .int 0, .ref r1, .ref r2, .ref r3, .ref r4, .ref r5, .int 0, .int 0, .int (-1), .int 0, .int (-1), .int 0, .ref r6, .int 0, .ref r7, .ref r8, .ref r9, .ref r10, .ref r11, .int 0, .int 0, .int 0, .ref r12, .ref r13, .int 0, .ref r14, .ref r15, .ref r16, .ref r17, .ref r18, .int 0, .int 0, .int 0, .ref r19]))] sz) := by
  refine Met.ofW (cc := prog_6_method_18_code) (maxL := 1) (ret := (some .int)) (by decide) rfl ?_
  intro p e s m args below meth c s₁ B hml hv
  obtain ⟨rfl, hsz, hP, hK, hD0⟩ := hv
  have hx := B.exec
  have hb := B.bytes
  have hr := B.returns
  have hts := atoms_spec (ws := w_M_undo) B.pre
  have hown : s.vm.findClass R_M = some m.cls := findClass_of_methodNamed B.named
  have hlocks := B.notSynchronized
  subst hsz
  have hD := hD0.self (sz := s.heap.size)
  generalize hAe : va_A [(a0, .inr (4, [.int 0, .int 0, .ref r0, .int 1, .int 0, .ref r1, .ref r2, .ref r3, .ref r4, .ref r5, .int 0, .int 0, .int (-1), .int 0, .int (-1), .int 0, .ref r6, .int 0, .ref r7, .ref r8, .ref r9, .ref r10, .ref r11, .int 0, .int 0, .int 0, .ref r12, .ref r13, .int 0, .ref r14, .ref r15, .ref r16, .ref r17, .ref r18, .int 0, .int 0, .int 0, .ref r19]))] s.heap.size = A at hD ⊢
  have hA : ∀ q : Nat, s.heap.size ≤ q → A q := fun q h => by rw [← hAe]; exact Or.inr h
  have hS : va_S A s.heap s.heap [] := va_S.rf
  have hP : va_P (dC, dI) vwCl [(a0, .inr (4, [.int 0, .int 0, .ref r0, .int 1, .int 0, .ref r1, .ref r2, .ref r3, .ref r4, .ref r5, .int 0, .int 0, .int (-1), .int 0, .int (-1), .int 0, .ref r6, .int 0, .ref r7, .ref r8, .ref r9, .ref r10, .ref r11, .int 0, .int 0, .int 0, .ref r12, .ref r13, .int 0, .ref r14, .ref r15, .ref r16, .ref r17, .ref r18, .int 0, .int 0, .int 0, .ref r19]))] s.heap := hP
  have hl := lv_entry ([.ref a0]) (n := 1) (Nat.le_of_ble_eq_true rfl)
  rw [lg_entry_eq]
  generalize (lg_sl ([.ref a0]) ++ List.replicate (1 - (lg_sl ([.ref a0])).length) Slot.unset).toArray = ls at hl ⊢
  have hl : lv_has ls 1 [(0, .ref a0)] := hl
  refine lv_aload_n hx hb d_M_undo_0 rfl (lv_at hl 0 rfl) ?_
  refine lv_aload_n hx hb d_M_undo_1 rfl (lv_at hl 0 rfl) ?_
  refine va_get (D := (dC, dI)) (ci := 4) (v := .int 0) (C := R_M) (T := F_M) (N := 38) hx hb hts (fun w h => List.mem_cons_of_mem _ (in_M w h)) hown hK hP 0 rfl rfl 4 (by decide) (hts _ (List.mem_cons_of_mem _ lk_219)) (fun _ h9 => h9) rfl d_M_undo_2 ?_
  refine lv_if_ne (tgt := 12) hx hb d_M_undo_5 (by decide) (fun h => absurd (by decide +kernel) h) (fun _ => ?_)
  refine lv_iconst (v := 1) hx hb d_M_undo_8 (by decide) ?_
  refine lv_goto (tgt := 13) hx hb d_M_undo_9 (by decide) ?_
  refine va_put (D := (dC, dI)) (ci := 4) (v := .int 1) (ty := .int) (C := R_M) (T := F_M) (N := 38) hx hb hts (fun w h => List.mem_cons_of_mem _ (in_M w h)) t_M tk_M n_M hown hK hP hD hS 0 rfl rfl 0 (by decide) (hts _ (List.mem_cons_of_mem _ lk_175)) (fun _ h9 => h9) rfl (by decide +kernel) rfl rfl (Nat.le_of_ble_eq_true rfl) d_M_undo_13 (fun H locs hP hD hS => ?_)
  have hP : va_P (dC, dI) vwCl [(a0, .inr (4, [.int 1, .int 0, .ref r0, .int 1, .int 0, .ref r1, .ref r2, .ref r3, .ref r4, .ref r5, .int 0, .int 0, .int (-1), .int 0, .int (-1), .int 0, .ref r6, .int 0, .ref r7, .ref r8, .ref r9, .ref r10, .ref r11, .int 0, .int 0, .int 0, .ref r12, .ref r13, .int 0, .ref r14, .ref r15, .ref r16, .ref r17, .ref r18, .int 0, .int 0, .int 0, .ref r19]))] H := hP
  have hD : va_D A [(a0, .inr (4, [.int 1, .int 0, .ref r0, .int 1, .int 0, .ref r1, .ref r2, .ref r3, .ref r4, .ref r5, .int 0, .int 0, .int (-1), .int 0, .int (-1), .int 0, .ref r6, .int 0, .ref r7, .ref r8, .ref r9, .ref r10, .ref r11, .int 0, .int 0, .int 0, .ref r12, .ref r13, .int 0, .ref r14, .ref r15, .ref r16, .ref r17, .ref r18, .int 0, .int 0, .int 0, .ref r19]))] := hD
  refine lv_aload_n hx hb d_M_undo_16 rfl (lv_at hl 0 rfl) ?_
  refine va_get (D := (dC, dI)) (ci := 4) (v := .int 1) (C := R_M) (T := F_M) (N := 38) hx hb hts (fun w h => List.mem_cons_of_mem _ (in_M w h)) hown hK hP 0 rfl rfl 0 (by decide) (hts _ (List.mem_cons_of_mem _ lk_175)) (fun _ h9 => h9) rfl d_M_undo_17 ?_
  refine lv_if_ne (tgt := 36) hx hb d_M_undo_20 (by decide) (fun _ => ?_) (fun h => absurd h (by decide +kernel))
  refine lv_aload_n hx hb d_M_undo_36 rfl (lv_at hl 0 rfl) ?_
  refine va_get (D := (dC, dI)) (ci := 4) (v := .int 1) (C := R_M) (T := F_M) (N := 38) hx hb hts (fun w h => List.mem_cons_of_mem _ (in_M w h)) hown hK hP 0 rfl rfl 0 (by decide) (hts _ (List.mem_cons_of_mem _ lk_175)) (fun _ h9 => h9) rfl d_M_undo_37 ?_
  refine lv_if_ne (tgt := 50) hx hb d_M_undo_40 (by decide) (fun _ => ?_) (fun h => absurd h (by decide +kernel))
  refine lv_iconst (v := 0) hx hb d_M_undo_50 (by decide) ?_
  have hP9 := hP.sub (ws' := [(a0, .inr (4, [.int 1, .int 0, .ref r0, .int 1, .int 0, .ref r1, .ref r2, .ref r3, .ref r4, .ref r5, .int 0, .int 0, .int (-1), .int 0, .int (-1), .int 0, .ref r6, .int 0, .ref r7, .ref r8, .ref r9, .ref r10, .ref r11, .int 0, .int 0, .int 0, .ref r12, .ref r13, .int 0, .ref r14, .ref r15, .ref r16, .ref r17, .ref r18, .int 0, .int 0, .int 0, .ref r19]))]) [0] rfl
  have hD9 := hD.sub (ws' := [(a0, .inr (4, [.int 1, .int 0, .ref r0, .int 1, .int 0, .ref r1, .ref r2, .ref r3, .ref r4, .ref r5, .int 0, .int 0, .int (-1), .int 0, .int (-1), .int 0, .ref r6, .int 0, .ref r7, .ref r8, .ref r9, .ref r10, .ref r11, .int 0, .int 0, .int 0, .ref r12, .ref r13, .int 0, .ref r14, .ref r15, .ref r16, .ref r17, .ref r18, .int 0, .int 0, .int 0, .ref r19]))]) [0] (by decide) rfl
  have hK9 := hK.sub (tys' := []) [] rfl
  exact W.iret (v := 0) hx hb hr (fun t ht hW => ⟨⟨0, (), rfl, rfl, by rw [ht]; exact hP9, va_K.moved hW.alike hK9, hD9⟩, hS.F ht⟩) hS.2.2 d_M_undo_51

set_option maxHeartbeats 4000000 in
set_option maxRecDepth 100000 in
theorem c_D_redo (l : Launch) (hfl : l.flags = flags0) (dC : Nat → ClassId) (dI : Nat → Nat → Nat) (a0 a1 a2 r0 r1 r2 r3 r4 r5 : Nat) (t0 : ClassId) (sz : Nat)  : th_Met l y_D_redo w_D_redo ({ frames := 6, cells := 1, slots := 6, locals := 81 }) (va_Pc [.ref a0] (fun U => U.heap.size = sz ∧ va_P (dC, dI) vwCl [(a0, .inr (0, [.ref r0, .int 0, .ref a1, .int 1, .int 0, .ref r1, .int 0, .int (-1), .ref r2, .ref r3, .int 0, .int (-1), .ref r4, .ref r5])), (a1, .inl (t0, 40, .inr (.inr (.inr (.inr (va_up (fun _ => none) 0 (some a2))))))), (a2, .inr (1, [.ref r1, .int (-1), .int 0, .int (-1)]))] U.heap ∧ va_K (dC, dI) vwCl [(t0, (.object "DraftTree$State"))] U ∧ va_D (fun _ => True) [(a0, .inr (0, [.ref r0, .int 0, .ref a1, .int 1, .int 0, .ref r1, .int 0, .int (-1), .ref r2, .ref r3, .int 0, .int (-1), .ref r4, .ref r5])), (a1, .inl (t0, 40, .inr (.inr (.inr (.inr (va_up (fun _ => none) 0 (some a2))))))), (a2, .inr (1, [.ref r1, .int (-1), .int 0, .int (-1)]))] ∧ th_Zs U)) (th_Qn "java/util/NoSuchElementException") 1 6 (fun _ => False) := by
  refine th_Met.ofW (cc := prog_1_method_12_code) (maxL := 2) (ret := (some .int)) (by decide) rfl ?_
  intro p e s m args below meth c s₁ B hml hnh hv
  obtain ⟨rfl, hsz, hP, hK, hD0, hZ⟩ := hv
  have hx := B.exec
  have hb := B.bytes
  have hr := B.returns
  have hts := atoms_spec (ws := w_D_redo) B.pre
  have hown : s.vm.findClass R_D = some m.cls := findClass_of_methodNamed B.named
  have hlocks := B.notSynchronized
  have htr := Launch.traces_off hfl B.admits
  subst hsz
  have hD := hD0.self (sz := s.heap.size)
  generalize hAe : va_A [(a0, .inr (0, [.ref r0, .int 0, .ref a1, .int 1, .int 0, .ref r1, .int 0, .int (-1), .ref r2, .ref r3, .int 0, .int (-1), .ref r4, .ref r5])), (a1, .inl (t0, 40, .inr (.inr (.inr (.inr (va_up (fun _ => none) 0 (some a2))))))), (a2, .inr (1, [.ref r1, .int (-1), .int 0, .int (-1)]))] s.heap.size = A at hD
  have hA : ∀ q : Nat, s.heap.size ≤ q → A q := fun q h => by rw [← hAe]; exact Or.inr h
  have hS : va_S A s.heap s.heap [] := va_S.rf
  have hP : va_P (dC, dI) vwCl [(a0, .inr (0, [.ref r0, .int 0, .ref a1, .int 1, .int 0, .ref r1, .int 0, .int (-1), .ref r2, .ref r3, .int 0, .int (-1), .ref r4, .ref r5])), (a1, .inl (t0, 40, .inr (.inr (.inr (.inr (va_up (fun _ => none) 0 (some a2))))))), (a2, .inr (1, [.ref r1, .int (-1), .int 0, .int (-1)]))] s.heap := hP
  have hl := lv_entry ([.ref a0]) (n := 2) (Nat.le_of_ble_eq_true rfl)
  rw [lg_entry_eq]
  generalize (lg_sl ([.ref a0]) ++ List.replicate (2 - (lg_sl ([.ref a0])).length) Slot.unset).toArray = ls at hl ⊢
  have hl : lv_has ls 2 [(0, .ref a0)] := hl
  refine lv_aload_n hx hb d_D_redo_0 rfl (lv_at hl 0 rfl) ?_
  refine va_get (D := (dC, dI)) (ci := 0) (v := .ref a1) (C := R_D) (T := F_D) (N := 14) hx hb hts (fun w h => List.mem_cons_of_mem _ (in_D w h)) hown hK hP 0 rfl rfl 2 (by decide) (hts _ (List.mem_cons_of_mem _ lk_23)) (fun _ h9 => h9) rfl d_D_redo_1 ?_
  refine lv_aload_n hx hb d_D_redo_4 rfl (lv_at hl 0 rfl) ?_
  refine va_get (D := (dC, dI)) (ci := 0) (v := .int 0) (C := R_D) (T := F_D) (N := 14) hx hb hts (fun w h => List.mem_cons_of_mem _ (in_D w h)) hown hK hP 0 rfl rfl 4 (by decide) (hts _ (List.mem_cons_of_mem _ lk_201)) (fun _ h9 => h9) rfl d_D_redo_5 ?_
  refine va_aldq hx hb hK hP 1 0 rfl rfl (wk_in (by decide +kernel)) d_D_redo_8 ?_
  refine wk_top (w := .ref a2) rfl ?_
  refine va_get (D := (dC, dI)) (ci := 1) (v := .int (-1)) (C := R_S) (T := F_S) (N := 4) hx hb hts (fun w h => List.mem_cons_of_mem _ (in_S w h)) hown hK hP 2 rfl rfl 3 (by decide) (hts _ (List.mem_cons_of_mem _ lk_403)) (fun _ h9 => h9) rfl d_D_redo_9 ?_
  refine lv_istore_n (lv' := [(1, .int (-1)), (0, .ref a0)]) hx hb d_D_redo_12 rfl hl (by decide) rfl (fun ls hl => ?_)
  have hl : lv_has ls 2 [(1, .int (-1)), (0, .ref a0)] := hl
  refine lv_iload_n hx hb d_D_redo_13 rfl (lv_at hl 0 rfl) ?_
  refine lv_iconst (v := (-1)) hx hb d_D_redo_14 (by decide) ?_
  refine lv_icmp_ne (tgt := 26) hx hb d_D_redo_15 (by decide) (fun h => absurd (by decide +kernel) h) (fun _ => ?_)
  exact th_new hx hb htr hown (by decide) (by decide) (oa_2 hts hZ) (hts _ (List.mem_cons_of_mem _ lk_389)) (hts _ (List.mem_cons_of_mem _ lk_390)) hnh (by rw [hl.1, hml]) hS.1 (Nat.le_of_ble_eq_true rfl) (Nat.le_of_ble_eq_true rfl) (Nat.le_of_ble_eq_true rfl) (Nat.le_of_ble_eq_true rfl) hlocks d_D_redo_18 d_D_redo_21 d_D_redo_22 d_D_redo_25

set_option maxHeartbeats 4000000 in
set_option maxRecDepth 100000 in
theorem c_L_redo (l : Launch) (hfl : l.flags = flags0) (dC : Nat → ClassId) (dI : Nat → Nat → Nat) (a0 a1 a2 r0 r1 r2 r3 r4 r5 r6 : Nat) (t0 : ClassId) (sz : Nat)  : Met l y_L_redo w_L_redo ({ frames := 7, cells := 1, slots := 6, locals := 102 }) (va_Pc [.ref a0, .ref r6] (fun U => U.heap.size = sz ∧ va_P (dC, dI) vwCl [(a0, .inr (0, [.ref r0, .int 0, .ref a1, .int 1, .int 0, .ref r1, .int 0, .int (-1), .ref r2, .ref r3, .int 0, .int (-1), .ref r4, .ref r5])), (a1, .inl (t0, 40, .inr (.inr (.inr (.inr (va_up (fun _ => none) 0 (some a2))))))), (a2, .inr (1, [.ref r1, .int (-1), .int 0, .int (-1)]))] U.heap ∧ va_K (dC, dI) vwCl [(t0, (.object "DraftTree$State"))] U ∧ va_D (fun _ => True) [(a0, .inr (0, [.ref r0, .int 0, .ref a1, .int 1, .int 0, .ref r1, .int 0, .int (-1), .ref r2, .ref r3, .int 0, .int (-1), .ref r4, .ref r5])), (a1, .inl (t0, 40, .inr (.inr (.inr (.inr (va_up (fun _ => none) 0 (some a2))))))), (a2, .inr (1, [.ref r1, .int (-1), .int 0, .int (-1)]))] ∧ th_Zs U)) (va_Qi (fun (r : Int32) (_ : Unit) => r = 1) (fun (_ : Unit) t => va_P (dC, dI) vwCl [(a0, .inr (0, [.ref r0, .int 0, .ref a1, .int 1, .int 0, .ref r1, .int 0, .int (-1), .ref r2, .ref r3, .int 0, .int (-1), .ref r4, .ref r5])), (a1, .inl (t0, 40, .inr (.inr (.inr (.inr (va_up (fun _ => none) 0 (some a2))))))), (a2, .inr (1, [.ref r1, .int (-1), .int 0, .int (-1)]))] t.heap ∧ va_K (dC, dI) vwCl [(t0, (.object "DraftTree$State"))] t ∧ va_D (va_A [(a0, .inr (0, [.ref r0, .int 0, .ref a1, .int 1, .int 0, .ref r1, .int 0, .int (-1), .ref r2, .ref r3, .int 0, .int (-1), .ref r4, .ref r5])), (a1, .inl (t0, 40, .inr (.inr (.inr (.inr (va_up (fun _ => none) 0 (some a2))))))), (a2, .inr (1, [.ref r1, .int (-1), .int 0, .int (-1)]))] sz) [(a0, .inr (0, [.ref r0, .int 0, .ref a1, .int 1, .int 0, .ref r1, .int 0, .int (-1), .ref r2, .ref r3, .int 0, .int (-1), .ref r4, .ref r5])), (a1, .inl (t0, 40, .inr (.inr (.inr (.inr (va_up (fun _ => none) 0 (some a2))))))), (a2, .inr (1, [.ref r1, .int (-1), .int 0, .int (-1)]))]) (va_A [(a0, .inr (0, [.ref r0, .int 0, .ref a1, .int 1, .int 0, .ref r1, .int 0, .int (-1), .ref r2, .ref r3, .int 0, .int (-1), .ref r4, .ref r5])), (a1, .inl (t0, 40, .inr (.inr (.inr (.inr (va_up (fun _ => none) 0 (some a2))))))), (a2, .inr (1, [.ref r1, .int (-1), .int 0, .int (-1)]))] sz)) 1 6 (va_A [(a0, .inr (0, [.ref r0, .int 0, .ref a1, .int 1, .int 0, .ref r1, .int 0, .int (-1), .ref r2, .ref r3, .int 0, .int (-1), .ref r4, .ref r5])), (a1, .inl (t0, 40, .inr (.inr (.inr (.inr (va_up (fun _ => none) 0 (some a2))))))), (a2, .inr (1, [.ref r1, .int (-1), .int 0, .int (-1)]))] sz) := by
  refine th_ofWw (tab := [(0, 8, 11, 33)]) (cc := method_10_code) (maxL := 3) (ret := (some .int)) (by decide) rfl ?_
  intro p e s m args below meth c s₁ B hml htab hv
  obtain ⟨rfl, hsz, hP, hK, hD0, hZ⟩ := hv
  have hx := B.exec
  have hb := B.bytes
  have hr := B.returns
  have hts := atoms_spec (ws := w_L_redo) B.pre
  have hown : s.vm.findClass R_L = some m.cls := findClass_of_methodNamed B.named
  have hlocks := B.notSynchronized
  have htr := Launch.traces_off hfl B.admits
  subst hsz
  have hD := hD0.self (sz := s.heap.size)
  generalize hAe : va_A [(a0, .inr (0, [.ref r0, .int 0, .ref a1, .int 1, .int 0, .ref r1, .int 0, .int (-1), .ref r2, .ref r3, .int 0, .int (-1), .ref r4, .ref r5])), (a1, .inl (t0, 40, .inr (.inr (.inr (.inr (va_up (fun _ => none) 0 (some a2))))))), (a2, .inr (1, [.ref r1, .int (-1), .int 0, .int (-1)]))] s.heap.size = A at hD ⊢
  have hA : ∀ q : Nat, s.heap.size ≤ q → A q := fun q h => by rw [← hAe]; exact Or.inr h
  have hS : va_S A s.heap s.heap [] := va_S.rf
  have hP : va_P (dC, dI) vwCl [(a0, .inr (0, [.ref r0, .int 0, .ref a1, .int 1, .int 0, .ref r1, .int 0, .int (-1), .ref r2, .ref r3, .int 0, .int (-1), .ref r4, .ref r5])), (a1, .inl (t0, 40, .inr (.inr (.inr (.inr (va_up (fun _ => none) 0 (some a2))))))), (a2, .inr (1, [.ref r1, .int (-1), .int 0, .int (-1)]))] s.heap := hP
  have hl := lv_entry ([.ref a0, .ref r6]) (n := 3) (Nat.le_of_ble_eq_true rfl)
  rw [lg_entry_eq]
  generalize (lg_sl ([.ref a0, .ref r6]) ++ List.replicate (3 - (lg_sl ([.ref a0, .ref r6])).length) Slot.unset).toArray = ls at hl ⊢
  have hl : lv_has ls 3 [(0, .ref a0), (1, .ref r6)] := hl
  refine lv_aload_n hx hb d_L_redo_0 rfl (lv_at hl 1 rfl) ?_
  refine lv_iconst (v := 0) hx hb d_L_redo_1 (by decide) ?_
  refine lv_aload_n hx hb d_L_redo_2 rfl (lv_at hl 0 rfl) ?_
  have hPc := hP.sub (ws' := [(a0, .inr (0, [.ref r0, .int 0, .ref a1, .int 1, .int 0, .ref r1, .int 0, .int (-1), .ref r2, .ref r3, .int 0, .int (-1), .ref r4, .ref r5])), (a1, .inl (t0, 40, .inr (.inr (.inr (.inr (va_up (fun _ => none) 0 (some a2))))))), (a2, .inr (1, [.ref r1, .int (-1), .int 0, .int (-1)]))]) [0, 1, 2] rfl
  have hDc := hD.sub (ws' := [(a0, .inr (0, [.ref r0, .int 0, .ref a1, .int 1, .int 0, .ref r1, .int 0, .int (-1), .ref r2, .ref r3, .int 0, .int (-1), .ref r4, .ref r5])), (a1, .inl (t0, 40, .inr (.inr (.inr (.inr (va_up (fun _ => none) 0 (some a2))))))), (a2, .inr (1, [.ref r1, .int (-1), .int 0, .int (-1)]))]) [0, 1, 2] (by decide) rfl
  have hKc := hK.sub (tys' := [(t0, (.object "DraftTree$State"))]) [0] rfl
  have hFc := va_free (wc := [(a0, .inr (0, [.ref r0, .int 0, .ref a1, .int 1, .int 0, .ref r1, .int 0, .int (-1), .ref r2, .ref r3, .int 0, .int (-1), .ref r4, .ref r5])), (a1, .inl (t0, 40, .inr (.inr (.inr (.inr (va_up (fun _ => none) 0 (some a2))))))), (a2, .inr (1, [.ref r1, .int (-1), .int 0, .int (-1)]))]) hD hS hA [0, 1, 2] rfl
  refine th_catch (own := R_L) (C := "java/util/NoSuchElementException") (hpc := 11) (A1 := fun _ => False) (th_runV (As := []) (rest := [.int 0, .ref r6]) ⟨hx, hb, hml, hown, hts⟩ (c_D_redo l hfl dC dI a0 a1 a2 r0 r1 r2 r3 r4 r5 t0 s.heap.size) (cwV 0 hts (gd_v lk_405 lk_406 lk_407 lk_16 lk_404) rfl rfl rfl (by decide +kernel) ⟨Nat.le_of_ble_eq_true rfl, Nat.le_of_ble_eq_true rfl⟩) ⟨fun a U g mk q => by obtain ⟨q0, q1, qP, qK, qD, qZ⟩ := q; exact ⟨q0, q1, qP, va_K.moved (u := U) (U := U.calling g mk a) (Vm.Alike.refl U.vm) qK, qD, th_Zs.calling qZ⟩, va_recv (ci := 0) (q0 := 0) hK hP rfl rfl, fun U hU hW => ⟨rfl, by rw [hU], by rw [hU]; exact hPc, va_K.moved hW.alike hKc, hDc.weaken (fun _ _ _ _ => trivial), hZ.same hU hW⟩⟩ rfl rfl hl.1 rfl (lv_room (Nat.le_of_ble_eq_true rfl)) d_L_redo_3 ⟨Nat.le_of_ble_eq_true rfl, Nat.le_of_ble_eq_true rfl⟩) hown htab (by refine ⟨⟨by decide, by decide, by decide⟩, "java/util/NoSuchElementException", (hts _ (List.mem_cons_of_mem _ lk_395)), ?_⟩; exact Or.inl ⟨rfl, rfl⟩) (fun _ _ _ h => h) hS (fun _ _ h => h.elim) (fun _ h => h.elim) (fun x st₀ t H1 locs ht hvm _ _ hz1 hk1 hS => ?_)
  have hP := hP.kept (fun k q hk => hk1 q.1 (hP k q hk).lt (fun z => z))
  generalize H1 = H at hP hS ⊢
  refine W.cs (cells' := 1) (slots' := 6) rfl rfl ?_
  refine lv_astore_n (lv' := [(2, .ref x), (0, .ref a0), (1, .ref r6)]) hx hb d_L_redo_11 rfl hl (by decide) rfl (fun ls hl => ?_)
  have hl : lv_has ls 3 [(2, .ref x), (0, .ref a0), (1, .ref r6)] := hl
  refine lv_iconst (v := 1) hx hb d_L_redo_12 (by decide) ?_
  have hP9 := hP.sub (ws' := [(a0, .inr (0, [.ref r0, .int 0, .ref a1, .int 1, .int 0, .ref r1, .int 0, .int (-1), .ref r2, .ref r3, .int 0, .int (-1), .ref r4, .ref r5])), (a1, .inl (t0, 40, .inr (.inr (.inr (.inr (va_up (fun _ => none) 0 (some a2))))))), (a2, .inr (1, [.ref r1, .int (-1), .int 0, .int (-1)]))]) [0, 1, 2] rfl
  have hD9 := hD.sub (ws' := [(a0, .inr (0, [.ref r0, .int 0, .ref a1, .int 1, .int 0, .ref r1, .int 0, .int (-1), .ref r2, .ref r3, .int 0, .int (-1), .ref r4, .ref r5])), (a1, .inl (t0, 40, .inr (.inr (.inr (.inr (va_up (fun _ => none) 0 (some a2))))))), (a2, .inr (1, [.ref r1, .int (-1), .int 0, .int (-1)]))]) [0, 1, 2] (by decide) rfl
  have hK9 := hK.sub (tys' := [(t0, (.object "DraftTree$State"))]) [0] rfl
  exact W.iret (v := 1) hx hb hr (fun t ht hW => ⟨⟨1, (), rfl, rfl, by rw [ht]; exact hP9, va_K.moved hW.alike hK9, hD9⟩, hS.F ht⟩) hS.2.2 d_L_redo_13

set_option maxHeartbeats 4000000 in
set_option maxRecDepth 100000 in
theorem c_M_redo (l : Launch) (dC : Nat → ClassId) (dI : Nat → Nat → Nat) (a0 a1 r0 r1 r2 r3 r4 r5 r6 r7 r8 r9 r10 r11 r12 r13 r14 r15 r16 r17 r18 : Nat) (t0 : ClassId) (sz : Nat)  : Met l y_M_redo w_M_redo ({ frames := 0, cells := 0, slots := 0, locals := 0 }) (va_Pc [.ref a0] (fun U => U.heap.size = sz ∧ va_P (dC, dI) vwCl [(a0, .inr (4, [.int 0, .int 0, .ref r0, .int 1, .int 0, .ref r1, .ref r2, .ref r3, .ref a1, .ref r4, .int 0, .int 0, .int (-1), .int 0, .int (-1), .int 0, .ref r5, .int 0, .ref r6, .ref r7, .ref r8, .ref r9, .ref r10, .int 0, .int 0, .int 0, .ref r11, .ref r12, .int 0, .ref r13, .ref r14, .ref r15, .ref r16, .ref r17, .int 0, .int 0, .int 0, .ref r18])), (a1, .inl (t0, 40, .inl (upd (fun _ => 0) 0 (-1))))] U.heap ∧ va_K (dC, dI) vwCl [(t0, .int)] U ∧ va_D (fun _ => True) [(a0, .inr (4, [.int 0, .int 0, .ref r0, .int 1, .int 0, .ref r1, .ref r2, .ref r3, .ref a1, .ref r4, .int 0, .int 0, .int (-1), .int 0, .int (-1), .int 0, .ref r5, .int 0, .ref r6, .ref r7, .ref r8, .ref r9, .ref r10, .int 0, .int 0, .int 0, .ref r11, .ref r12, .int 0, .ref r13, .ref r14, .ref r15, .ref r16, .ref r17, .int 0, .int 0, .int 0, .ref r18])), (a1, .inl (t0, 40, .inl (upd (fun _ => 0) 0 (-1))))])) (va_Qi (fun (r : Int32) (_ : Unit) => r = 0) (fun (_ : Unit) t => va_P (dC, dI) vwCl [(a0, .inr (4, [.int 1, .int 0, .ref r0, .int 1, .int 0, .ref r1, .ref r2, .ref r3, .ref a1, .ref r4, .int 0, .int 0, .int (-1), .int 0, .int (-1), .int 0, .ref r5, .int 0, .ref r6, .ref r7, .ref r8, .ref r9, .ref r10, .int 0, .int 0, .int 0, .ref r11, .ref r12, .int 0, .ref r13, .ref r14, .ref r15, .ref r16, .ref r17, .int 0, .int 0, .int 0, .ref r18])), (a1, .inl (t0, 40, .inl (upd (fun _ => 0) 0 (-1))))] t.heap ∧ va_K (dC, dI) vwCl [(t0, .int)] t ∧ va_D (va_A [(a0, .inr (4, [.int 0, .int 0, .ref r0, .int 1, .int 0, .ref r1, .ref r2, .ref r3, .ref a1, .ref r4, .int 0, .int 0, .int (-1), .int 0, .int (-1), .int 0, .ref r5, .int 0, .ref r6, .ref r7, .ref r8, .ref r9, .ref r10, .int 0, .int 0, .int 0, .ref r11, .ref r12, .int 0, .ref r13, .ref r14, .ref r15, .ref r16, .ref r17, .int 0, .int 0, .int 0, .ref r18])), (a1, .inl (t0, 40, .inl (upd (fun _ => 0) 0 (-1))))] sz) [(a0, .inr (4, [.int 1, .int 0, .ref r0, .int 1, .int 0, .ref r1, .ref r2, .ref r3, .ref a1, .ref r4, .int 0, .int 0, .int (-1), .int 0, .int (-1), .int 0, .ref r5, .int 0, .ref r6, .ref r7, .ref r8, .ref r9, .ref r10, .int 0, .int 0, .int 0, .ref r11, .ref r12, .int 0, .ref r13, .ref r14, .ref r15, .ref r16, .ref r17, .int 0, .int 0, .int 0, .ref r18])), (a1, .inl (t0, 40, .inl (upd (fun _ => 0) 0 (-1))))]) (va_A [(a0, .inr (4, [.int 0, .int 0, .ref r0, .int 1, .int 0, .ref r1, .ref r2, .ref r3, .ref a1, .ref r4, .int 0, .int 0, .int (-1), .int 0, .int (-1), .int 0, .ref r5, .int 0, .ref r6, .ref r7, .ref r8, .ref r9, .ref r10, .int 0, .int 0, .int 0, .ref r11, .ref r12, .int 0, .ref r13, .ref r14, .ref r15, .ref r16, .ref r17, .int 0, .int 0, .int 0, .ref r18])), (a1, .inl (t0, 40, .inl (upd (fun _ => 0) 0 (-1))))] sz)) 0 0 (va_A [(a0, .inr (4, [.int 0, .int 0, .ref r0, .int 1, .int 0, .ref r1, .ref r2, .ref r3, .ref a1, .ref r4, .int 0, .int 0, .int (-1), .int 0, .int (-1), .int 0, .ref r5, .int 0, .ref r6, .ref r7, .ref r8, .ref r9, .ref r10, .int 0, .int 0, .int 0, .ref r11, .ref r12, .int 0, .ref r13, .ref r14, .ref r15, .ref r16, .ref r17, .int 0, .int 0, .int 0, .ref r18])), (a1, .inl (t0, 40, .inl (upd (fun _ => 0) 0 (-1))))] sz) := by
  refine Met.ofW (cc := prog_6_method_19_code) (maxL := 3) (ret := (some .int)) (by decide) rfl ?_
  intro p e s m args below meth c s₁ B hml hv
  obtain ⟨rfl, hsz, hP, hK, hD0⟩ := hv
  have hx := B.exec
  have hb := B.bytes
  have hr := B.returns
  have hts := atoms_spec (ws := w_M_redo) B.pre
  have hown : s.vm.findClass R_M = some m.cls := findClass_of_methodNamed B.named
  have hlocks := B.notSynchronized
  subst hsz
  have hD := hD0.self (sz := s.heap.size)
  generalize hAe : va_A [(a0, .inr (4, [.int 0, .int 0, .ref r0, .int 1, .int 0, .ref r1, .ref r2, .ref r3, .ref a1, .ref r4, .int 0, .int 0, .int (-1), .int 0, .int (-1), .int 0, .ref r5, .int 0, .ref r6, .ref r7, .ref r8, .ref r9, .ref r10, .int 0, .int 0, .int 0, .ref r11, .ref r12, .int 0, .ref r13, .ref r14, .ref r15, .ref r16, .ref r17, .int 0, .int 0, .int 0, .ref r18])), (a1, .inl (t0, 40, .inl (upd (fun _ => 0) 0 (-1))))] s.heap.size = A at hD ⊢
  have hA : ∀ q : Nat, s.heap.size ≤ q → A q := fun q h => by rw [← hAe]; exact Or.inr h
  have hS : va_S A s.heap s.heap [] := va_S.rf
  have hP : va_P (dC, dI) vwCl [(a0, .inr (4, [.int 0, .int 0, .ref r0, .int 1, .int 0, .ref r1, .ref r2, .ref r3, .ref a1, .ref r4, .int 0, .int 0, .int (-1), .int 0, .int (-1), .int 0, .ref r5, .int 0, .ref r6, .ref r7, .ref r8, .ref r9, .ref r10, .int 0, .int 0, .int 0, .ref r11, .ref r12, .int 0, .ref r13, .ref r14, .ref r15, .ref r16, .ref r17, .int 0, .int 0, .int 0, .ref r18])), (a1, .inl (t0, 40, .inl (upd (fun _ => 0) 0 (-1))))] s.heap := hP
  have hl := lv_entry ([.ref a0]) (n := 3) (Nat.le_of_ble_eq_true rfl)
  rw [lg_entry_eq]
  generalize (lg_sl ([.ref a0]) ++ List.replicate (3 - (lg_sl ([.ref a0])).length) Slot.unset).toArray = ls at hl ⊢
  have hl : lv_has ls 3 [(0, .ref a0)] := hl
  refine lv_iconst (v := (-1)) hx hb d_M_redo_0 (by decide) ?_
  refine lv_istore_n (lv' := [(1, .int (-1)), (0, .ref a0)]) hx hb d_M_redo_1 rfl hl (by decide) rfl (fun ls hl => ?_)
  have hl : lv_has ls 3 [(1, .int (-1)), (0, .ref a0)] := hl
  refine lv_iconst (v := 0) hx hb d_M_redo_2 (by decide) ?_
  refine lv_istore_n (lv' := [(2, .int 0), (1, .int (-1)), (0, .ref a0)]) hx hb d_M_redo_3 rfl hl (by decide) rfl (fun ls hl => ?_)
  have hl : lv_has ls 3 [(2, .int 0), (1, .int (-1)), (0, .ref a0)] := hl
  refine lv_iload_n hx hb d_M_redo_4 rfl (lv_at hl 0 rfl) ?_
  refine lv_aload_n hx hb d_M_redo_5 rfl (lv_at hl 2 rfl) ?_
  refine va_get (D := (dC, dI)) (ci := 4) (v := .int 1) (C := R_M) (T := F_M) (N := 38) hx hb hts (fun w h => List.mem_cons_of_mem _ (in_M w h)) hown hK hP 0 rfl rfl 3 (by decide) (hts _ (List.mem_cons_of_mem _ lk_144)) (fun _ h9 => h9) rfl d_M_redo_6 ?_
  refine lv_icmp_ge (tgt := 56) hx hb d_M_redo_9 (by decide) (fun h => absurd h (by decide +kernel)) (fun _ => ?_)
  refine lv_aload_n hx hb d_M_redo_12 rfl (lv_at hl 2 rfl) ?_
  refine va_get (D := (dC, dI)) (ci := 4) (v := .ref a1) (C := R_M) (T := F_M) (N := 38) hx hb hts (fun w h => List.mem_cons_of_mem _ (in_M w h)) hown hK hP 0 rfl rfl 8 (by decide) (hts _ (List.mem_cons_of_mem _ lk_148)) (fun _ h9 => h9) rfl d_M_redo_13 ?_
  refine lv_iload_n hx hb d_M_redo_16 rfl (lv_at hl 0 rfl) ?_
  refine va_iald hx hb hK hP 1 0 rfl rfl (wk_in (by decide +kernel)) d_M_redo_17 ?_
  refine wk_top (w := .int (-1)) (congrArg _ (by decide +kernel)) ?_
  refine lv_aload_n hx hb d_M_redo_18 rfl (lv_at hl 2 rfl) ?_
  refine va_get (D := (dC, dI)) (ci := 4) (v := .int 0) (C := R_M) (T := F_M) (N := 38) hx hb hts (fun w h => List.mem_cons_of_mem _ (in_M w h)) hown hK hP 0 rfl rfl 4 (by decide) (hts _ (List.mem_cons_of_mem _ lk_219)) (fun _ h9 => h9) rfl d_M_redo_19 ?_
  refine lv_icmp_ne (tgt := 48) hx hb d_M_redo_22 (by decide) (fun _ => ?_) (fun h => absurd h (by decide +kernel))
  refine lv_iload_n hx hb d_M_redo_48 rfl (lv_at hl 1 rfl) ?_
  refine lv_istore_n (lv' := [(1, .int (-1)), (2, .int 0), (0, .ref a0)]) hx hb d_M_redo_49 rfl hl (by decide) rfl (fun ls hl => ?_)
  have hl : lv_has ls 3 [(1, .int (-1)), (2, .int 0), (0, .ref a0)] := hl
  refine lv_iinc (k := 1) (v := 1) (lv' := [(2, .int 1), (1, .int (-1)), (0, .ref a0)]) hx hb d_M_redo_50 hl rfl (by decide) (by decide) rfl (fun ls hl => ?_)
  have hl : lv_has ls 3 [(2, .int 1), (1, .int (-1)), (0, .ref a0)] := hl
  refine lv_goto (tgt := 4) hx hb d_M_redo_53 (by decide) ?_
  refine lv_iload_n hx hb d_M_redo_4 rfl (lv_at hl 0 rfl) ?_
  refine lv_aload_n hx hb d_M_redo_5 rfl (lv_at hl 2 rfl) ?_
  refine va_get (D := (dC, dI)) (ci := 4) (v := .int 1) (C := R_M) (T := F_M) (N := 38) hx hb hts (fun w h => List.mem_cons_of_mem _ (in_M w h)) hown hK hP 0 rfl rfl 3 (by decide) (hts _ (List.mem_cons_of_mem _ lk_144)) (fun _ h9 => h9) rfl d_M_redo_6 ?_
  refine lv_icmp_ge (tgt := 56) hx hb d_M_redo_9 (by decide) (fun _ => ?_) (fun h => absurd (by decide +kernel) h)
  refine lv_aload_n hx hb d_M_redo_56 rfl (lv_at hl 2 rfl) ?_
  refine lv_iload_n hx hb d_M_redo_57 rfl (lv_at hl 1 rfl) ?_
  refine lv_if_ge (tgt := 65) hx hb d_M_redo_58 (by decide) (fun h => absurd h (by decide +kernel)) (fun _ => ?_)
  refine lv_iconst (v := 1) hx hb d_M_redo_61 (by decide) ?_
  refine lv_goto (tgt := 66) hx hb d_M_redo_62 (by decide) ?_
  refine va_put (D := (dC, dI)) (ci := 4) (v := .int 1) (ty := .int) (C := R_M) (T := F_M) (N := 38) hx hb hts (fun w h => List.mem_cons_of_mem _ (in_M w h)) t_M tk_M n_M hown hK hP hD hS 0 rfl rfl 0 (by decide) (hts _ (List.mem_cons_of_mem _ lk_175)) (fun _ h9 => h9) rfl (by decide +kernel) rfl rfl (Nat.le_of_ble_eq_true rfl) d_M_redo_66 (fun H locs hP hD hS => ?_)
  have hP : va_P (dC, dI) vwCl [(a0, .inr (4, [.int 1, .int 0, .ref r0, .int 1, .int 0, .ref r1, .ref r2, .ref r3, .ref a1, .ref r4, .int 0, .int 0, .int (-1), .int 0, .int (-1), .int 0, .ref r5, .int 0, .ref r6, .ref r7, .ref r8, .ref r9, .ref r10, .int 0, .int 0, .int 0, .ref r11, .ref r12, .int 0, .ref r13, .ref r14, .ref r15, .ref r16, .ref r17, .int 0, .int 0, .int 0, .ref r18])), (a1, .inl (t0, 40, .inl (upd (fun _ => 0) 0 (-1))))] H := hP
  have hD : va_D A [(a0, .inr (4, [.int 1, .int 0, .ref r0, .int 1, .int 0, .ref r1, .ref r2, .ref r3, .ref a1, .ref r4, .int 0, .int 0, .int (-1), .int 0, .int (-1), .int 0, .ref r5, .int 0, .ref r6, .ref r7, .ref r8, .ref r9, .ref r10, .int 0, .int 0, .int 0, .ref r11, .ref r12, .int 0, .ref r13, .ref r14, .ref r15, .ref r16, .ref r17, .int 0, .int 0, .int 0, .ref r18])), (a1, .inl (t0, 40, .inl (upd (fun _ => 0) 0 (-1))))] := hD
  refine lv_aload_n hx hb d_M_redo_69 rfl (lv_at hl 2 rfl) ?_
  refine va_get (D := (dC, dI)) (ci := 4) (v := .int 1) (C := R_M) (T := F_M) (N := 38) hx hb hts (fun w h => List.mem_cons_of_mem _ (in_M w h)) hown hK hP 0 rfl rfl 0 (by decide) (hts _ (List.mem_cons_of_mem _ lk_175)) (fun _ h9 => h9) rfl d_M_redo_70 ?_
  refine lv_if_ne (tgt := 81) hx hb d_M_redo_73 (by decide) (fun _ => ?_) (fun h => absurd h (by decide +kernel))
  refine lv_aload_n hx hb d_M_redo_81 rfl (lv_at hl 2 rfl) ?_
  refine va_get (D := (dC, dI)) (ci := 4) (v := .int 1) (C := R_M) (T := F_M) (N := 38) hx hb hts (fun w h => List.mem_cons_of_mem _ (in_M w h)) hown hK hP 0 rfl rfl 0 (by decide) (hts _ (List.mem_cons_of_mem _ lk_175)) (fun _ h9 => h9) rfl d_M_redo_82 ?_
  refine lv_if_ne (tgt := 95) hx hb d_M_redo_85 (by decide) (fun _ => ?_) (fun h => absurd h (by decide +kernel))
  refine lv_iconst (v := 0) hx hb d_M_redo_95 (by decide) ?_
  have hP9 := hP.sub (ws' := [(a0, .inr (4, [.int 1, .int 0, .ref r0, .int 1, .int 0, .ref r1, .ref r2, .ref r3, .ref a1, .ref r4, .int 0, .int 0, .int (-1), .int 0, .int (-1), .int 0, .ref r5, .int 0, .ref r6, .ref r7, .ref r8, .ref r9, .ref r10, .int 0, .int 0, .int 0, .ref r11, .ref r12, .int 0, .ref r13, .ref r14, .ref r15, .ref r16, .ref r17, .int 0, .int 0, .int 0, .ref r18])), (a1, .inl (t0, 40, .inl (upd (fun _ => 0) 0 (-1))))]) [0, 1] rfl
  have hD9 := hD.sub (ws' := [(a0, .inr (4, [.int 1, .int 0, .ref r0, .int 1, .int 0, .ref r1, .ref r2, .ref r3, .ref a1, .ref r4, .int 0, .int 0, .int (-1), .int 0, .int (-1), .int 0, .ref r5, .int 0, .ref r6, .ref r7, .ref r8, .ref r9, .ref r10, .int 0, .int 0, .int 0, .ref r11, .ref r12, .int 0, .ref r13, .ref r14, .ref r15, .ref r16, .ref r17, .int 0, .int 0, .int 0, .ref r18])), (a1, .inl (t0, 40, .inl (upd (fun _ => 0) 0 (-1))))]) [0, 1] (by decide) rfl
  have hK9 := hK.sub (tys' := [(t0, .int)]) [0] rfl
  exact W.iret (v := 0) hx hb hr (fun t ht hW => ⟨⟨0, (), rfl, rfl, by rw [ht]; exact hP9, va_K.moved hW.alike hK9, hD9⟩, hS.F ht⟩) hS.2.2 d_M_redo_96

set_option maxHeartbeats 4000000 in
set_option maxRecDepth 100000 in
theorem c_D_requireState (l : Launch) (dC : Nat → ClassId) (dI : Nat → Nat → Nat) (a0 r0 r1 r2 r3 r4 r5 r6 : Nat) (sz : Nat)  : Met l y_D_requireState w_D_requireState ({ frames := 0, cells := 0, slots := 0, locals := 0 }) (va_Pc [.ref a0, .int 0] (fun U => U.heap.size = sz ∧ va_P (dC, dI) vwCl [(a0, .inr (0, [.ref r0, .int 0, .ref r1, .int 1, .int 0, .ref r2, .int 0, .int (-1), .ref r3, .ref r4, .int 0, .int (-1), .ref r5, .ref r6]))] U.heap ∧ va_K (dC, dI) vwCl [] U ∧ va_D (fun _ => True) [(a0, .inr (0, [.ref r0, .int 0, .ref r1, .int 1, .int 0, .ref r2, .int 0, .int (-1), .ref r3, .ref r4, .int 0, .int (-1), .ref r5, .ref r6]))])) (va_Qv (fun (u : Unit) => u = u) (fun (_ : Unit) t => va_P (dC, dI) vwCl [(a0, .inr (0, [.ref r0, .int 0, .ref r1, .int 1, .int 0, .ref r2, .int 0, .int (-1), .ref r3, .ref r4, .int 0, .int (-1), .ref r5, .ref r6]))] t.heap ∧ va_K (dC, dI) vwCl [] t ∧ va_D (va_A [(a0, .inr (0, [.ref r0, .int 0, .ref r1, .int 1, .int 0, .ref r2, .int 0, .int (-1), .ref r3, .ref r4, .int 0, .int (-1), .ref r5, .ref r6]))] sz) [(a0, .inr (0, [.ref r0, .int 0, .ref r1, .int 1, .int 0, .ref r2, .int 0, .int (-1), .ref r3, .ref r4, .int 0, .int (-1), .ref r5, .ref r6]))]) (va_A [(a0, .inr (0, [.ref r0, .int 0, .ref r1, .int 1, .int 0, .ref r2, .int 0, .int (-1), .ref r3, .ref r4, .int 0, .int (-1), .ref r5, .ref r6]))] sz)) 0 0 (va_A [(a0, .inr (0, [.ref r0, .int 0, .ref r1, .int 1, .int 0, .ref r2, .int 0, .int (-1), .ref r3, .ref r4, .int 0, .int (-1), .ref r5, .ref r6]))] sz) := by
  refine Met.ofW (cc := prog_1_method_20_code) (maxL := 2) (ret := none) (by decide) rfl ?_
  intro p e s m args below meth c s₁ B hml hv
  obtain ⟨rfl, hsz, hP, hK, hD0⟩ := hv
  have hx := B.exec
  have hb := B.bytes
  have hr := B.returns
  have hts := atoms_spec (ws := w_D_requireState) B.pre
  have hown : s.vm.findClass R_D = some m.cls := findClass_of_methodNamed B.named
  have hlocks := B.notSynchronized
  subst hsz
  have hD := hD0.self (sz := s.heap.size)
  generalize hAe : va_A [(a0, .inr (0, [.ref r0, .int 0, .ref r1, .int 1, .int 0, .ref r2, .int 0, .int (-1), .ref r3, .ref r4, .int 0, .int (-1), .ref r5, .ref r6]))] s.heap.size = A at hD ⊢
  have hA : ∀ q : Nat, s.heap.size ≤ q → A q := fun q h => by rw [← hAe]; exact Or.inr h
  have hS : va_S A s.heap s.heap [] := va_S.rf
  have hP : va_P (dC, dI) vwCl [(a0, .inr (0, [.ref r0, .int 0, .ref r1, .int 1, .int 0, .ref r2, .int 0, .int (-1), .ref r3, .ref r4, .int 0, .int (-1), .ref r5, .ref r6]))] s.heap := hP
  have hl := lv_entry ([.ref a0, .int 0]) (n := 2) (Nat.le_of_ble_eq_true rfl)
  rw [lg_entry_eq]
  generalize (lg_sl ([.ref a0, .int 0]) ++ List.replicate (2 - (lg_sl ([.ref a0, .int 0])).length) Slot.unset).toArray = ls at hl ⊢
  have hl : lv_has ls 2 [(0, .ref a0), (1, .int 0)] := hl
  refine lv_iload_n hx hb d_D_requireState_0 rfl (lv_at hl 1 rfl) ?_
  refine lv_if_lt (tgt := 12) hx hb d_D_requireState_1 (by decide) (fun h => absurd h (by decide +kernel)) (fun _ => ?_)
  refine lv_iload_n hx hb d_D_requireState_4 rfl (lv_at hl 1 rfl) ?_
  refine lv_aload_n hx hb d_D_requireState_5 rfl (lv_at hl 0 rfl) ?_
  refine va_get (D := (dC, dI)) (ci := 0) (v := .int 1) (C := R_D) (T := F_D) (N := 14) hx hb hts (fun w h => List.mem_cons_of_mem _ (in_D w h)) hown hK hP 0 rfl rfl 3 (by decide) (hts _ (List.mem_cons_of_mem _ lk_39)) (fun _ h9 => h9) rfl d_D_requireState_6 ?_
  refine lv_icmp_lt (tgt := 20) hx hb d_D_requireState_9 (by decide) (fun _ => ?_) (fun h => absurd (by decide +kernel) h)
  have hP9 := hP.sub (ws' := [(a0, .inr (0, [.ref r0, .int 0, .ref r1, .int 1, .int 0, .ref r2, .int 0, .int (-1), .ref r3, .ref r4, .int 0, .int (-1), .ref r5, .ref r6]))]) [0] rfl
  have hD9 := hD.sub (ws' := [(a0, .inr (0, [.ref r0, .int 0, .ref r1, .int 1, .int 0, .ref r2, .int 0, .int (-1), .ref r3, .ref r4, .int 0, .int (-1), .ref r5, .ref r6]))]) [0] (by decide) rfl
  have hK9 := hK.sub (tys' := []) [] rfl
  exact W.vret hx hb hr (fun t ht hW => ⟨⟨(), rfl, rfl, by rw [ht]; exact hP9, va_K.moved hW.alike hK9, hD9⟩, hS.F ht⟩) hS.2.2 d_D_requireState_20

set_option maxHeartbeats 4000000 in
set_option maxRecDepth 100000 in
theorem c_D_moveTo (l : Launch) (dC : Nat → ClassId) (dI : Nat → Nat → Nat) (a0 a1 a2 r0 r1 r2 r3 r4 r5 : Nat) (t0 : ClassId) (sz : Nat)  : Met l y_D_moveTo w_D_moveTo ({ frames := 0, cells := 0, slots := 0, locals := 0 }) (va_Pc [.ref a0, .int 0] (fun U => U.heap.size = sz ∧ va_P (dC, dI) vwCl [(a0, .inr (0, [.ref r0, .int 0, .ref a1, .int 1, .int 0, .ref r1, .int 0, .int (-1), .ref r2, .ref r3, .int 0, .int (-1), .ref r4, .ref r5])), (a1, .inl (t0, 40, .inr (.inr (.inr (.inr (va_up (fun _ => none) 0 (some a2))))))), (a2, .inr (1, [.ref r1, .int (-1), .int 0, .int (-1)]))] U.heap ∧ va_K (dC, dI) vwCl [(t0, (.object "DraftTree$State"))] U ∧ va_D (fun _ => True) [(a0, .inr (0, [.ref r0, .int 0, .ref a1, .int 1, .int 0, .ref r1, .int 0, .int (-1), .ref r2, .ref r3, .int 0, .int (-1), .ref r4, .ref r5])), (a1, .inl (t0, 40, .inr (.inr (.inr (.inr (va_up (fun _ => none) 0 (some a2))))))), (a2, .inr (1, [.ref r1, .int (-1), .int 0, .int (-1)]))])) (va_Qv (fun (u : Unit) => u = u) (fun (_ : Unit) t => va_P (dC, dI) vwCl [(a0, .inr (0, [.ref r0, .int 0, .ref a1, .int 1, .int 0, .ref r1, .int 0, .int (-1), .ref r2, .ref r3, .int 0, .int (-1), .ref r4, .ref r5])), (a1, .inl (t0, 40, .inr (.inr (.inr (.inr (va_up (fun _ => none) 0 (some a2))))))), (a2, .inr (1, [.ref r1, .int (-1), .int 0, .int (-1)]))] t.heap ∧ va_K (dC, dI) vwCl [(t0, (.object "DraftTree$State"))] t ∧ va_D (va_A [(a0, .inr (0, [.ref r0, .int 0, .ref a1, .int 1, .int 0, .ref r1, .int 0, .int (-1), .ref r2, .ref r3, .int 0, .int (-1), .ref r4, .ref r5])), (a1, .inl (t0, 40, .inr (.inr (.inr (.inr (va_up (fun _ => none) 0 (some a2))))))), (a2, .inr (1, [.ref r1, .int (-1), .int 0, .int (-1)]))] sz) [(a0, .inr (0, [.ref r0, .int 0, .ref a1, .int 1, .int 0, .ref r1, .int 0, .int (-1), .ref r2, .ref r3, .int 0, .int (-1), .ref r4, .ref r5])), (a1, .inl (t0, 40, .inr (.inr (.inr (.inr (va_up (fun _ => none) 0 (some a2))))))), (a2, .inr (1, [.ref r1, .int (-1), .int 0, .int (-1)]))]) (va_A [(a0, .inr (0, [.ref r0, .int 0, .ref a1, .int 1, .int 0, .ref r1, .int 0, .int (-1), .ref r2, .ref r3, .int 0, .int (-1), .ref r4, .ref r5])), (a1, .inl (t0, 40, .inr (.inr (.inr (.inr (va_up (fun _ => none) 0 (some a2))))))), (a2, .inr (1, [.ref r1, .int (-1), .int 0, .int (-1)]))] sz)) 0 0 (va_A [(a0, .inr (0, [.ref r0, .int 0, .ref a1, .int 1, .int 0, .ref r1, .int 0, .int (-1), .ref r2, .ref r3, .int 0, .int (-1), .ref r4, .ref r5])), (a1, .inl (t0, 40, .inr (.inr (.inr (.inr (va_up (fun _ => none) 0 (some a2))))))), (a2, .inr (1, [.ref r1, .int (-1), .int 0, .int (-1)]))] sz) := by
  refine Met.ofW (cc := prog_1_method_23_code) (maxL := 3) (ret := none) (by decide) rfl ?_
  intro p e s m args below meth c s₁ B hml hv
  obtain ⟨rfl, hsz, hP, hK, hD0⟩ := hv
  have hx := B.exec
  have hb := B.bytes
  have hr := B.returns
  have hts := atoms_spec (ws := w_D_moveTo) B.pre
  have hown : s.vm.findClass R_D = some m.cls := findClass_of_methodNamed B.named
  have hlocks := B.notSynchronized
  subst hsz
  have hD := hD0.self (sz := s.heap.size)
  generalize hAe : va_A [(a0, .inr (0, [.ref r0, .int 0, .ref a1, .int 1, .int 0, .ref r1, .int 0, .int (-1), .ref r2, .ref r3, .int 0, .int (-1), .ref r4, .ref r5])), (a1, .inl (t0, 40, .inr (.inr (.inr (.inr (va_up (fun _ => none) 0 (some a2))))))), (a2, .inr (1, [.ref r1, .int (-1), .int 0, .int (-1)]))] s.heap.size = A at hD ⊢
  have hA : ∀ q : Nat, s.heap.size ≤ q → A q := fun q h => by rw [← hAe]; exact Or.inr h
  have hS : va_S A s.heap s.heap [] := va_S.rf
  have hP : va_P (dC, dI) vwCl [(a0, .inr (0, [.ref r0, .int 0, .ref a1, .int 1, .int 0, .ref r1, .int 0, .int (-1), .ref r2, .ref r3, .int 0, .int (-1), .ref r4, .ref r5])), (a1, .inl (t0, 40, .inr (.inr (.inr (.inr (va_up (fun _ => none) 0 (some a2))))))), (a2, .inr (1, [.ref r1, .int (-1), .int 0, .int (-1)]))] s.heap := hP
  have hl := lv_entry ([.ref a0, .int 0]) (n := 3) (Nat.le_of_ble_eq_true rfl)
  rw [lg_entry_eq]
  generalize (lg_sl ([.ref a0, .int 0]) ++ List.replicate (3 - (lg_sl ([.ref a0, .int 0])).length) Slot.unset).toArray = ls at hl ⊢
  have hl : lv_has ls 3 [(0, .ref a0), (1, .int 0)] := hl
  refine lv_aload_n hx hb d_D_moveTo_0 rfl (lv_at hl 0 rfl) ?_
  refine va_get (D := (dC, dI)) (ci := 0) (v := .ref a1) (C := R_D) (T := F_D) (N := 14) hx hb hts (fun w h => List.mem_cons_of_mem _ (in_D w h)) hown hK hP 0 rfl rfl 2 (by decide) (hts _ (List.mem_cons_of_mem _ lk_23)) (fun _ h9 => h9) rfl d_D_moveTo_1 ?_
  refine lv_aload_n hx hb d_D_moveTo_4 rfl (lv_at hl 0 rfl) ?_
  refine va_get (D := (dC, dI)) (ci := 0) (v := .int 0) (C := R_D) (T := F_D) (N := 14) hx hb hts (fun w h => List.mem_cons_of_mem _ (in_D w h)) hown hK hP 0 rfl rfl 4 (by decide) (hts _ (List.mem_cons_of_mem _ lk_201)) (fun _ h9 => h9) rfl d_D_moveTo_5 ?_
  refine va_aldq hx hb hK hP 1 0 rfl rfl (wk_in (by decide +kernel)) d_D_moveTo_8 ?_
  refine wk_top (w := .ref a2) rfl ?_
  refine lv_aload_n hx hb d_D_moveTo_9 rfl (lv_at hl 0 rfl) ?_
  refine va_get (D := (dC, dI)) (ci := 0) (v := .int 0) (C := R_D) (T := F_D) (N := 14) hx hb hts (fun w h => List.mem_cons_of_mem _ (in_D w h)) hown hK hP 0 rfl rfl 6 (by decide) (hts _ (List.mem_cons_of_mem _ lk_192)) (fun _ h9 => h9) rfl d_D_moveTo_10 ?_
  refine va_put (D := (dC, dI)) (ci := 1) (v := .int 0) (ty := .int) (C := R_S) (T := F_S) (N := 4) hx hb hts (fun w h => List.mem_cons_of_mem _ (in_S w h)) t_S tk_S n_S hown hK hP hD hS 2 rfl rfl 2 (by decide) (hts _ (List.mem_cons_of_mem _ lk_419)) (fun _ h9 => h9) rfl (by decide +kernel) rfl rfl (Nat.le_of_ble_eq_true rfl) d_D_moveTo_13 (fun H locs hP hD hS => ?_)
  have hP : va_P (dC, dI) vwCl [(a0, .inr (0, [.ref r0, .int 0, .ref a1, .int 1, .int 0, .ref r1, .int 0, .int (-1), .ref r2, .ref r3, .int 0, .int (-1), .ref r4, .ref r5])), (a1, .inl (t0, 40, .inr (.inr (.inr (.inr (va_up (fun _ => none) 0 (some a2))))))), (a2, .inr (1, [.ref r1, .int (-1), .int 0, .int (-1)]))] H := hP
  have hD : va_D A [(a0, .inr (0, [.ref r0, .int 0, .ref a1, .int 1, .int 0, .ref r1, .int 0, .int (-1), .ref r2, .ref r3, .int 0, .int (-1), .ref r4, .ref r5])), (a1, .inl (t0, 40, .inr (.inr (.inr (.inr (va_up (fun _ => none) 0 (some a2))))))), (a2, .inr (1, [.ref r1, .int (-1), .int 0, .int (-1)]))] := hD
  refine lv_aload_n hx hb d_D_moveTo_16 rfl (lv_at hl 0 rfl) ?_
  refine va_get (D := (dC, dI)) (ci := 0) (v := .ref a1) (C := R_D) (T := F_D) (N := 14) hx hb hts (fun w h => List.mem_cons_of_mem _ (in_D w h)) hown hK hP 0 rfl rfl 2 (by decide) (hts _ (List.mem_cons_of_mem _ lk_23)) (fun _ h9 => h9) rfl d_D_moveTo_17 ?_
  refine lv_iload_n hx hb d_D_moveTo_20 rfl (lv_at hl 1 rfl) ?_
  refine va_aldq hx hb hK hP 1 0 rfl rfl (wk_in (by decide +kernel)) d_D_moveTo_21 ?_
  refine wk_top (w := .ref a2) rfl ?_
  refine lv_astore_n (lv' := [(2, .ref a2), (0, .ref a0), (1, .int 0)]) hx hb d_D_moveTo_22 rfl hl (by decide) rfl (fun ls hl => ?_)
  have hl : lv_has ls 3 [(2, .ref a2), (0, .ref a0), (1, .int 0)] := hl
  refine lv_aload_n hx hb d_D_moveTo_23 rfl (lv_at hl 1 rfl) ?_
  refine lv_iload_n hx hb d_D_moveTo_24 rfl (lv_at hl 2 rfl) ?_
  refine va_put (D := (dC, dI)) (ci := 0) (v := .int 0) (ty := .int) (C := R_D) (T := F_D) (N := 14) hx hb hts (fun w h => List.mem_cons_of_mem _ (in_D w h)) t_D tk_D n_D hown hK hP hD hS 0 rfl rfl 4 (by decide) (hts _ (List.mem_cons_of_mem _ lk_201)) (fun _ h9 => h9) rfl (by decide +kernel) rfl rfl (Nat.le_of_ble_eq_true rfl) d_D_moveTo_25 (fun H locs hP hD hS => ?_)
  have hP : va_P (dC, dI) vwCl [(a0, .inr (0, [.ref r0, .int 0, .ref a1, .int 1, .int 0, .ref r1, .int 0, .int (-1), .ref r2, .ref r3, .int 0, .int (-1), .ref r4, .ref r5])), (a1, .inl (t0, 40, .inr (.inr (.inr (.inr (va_up (fun _ => none) 0 (some a2))))))), (a2, .inr (1, [.ref r1, .int (-1), .int 0, .int (-1)]))] H := hP
  have hD : va_D A [(a0, .inr (0, [.ref r0, .int 0, .ref a1, .int 1, .int 0, .ref r1, .int 0, .int (-1), .ref r2, .ref r3, .int 0, .int (-1), .ref r4, .ref r5])), (a1, .inl (t0, 40, .inr (.inr (.inr (.inr (va_up (fun _ => none) 0 (some a2))))))), (a2, .inr (1, [.ref r1, .int (-1), .int 0, .int (-1)]))] := hD
  refine lv_aload_n hx hb d_D_moveTo_28 rfl (lv_at hl 1 rfl) ?_
  refine lv_aload_n hx hb d_D_moveTo_29 rfl (lv_at hl 0 rfl) ?_
  refine va_get (D := (dC, dI)) (ci := 1) (v := .ref r1) (C := R_S) (T := F_S) (N := 4) hx hb hts (fun w h => List.mem_cons_of_mem _ (in_S w h)) hown hK hP 2 rfl rfl 0 (by decide) (hts _ (List.mem_cons_of_mem _ lk_420)) (fun _ h9 => h9) rfl d_D_moveTo_30 ?_
  refine va_put (D := (dC, dI)) (ci := 0) (v := .ref r1) (ty := .array .char) (C := R_D) (T := F_D) (N := 14) hx hb hts (fun w h => List.mem_cons_of_mem _ (in_D w h)) t_D tk_D n_D hown hK hP hD hS 0 rfl rfl 5 (by decide) (hts _ (List.mem_cons_of_mem _ lk_24)) (fun _ h9 => h9) rfl (by decide +kernel) rfl rfl (Nat.le_of_ble_eq_true rfl) d_D_moveTo_33 (fun H locs hP hD hS => ?_)
  have hP : va_P (dC, dI) vwCl [(a0, .inr (0, [.ref r0, .int 0, .ref a1, .int 1, .int 0, .ref r1, .int 0, .int (-1), .ref r2, .ref r3, .int 0, .int (-1), .ref r4, .ref r5])), (a1, .inl (t0, 40, .inr (.inr (.inr (.inr (va_up (fun _ => none) 0 (some a2))))))), (a2, .inr (1, [.ref r1, .int (-1), .int 0, .int (-1)]))] H := hP
  have hD : va_D A [(a0, .inr (0, [.ref r0, .int 0, .ref a1, .int 1, .int 0, .ref r1, .int 0, .int (-1), .ref r2, .ref r3, .int 0, .int (-1), .ref r4, .ref r5])), (a1, .inl (t0, 40, .inr (.inr (.inr (.inr (va_up (fun _ => none) 0 (some a2))))))), (a2, .inr (1, [.ref r1, .int (-1), .int 0, .int (-1)]))] := hD
  refine lv_aload_n hx hb d_D_moveTo_36 rfl (lv_at hl 1 rfl) ?_
  refine lv_aload_n hx hb d_D_moveTo_37 rfl (lv_at hl 0 rfl) ?_
  refine va_get (D := (dC, dI)) (ci := 1) (v := .int 0) (C := R_S) (T := F_S) (N := 4) hx hb hts (fun w h => List.mem_cons_of_mem _ (in_S w h)) hown hK hP 2 rfl rfl 2 (by decide) (hts _ (List.mem_cons_of_mem _ lk_419)) (fun _ h9 => h9) rfl d_D_moveTo_38 ?_
  refine va_put (D := (dC, dI)) (ci := 0) (v := .int 0) (ty := .int) (C := R_D) (T := F_D) (N := 14) hx hb hts (fun w h => List.mem_cons_of_mem _ (in_D w h)) t_D tk_D n_D hown hK hP hD hS 0 rfl rfl 6 (by decide) (hts _ (List.mem_cons_of_mem _ lk_192)) (fun _ h9 => h9) rfl (by decide +kernel) rfl rfl (Nat.le_of_ble_eq_true rfl) d_D_moveTo_41 (fun H locs hP hD hS => ?_)
  have hP : va_P (dC, dI) vwCl [(a0, .inr (0, [.ref r0, .int 0, .ref a1, .int 1, .int 0, .ref r1, .int 0, .int (-1), .ref r2, .ref r3, .int 0, .int (-1), .ref r4, .ref r5])), (a1, .inl (t0, 40, .inr (.inr (.inr (.inr (va_up (fun _ => none) 0 (some a2))))))), (a2, .inr (1, [.ref r1, .int (-1), .int 0, .int (-1)]))] H := hP
  have hD : va_D A [(a0, .inr (0, [.ref r0, .int 0, .ref a1, .int 1, .int 0, .ref r1, .int 0, .int (-1), .ref r2, .ref r3, .int 0, .int (-1), .ref r4, .ref r5])), (a1, .inl (t0, 40, .inr (.inr (.inr (.inr (va_up (fun _ => none) 0 (some a2))))))), (a2, .inr (1, [.ref r1, .int (-1), .int 0, .int (-1)]))] := hD
  refine lv_aload_n hx hb d_D_moveTo_44 rfl (lv_at hl 1 rfl) ?_
  refine lv_iconst (v := (-1)) hx hb d_D_moveTo_45 (by decide) ?_
  refine va_put (D := (dC, dI)) (ci := 0) (v := .int (-1)) (ty := .int) (C := R_D) (T := F_D) (N := 14) hx hb hts (fun w h => List.mem_cons_of_mem _ (in_D w h)) t_D tk_D n_D hown hK hP hD hS 0 rfl rfl 7 (by decide) (hts _ (List.mem_cons_of_mem _ lk_40)) (fun _ h9 => h9) rfl (by decide +kernel) rfl rfl (Nat.le_of_ble_eq_true rfl) d_D_moveTo_46 (fun H locs hP hD hS => ?_)
  have hP : va_P (dC, dI) vwCl [(a0, .inr (0, [.ref r0, .int 0, .ref a1, .int 1, .int 0, .ref r1, .int 0, .int (-1), .ref r2, .ref r3, .int 0, .int (-1), .ref r4, .ref r5])), (a1, .inl (t0, 40, .inr (.inr (.inr (.inr (va_up (fun _ => none) 0 (some a2))))))), (a2, .inr (1, [.ref r1, .int (-1), .int 0, .int (-1)]))] H := hP
  have hD : va_D A [(a0, .inr (0, [.ref r0, .int 0, .ref a1, .int 1, .int 0, .ref r1, .int 0, .int (-1), .ref r2, .ref r3, .int 0, .int (-1), .ref r4, .ref r5])), (a1, .inl (t0, 40, .inr (.inr (.inr (.inr (va_up (fun _ => none) 0 (some a2))))))), (a2, .inr (1, [.ref r1, .int (-1), .int 0, .int (-1)]))] := hD
  refine lv_aload_n hx hb d_D_moveTo_49 rfl (lv_at hl 0 rfl) ?_
  refine va_get (D := (dC, dI)) (ci := 1) (v := .int (-1)) (C := R_S) (T := F_S) (N := 4) hx hb hts (fun w h => List.mem_cons_of_mem _ (in_S w h)) hown hK hP 2 rfl rfl 1 (by decide) (hts _ (List.mem_cons_of_mem _ lk_388)) (fun _ h9 => h9) rfl d_D_moveTo_50 ?_
  refine lv_iconst (v := (-1)) hx hb d_D_moveTo_53 (by decide) ?_
  refine lv_icmp_eq (tgt := 70) hx hb d_D_moveTo_54 (by decide) (fun _ => ?_) (fun h => absurd (by decide +kernel) h)
  have hP9 := hP.sub (ws' := [(a0, .inr (0, [.ref r0, .int 0, .ref a1, .int 1, .int 0, .ref r1, .int 0, .int (-1), .ref r2, .ref r3, .int 0, .int (-1), .ref r4, .ref r5])), (a1, .inl (t0, 40, .inr (.inr (.inr (.inr (va_up (fun _ => none) 0 (some a2))))))), (a2, .inr (1, [.ref r1, .int (-1), .int 0, .int (-1)]))]) [0, 1, 2] rfl
  have hD9 := hD.sub (ws' := [(a0, .inr (0, [.ref r0, .int 0, .ref a1, .int 1, .int 0, .ref r1, .int 0, .int (-1), .ref r2, .ref r3, .int 0, .int (-1), .ref r4, .ref r5])), (a1, .inl (t0, 40, .inr (.inr (.inr (.inr (va_up (fun _ => none) 0 (some a2))))))), (a2, .inr (1, [.ref r1, .int (-1), .int 0, .int (-1)]))]) [0, 1, 2] (by decide) rfl
  have hK9 := hK.sub (tys' := [(t0, (.object "DraftTree$State"))]) [0] rfl
  exact W.vret hx hb hr (fun t ht hW => ⟨⟨(), rfl, rfl, by rw [ht]; exact hP9, va_K.moved hW.alike hK9, hD9⟩, hS.F ht⟩) hS.2.2 d_D_moveTo_70

set_option maxHeartbeats 4000000 in
set_option maxRecDepth 100000 in
theorem c_D_jump (l : Launch) (dC : Nat → ClassId) (dI : Nat → Nat → Nat) (a0 a1 a2 r0 r1 r2 r3 r4 r5 : Nat) (t0 : ClassId) (sz : Nat)  : Met l y_D_jump w_D_jump ({ frames := 1, cells := 0, slots := 0, locals := 22 }) (va_Pc [.ref a0, .int 0] (fun U => U.heap.size = sz ∧ va_P (dC, dI) vwCl [(a0, .inr (0, [.ref r0, .int 0, .ref a1, .int 1, .int 0, .ref r1, .int 0, .int (-1), .ref r2, .ref r3, .int 0, .int (-1), .ref r4, .ref r5])), (a1, .inl (t0, 40, .inr (.inr (.inr (.inr (va_up (fun _ => none) 0 (some a2))))))), (a2, .inr (1, [.ref r1, .int (-1), .int 0, .int (-1)]))] U.heap ∧ va_K (dC, dI) vwCl [(t0, (.object "DraftTree$State"))] U ∧ va_D (fun _ => True) [(a0, .inr (0, [.ref r0, .int 0, .ref a1, .int 1, .int 0, .ref r1, .int 0, .int (-1), .ref r2, .ref r3, .int 0, .int (-1), .ref r4, .ref r5])), (a1, .inl (t0, 40, .inr (.inr (.inr (.inr (va_up (fun _ => none) 0 (some a2))))))), (a2, .inr (1, [.ref r1, .int (-1), .int 0, .int (-1)]))])) (va_Qv (fun (u : Unit) => u = u) (fun (_ : Unit) t => va_P (dC, dI) vwCl [(a0, .inr (0, [.ref r0, .int 0, .ref a1, .int 1, .int 0, .ref r1, .int 0, .int (-1), .ref r2, .ref r3, .int 0, .int (-1), .ref r4, .ref r5])), (a1, .inl (t0, 40, .inr (.inr (.inr (.inr (va_up (fun _ => none) 0 (some a2))))))), (a2, .inr (1, [.ref r1, .int (-1), .int 0, .int (-1)]))] t.heap ∧ va_K (dC, dI) vwCl [(t0, (.object "DraftTree$State"))] t ∧ va_D (va_A [(a0, .inr (0, [.ref r0, .int 0, .ref a1, .int 1, .int 0, .ref r1, .int 0, .int (-1), .ref r2, .ref r3, .int 0, .int (-1), .ref r4, .ref r5])), (a1, .inl (t0, 40, .inr (.inr (.inr (.inr (va_up (fun _ => none) 0 (some a2))))))), (a2, .inr (1, [.ref r1, .int (-1), .int 0, .int (-1)]))] sz) [(a0, .inr (0, [.ref r0, .int 0, .ref a1, .int 1, .int 0, .ref r1, .int 0, .int (-1), .ref r2, .ref r3, .int 0, .int (-1), .ref r4, .ref r5])), (a1, .inl (t0, 40, .inr (.inr (.inr (.inr (va_up (fun _ => none) 0 (some a2))))))), (a2, .inr (1, [.ref r1, .int (-1), .int 0, .int (-1)]))]) (va_A [(a0, .inr (0, [.ref r0, .int 0, .ref a1, .int 1, .int 0, .ref r1, .int 0, .int (-1), .ref r2, .ref r3, .int 0, .int (-1), .ref r4, .ref r5])), (a1, .inl (t0, 40, .inr (.inr (.inr (.inr (va_up (fun _ => none) 0 (some a2))))))), (a2, .inr (1, [.ref r1, .int (-1), .int 0, .int (-1)]))] sz)) 0 0 (va_A [(a0, .inr (0, [.ref r0, .int 0, .ref a1, .int 1, .int 0, .ref r1, .int 0, .int (-1), .ref r2, .ref r3, .int 0, .int (-1), .ref r4, .ref r5])), (a1, .inl (t0, 40, .inr (.inr (.inr (.inr (va_up (fun _ => none) 0 (some a2))))))), (a2, .inr (1, [.ref r1, .int (-1), .int 0, .int (-1)]))] sz) := by
  refine Met.ofW (cc := prog_1_method_13_code) (maxL := 2) (ret := none) (by decide) rfl ?_
  intro p e s m args below meth c s₁ B hml hv
  obtain ⟨rfl, hsz, hP, hK, hD0⟩ := hv
  have hx := B.exec
  have hb := B.bytes
  have hr := B.returns
  have hts := atoms_spec (ws := w_D_jump) B.pre
  have hown : s.vm.findClass R_D = some m.cls := findClass_of_methodNamed B.named
  have hlocks := B.notSynchronized
  subst hsz
  have hD := hD0.self (sz := s.heap.size)
  generalize hAe : va_A [(a0, .inr (0, [.ref r0, .int 0, .ref a1, .int 1, .int 0, .ref r1, .int 0, .int (-1), .ref r2, .ref r3, .int 0, .int (-1), .ref r4, .ref r5])), (a1, .inl (t0, 40, .inr (.inr (.inr (.inr (va_up (fun _ => none) 0 (some a2))))))), (a2, .inr (1, [.ref r1, .int (-1), .int 0, .int (-1)]))] s.heap.size = A at hD ⊢
  have hA : ∀ q : Nat, s.heap.size ≤ q → A q := fun q h => by rw [← hAe]; exact Or.inr h
  have hS : va_S A s.heap s.heap [] := va_S.rf
  have hP : va_P (dC, dI) vwCl [(a0, .inr (0, [.ref r0, .int 0, .ref a1, .int 1, .int 0, .ref r1, .int 0, .int (-1), .ref r2, .ref r3, .int 0, .int (-1), .ref r4, .ref r5])), (a1, .inl (t0, 40, .inr (.inr (.inr (.inr (va_up (fun _ => none) 0 (some a2))))))), (a2, .inr (1, [.ref r1, .int (-1), .int 0, .int (-1)]))] s.heap := hP
  have hl := lv_entry ([.ref a0, .int 0]) (n := 2) (Nat.le_of_ble_eq_true rfl)
  rw [lg_entry_eq]
  generalize (lg_sl ([.ref a0, .int 0]) ++ List.replicate (2 - (lg_sl ([.ref a0, .int 0])).length) Slot.unset).toArray = ls at hl ⊢
  have hl : lv_has ls 2 [(0, .ref a0), (1, .int 0)] := hl
  refine lv_aload_n hx hb d_D_jump_0 rfl (lv_at hl 0 rfl) ?_
  refine lv_iload_n hx hb d_D_jump_1 rfl (lv_at hl 1 rfl) ?_
  have hPc := hP.sub (ws' := [(a0, .inr (0, [.ref r0, .int 0, .ref a1, .int 1, .int 0, .ref r1, .int 0, .int (-1), .ref r2, .ref r3, .int 0, .int (-1), .ref r4, .ref r5]))]) [0] rfl
  have hDc := hD.sub (ws' := [(a0, .inr (0, [.ref r0, .int 0, .ref a1, .int 1, .int 0, .ref r1, .int 0, .int (-1), .ref r2, .ref r3, .int 0, .int (-1), .ref r4, .ref r5]))]) [0] (by decide) rfl
  have hKc := hK.sub (tys' := []) [] rfl
  have hFc := va_free (wc := [(a0, .inr (0, [.ref r0, .int 0, .ref a1, .int 1, .int 0, .ref r1, .int 0, .int (-1), .ref r2, .ref r3, .int 0, .int (-1), .ref r4, .ref r5]))]) hD hS hA [0] rfl
  refine va_callv (va_runV (As := [.int 0]) (rest := []) ⟨hx, hb, hml, hown, hts⟩ (c_D_requireState l dC dI a0 r0 a1 r1 r2 r3 r4 r5 s.heap.size) (cwV 1 hts (gd_v lk_416 lk_417 lk_418 lk_16 lk_415) rfl rfl rfl (by decide +kernel) ⟨Nat.le_of_ble_eq_true rfl, Nat.le_of_ble_eq_true rfl⟩) ⟨fun a U g mk q => by obtain ⟨q0, q1, qP, qK, qD⟩ := q; exact ⟨q0, q1, qP, va_K.moved (u := U) (U := U.calling g mk a) (Vm.Alike.refl U.vm) qK, qD⟩, va_recv (ci := 0) (q0 := 0) hK hP rfl rfl, fun U hU hW => ⟨rfl, by rw [hU], by rw [hU]; exact hPc, va_K.moved hW.alike hKc, hDc.weaken (fun _ _ _ _ => trivial)⟩⟩ rfl rfl hl.1 rfl (lv_room (Nat.le_of_ble_eq_true rfl)) d_D_jump_2 ⟨Nat.le_of_ble_eq_true rfl, Nat.le_of_ble_eq_true rfl⟩) hS (fun q _ h => hFc q h) hFc (fun u t H1 locs ht hvm hw hB hz1 hk1 hS => ?_)
  obtain ⟨hP1, hK1, hD1⟩ := hB
  rw [ht] at hP1
  have hK1 := va_K.moved hvm.symm hK1
  obtain ⟨hP, hD⟩ := va_join (wr := [(a1, .inl (t0, 40, .inr (.inr (.inr (.inr (va_up (fun _ => none) 0 (some a2))))))), (a2, .inr (1, [.ref r1, .int (-1), .int 0, .int (-1)]))]) (w1 := [(a0, .inr (0, [.ref r0, .int 0, .ref a1, .int 1, .int 0, .ref r1, .int 0, .int (-1), .ref r2, .ref r3, .int 0, .int (-1), .ref r4, .ref r5]))]) hP hD [0] [1, 2] rfl rfl (by decide) (by decide) hk1 hFc hP1 hD1
  generalize H1 = H at hP hS ⊢
  have hP : va_P (dC, dI) vwCl [(a1, .inl (t0, 40, .inr (.inr (.inr (.inr (va_up (fun _ => none) 0 (some a2))))))), (a2, .inr (1, [.ref r1, .int (-1), .int 0, .int (-1)])), (a0, .inr (0, [.ref r0, .int 0, .ref a1, .int 1, .int 0, .ref r1, .int 0, .int (-1), .ref r2, .ref r3, .int 0, .int (-1), .ref r4, .ref r5]))] H := hP
  have hD : va_D A [(a1, .inl (t0, 40, .inr (.inr (.inr (.inr (va_up (fun _ => none) 0 (some a2))))))), (a2, .inr (1, [.ref r1, .int (-1), .int 0, .int (-1)])), (a0, .inr (0, [.ref r0, .int 0, .ref a1, .int 1, .int 0, .ref r1, .int 0, .int (-1), .ref r2, .ref r3, .int 0, .int (-1), .ref r4, .ref r5]))] := hD
  refine lv_aload_n hx hb d_D_jump_5 rfl (lv_at hl 0 rfl) ?_
  refine lv_iload_n hx hb d_D_jump_6 rfl (lv_at hl 1 rfl) ?_
  have hPc := hP.sub (ws' := [(a0, .inr (0, [.ref r0, .int 0, .ref a1, .int 1, .int 0, .ref r1, .int 0, .int (-1), .ref r2, .ref r3, .int 0, .int (-1), .ref r4, .ref r5])), (a1, .inl (t0, 40, .inr (.inr (.inr (.inr (va_up (fun _ => none) 0 (some a2))))))), (a2, .inr (1, [.ref r1, .int (-1), .int 0, .int (-1)]))]) [2, 0, 1] rfl
  have hDc := hD.sub (ws' := [(a0, .inr (0, [.ref r0, .int 0, .ref a1, .int 1, .int 0, .ref r1, .int 0, .int (-1), .ref r2, .ref r3, .int 0, .int (-1), .ref r4, .ref r5])), (a1, .inl (t0, 40, .inr (.inr (.inr (.inr (va_up (fun _ => none) 0 (some a2))))))), (a2, .inr (1, [.ref r1, .int (-1), .int 0, .int (-1)]))]) [2, 0, 1] (by decide) rfl
  have hKc := hK.sub (tys' := [(t0, (.object "DraftTree$State"))]) [0] rfl
  have hFc := va_free (wc := [(a0, .inr (0, [.ref r0, .int 0, .ref a1, .int 1, .int 0, .ref r1, .int 0, .int (-1), .ref r2, .ref r3, .int 0, .int (-1), .ref r4, .ref r5])), (a1, .inl (t0, 40, .inr (.inr (.inr (.inr (va_up (fun _ => none) 0 (some a2))))))), (a2, .inr (1, [.ref r1, .int (-1), .int 0, .int (-1)]))]) hD hS hA [2, 0, 1] rfl
  refine va_callv (va_runV (As := [.int 0]) (rest := []) ⟨hx, hb, hml, hown, hts⟩ (c_D_moveTo l dC dI a0 a1 a2 r0 r1 r2 r3 r4 r5 t0 H.size) (cwV 1 hts (gd_v lk_422 lk_423 lk_424 lk_16 lk_421) rfl rfl rfl (by decide +kernel) ⟨Nat.le_of_ble_eq_true rfl, Nat.le_of_ble_eq_true rfl⟩) ⟨fun a U g mk q => by obtain ⟨q0, q1, qP, qK, qD⟩ := q; exact ⟨q0, q1, qP, va_K.moved (u := U) (U := U.calling g mk a) (Vm.Alike.refl U.vm) qK, qD⟩, va_recv (ci := 0) (q0 := 2) hK hP rfl rfl, fun U hU hW => ⟨rfl, by rw [hU], by rw [hU]; exact hPc, va_K.moved hW.alike hKc, hDc.weaken (fun _ _ _ _ => trivial)⟩⟩ rfl rfl hl.1 rfl (lv_room (Nat.le_of_ble_eq_true rfl)) d_D_jump_7 ⟨Nat.le_of_ble_eq_true rfl, Nat.le_of_ble_eq_true rfl⟩) hS (fun q _ h => hFc q h) hFc (fun u t H1 locs ht hvm hw hB hz1 hk1 hS => ?_)
  obtain ⟨hP1, hK1, hD1⟩ := hB
  rw [ht] at hP1
  have hK1 := va_K.moved hvm.symm hK1
  obtain ⟨hP, hD⟩ := va_join (wr := []) (w1 := [(a0, .inr (0, [.ref r0, .int 0, .ref a1, .int 1, .int 0, .ref r1, .int 0, .int (-1), .ref r2, .ref r3, .int 0, .int (-1), .ref r4, .ref r5])), (a1, .inl (t0, 40, .inr (.inr (.inr (.inr (va_up (fun _ => none) 0 (some a2))))))), (a2, .inr (1, [.ref r1, .int (-1), .int 0, .int (-1)]))]) hP hD [2, 0, 1] [] rfl rfl (by decide) (by decide) hk1 hFc hP1 hD1
  generalize H1 = H at hP hS ⊢
  have hP : va_P (dC, dI) vwCl [(a0, .inr (0, [.ref r0, .int 0, .ref a1, .int 1, .int 0, .ref r1, .int 0, .int (-1), .ref r2, .ref r3, .int 0, .int (-1), .ref r4, .ref r5])), (a1, .inl (t0, 40, .inr (.inr (.inr (.inr (va_up (fun _ => none) 0 (some a2))))))), (a2, .inr (1, [.ref r1, .int (-1), .int 0, .int (-1)]))] H := hP
  have hD : va_D A [(a0, .inr (0, [.ref r0, .int 0, .ref a1, .int 1, .int 0, .ref r1, .int 0, .int (-1), .ref r2, .ref r3, .int 0, .int (-1), .ref r4, .ref r5])), (a1, .inl (t0, 40, .inr (.inr (.inr (.inr (va_up (fun _ => none) 0 (some a2))))))), (a2, .inr (1, [.ref r1, .int (-1), .int 0, .int (-1)]))] := hD
  have hP9 := hP.sub (ws' := [(a0, .inr (0, [.ref r0, .int 0, .ref a1, .int 1, .int 0, .ref r1, .int 0, .int (-1), .ref r2, .ref r3, .int 0, .int (-1), .ref r4, .ref r5])), (a1, .inl (t0, 40, .inr (.inr (.inr (.inr (va_up (fun _ => none) 0 (some a2))))))), (a2, .inr (1, [.ref r1, .int (-1), .int 0, .int (-1)]))]) [0, 1, 2] rfl
  have hD9 := hD.sub (ws' := [(a0, .inr (0, [.ref r0, .int 0, .ref a1, .int 1, .int 0, .ref r1, .int 0, .int (-1), .ref r2, .ref r3, .int 0, .int (-1), .ref r4, .ref r5])), (a1, .inl (t0, 40, .inr (.inr (.inr (.inr (va_up (fun _ => none) 0 (some a2))))))), (a2, .inr (1, [.ref r1, .int (-1), .int 0, .int (-1)]))]) [0, 1, 2] (by decide) rfl
  have hK9 := hK.sub (tys' := [(t0, (.object "DraftTree$State"))]) [0] rfl
  exact W.vret hx hb hr (fun t ht hW => ⟨⟨(), rfl, rfl, by rw [ht]; exact hP9, va_K.moved hW.alike hK9, hD9⟩, hS.F ht⟩) hS.2.2 d_D_jump_10

set_option maxHeartbeats 4000000 in
set_option maxRecDepth 100000 in
theorem c_L_jump (l : Launch) (dC : Nat → ClassId) (dI : Nat → Nat → Nat) (a0 a1 a2 r0 r1 r2 r3 r4 r5 : Nat) (t0 : ClassId) (sz : Nat)  : Met l y_L_jump w_L_jump ({ frames := 2, cells := 0, slots := 0, locals := 43 }) (va_Pc [.ref a0, .int 0] (fun U => U.heap.size = sz ∧ va_P (dC, dI) vwCl [(a0, .inr (0, [.ref r0, .int 0, .ref a1, .int 1, .int 0, .ref r1, .int 0, .int (-1), .ref r2, .ref r3, .int 0, .int (-1), .ref r4, .ref r5])), (a1, .inl (t0, 40, .inr (.inr (.inr (.inr (va_up (fun _ => none) 0 (some a2))))))), (a2, .inr (1, [.ref r1, .int (-1), .int 0, .int (-1)]))] U.heap ∧ va_K (dC, dI) vwCl [(t0, (.object "DraftTree$State"))] U ∧ va_D (fun _ => True) [(a0, .inr (0, [.ref r0, .int 0, .ref a1, .int 1, .int 0, .ref r1, .int 0, .int (-1), .ref r2, .ref r3, .int 0, .int (-1), .ref r4, .ref r5])), (a1, .inl (t0, 40, .inr (.inr (.inr (.inr (va_up (fun _ => none) 0 (some a2))))))), (a2, .inr (1, [.ref r1, .int (-1), .int 0, .int (-1)]))])) (va_Qi (fun (r : Int32) (_ : Unit) => r = 0) (fun (_ : Unit) t => va_P (dC, dI) vwCl [(a0, .inr (0, [.ref r0, .int 0, .ref a1, .int 1, .int 0, .ref r1, .int 0, .int (-1), .ref r2, .ref r3, .int 0, .int (-1), .ref r4, .ref r5])), (a1, .inl (t0, 40, .inr (.inr (.inr (.inr (va_up (fun _ => none) 0 (some a2))))))), (a2, .inr (1, [.ref r1, .int (-1), .int 0, .int (-1)]))] t.heap ∧ va_K (dC, dI) vwCl [(t0, (.object "DraftTree$State"))] t ∧ va_D (va_A [(a0, .inr (0, [.ref r0, .int 0, .ref a1, .int 1, .int 0, .ref r1, .int 0, .int (-1), .ref r2, .ref r3, .int 0, .int (-1), .ref r4, .ref r5])), (a1, .inl (t0, 40, .inr (.inr (.inr (.inr (va_up (fun _ => none) 0 (some a2))))))), (a2, .inr (1, [.ref r1, .int (-1), .int 0, .int (-1)]))] sz) [(a0, .inr (0, [.ref r0, .int 0, .ref a1, .int 1, .int 0, .ref r1, .int 0, .int (-1), .ref r2, .ref r3, .int 0, .int (-1), .ref r4, .ref r5])), (a1, .inl (t0, 40, .inr (.inr (.inr (.inr (va_up (fun _ => none) 0 (some a2))))))), (a2, .inr (1, [.ref r1, .int (-1), .int 0, .int (-1)]))]) (va_A [(a0, .inr (0, [.ref r0, .int 0, .ref a1, .int 1, .int 0, .ref r1, .int 0, .int (-1), .ref r2, .ref r3, .int 0, .int (-1), .ref r4, .ref r5])), (a1, .inl (t0, 40, .inr (.inr (.inr (.inr (va_up (fun _ => none) 0 (some a2))))))), (a2, .inr (1, [.ref r1, .int (-1), .int 0, .int (-1)]))] sz)) 0 0 (va_A [(a0, .inr (0, [.ref r0, .int 0, .ref a1, .int 1, .int 0, .ref r1, .int 0, .int (-1), .ref r2, .ref r3, .int 0, .int (-1), .ref r4, .ref r5])), (a1, .inl (t0, 40, .inr (.inr (.inr (.inr (va_up (fun _ => none) 0 (some a2))))))), (a2, .inr (1, [.ref r1, .int (-1), .int 0, .int (-1)]))] sz) := by
  refine th_ofWw (tab := [(0, 5, 8, 28)]) (cc := method_11_code) (maxL := 3) (ret := (some .int)) (by decide) rfl ?_
  intro p e s m args below meth c s₁ B hml htab hv
  obtain ⟨rfl, hsz, hP, hK, hD0⟩ := hv
  have hx := B.exec
  have hb := B.bytes
  have hr := B.returns
  have hts := atoms_spec (ws := w_L_jump) B.pre
  have hown : s.vm.findClass R_L = some m.cls := findClass_of_methodNamed B.named
  have hlocks := B.notSynchronized
  subst hsz
  have hD := hD0.self (sz := s.heap.size)
  generalize hAe : va_A [(a0, .inr (0, [.ref r0, .int 0, .ref a1, .int 1, .int 0, .ref r1, .int 0, .int (-1), .ref r2, .ref r3, .int 0, .int (-1), .ref r4, .ref r5])), (a1, .inl (t0, 40, .inr (.inr (.inr (.inr (va_up (fun _ => none) 0 (some a2))))))), (a2, .inr (1, [.ref r1, .int (-1), .int 0, .int (-1)]))] s.heap.size = A at hD ⊢
  have hA : ∀ q : Nat, s.heap.size ≤ q → A q := fun q h => by rw [← hAe]; exact Or.inr h
  have hS : va_S A s.heap s.heap [] := va_S.rf
  have hP : va_P (dC, dI) vwCl [(a0, .inr (0, [.ref r0, .int 0, .ref a1, .int 1, .int 0, .ref r1, .int 0, .int (-1), .ref r2, .ref r3, .int 0, .int (-1), .ref r4, .ref r5])), (a1, .inl (t0, 40, .inr (.inr (.inr (.inr (va_up (fun _ => none) 0 (some a2))))))), (a2, .inr (1, [.ref r1, .int (-1), .int 0, .int (-1)]))] s.heap := hP
  have hl := lv_entry ([.ref a0, .int 0]) (n := 3) (Nat.le_of_ble_eq_true rfl)
  rw [lg_entry_eq]
  generalize (lg_sl ([.ref a0, .int 0]) ++ List.replicate (3 - (lg_sl ([.ref a0, .int 0])).length) Slot.unset).toArray = ls at hl ⊢
  have hl : lv_has ls 3 [(0, .ref a0), (1, .int 0)] := hl
  refine lv_aload_n hx hb d_L_jump_0 rfl (lv_at hl 0 rfl) ?_
  refine lv_iload_n hx hb d_L_jump_1 rfl (lv_at hl 1 rfl) ?_
  have hPc := hP.sub (ws' := [(a0, .inr (0, [.ref r0, .int 0, .ref a1, .int 1, .int 0, .ref r1, .int 0, .int (-1), .ref r2, .ref r3, .int 0, .int (-1), .ref r4, .ref r5])), (a1, .inl (t0, 40, .inr (.inr (.inr (.inr (va_up (fun _ => none) 0 (some a2))))))), (a2, .inr (1, [.ref r1, .int (-1), .int 0, .int (-1)]))]) [0, 1, 2] rfl
  have hDc := hD.sub (ws' := [(a0, .inr (0, [.ref r0, .int 0, .ref a1, .int 1, .int 0, .ref r1, .int 0, .int (-1), .ref r2, .ref r3, .int 0, .int (-1), .ref r4, .ref r5])), (a1, .inl (t0, 40, .inr (.inr (.inr (.inr (va_up (fun _ => none) 0 (some a2))))))), (a2, .inr (1, [.ref r1, .int (-1), .int 0, .int (-1)]))]) [0, 1, 2] (by decide) rfl
  have hKc := hK.sub (tys' := [(t0, (.object "DraftTree$State"))]) [0] rfl
  have hFc := va_free (wc := [(a0, .inr (0, [.ref r0, .int 0, .ref a1, .int 1, .int 0, .ref r1, .int 0, .int (-1), .ref r2, .ref r3, .int 0, .int (-1), .ref r4, .ref r5])), (a1, .inl (t0, 40, .inr (.inr (.inr (.inr (va_up (fun _ => none) 0 (some a2))))))), (a2, .inr (1, [.ref r1, .int (-1), .int 0, .int (-1)]))]) hD hS hA [0, 1, 2] rfl
  refine va_callv (va_runV (As := [.int 0]) (rest := []) ⟨hx, hb, hml, hown, hts⟩ (c_D_jump l dC dI a0 a1 a2 r0 r1 r2 r3 r4 r5 t0 s.heap.size) (cwV 1 hts (gd_v lk_426 lk_427 lk_428 lk_16 lk_425) rfl rfl rfl (by decide +kernel) ⟨Nat.le_of_ble_eq_true rfl, Nat.le_of_ble_eq_true rfl⟩) ⟨fun a U g mk q => by obtain ⟨q0, q1, qP, qK, qD⟩ := q; exact ⟨q0, q1, qP, va_K.moved (u := U) (U := U.calling g mk a) (Vm.Alike.refl U.vm) qK, qD⟩, va_recv (ci := 0) (q0 := 0) hK hP rfl rfl, fun U hU hW => ⟨rfl, by rw [hU], by rw [hU]; exact hPc, va_K.moved hW.alike hKc, hDc.weaken (fun _ _ _ _ => trivial)⟩⟩ rfl rfl hl.1 rfl (lv_room (Nat.le_of_ble_eq_true rfl)) d_L_jump_2 ⟨Nat.le_of_ble_eq_true rfl, Nat.le_of_ble_eq_true rfl⟩) hS (fun q _ h => hFc q h) hFc (fun u t H1 locs ht hvm hw hB hz1 hk1 hS => ?_)
  obtain ⟨hP1, hK1, hD1⟩ := hB
  rw [ht] at hP1
  have hK1 := va_K.moved hvm.symm hK1
  obtain ⟨hP, hD⟩ := va_join (wr := []) (w1 := [(a0, .inr (0, [.ref r0, .int 0, .ref a1, .int 1, .int 0, .ref r1, .int 0, .int (-1), .ref r2, .ref r3, .int 0, .int (-1), .ref r4, .ref r5])), (a1, .inl (t0, 40, .inr (.inr (.inr (.inr (va_up (fun _ => none) 0 (some a2))))))), (a2, .inr (1, [.ref r1, .int (-1), .int 0, .int (-1)]))]) hP hD [0, 1, 2] [] rfl rfl (by decide) (by decide) hk1 hFc hP1 hD1
  generalize H1 = H at hP hS ⊢
  have hP : va_P (dC, dI) vwCl [(a0, .inr (0, [.ref r0, .int 0, .ref a1, .int 1, .int 0, .ref r1, .int 0, .int (-1), .ref r2, .ref r3, .int 0, .int (-1), .ref r4, .ref r5])), (a1, .inl (t0, 40, .inr (.inr (.inr (.inr (va_up (fun _ => none) 0 (some a2))))))), (a2, .inr (1, [.ref r1, .int (-1), .int 0, .int (-1)]))] H := hP
  have hD : va_D A [(a0, .inr (0, [.ref r0, .int 0, .ref a1, .int 1, .int 0, .ref r1, .int 0, .int (-1), .ref r2, .ref r3, .int 0, .int (-1), .ref r4, .ref r5])), (a1, .inl (t0, 40, .inr (.inr (.inr (.inr (va_up (fun _ => none) 0 (some a2))))))), (a2, .inr (1, [.ref r1, .int (-1), .int 0, .int (-1)]))] := hD
  refine lv_goto (tgt := 11) hx hb d_L_jump_5 (by decide) ?_
  refine lv_iconst (v := 0) hx hb d_L_jump_11 (by decide) ?_
  have hP9 := hP.sub (ws' := [(a0, .inr (0, [.ref r0, .int 0, .ref a1, .int 1, .int 0, .ref r1, .int 0, .int (-1), .ref r2, .ref r3, .int 0, .int (-1), .ref r4, .ref r5])), (a1, .inl (t0, 40, .inr (.inr (.inr (.inr (va_up (fun _ => none) 0 (some a2))))))), (a2, .inr (1, [.ref r1, .int (-1), .int 0, .int (-1)]))]) [0, 1, 2] rfl
  have hD9 := hD.sub (ws' := [(a0, .inr (0, [.ref r0, .int 0, .ref a1, .int 1, .int 0, .ref r1, .int 0, .int (-1), .ref r2, .ref r3, .int 0, .int (-1), .ref r4, .ref r5])), (a1, .inl (t0, 40, .inr (.inr (.inr (.inr (va_up (fun _ => none) 0 (some a2))))))), (a2, .inr (1, [.ref r1, .int (-1), .int 0, .int (-1)]))]) [0, 1, 2] (by decide) rfl
  have hK9 := hK.sub (tys' := [(t0, (.object "DraftTree$State"))]) [0] rfl
  exact W.iret (v := 0) hx hb hr (fun t ht hW => ⟨⟨0, (), rfl, rfl, by rw [ht]; exact hP9, va_K.moved hW.alike hK9, hD9⟩, hS.F ht⟩) hS.2.2 d_L_jump_12

set_option maxHeartbeats 4000000 in
set_option maxRecDepth 100000 in
theorem c_M_come (l : Launch) (dC : Nat → ClassId) (dI : Nat → Nat → Nat) (a0 a1 a2 r0 r1 r2 r3 r4 r5 r6 r7 r8 r9 r10 r11 r12 r13 r14 r15 r16 r17 : Nat) (t0 t1 : ClassId) (sz : Nat)  : Met l y_M_come w_M_come ({ frames := 0, cells := 0, slots := 0, locals := 0 }) (va_Pc [.ref a0, .int 0] (fun U => U.heap.size = sz ∧ va_P (dC, dI) vwCl [(a0, .inr (4, [.int 0, .int 0, .ref r0, .int 1, .int 0, .ref r1, .ref r2, .ref a1, .ref r3, .ref a2, .int 0, .int 0, .int (-1), .int 0, .int (-1), .int 0, .ref r4, .int 0, .ref r5, .ref r6, .ref r7, .ref r8, .ref r9, .int 0, .int 0, .int 0, .ref r10, .ref r11, .int 0, .ref r12, .ref r13, .ref r14, .ref r15, .ref r16, .int 0, .int 0, .int 0, .ref r17])), (a1, .inl (t0, 40, .inl (fun _ => 0))), (a2, .inl (t1, 40, .inl (fun _ => 0)))] U.heap ∧ va_K (dC, dI) vwCl [(t0, .int), (t1, .int)] U ∧ va_D (fun _ => True) [(a0, .inr (4, [.int 0, .int 0, .ref r0, .int 1, .int 0, .ref r1, .ref r2, .ref a1, .ref r3, .ref a2, .int 0, .int 0, .int (-1), .int 0, .int (-1), .int 0, .ref r4, .int 0, .ref r5, .ref r6, .ref r7, .ref r8, .ref r9, .int 0, .int 0, .int 0, .ref r10, .ref r11, .int 0, .ref r12, .ref r13, .ref r14, .ref r15, .ref r16, .int 0, .int 0, .int 0, .ref r17])), (a1, .inl (t0, 40, .inl (fun _ => 0))), (a2, .inl (t1, 40, .inl (fun _ => 0)))])) (va_Qv (fun (u : Unit) => u = u) (fun (_ : Unit) t => va_P (dC, dI) vwCl [(a0, .inr (4, [.int 0, .int 0, .ref r0, .int 1, .int 0, .ref r1, .ref r2, .ref a1, .ref r3, .ref a2, .int 1, .int 0, .int (-1), .int 0, .int (-1), .int 0, .ref r4, .int 0, .ref r5, .ref r6, .ref r7, .ref r8, .ref r9, .int 0, .int 0, .int 0, .ref r10, .ref r11, .int 0, .ref r12, .ref r13, .ref r14, .ref r15, .ref r16, .int 0, .int 0, .int 0, .ref r17])), (a1, .inl (t0, 40, .inl (upd (fun _ => 0) 0 0))), (a2, .inl (t1, 40, .inl (upd (fun _ => 0) 0 1)))] t.heap ∧ va_K (dC, dI) vwCl [(t0, .int), (t1, .int)] t ∧ va_D (va_A [(a0, .inr (4, [.int 0, .int 0, .ref r0, .int 1, .int 0, .ref r1, .ref r2, .ref a1, .ref r3, .ref a2, .int 0, .int 0, .int (-1), .int 0, .int (-1), .int 0, .ref r4, .int 0, .ref r5, .ref r6, .ref r7, .ref r8, .ref r9, .int 0, .int 0, .int 0, .ref r10, .ref r11, .int 0, .ref r12, .ref r13, .ref r14, .ref r15, .ref r16, .int 0, .int 0, .int 0, .ref r17])), (a1, .inl (t0, 40, .inl (fun _ => 0))), (a2, .inl (t1, 40, .inl (fun _ => 0)))] sz) [(a0, .inr (4, [.int 0, .int 0, .ref r0, .int 1, .int 0, .ref r1, .ref r2, .ref a1, .ref r3, .ref a2, .int 1, .int 0, .int (-1), .int 0, .int (-1), .int 0, .ref r4, .int 0, .ref r5, .ref r6, .ref r7, .ref r8, .ref r9, .int 0, .int 0, .int 0, .ref r10, .ref r11, .int 0, .ref r12, .ref r13, .ref r14, .ref r15, .ref r16, .int 0, .int 0, .int 0, .ref r17])), (a1, .inl (t0, 40, .inl (upd (fun _ => 0) 0 0))), (a2, .inl (t1, 40, .inl (upd (fun _ => 0) 0 1)))]) (va_A [(a0, .inr (4, [.int 0, .int 0, .ref r0, .int 1, .int 0, .ref r1, .ref r2, .ref a1, .ref r3, .ref a2, .int 0, .int 0, .int (-1), .int 0, .int (-1), .int 0, .ref r4, .int 0, .ref r5, .ref r6, .ref r7, .ref r8, .ref r9, .int 0, .int 0, .int 0, .ref r10, .ref r11, .int 0, .ref r12, .ref r13, .ref r14, .ref r15, .ref r16, .int 0, .int 0, .int 0, .ref r17])), (a1, .inl (t0, 40, .inl (fun _ => 0))), (a2, .inl (t1, 40, .inl (fun _ => 0)))] sz)) 0 0 (va_A [(a0, .inr (4, [.int 0, .int 0, .ref r0, .int 1, .int 0, .ref r1, .ref r2, .ref a1, .ref r3, .ref a2, .int 0, .int 0, .int (-1), .int 0, .int (-1), .int 0, .ref r4, .int 0, .ref r5, .ref r6, .ref r7, .ref r8, .ref r9, .int 0, .int 0, .int 0, .ref r10, .ref r11, .int 0, .ref r12, .ref r13, .ref r14, .ref r15, .ref r16, .int 0, .int 0, .int 0, .ref r17])), (a1, .inl (t0, 40, .inl (fun _ => 0))), (a2, .inl (t1, 40, .inl (fun _ => 0)))] sz) := by
  refine Met.ofW (cc := prog_6_method_8_code) (maxL := 2) (ret := none) (by decide) rfl ?_
  intro p e s m args below meth c s₁ B hml hv
  obtain ⟨rfl, hsz, hP, hK, hD0⟩ := hv
  have hx := B.exec
  have hb := B.bytes
  have hr := B.returns
  have hts := atoms_spec (ws := w_M_come) B.pre
  have hown : s.vm.findClass R_M = some m.cls := findClass_of_methodNamed B.named
  have hlocks := B.notSynchronized
  subst hsz
  have hD := hD0.self (sz := s.heap.size)
  generalize hAe : va_A [(a0, .inr (4, [.int 0, .int 0, .ref r0, .int 1, .int 0, .ref r1, .ref r2, .ref a1, .ref r3, .ref a2, .int 0, .int 0, .int (-1), .int 0, .int (-1), .int 0, .ref r4, .int 0, .ref r5, .ref r6, .ref r7, .ref r8, .ref r9, .int 0, .int 0, .int 0, .ref r10, .ref r11, .int 0, .ref r12, .ref r13, .ref r14, .ref r15, .ref r16, .int 0, .int 0, .int 0, .ref r17])), (a1, .inl (t0, 40, .inl (fun _ => 0))), (a2, .inl (t1, 40, .inl (fun _ => 0)))] s.heap.size = A at hD ⊢
  have hA : ∀ q : Nat, s.heap.size ≤ q → A q := fun q h => by rw [← hAe]; exact Or.inr h
  have hS : va_S A s.heap s.heap [] := va_S.rf
  have hP : va_P (dC, dI) vwCl [(a0, .inr (4, [.int 0, .int 0, .ref r0, .int 1, .int 0, .ref r1, .ref r2, .ref a1, .ref r3, .ref a2, .int 0, .int 0, .int (-1), .int 0, .int (-1), .int 0, .ref r4, .int 0, .ref r5, .ref r6, .ref r7, .ref r8, .ref r9, .int 0, .int 0, .int 0, .ref r10, .ref r11, .int 0, .ref r12, .ref r13, .ref r14, .ref r15, .ref r16, .int 0, .int 0, .int 0, .ref r17])), (a1, .inl (t0, 40, .inl (fun _ => 0))), (a2, .inl (t1, 40, .inl (fun _ => 0)))] s.heap := hP
  have hl := lv_entry ([.ref a0, .int 0]) (n := 2) (Nat.le_of_ble_eq_true rfl)
  rw [lg_entry_eq]
  generalize (lg_sl ([.ref a0, .int 0]) ++ List.replicate (2 - (lg_sl ([.ref a0, .int 0])).length) Slot.unset).toArray = ls at hl ⊢
  have hl : lv_has ls 2 [(0, .ref a0), (1, .int 0)] := hl
  refine lv_aload_n hx hb d_M_come_0 rfl (lv_at hl 0 rfl) ?_
  refine va_get (D := (dC, dI)) (ci := 4) (v := .ref a1) (C := R_M) (T := F_M) (N := 38) hx hb hts (fun w h => List.mem_cons_of_mem _ (in_M w h)) hown hK hP 0 rfl rfl 7 (by decide) (hts _ (List.mem_cons_of_mem _ lk_147)) (fun _ h9 => h9) rfl d_M_come_1 ?_
  refine lv_aload_n hx hb d_M_come_4 rfl (lv_at hl 0 rfl) ?_
  refine va_get (D := (dC, dI)) (ci := 4) (v := .int 0) (C := R_M) (T := F_M) (N := 38) hx hb hts (fun w h => List.mem_cons_of_mem _ (in_M w h)) hown hK hP 0 rfl rfl 4 (by decide) (hts _ (List.mem_cons_of_mem _ lk_219)) (fun _ h9 => h9) rfl d_M_come_5 ?_
  refine lv_aload_n hx hb d_M_come_8 rfl (lv_at hl 0 rfl) ?_
  refine va_get (D := (dC, dI)) (ci := 4) (v := .int 0) (C := R_M) (T := F_M) (N := 38) hx hb hts (fun w h => List.mem_cons_of_mem _ (in_M w h)) hown hK hP 0 rfl rfl 11 (by decide) (hts _ (List.mem_cons_of_mem _ lk_210)) (fun _ h9 => h9) rfl d_M_come_9 ?_
  refine va_iast hx hb hK hP hD hS 1 0 rfl rfl (wk_in (by decide +kernel)) d_M_come_12 (fun H locs hP hD hS => ?_)
  have hP : va_P (dC, dI) vwCl [(a0, .inr (4, [.int 0, .int 0, .ref r0, .int 1, .int 0, .ref r1, .ref r2, .ref a1, .ref r3, .ref a2, .int 0, .int 0, .int (-1), .int 0, .int (-1), .int 0, .ref r4, .int 0, .ref r5, .ref r6, .ref r7, .ref r8, .ref r9, .int 0, .int 0, .int 0, .ref r10, .ref r11, .int 0, .ref r12, .ref r13, .ref r14, .ref r15, .ref r16, .int 0, .int 0, .int 0, .ref r17])), (a1, .inl (t0, 40, .inl (upd (fun _ => 0) 0 0))), (a2, .inl (t1, 40, .inl (fun _ => 0)))] H := hP
  have hD : va_D A [(a0, .inr (4, [.int 0, .int 0, .ref r0, .int 1, .int 0, .ref r1, .ref r2, .ref a1, .ref r3, .ref a2, .int 0, .int 0, .int (-1), .int 0, .int (-1), .int 0, .ref r4, .int 0, .ref r5, .ref r6, .ref r7, .ref r8, .ref r9, .int 0, .int 0, .int 0, .ref r10, .ref r11, .int 0, .ref r12, .ref r13, .ref r14, .ref r15, .ref r16, .int 0, .int 0, .int 0, .ref r17])), (a1, .inl (t0, 40, .inl (upd (fun _ => 0) 0 0))), (a2, .inl (t1, 40, .inl (fun _ => 0)))] := hD
  refine lv_aload_n hx hb d_M_come_13 rfl (lv_at hl 0 rfl) ?_
  refine lv_iload_n hx hb d_M_come_14 rfl (lv_at hl 1 rfl) ?_
  refine va_put (D := (dC, dI)) (ci := 4) (v := .int 0) (ty := .int) (C := R_M) (T := F_M) (N := 38) hx hb hts (fun w h => List.mem_cons_of_mem _ (in_M w h)) t_M tk_M n_M hown hK hP hD hS 0 rfl rfl 4 (by decide) (hts _ (List.mem_cons_of_mem _ lk_219)) (fun _ h9 => h9) rfl (by decide +kernel) rfl rfl (Nat.le_of_ble_eq_true rfl) d_M_come_15 (fun H locs hP hD hS => ?_)
  have hP : va_P (dC, dI) vwCl [(a0, .inr (4, [.int 0, .int 0, .ref r0, .int 1, .int 0, .ref r1, .ref r2, .ref a1, .ref r3, .ref a2, .int 0, .int 0, .int (-1), .int 0, .int (-1), .int 0, .ref r4, .int 0, .ref r5, .ref r6, .ref r7, .ref r8, .ref r9, .int 0, .int 0, .int 0, .ref r10, .ref r11, .int 0, .ref r12, .ref r13, .ref r14, .ref r15, .ref r16, .int 0, .int 0, .int 0, .ref r17])), (a1, .inl (t0, 40, .inl (upd (fun _ => 0) 0 0))), (a2, .inl (t1, 40, .inl (fun _ => 0)))] H := hP
  have hD : va_D A [(a0, .inr (4, [.int 0, .int 0, .ref r0, .int 1, .int 0, .ref r1, .ref r2, .ref a1, .ref r3, .ref a2, .int 0, .int 0, .int (-1), .int 0, .int (-1), .int 0, .ref r4, .int 0, .ref r5, .ref r6, .ref r7, .ref r8, .ref r9, .int 0, .int 0, .int 0, .ref r10, .ref r11, .int 0, .ref r12, .ref r13, .ref r14, .ref r15, .ref r16, .int 0, .int 0, .int 0, .ref r17])), (a1, .inl (t0, 40, .inl (upd (fun _ => 0) 0 0))), (a2, .inl (t1, 40, .inl (fun _ => 0)))] := hD
  refine lv_aload_n hx hb d_M_come_18 rfl (lv_at hl 0 rfl) ?_
  refine lv_aload_n hx hb d_M_come_19 rfl (lv_at hl 0 rfl) ?_
  refine va_get (D := (dC, dI)) (ci := 4) (v := .ref a1) (C := R_M) (T := F_M) (N := 38) hx hb hts (fun w h => List.mem_cons_of_mem _ (in_M w h)) hown hK hP 0 rfl rfl 7 (by decide) (hts _ (List.mem_cons_of_mem _ lk_147)) (fun _ h9 => h9) rfl d_M_come_20 ?_
  refine lv_iload_n hx hb d_M_come_23 rfl (lv_at hl 1 rfl) ?_
  refine va_iald hx hb hK hP 1 0 rfl rfl (wk_in (by decide +kernel)) d_M_come_24 ?_
  refine wk_top (w := .int 0) (congrArg _ (by decide +kernel)) ?_
  refine va_put (D := (dC, dI)) (ci := 4) (v := .int 0) (ty := .int) (C := R_M) (T := F_M) (N := 38) hx hb hts (fun w h => List.mem_cons_of_mem _ (in_M w h)) t_M tk_M n_M hown hK hP hD hS 0 rfl rfl 11 (by decide) (hts _ (List.mem_cons_of_mem _ lk_210)) (fun _ h9 => h9) rfl (by decide +kernel) rfl rfl (Nat.le_of_ble_eq_true rfl) d_M_come_25 (fun H locs hP hD hS => ?_)
  have hP : va_P (dC, dI) vwCl [(a0, .inr (4, [.int 0, .int 0, .ref r0, .int 1, .int 0, .ref r1, .ref r2, .ref a1, .ref r3, .ref a2, .int 0, .int 0, .int (-1), .int 0, .int (-1), .int 0, .ref r4, .int 0, .ref r5, .ref r6, .ref r7, .ref r8, .ref r9, .int 0, .int 0, .int 0, .ref r10, .ref r11, .int 0, .ref r12, .ref r13, .ref r14, .ref r15, .ref r16, .int 0, .int 0, .int 0, .ref r17])), (a1, .inl (t0, 40, .inl (upd (fun _ => 0) 0 0))), (a2, .inl (t1, 40, .inl (fun _ => 0)))] H := hP
  have hD : va_D A [(a0, .inr (4, [.int 0, .int 0, .ref r0, .int 1, .int 0, .ref r1, .ref r2, .ref a1, .ref r3, .ref a2, .int 0, .int 0, .int (-1), .int 0, .int (-1), .int 0, .ref r4, .int 0, .ref r5, .ref r6, .ref r7, .ref r8, .ref r9, .int 0, .int 0, .int 0, .ref r10, .ref r11, .int 0, .ref r12, .ref r13, .ref r14, .ref r15, .ref r16, .int 0, .int 0, .int 0, .ref r17])), (a1, .inl (t0, 40, .inl (upd (fun _ => 0) 0 0))), (a2, .inl (t1, 40, .inl (fun _ => 0)))] := hD
  refine lv_aload_n hx hb d_M_come_28 rfl (lv_at hl 0 rfl) ?_
  refine lv_iconst (v := (-1)) hx hb d_M_come_29 (by decide) ?_
  refine va_put (D := (dC, dI)) (ci := 4) (v := .int (-1)) (ty := .int) (C := R_M) (T := F_M) (N := 38) hx hb hts (fun w h => List.mem_cons_of_mem _ (in_M w h)) t_M tk_M n_M hown hK hP hD hS 0 rfl rfl 12 (by decide) (hts _ (List.mem_cons_of_mem _ lk_150)) (fun _ h9 => h9) rfl (by decide +kernel) rfl rfl (Nat.le_of_ble_eq_true rfl) d_M_come_30 (fun H locs hP hD hS => ?_)
  have hP : va_P (dC, dI) vwCl [(a0, .inr (4, [.int 0, .int 0, .ref r0, .int 1, .int 0, .ref r1, .ref r2, .ref a1, .ref r3, .ref a2, .int 0, .int 0, .int (-1), .int 0, .int (-1), .int 0, .ref r4, .int 0, .ref r5, .ref r6, .ref r7, .ref r8, .ref r9, .int 0, .int 0, .int 0, .ref r10, .ref r11, .int 0, .ref r12, .ref r13, .ref r14, .ref r15, .ref r16, .int 0, .int 0, .int 0, .ref r17])), (a1, .inl (t0, 40, .inl (upd (fun _ => 0) 0 0))), (a2, .inl (t1, 40, .inl (fun _ => 0)))] H := hP
  have hD : va_D A [(a0, .inr (4, [.int 0, .int 0, .ref r0, .int 1, .int 0, .ref r1, .ref r2, .ref a1, .ref r3, .ref a2, .int 0, .int 0, .int (-1), .int 0, .int (-1), .int 0, .ref r4, .int 0, .ref r5, .ref r6, .ref r7, .ref r8, .ref r9, .int 0, .int 0, .int 0, .ref r10, .ref r11, .int 0, .ref r12, .ref r13, .ref r14, .ref r15, .ref r16, .int 0, .int 0, .int 0, .ref r17])), (a1, .inl (t0, 40, .inl (upd (fun _ => 0) 0 0))), (a2, .inl (t1, 40, .inl (fun _ => 0)))] := hD
  refine lv_aload_n hx hb d_M_come_33 rfl (lv_at hl 0 rfl) ?_
  refine lv_dup hx hb d_M_come_34 rfl ?_
  refine va_get (D := (dC, dI)) (ci := 4) (v := .int 0) (C := R_M) (T := F_M) (N := 38) hx hb hts (fun w h => List.mem_cons_of_mem _ (in_M w h)) hown hK hP 0 rfl rfl 10 (by decide) (hts _ (List.mem_cons_of_mem _ lk_432)) (fun _ h9 => h9) rfl d_M_come_35 ?_
  refine lv_iconst (v := 1) hx hb d_M_come_38 (by decide) ?_
  refine t_iadd (v := 1) hx hb d_M_come_39 (by decide +kernel) ?_
  refine va_put (D := (dC, dI)) (ci := 4) (v := .int 1) (ty := .int) (C := R_M) (T := F_M) (N := 38) hx hb hts (fun w h => List.mem_cons_of_mem _ (in_M w h)) t_M tk_M n_M hown hK hP hD hS 0 rfl rfl 10 (by decide) (hts _ (List.mem_cons_of_mem _ lk_432)) (fun _ h9 => h9) rfl (by decide +kernel) rfl rfl (Nat.le_of_ble_eq_true rfl) d_M_come_40 (fun H locs hP hD hS => ?_)
  have hP : va_P (dC, dI) vwCl [(a0, .inr (4, [.int 0, .int 0, .ref r0, .int 1, .int 0, .ref r1, .ref r2, .ref a1, .ref r3, .ref a2, .int 1, .int 0, .int (-1), .int 0, .int (-1), .int 0, .ref r4, .int 0, .ref r5, .ref r6, .ref r7, .ref r8, .ref r9, .int 0, .int 0, .int 0, .ref r10, .ref r11, .int 0, .ref r12, .ref r13, .ref r14, .ref r15, .ref r16, .int 0, .int 0, .int 0, .ref r17])), (a1, .inl (t0, 40, .inl (upd (fun _ => 0) 0 0))), (a2, .inl (t1, 40, .inl (fun _ => 0)))] H := hP
  have hD : va_D A [(a0, .inr (4, [.int 0, .int 0, .ref r0, .int 1, .int 0, .ref r1, .ref r2, .ref a1, .ref r3, .ref a2, .int 1, .int 0, .int (-1), .int 0, .int (-1), .int 0, .ref r4, .int 0, .ref r5, .ref r6, .ref r7, .ref r8, .ref r9, .int 0, .int 0, .int 0, .ref r10, .ref r11, .int 0, .ref r12, .ref r13, .ref r14, .ref r15, .ref r16, .int 0, .int 0, .int 0, .ref r17])), (a1, .inl (t0, 40, .inl (upd (fun _ => 0) 0 0))), (a2, .inl (t1, 40, .inl (fun _ => 0)))] := hD
  refine lv_aload_n hx hb d_M_come_43 rfl (lv_at hl 0 rfl) ?_
  refine va_get (D := (dC, dI)) (ci := 4) (v := .ref a2) (C := R_M) (T := F_M) (N := 38) hx hb hts (fun w h => List.mem_cons_of_mem _ (in_M w h)) hown hK hP 0 rfl rfl 9 (by decide) (hts _ (List.mem_cons_of_mem _ lk_149)) (fun _ h9 => h9) rfl d_M_come_44 ?_
  refine lv_iload_n hx hb d_M_come_47 rfl (lv_at hl 1 rfl) ?_
  refine lv_aload_n hx hb d_M_come_48 rfl (lv_at hl 0 rfl) ?_
  refine va_get (D := (dC, dI)) (ci := 4) (v := .int 1) (C := R_M) (T := F_M) (N := 38) hx hb hts (fun w h => List.mem_cons_of_mem _ (in_M w h)) hown hK hP 0 rfl rfl 10 (by decide) (hts _ (List.mem_cons_of_mem _ lk_432)) (fun _ h9 => h9) rfl d_M_come_49 ?_
  refine va_iast hx hb hK hP hD hS 2 1 rfl rfl (wk_in (by decide +kernel)) d_M_come_52 (fun H locs hP hD hS => ?_)
  have hP : va_P (dC, dI) vwCl [(a0, .inr (4, [.int 0, .int 0, .ref r0, .int 1, .int 0, .ref r1, .ref r2, .ref a1, .ref r3, .ref a2, .int 1, .int 0, .int (-1), .int 0, .int (-1), .int 0, .ref r4, .int 0, .ref r5, .ref r6, .ref r7, .ref r8, .ref r9, .int 0, .int 0, .int 0, .ref r10, .ref r11, .int 0, .ref r12, .ref r13, .ref r14, .ref r15, .ref r16, .int 0, .int 0, .int 0, .ref r17])), (a1, .inl (t0, 40, .inl (upd (fun _ => 0) 0 0))), (a2, .inl (t1, 40, .inl (upd (fun _ => 0) 0 1)))] H := hP
  have hD : va_D A [(a0, .inr (4, [.int 0, .int 0, .ref r0, .int 1, .int 0, .ref r1, .ref r2, .ref a1, .ref r3, .ref a2, .int 1, .int 0, .int (-1), .int 0, .int (-1), .int 0, .ref r4, .int 0, .ref r5, .ref r6, .ref r7, .ref r8, .ref r9, .int 0, .int 0, .int 0, .ref r10, .ref r11, .int 0, .ref r12, .ref r13, .ref r14, .ref r15, .ref r16, .int 0, .int 0, .int 0, .ref r17])), (a1, .inl (t0, 40, .inl (upd (fun _ => 0) 0 0))), (a2, .inl (t1, 40, .inl (upd (fun _ => 0) 0 1)))] := hD
  have hP9 := hP.sub (ws' := [(a0, .inr (4, [.int 0, .int 0, .ref r0, .int 1, .int 0, .ref r1, .ref r2, .ref a1, .ref r3, .ref a2, .int 1, .int 0, .int (-1), .int 0, .int (-1), .int 0, .ref r4, .int 0, .ref r5, .ref r6, .ref r7, .ref r8, .ref r9, .int 0, .int 0, .int 0, .ref r10, .ref r11, .int 0, .ref r12, .ref r13, .ref r14, .ref r15, .ref r16, .int 0, .int 0, .int 0, .ref r17])), (a1, .inl (t0, 40, .inl (upd (fun _ => 0) 0 0))), (a2, .inl (t1, 40, .inl (upd (fun _ => 0) 0 1)))]) [0, 1, 2] rfl
  have hD9 := hD.sub (ws' := [(a0, .inr (4, [.int 0, .int 0, .ref r0, .int 1, .int 0, .ref r1, .ref r2, .ref a1, .ref r3, .ref a2, .int 1, .int 0, .int (-1), .int 0, .int (-1), .int 0, .ref r4, .int 0, .ref r5, .ref r6, .ref r7, .ref r8, .ref r9, .int 0, .int 0, .int 0, .ref r10, .ref r11, .int 0, .ref r12, .ref r13, .ref r14, .ref r15, .ref r16, .int 0, .int 0, .int 0, .ref r17])), (a1, .inl (t0, 40, .inl (upd (fun _ => 0) 0 0))), (a2, .inl (t1, 40, .inl (upd (fun _ => 0) 0 1)))]) [0, 1, 2] (by decide) rfl
  have hK9 := hK.sub (tys' := [(t0, .int), (t1, .int)]) [0, 1] rfl
  exact W.vret hx hb hr (fun t ht hW => ⟨⟨(), rfl, rfl, by rw [ht]; exact hP9, va_K.moved hW.alike hK9, hD9⟩, hS.F ht⟩) hS.2.2 d_M_come_53

set_option maxHeartbeats 4000000 in
set_option maxRecDepth 100000 in
theorem c_M_jump (l : Launch) (dC : Nat → ClassId) (dI : Nat → Nat → Nat) (a0 a1 a2 r0 r1 r2 r3 r4 r5 r6 r7 r8 r9 r10 r11 r12 r13 r14 r15 r16 r17 : Nat) (t0 t1 : ClassId) (sz : Nat)  : Met l y_M_jump w_M_jump ({ frames := 1, cells := 0, slots := 0, locals := 21 }) (va_Pc [.ref a0, .int 0] (fun U => U.heap.size = sz ∧ va_P (dC, dI) vwCl [(a0, .inr (4, [.int 0, .int 0, .ref r0, .int 1, .int 0, .ref r1, .ref r2, .ref a1, .ref r3, .ref a2, .int 0, .int 0, .int (-1), .int 0, .int (-1), .int 0, .ref r4, .int 0, .ref r5, .ref r6, .ref r7, .ref r8, .ref r9, .int 0, .int 0, .int 0, .ref r10, .ref r11, .int 0, .ref r12, .ref r13, .ref r14, .ref r15, .ref r16, .int 0, .int 0, .int 0, .ref r17])), (a1, .inl (t0, 40, .inl (fun _ => 0))), (a2, .inl (t1, 40, .inl (fun _ => 0)))] U.heap ∧ va_K (dC, dI) vwCl [(t0, .int), (t1, .int)] U ∧ va_D (fun _ => True) [(a0, .inr (4, [.int 0, .int 0, .ref r0, .int 1, .int 0, .ref r1, .ref r2, .ref a1, .ref r3, .ref a2, .int 0, .int 0, .int (-1), .int 0, .int (-1), .int 0, .ref r4, .int 0, .ref r5, .ref r6, .ref r7, .ref r8, .ref r9, .int 0, .int 0, .int 0, .ref r10, .ref r11, .int 0, .ref r12, .ref r13, .ref r14, .ref r15, .ref r16, .int 0, .int 0, .int 0, .ref r17])), (a1, .inl (t0, 40, .inl (fun _ => 0))), (a2, .inl (t1, 40, .inl (fun _ => 0)))])) (va_Qv (fun (u : Unit) => u = u) (fun (_ : Unit) t => va_P (dC, dI) vwCl [(a0, .inr (4, [.int 0, .int 0, .ref r0, .int 1, .int 0, .ref r1, .ref r2, .ref a1, .ref r3, .ref a2, .int 1, .int 0, .int (-1), .int 0, .int (-1), .int 0, .ref r4, .int 0, .ref r5, .ref r6, .ref r7, .ref r8, .ref r9, .int 0, .int 0, .int 0, .ref r10, .ref r11, .int 0, .ref r12, .ref r13, .ref r14, .ref r15, .ref r16, .int 0, .int 0, .int 0, .ref r17])), (a1, .inl (t0, 40, .inl (upd (fun _ => 0) 0 0))), (a2, .inl (t1, 40, .inl (upd (fun _ => 0) 0 1)))] t.heap ∧ va_K (dC, dI) vwCl [(t0, .int), (t1, .int)] t ∧ va_D (va_A [(a0, .inr (4, [.int 0, .int 0, .ref r0, .int 1, .int 0, .ref r1, .ref r2, .ref a1, .ref r3, .ref a2, .int 0, .int 0, .int (-1), .int 0, .int (-1), .int 0, .ref r4, .int 0, .ref r5, .ref r6, .ref r7, .ref r8, .ref r9, .int 0, .int 0, .int 0, .ref r10, .ref r11, .int 0, .ref r12, .ref r13, .ref r14, .ref r15, .ref r16, .int 0, .int 0, .int 0, .ref r17])), (a1, .inl (t0, 40, .inl (fun _ => 0))), (a2, .inl (t1, 40, .inl (fun _ => 0)))] sz) [(a0, .inr (4, [.int 0, .int 0, .ref r0, .int 1, .int 0, .ref r1, .ref r2, .ref a1, .ref r3, .ref a2, .int 1, .int 0, .int (-1), .int 0, .int (-1), .int 0, .ref r4, .int 0, .ref r5, .ref r6, .ref r7, .ref r8, .ref r9, .int 0, .int 0, .int 0, .ref r10, .ref r11, .int 0, .ref r12, .ref r13, .ref r14, .ref r15, .ref r16, .int 0, .int 0, .int 0, .ref r17])), (a1, .inl (t0, 40, .inl (upd (fun _ => 0) 0 0))), (a2, .inl (t1, 40, .inl (upd (fun _ => 0) 0 1)))]) (va_A [(a0, .inr (4, [.int 0, .int 0, .ref r0, .int 1, .int 0, .ref r1, .ref r2, .ref a1, .ref r3, .ref a2, .int 0, .int 0, .int (-1), .int 0, .int (-1), .int 0, .ref r4, .int 0, .ref r5, .ref r6, .ref r7, .ref r8, .ref r9, .int 0, .int 0, .int 0, .ref r10, .ref r11, .int 0, .ref r12, .ref r13, .ref r14, .ref r15, .ref r16, .int 0, .int 0, .int 0, .ref r17])), (a1, .inl (t0, 40, .inl (fun _ => 0))), (a2, .inl (t1, 40, .inl (fun _ => 0)))] sz)) 0 0 (va_A [(a0, .inr (4, [.int 0, .int 0, .ref r0, .int 1, .int 0, .ref r1, .ref r2, .ref a1, .ref r3, .ref a2, .int 0, .int 0, .int (-1), .int 0, .int (-1), .int 0, .ref r4, .int 0, .ref r5, .ref r6, .ref r7, .ref r8, .ref r9, .int 0, .int 0, .int 0, .ref r10, .ref r11, .int 0, .ref r12, .ref r13, .ref r14, .ref r15, .ref r16, .int 0, .int 0, .int 0, .ref r17])), (a1, .inl (t0, 40, .inl (fun _ => 0))), (a2, .inl (t1, 40, .inl (fun _ => 0)))] sz) := by
  refine Met.ofW (cc := prog_6_method_20_code) (maxL := 2) (ret := none) (by decide) rfl ?_
  intro p e s m args below meth c s₁ B hml hv
  obtain ⟨rfl, hsz, hP, hK, hD0⟩ := hv
  have hx := B.exec
  have hb := B.bytes
  have hr := B.returns
  have hts := atoms_spec (ws := w_M_jump) B.pre
  have hown : s.vm.findClass R_M = some m.cls := findClass_of_methodNamed B.named
  have hlocks := B.notSynchronized
  subst hsz
  have hD := hD0.self (sz := s.heap.size)
  generalize hAe : va_A [(a0, .inr (4, [.int 0, .int 0, .ref r0, .int 1, .int 0, .ref r1, .ref r2, .ref a1, .ref r3, .ref a2, .int 0, .int 0, .int (-1), .int 0, .int (-1), .int 0, .ref r4, .int 0, .ref r5, .ref r6, .ref r7, .ref r8, .ref r9, .int 0, .int 0, .int 0, .ref r10, .ref r11, .int 0, .ref r12, .ref r13, .ref r14, .ref r15, .ref r16, .int 0, .int 0, .int 0, .ref r17])), (a1, .inl (t0, 40, .inl (fun _ => 0))), (a2, .inl (t1, 40, .inl (fun _ => 0)))] s.heap.size = A at hD ⊢
  have hA : ∀ q : Nat, s.heap.size ≤ q → A q := fun q h => by rw [← hAe]; exact Or.inr h
  have hS : va_S A s.heap s.heap [] := va_S.rf
  have hP : va_P (dC, dI) vwCl [(a0, .inr (4, [.int 0, .int 0, .ref r0, .int 1, .int 0, .ref r1, .ref r2, .ref a1, .ref r3, .ref a2, .int 0, .int 0, .int (-1), .int 0, .int (-1), .int 0, .ref r4, .int 0, .ref r5, .ref r6, .ref r7, .ref r8, .ref r9, .int 0, .int 0, .int 0, .ref r10, .ref r11, .int 0, .ref r12, .ref r13, .ref r14, .ref r15, .ref r16, .int 0, .int 0, .int 0, .ref r17])), (a1, .inl (t0, 40, .inl (fun _ => 0))), (a2, .inl (t1, 40, .inl (fun _ => 0)))] s.heap := hP
  have hl := lv_entry ([.ref a0, .int 0]) (n := 2) (Nat.le_of_ble_eq_true rfl)
  rw [lg_entry_eq]
  generalize (lg_sl ([.ref a0, .int 0]) ++ List.replicate (2 - (lg_sl ([.ref a0, .int 0])).length) Slot.unset).toArray = ls at hl ⊢
  have hl : lv_has ls 2 [(0, .ref a0), (1, .int 0)] := hl
  refine lv_aload_n hx hb d_M_jump_0 rfl (lv_at hl 0 rfl) ?_
  refine lv_iload_n hx hb d_M_jump_1 rfl (lv_at hl 1 rfl) ?_
  refine lv_if_lt (tgt := 13) hx hb d_M_jump_2 (by decide) (fun h => absurd h (by decide +kernel)) (fun _ => ?_)
  refine lv_iload_n hx hb d_M_jump_5 rfl (lv_at hl 1 rfl) ?_
  refine lv_aload_n hx hb d_M_jump_6 rfl (lv_at hl 0 rfl) ?_
  refine va_get (D := (dC, dI)) (ci := 4) (v := .int 1) (C := R_M) (T := F_M) (N := 38) hx hb hts (fun w h => List.mem_cons_of_mem _ (in_M w h)) hown hK hP 0 rfl rfl 3 (by decide) (hts _ (List.mem_cons_of_mem _ lk_144)) (fun _ h9 => h9) rfl d_M_jump_7 ?_
  refine lv_icmp_lt (tgt := 17) hx hb d_M_jump_10 (by decide) (fun _ => ?_) (fun h => absurd (by decide +kernel) h)
  refine lv_iconst (v := 0) hx hb d_M_jump_17 (by decide) ?_
  refine va_put (D := (dC, dI)) (ci := 4) (v := .int 0) (ty := .int) (C := R_M) (T := F_M) (N := 38) hx hb hts (fun w h => List.mem_cons_of_mem _ (in_M w h)) t_M tk_M n_M hown hK hP hD hS 0 rfl rfl 0 (by decide) (hts _ (List.mem_cons_of_mem _ lk_175)) (fun _ h9 => h9) rfl (by decide +kernel) rfl rfl (Nat.le_of_ble_eq_true rfl) d_M_jump_18 (fun H locs hP hD hS => ?_)
  have hP : va_P (dC, dI) vwCl [(a0, .inr (4, [.int 0, .int 0, .ref r0, .int 1, .int 0, .ref r1, .ref r2, .ref a1, .ref r3, .ref a2, .int 0, .int 0, .int (-1), .int 0, .int (-1), .int 0, .ref r4, .int 0, .ref r5, .ref r6, .ref r7, .ref r8, .ref r9, .int 0, .int 0, .int 0, .ref r10, .ref r11, .int 0, .ref r12, .ref r13, .ref r14, .ref r15, .ref r16, .int 0, .int 0, .int 0, .ref r17])), (a1, .inl (t0, 40, .inl (fun _ => 0))), (a2, .inl (t1, 40, .inl (fun _ => 0)))] H := hP
  have hD : va_D A [(a0, .inr (4, [.int 0, .int 0, .ref r0, .int 1, .int 0, .ref r1, .ref r2, .ref a1, .ref r3, .ref a2, .int 0, .int 0, .int (-1), .int 0, .int (-1), .int 0, .ref r4, .int 0, .ref r5, .ref r6, .ref r7, .ref r8, .ref r9, .int 0, .int 0, .int 0, .ref r10, .ref r11, .int 0, .ref r12, .ref r13, .ref r14, .ref r15, .ref r16, .int 0, .int 0, .int 0, .ref r17])), (a1, .inl (t0, 40, .inl (fun _ => 0))), (a2, .inl (t1, 40, .inl (fun _ => 0)))] := hD
  refine lv_aload_n hx hb d_M_jump_21 rfl (lv_at hl 0 rfl) ?_
  refine va_get (D := (dC, dI)) (ci := 4) (v := .int 0) (C := R_M) (T := F_M) (N := 38) hx hb hts (fun w h => List.mem_cons_of_mem _ (in_M w h)) hown hK hP 0 rfl rfl 0 (by decide) (hts _ (List.mem_cons_of_mem _ lk_175)) (fun _ h9 => h9) rfl d_M_jump_22 ?_
  refine lv_if_ne (tgt := 33) hx hb d_M_jump_25 (by decide) (fun h => absurd (by decide +kernel) h) (fun _ => ?_)
  refine lv_aload_n hx hb d_M_jump_28 rfl (lv_at hl 0 rfl) ?_
  refine lv_iload_n hx hb d_M_jump_29 rfl (lv_at hl 1 rfl) ?_
  have hPc := hP.sub (ws' := [(a0, .inr (4, [.int 0, .int 0, .ref r0, .int 1, .int 0, .ref r1, .ref r2, .ref a1, .ref r3, .ref a2, .int 0, .int 0, .int (-1), .int 0, .int (-1), .int 0, .ref r4, .int 0, .ref r5, .ref r6, .ref r7, .ref r8, .ref r9, .int 0, .int 0, .int 0, .ref r10, .ref r11, .int 0, .ref r12, .ref r13, .ref r14, .ref r15, .ref r16, .int 0, .int 0, .int 0, .ref r17])), (a1, .inl (t0, 40, .inl (fun _ => 0))), (a2, .inl (t1, 40, .inl (fun _ => 0)))]) [0, 1, 2] rfl
  have hDc := hD.sub (ws' := [(a0, .inr (4, [.int 0, .int 0, .ref r0, .int 1, .int 0, .ref r1, .ref r2, .ref a1, .ref r3, .ref a2, .int 0, .int 0, .int (-1), .int 0, .int (-1), .int 0, .ref r4, .int 0, .ref r5, .ref r6, .ref r7, .ref r8, .ref r9, .int 0, .int 0, .int 0, .ref r10, .ref r11, .int 0, .ref r12, .ref r13, .ref r14, .ref r15, .ref r16, .int 0, .int 0, .int 0, .ref r17])), (a1, .inl (t0, 40, .inl (fun _ => 0))), (a2, .inl (t1, 40, .inl (fun _ => 0)))]) [0, 1, 2] (by decide) rfl
  have hKc := hK.sub (tys' := [(t0, .int), (t1, .int)]) [0, 1] rfl
  have hFc := va_free (wc := [(a0, .inr (4, [.int 0, .int 0, .ref r0, .int 1, .int 0, .ref r1, .ref r2, .ref a1, .ref r3, .ref a2, .int 0, .int 0, .int (-1), .int 0, .int (-1), .int 0, .ref r4, .int 0, .ref r5, .ref r6, .ref r7, .ref r8, .ref r9, .int 0, .int 0, .int 0, .ref r10, .ref r11, .int 0, .ref r12, .ref r13, .ref r14, .ref r15, .ref r16, .int 0, .int 0, .int 0, .ref r17])), (a1, .inl (t0, 40, .inl (fun _ => 0))), (a2, .inl (t1, 40, .inl (fun _ => 0)))]) hD hS hA [0, 1, 2] rfl
  refine va_callv (va_runV (As := [.int 0]) (rest := []) ⟨hx, hb, hml, hown, hts⟩ (c_M_come l dC dI a0 a1 a2 r0 r1 r2 r3 r4 r5 r6 r7 r8 r9 r10 r11 r12 r13 r14 r15 r16 r17 t0 t1 H.size) (cwV 1 hts (gd_v lk_434 lk_435 lk_436 lk_141 lk_433) rfl rfl rfl (by decide +kernel) ⟨Nat.le_of_ble_eq_true rfl, Nat.le_of_ble_eq_true rfl⟩) ⟨fun a U g mk q => by obtain ⟨q0, q1, qP, qK, qD⟩ := q; exact ⟨q0, q1, qP, va_K.moved (u := U) (U := U.calling g mk a) (Vm.Alike.refl U.vm) qK, qD⟩, va_recv (ci := 4) (q0 := 0) hK hP rfl rfl, fun U hU hW => ⟨rfl, by rw [hU], by rw [hU]; exact hPc, va_K.moved hW.alike hKc, hDc.weaken (fun _ _ _ _ => trivial)⟩⟩ rfl rfl hl.1 rfl (lv_room (Nat.le_of_ble_eq_true rfl)) d_M_jump_30 ⟨Nat.le_of_ble_eq_true rfl, Nat.le_of_ble_eq_true rfl⟩) hS (fun q _ h => hFc q h) hFc (fun u t H1 locs ht hvm hw hB hz1 hk1 hS => ?_)
  obtain ⟨hP1, hK1, hD1⟩ := hB
  rw [ht] at hP1
  have hK1 := va_K.moved hvm.symm hK1
  obtain ⟨hP, hD⟩ := va_join (wr := []) (w1 := [(a0, .inr (4, [.int 0, .int 0, .ref r0, .int 1, .int 0, .ref r1, .ref r2, .ref a1, .ref r3, .ref a2, .int 1, .int 0, .int (-1), .int 0, .int (-1), .int 0, .ref r4, .int 0, .ref r5, .ref r6, .ref r7, .ref r8, .ref r9, .int 0, .int 0, .int 0, .ref r10, .ref r11, .int 0, .ref r12, .ref r13, .ref r14, .ref r15, .ref r16, .int 0, .int 0, .int 0, .ref r17])), (a1, .inl (t0, 40, .inl (upd (fun _ => 0) 0 0))), (a2, .inl (t1, 40, .inl (upd (fun _ => 0) 0 1)))]) hP hD [0, 1, 2] [] rfl rfl (by decide) (by decide) hk1 hFc hP1 hD1
  generalize H1 = H at hP hS ⊢
  have hP : va_P (dC, dI) vwCl [(a0, .inr (4, [.int 0, .int 0, .ref r0, .int 1, .int 0, .ref r1, .ref r2, .ref a1, .ref r3, .ref a2, .int 1, .int 0, .int (-1), .int 0, .int (-1), .int 0, .ref r4, .int 0, .ref r5, .ref r6, .ref r7, .ref r8, .ref r9, .int 0, .int 0, .int 0, .ref r10, .ref r11, .int 0, .ref r12, .ref r13, .ref r14, .ref r15, .ref r16, .int 0, .int 0, .int 0, .ref r17])), (a1, .inl (t0, 40, .inl (upd (fun _ => 0) 0 0))), (a2, .inl (t1, 40, .inl (upd (fun _ => 0) 0 1)))] H := hP
  have hD : va_D A [(a0, .inr (4, [.int 0, .int 0, .ref r0, .int 1, .int 0, .ref r1, .ref r2, .ref a1, .ref r3, .ref a2, .int 1, .int 0, .int (-1), .int 0, .int (-1), .int 0, .ref r4, .int 0, .ref r5, .ref r6, .ref r7, .ref r8, .ref r9, .int 0, .int 0, .int 0, .ref r10, .ref r11, .int 0, .ref r12, .ref r13, .ref r14, .ref r15, .ref r16, .int 0, .int 0, .int 0, .ref r17])), (a1, .inl (t0, 40, .inl (upd (fun _ => 0) 0 0))), (a2, .inl (t1, 40, .inl (upd (fun _ => 0) 0 1)))] := hD
  have hP9 := hP.sub (ws' := [(a0, .inr (4, [.int 0, .int 0, .ref r0, .int 1, .int 0, .ref r1, .ref r2, .ref a1, .ref r3, .ref a2, .int 1, .int 0, .int (-1), .int 0, .int (-1), .int 0, .ref r4, .int 0, .ref r5, .ref r6, .ref r7, .ref r8, .ref r9, .int 0, .int 0, .int 0, .ref r10, .ref r11, .int 0, .ref r12, .ref r13, .ref r14, .ref r15, .ref r16, .int 0, .int 0, .int 0, .ref r17])), (a1, .inl (t0, 40, .inl (upd (fun _ => 0) 0 0))), (a2, .inl (t1, 40, .inl (upd (fun _ => 0) 0 1)))]) [0, 1, 2] rfl
  have hD9 := hD.sub (ws' := [(a0, .inr (4, [.int 0, .int 0, .ref r0, .int 1, .int 0, .ref r1, .ref r2, .ref a1, .ref r3, .ref a2, .int 1, .int 0, .int (-1), .int 0, .int (-1), .int 0, .ref r4, .int 0, .ref r5, .ref r6, .ref r7, .ref r8, .ref r9, .int 0, .int 0, .int 0, .ref r10, .ref r11, .int 0, .ref r12, .ref r13, .ref r14, .ref r15, .ref r16, .int 0, .int 0, .int 0, .ref r17])), (a1, .inl (t0, 40, .inl (upd (fun _ => 0) 0 0))), (a2, .inl (t1, 40, .inl (upd (fun _ => 0) 0 1)))]) [0, 1, 2] (by decide) rfl
  have hK9 := hK.sub (tys' := [(t0, .int), (t1, .int)]) [0, 1] rfl
  exact W.vret hx hb hr (fun t ht hW => ⟨⟨(), rfl, rfl, by rw [ht]; exact hP9, va_K.moved hW.alike hK9, hD9⟩, hS.F ht⟩) hS.2.2 d_M_jump_33

set_option maxHeartbeats 4000000 in
set_option maxRecDepth 100000 in
theorem c_M_thrown_4 (l : Launch) (dC : Nat → ClassId) (dI : Nat → Nat → Nat) (a0 r0 r1 r2 r3 r4 r5 r6 r7 r8 r9 r10 r11 r12 r13 r14 r15 r16 r17 r18 r19 : Nat) (sz : Nat)  : Met l y_M_thrown w_M_thrown ({ frames := 0, cells := 0, slots := 0, locals := 0 }) (va_Pc [.ref a0] (fun U => U.heap.size = sz ∧ va_P (dC, dI) vwCl [(a0, .inr (4, [.int 0, .int 0, .ref r0, .int 1, .int 0, .ref r1, .ref r2, .ref r3, .ref r4, .ref r5, .int 1, .int 0, .int (-1), .int 0, .int (-1), .int 0, .ref r6, .int 0, .ref r7, .ref r8, .ref r9, .ref r10, .ref r11, .int 0, .int 0, .int 0, .ref r12, .ref r13, .int 0, .ref r14, .ref r15, .ref r16, .ref r17, .ref r18, .int 0, .int 0, .int 0, .ref r19]))] U.heap ∧ va_K (dC, dI) vwCl [] U ∧ va_D (fun _ => True) [(a0, .inr (4, [.int 0, .int 0, .ref r0, .int 1, .int 0, .ref r1, .ref r2, .ref r3, .ref r4, .ref r5, .int 1, .int 0, .int (-1), .int 0, .int (-1), .int 0, .ref r6, .int 0, .ref r7, .ref r8, .ref r9, .ref r10, .ref r11, .int 0, .int 0, .int 0, .ref r12, .ref r13, .int 0, .ref r14, .ref r15, .ref r16, .ref r17, .ref r18, .int 0, .int 0, .int 0, .ref r19]))])) (va_Qi (fun (r : Int32) (_ : Unit) => r = 0) (fun (_ : Unit) t => va_P (dC, dI) vwCl [(a0, .inr (4, [.int 0, .int 0, .ref r0, .int 1, .int 0, .ref r1, .ref r2, .ref r3, .ref r4, .ref r5, .int 1, .int 0, .int (-1), .int 0, .int (-1), .int 0, .ref r6, .int 0, .ref r7, .ref r8, .ref r9, .ref r10, .ref r11, .int 0, .int 0, .int 0, .ref r12, .ref r13, .int 0, .ref r14, .ref r15, .ref r16, .ref r17, .ref r18, .int 0, .int 0, .int 0, .ref r19]))] t.heap ∧ va_K (dC, dI) vwCl [] t ∧ va_D (va_A [(a0, .inr (4, [.int 0, .int 0, .ref r0, .int 1, .int 0, .ref r1, .ref r2, .ref r3, .ref r4, .ref r5, .int 1, .int 0, .int (-1), .int 0, .int (-1), .int 0, .ref r6, .int 0, .ref r7, .ref r8, .ref r9, .ref r10, .ref r11, .int 0, .int 0, .int 0, .ref r12, .ref r13, .int 0, .ref r14, .ref r15, .ref r16, .ref r17, .ref r18, .int 0, .int 0, .int 0, .ref r19]))] sz) [(a0, .inr (4, [.int 0, .int 0, .ref r0, .int 1, .int 0, .ref r1, .ref r2, .ref r3, .ref r4, .ref r5, .int 1, .int 0, .int (-1), .int 0, .int (-1), .int 0, .ref r6, .int 0, .ref r7, .ref r8, .ref r9, .ref r10, .ref r11, .int 0, .int 0, .int 0, .ref r12, .ref r13, .int 0, .ref r14, .ref r15, .ref r16, .ref r17, .ref r18, .int 0, .int 0, .int 0, .ref r19]))]) (va_A [(a0, .inr (4, [.int 0, .int 0, .ref r0, .int 1, .int 0, .ref r1, .ref r2, .ref r3, .ref r4, .ref r5, .int 1, .int 0, .int (-1), .int 0, .int (-1), .int 0, .ref r6, .int 0, .ref r7, .ref r8, .ref r9, .ref r10, .ref r11, .int 0, .int 0, .int 0, .ref r12, .ref r13, .int 0, .ref r14, .ref r15, .ref r16, .ref r17, .ref r18, .int 0, .int 0, .int 0, .ref r19]))] sz)) 0 0 (va_A [(a0, .inr (4, [.int 0, .int 0, .ref r0, .int 1, .int 0, .ref r1, .ref r2, .ref r3, .ref r4, .ref r5, .int 1, .int 0, .int (-1), .int 0, .int (-1), .int 0, .ref r6, .int 0, .ref r7, .ref r8, .ref r9, .ref r10, .ref r11, .int 0, .int 0, .int 0, .ref r12, .ref r13, .int 0, .ref r14, .ref r15, .ref r16, .ref r17, .ref r18, .int 0, .int 0, .int 0, .ref r19]))] sz) := by
  refine Met.ofW (cc := prog_6_method_2_code) (maxL := 1) (ret := (some .int)) (by decide) rfl ?_
  intro p e s m args below meth c s₁ B hml hv
  obtain ⟨rfl, hsz, hP, hK, hD0⟩ := hv
  have hx := B.exec
  have hb := B.bytes
  have hr := B.returns
  have hts := atoms_spec (ws := w_M_thrown) B.pre
  have hown : s.vm.findClass R_M = some m.cls := findClass_of_methodNamed B.named
  have hlocks := B.notSynchronized
  subst hsz
  have hD := hD0.self (sz := s.heap.size)
  generalize hAe : va_A [(a0, .inr (4, [.int 0, .int 0, .ref r0, .int 1, .int 0, .ref r1, .ref r2, .ref r3, .ref r4, .ref r5, .int 1, .int 0, .int (-1), .int 0, .int (-1), .int 0, .ref r6, .int 0, .ref r7, .ref r8, .ref r9, .ref r10, .ref r11, .int 0, .int 0, .int 0, .ref r12, .ref r13, .int 0, .ref r14, .ref r15, .ref r16, .ref r17, .ref r18, .int 0, .int 0, .int 0, .ref r19]))] s.heap.size = A at hD ⊢
  have hA : ∀ q : Nat, s.heap.size ≤ q → A q := fun q h => by rw [← hAe]; exact Or.inr h
  have hS : va_S A s.heap s.heap [] := va_S.rf
  have hP : va_P (dC, dI) vwCl [(a0, .inr (4, [.int 0, .int 0, .ref r0, .int 1, .int 0, .ref r1, .ref r2, .ref r3, .ref r4, .ref r5, .int 1, .int 0, .int (-1), .int 0, .int (-1), .int 0, .ref r6, .int 0, .ref r7, .ref r8, .ref r9, .ref r10, .ref r11, .int 0, .int 0, .int 0, .ref r12, .ref r13, .int 0, .ref r14, .ref r15, .ref r16, .ref r17, .ref r18, .int 0, .int 0, .int 0, .ref r19]))] s.heap := hP
  have hl := lv_entry ([.ref a0]) (n := 1) (Nat.le_of_ble_eq_true rfl)
  rw [lg_entry_eq]
  generalize (lg_sl ([.ref a0]) ++ List.replicate (1 - (lg_sl ([.ref a0])).length) Slot.unset).toArray = ls at hl ⊢
  have hl : lv_has ls 1 [(0, .ref a0)] := hl
  refine lv_aload_n hx hb d_M_thrown_0 rfl (lv_at hl 0 rfl) ?_
  refine va_get (D := (dC, dI)) (ci := 4) (v := .int 0) (C := R_M) (T := F_M) (N := 38) hx hb hts (fun w h => List.mem_cons_of_mem _ (in_M w h)) hown hK hP 0 rfl rfl 0 (by decide) (hts _ (List.mem_cons_of_mem _ lk_175)) (fun _ h9 => h9) rfl d_M_thrown_1 ?_
  have hP9 := hP.sub (ws' := [(a0, .inr (4, [.int 0, .int 0, .ref r0, .int 1, .int 0, .ref r1, .ref r2, .ref r3, .ref r4, .ref r5, .int 1, .int 0, .int (-1), .int 0, .int (-1), .int 0, .ref r6, .int 0, .ref r7, .ref r8, .ref r9, .ref r10, .ref r11, .int 0, .int 0, .int 0, .ref r12, .ref r13, .int 0, .ref r14, .ref r15, .ref r16, .ref r17, .ref r18, .int 0, .int 0, .int 0, .ref r19]))]) [0] rfl
  have hD9 := hD.sub (ws' := [(a0, .inr (4, [.int 0, .int 0, .ref r0, .int 1, .int 0, .ref r1, .ref r2, .ref r3, .ref r4, .ref r5, .int 1, .int 0, .int (-1), .int 0, .int (-1), .int 0, .ref r6, .int 0, .ref r7, .ref r8, .ref r9, .ref r10, .ref r11, .int 0, .int 0, .int 0, .ref r12, .ref r13, .int 0, .ref r14, .ref r15, .ref r16, .ref r17, .ref r18, .int 0, .int 0, .int 0, .ref r19]))]) [0] (by decide) rfl
  have hK9 := hK.sub (tys' := []) [] rfl
  exact W.iret (v := 0) hx hb hr (fun t ht hW => ⟨⟨0, (), rfl, rfl, by rw [ht]; exact hP9, va_K.moved hW.alike hK9, hD9⟩, hS.F ht⟩) hS.2.2 d_M_thrown_4

set_option maxHeartbeats 4000000 in
set_option maxRecDepth 100000 in
theorem c_D_requireState_2 (l : Launch) (hfl : l.flags = flags0) (dC : Nat → ClassId) (dI : Nat → Nat → Nat) (a0 r0 r1 r2 r3 r4 r5 r6 : Nat) (sz : Nat) (k0 : Int32) (hh0 : ¬ k0.toInt = 0) : th_Met l y_D_requireState w_D_requireState ({ frames := 6, cells := 1, slots := 6, locals := 81 }) (va_Pc [.ref a0, .int k0] (fun U => U.heap.size = sz ∧ va_P (dC, dI) vwCl [(a0, .inr (0, [.ref r0, .int 0, .ref r1, .int 1, .int 0, .ref r2, .int 0, .int (-1), .ref r3, .ref r4, .int 0, .int (-1), .ref r5, .ref r6]))] U.heap ∧ va_K (dC, dI) vwCl [] U ∧ va_D (fun _ => True) [(a0, .inr (0, [.ref r0, .int 0, .ref r1, .int 1, .int 0, .ref r2, .int 0, .int (-1), .ref r3, .ref r4, .int 0, .int (-1), .ref r5, .ref r6]))] ∧ th_Zs U)) (th_Qn "java/lang/IllegalArgumentException") 1 6 (fun _ => False) := by
  refine th_Met.ofW (cc := prog_1_method_20_code) (maxL := 2) (ret := none) (by decide) rfl ?_
  intro p e s m args below meth c s₁ B hml hnh hv
  obtain ⟨rfl, hsz, hP, hK, hD0, hZ⟩ := hv
  have hx := B.exec
  have hb := B.bytes
  have hr := B.returns
  have hts := atoms_spec (ws := w_D_requireState) B.pre
  have hown : s.vm.findClass R_D = some m.cls := findClass_of_methodNamed B.named
  have hlocks := B.notSynchronized
  have htr := Launch.traces_off hfl B.admits
  subst hsz
  have hD := hD0.self (sz := s.heap.size)
  generalize hAe : va_A [(a0, .inr (0, [.ref r0, .int 0, .ref r1, .int 1, .int 0, .ref r2, .int 0, .int (-1), .ref r3, .ref r4, .int 0, .int (-1), .ref r5, .ref r6]))] s.heap.size = A at hD
  have hA : ∀ q : Nat, s.heap.size ≤ q → A q := fun q h => by rw [← hAe]; exact Or.inr h
  have hS : va_S A s.heap s.heap [] := va_S.rf
  have hP : va_P (dC, dI) vwCl [(a0, .inr (0, [.ref r0, .int 0, .ref r1, .int 1, .int 0, .ref r2, .int 0, .int (-1), .ref r3, .ref r4, .int 0, .int (-1), .ref r5, .ref r6]))] s.heap := hP
  have hl := lv_entry ([.ref a0, .int k0]) (n := 2) (Nat.le_of_ble_eq_true rfl)
  rw [lg_entry_eq]
  generalize (lg_sl ([.ref a0, .int k0]) ++ List.replicate (2 - (lg_sl ([.ref a0, .int k0])).length) Slot.unset).toArray = ls at hl ⊢
  have hl : lv_has ls 2 [(0, .ref a0), (1, .int k0)] := hl
  refine lv_iload_n hx hb d_D_requireState_0 rfl (lv_at hl 1 rfl) ?_
  refine lv_if_lt (tgt := 12) hx hb d_D_requireState_1 (by decide) (fun hf1 => ?_) (fun hf1 => ?_)
  ·
    have hf1 : k0.toInt < 0 := (wk_lt 0 (by decide)).mp hf1
    exact th_new hx hb htr hown (by decide) (by decide) (oa_3 hts hZ) (hts _ (List.mem_cons_of_mem _ lk_441)) (hts _ (List.mem_cons_of_mem _ lk_442)) hnh (by rw [hl.1, hml]) hS.1 (Nat.le_of_ble_eq_true rfl) (Nat.le_of_ble_eq_true rfl) (Nat.le_of_ble_eq_true rfl) (Nat.le_of_ble_eq_true rfl) hlocks d_D_requireState_12 d_D_requireState_15 d_D_requireState_16 d_D_requireState_19
  ·
    have hf1 : ¬ k0.toInt < 0 := fun z => hf1 ((wk_lt 0 (by decide)).mpr z)
    refine lv_iload_n hx hb d_D_requireState_4 rfl (lv_at hl 1 rfl) ?_
    refine lv_aload_n hx hb d_D_requireState_5 rfl (lv_at hl 0 rfl) ?_
    refine va_get (D := (dC, dI)) (ci := 0) (v := .int 1) (C := R_D) (T := F_D) (N := 14) hx hb hts (fun w h => List.mem_cons_of_mem _ (in_D w h)) hown hK hP 0 rfl rfl 3 (by decide) (hts _ (List.mem_cons_of_mem _ lk_39)) (fun _ h9 => h9) rfl d_D_requireState_6 ?_
    refine lv_icmp_lt (tgt := 20) hx hb d_D_requireState_9 (by decide) (fun h => absurd h (fun z => absurd ((wk_lt 1 (by decide)).mp z) (by omega))) (fun _ => ?_)
    exact th_new hx hb htr hown (by decide) (by decide) (oa_3 hts hZ) (hts _ (List.mem_cons_of_mem _ lk_441)) (hts _ (List.mem_cons_of_mem _ lk_442)) hnh (by rw [hl.1, hml]) hS.1 (Nat.le_of_ble_eq_true rfl) (Nat.le_of_ble_eq_true rfl) (Nat.le_of_ble_eq_true rfl) (Nat.le_of_ble_eq_true rfl) hlocks d_D_requireState_12 d_D_requireState_15 d_D_requireState_16 d_D_requireState_19

set_option maxHeartbeats 4000000 in
set_option maxRecDepth 100000 in
theorem c_D_jump_2 (l : Launch) (hfl : l.flags = flags0) (dC : Nat → ClassId) (dI : Nat → Nat → Nat) (a0 r0 r1 r2 r3 r4 r5 r6 : Nat) (sz : Nat) (k0 : Int32) (hh0 : ¬ k0.toInt = 0) : th_Met l y_D_jump w_D_jump ({ frames := 7, cells := 1, slots := 6, locals := 102 }) (va_Pc [.ref a0, .int k0] (fun U => U.heap.size = sz ∧ va_P (dC, dI) vwCl [(a0, .inr (0, [.ref r0, .int 0, .ref r1, .int 1, .int 0, .ref r2, .int 0, .int (-1), .ref r3, .ref r4, .int 0, .int (-1), .ref r5, .ref r6]))] U.heap ∧ va_K (dC, dI) vwCl [] U ∧ va_D (fun _ => True) [(a0, .inr (0, [.ref r0, .int 0, .ref r1, .int 1, .int 0, .ref r2, .int 0, .int (-1), .ref r3, .ref r4, .int 0, .int (-1), .ref r5, .ref r6]))] ∧ th_Zs U)) (th_Qn "java/lang/IllegalArgumentException") 1 6 (fun _ => False) := by
  refine th_Met.ofW (cc := prog_1_method_13_code) (maxL := 2) (ret := none) (by decide) rfl ?_
  intro p e s m args below meth c s₁ B hml hnh hv
  obtain ⟨rfl, hsz, hP, hK, hD0, hZ⟩ := hv
  have hx := B.exec
  have hb := B.bytes
  have hr := B.returns
  have hts := atoms_spec (ws := w_D_jump) B.pre
  have hown : s.vm.findClass R_D = some m.cls := findClass_of_methodNamed B.named
  have hlocks := B.notSynchronized
  have htr := Launch.traces_off hfl B.admits
  subst hsz
  have hD := hD0.self (sz := s.heap.size)
  generalize hAe : va_A [(a0, .inr (0, [.ref r0, .int 0, .ref r1, .int 1, .int 0, .ref r2, .int 0, .int (-1), .ref r3, .ref r4, .int 0, .int (-1), .ref r5, .ref r6]))] s.heap.size = A at hD
  have hA : ∀ q : Nat, s.heap.size ≤ q → A q := fun q h => by rw [← hAe]; exact Or.inr h
  have hS : va_S A s.heap s.heap [] := va_S.rf
  have hP : va_P (dC, dI) vwCl [(a0, .inr (0, [.ref r0, .int 0, .ref r1, .int 1, .int 0, .ref r2, .int 0, .int (-1), .ref r3, .ref r4, .int 0, .int (-1), .ref r5, .ref r6]))] s.heap := hP
  have hl := lv_entry ([.ref a0, .int k0]) (n := 2) (Nat.le_of_ble_eq_true rfl)
  rw [lg_entry_eq]
  generalize (lg_sl ([.ref a0, .int k0]) ++ List.replicate (2 - (lg_sl ([.ref a0, .int k0])).length) Slot.unset).toArray = ls at hl ⊢
  have hl : lv_has ls 2 [(0, .ref a0), (1, .int k0)] := hl
  refine lv_aload_n hx hb d_D_jump_0 rfl (lv_at hl 0 rfl) ?_
  refine lv_iload_n hx hb d_D_jump_1 rfl (lv_at hl 1 rfl) ?_
  have hPc := hP.sub (ws' := [(a0, .inr (0, [.ref r0, .int 0, .ref r1, .int 1, .int 0, .ref r2, .int 0, .int (-1), .ref r3, .ref r4, .int 0, .int (-1), .ref r5, .ref r6]))]) [0] rfl
  have hDc := hD.sub (ws' := [(a0, .inr (0, [.ref r0, .int 0, .ref r1, .int 1, .int 0, .ref r2, .int 0, .int (-1), .ref r3, .ref r4, .int 0, .int (-1), .ref r5, .ref r6]))]) [0] (by decide) rfl
  have hKc := hK.sub (tys' := []) [] rfl
  have hFc := va_free (wc := [(a0, .inr (0, [.ref r0, .int 0, .ref r1, .int 1, .int 0, .ref r2, .int 0, .int (-1), .ref r3, .ref r4, .int 0, .int (-1), .ref r5, .ref r6]))]) hD hS hA [0] rfl
  exact th_pass (th_runV (As := [.int k0]) (rest := []) ⟨hx, hb, hml, hown, hts⟩ (c_D_requireState_2 l hfl dC dI a0 r0 r1 r2 r3 r4 r5 r6 s.heap.size k0 (by omega)) (cwV 1 hts (gd_v lk_416 lk_417 lk_418 lk_16 lk_415) rfl rfl rfl (by decide +kernel) ⟨Nat.le_of_ble_eq_true rfl, Nat.le_of_ble_eq_true rfl⟩) ⟨fun a U g mk q => by obtain ⟨q0, q1, qP, qK, qD, qZ⟩ := q; exact ⟨q0, q1, qP, va_K.moved (u := U) (U := U.calling g mk a) (Vm.Alike.refl U.vm) qK, qD, th_Zs.calling qZ⟩, va_recv (ci := 0) (q0 := 0) hK hP rfl rfl, fun U hU hW => ⟨rfl, by rw [hU], by rw [hU]; exact hPc, va_K.moved hW.alike hKc, hDc.weaken (fun _ _ _ _ => trivial), hZ.same hU hW⟩⟩ rfl rfl hl.1 rfl (lv_room (Nat.le_of_ble_eq_true rfl)) d_D_jump_2 ⟨Nat.le_of_ble_eq_true rfl, Nat.le_of_ble_eq_true rfl⟩) hnh hlocks (fun _ h => h)

set_option maxHeartbeats 4000000 in
set_option maxRecDepth 100000 in
theorem c_L_jump_2 (l : Launch) (hfl : l.flags = flags0) (dC : Nat → ClassId) (dI : Nat → Nat → Nat) (a0 r0 r1 r2 r3 r4 r5 r6 : Nat) (sz : Nat) (k0 : Int32) (hh0 : ¬ k0.toInt = 0) : Met l y_L_jump w_L_jump ({ frames := 8, cells := 1, slots := 6, locals := 123 }) (va_Pc [.ref a0, .int k0] (fun U => U.heap.size = sz ∧ va_P (dC, dI) vwCl [(a0, .inr (0, [.ref r0, .int 0, .ref r1, .int 1, .int 0, .ref r2, .int 0, .int (-1), .ref r3, .ref r4, .int 0, .int (-1), .ref r5, .ref r6]))] U.heap ∧ va_K (dC, dI) vwCl [] U ∧ va_D (fun _ => True) [(a0, .inr (0, [.ref r0, .int 0, .ref r1, .int 1, .int 0, .ref r2, .int 0, .int (-1), .ref r3, .ref r4, .int 0, .int (-1), .ref r5, .ref r6]))] ∧ th_Zs U)) (va_Qi (fun (r : Int32) (_ : Unit) => r = 1) (fun (_ : Unit) t => va_P (dC, dI) vwCl [(a0, .inr (0, [.ref r0, .int 0, .ref r1, .int 1, .int 0, .ref r2, .int 0, .int (-1), .ref r3, .ref r4, .int 0, .int (-1), .ref r5, .ref r6]))] t.heap ∧ va_K (dC, dI) vwCl [] t ∧ va_D (va_A [(a0, .inr (0, [.ref r0, .int 0, .ref r1, .int 1, .int 0, .ref r2, .int 0, .int (-1), .ref r3, .ref r4, .int 0, .int (-1), .ref r5, .ref r6]))] sz) [(a0, .inr (0, [.ref r0, .int 0, .ref r1, .int 1, .int 0, .ref r2, .int 0, .int (-1), .ref r3, .ref r4, .int 0, .int (-1), .ref r5, .ref r6]))]) (va_A [(a0, .inr (0, [.ref r0, .int 0, .ref r1, .int 1, .int 0, .ref r2, .int 0, .int (-1), .ref r3, .ref r4, .int 0, .int (-1), .ref r5, .ref r6]))] sz)) 1 6 (va_A [(a0, .inr (0, [.ref r0, .int 0, .ref r1, .int 1, .int 0, .ref r2, .int 0, .int (-1), .ref r3, .ref r4, .int 0, .int (-1), .ref r5, .ref r6]))] sz) := by
  refine th_ofWw (tab := [(0, 5, 8, 28)]) (cc := method_11_code) (maxL := 3) (ret := (some .int)) (by decide) rfl ?_
  intro p e s m args below meth c s₁ B hml htab hv
  obtain ⟨rfl, hsz, hP, hK, hD0, hZ⟩ := hv
  have hx := B.exec
  have hb := B.bytes
  have hr := B.returns
  have hts := atoms_spec (ws := w_L_jump) B.pre
  have hown : s.vm.findClass R_L = some m.cls := findClass_of_methodNamed B.named
  have hlocks := B.notSynchronized
  have htr := Launch.traces_off hfl B.admits
  subst hsz
  have hD := hD0.self (sz := s.heap.size)
  generalize hAe : va_A [(a0, .inr (0, [.ref r0, .int 0, .ref r1, .int 1, .int 0, .ref r2, .int 0, .int (-1), .ref r3, .ref r4, .int 0, .int (-1), .ref r5, .ref r6]))] s.heap.size = A at hD ⊢
  have hA : ∀ q : Nat, s.heap.size ≤ q → A q := fun q h => by rw [← hAe]; exact Or.inr h
  have hS : va_S A s.heap s.heap [] := va_S.rf
  have hP : va_P (dC, dI) vwCl [(a0, .inr (0, [.ref r0, .int 0, .ref r1, .int 1, .int 0, .ref r2, .int 0, .int (-1), .ref r3, .ref r4, .int 0, .int (-1), .ref r5, .ref r6]))] s.heap := hP
  have hl := lv_entry ([.ref a0, .int k0]) (n := 3) (Nat.le_of_ble_eq_true rfl)
  rw [lg_entry_eq]
  generalize (lg_sl ([.ref a0, .int k0]) ++ List.replicate (3 - (lg_sl ([.ref a0, .int k0])).length) Slot.unset).toArray = ls at hl ⊢
  have hl : lv_has ls 3 [(0, .ref a0), (1, .int k0)] := hl
  refine lv_aload_n hx hb d_L_jump_0 rfl (lv_at hl 0 rfl) ?_
  refine lv_iload_n hx hb d_L_jump_1 rfl (lv_at hl 1 rfl) ?_
  have hPc := hP.sub (ws' := [(a0, .inr (0, [.ref r0, .int 0, .ref r1, .int 1, .int 0, .ref r2, .int 0, .int (-1), .ref r3, .ref r4, .int 0, .int (-1), .ref r5, .ref r6]))]) [0] rfl
  have hDc := hD.sub (ws' := [(a0, .inr (0, [.ref r0, .int 0, .ref r1, .int 1, .int 0, .ref r2, .int 0, .int (-1), .ref r3, .ref r4, .int 0, .int (-1), .ref r5, .ref r6]))]) [0] (by decide) rfl
  have hKc := hK.sub (tys' := []) [] rfl
  have hFc := va_free (wc := [(a0, .inr (0, [.ref r0, .int 0, .ref r1, .int 1, .int 0, .ref r2, .int 0, .int (-1), .ref r3, .ref r4, .int 0, .int (-1), .ref r5, .ref r6]))]) hD hS hA [0] rfl
  refine th_catch (own := R_L) (C := "java/lang/IllegalArgumentException") (hpc := 8) (A1 := fun _ => False) (th_runV (As := [.int k0]) (rest := []) ⟨hx, hb, hml, hown, hts⟩ (c_D_jump_2 l hfl dC dI a0 r0 r1 r2 r3 r4 r5 r6 s.heap.size k0 (by omega)) (cwV 1 hts (gd_v lk_426 lk_427 lk_428 lk_16 lk_425) rfl rfl rfl (by decide +kernel) ⟨Nat.le_of_ble_eq_true rfl, Nat.le_of_ble_eq_true rfl⟩) ⟨fun a U g mk q => by obtain ⟨q0, q1, qP, qK, qD, qZ⟩ := q; exact ⟨q0, q1, qP, va_K.moved (u := U) (U := U.calling g mk a) (Vm.Alike.refl U.vm) qK, qD, th_Zs.calling qZ⟩, va_recv (ci := 0) (q0 := 0) hK hP rfl rfl, fun U hU hW => ⟨rfl, by rw [hU], by rw [hU]; exact hPc, va_K.moved hW.alike hKc, hDc.weaken (fun _ _ _ _ => trivial), hZ.same hU hW⟩⟩ rfl rfl hl.1 rfl (lv_room (Nat.le_of_ble_eq_true rfl)) d_L_jump_2 ⟨Nat.le_of_ble_eq_true rfl, Nat.le_of_ble_eq_true rfl⟩) hown htab (by refine ⟨⟨by decide, by decide, by decide⟩, "java/lang/IllegalArgumentException", (hts _ (List.mem_cons_of_mem _ lk_443)), ?_⟩; exact Or.inl ⟨rfl, rfl⟩) (fun _ _ _ h => h) hS (fun _ _ h => h.elim) (fun _ h => h.elim) (fun x st₀ t H1 locs ht hvm _ _ hz1 hk1 hS => ?_)
  have hP := hP.kept (fun k q hk => hk1 q.1 (hP k q hk).lt (fun z => z))
  generalize H1 = H at hP hS ⊢
  refine W.cs (cells' := 1) (slots' := 6) rfl rfl ?_
  refine lv_astore_n (lv' := [(2, .ref x), (0, .ref a0), (1, .int k0)]) hx hb d_L_jump_8 rfl hl (by decide) rfl (fun ls hl => ?_)
  have hl : lv_has ls 3 [(2, .ref x), (0, .ref a0), (1, .int k0)] := hl
  refine lv_iconst (v := 1) hx hb d_L_jump_9 (by decide) ?_
  have hP9 := hP.sub (ws' := [(a0, .inr (0, [.ref r0, .int 0, .ref r1, .int 1, .int 0, .ref r2, .int 0, .int (-1), .ref r3, .ref r4, .int 0, .int (-1), .ref r5, .ref r6]))]) [0] rfl
  have hD9 := hD.sub (ws' := [(a0, .inr (0, [.ref r0, .int 0, .ref r1, .int 1, .int 0, .ref r2, .int 0, .int (-1), .ref r3, .ref r4, .int 0, .int (-1), .ref r5, .ref r6]))]) [0] (by decide) rfl
  have hK9 := hK.sub (tys' := []) [] rfl
  exact W.iret (v := 1) hx hb hr (fun t ht hW => ⟨⟨1, (), rfl, rfl, by rw [ht]; exact hP9, va_K.moved hW.alike hK9, hD9⟩, hS.F ht⟩) hS.2.2 d_L_jump_10

