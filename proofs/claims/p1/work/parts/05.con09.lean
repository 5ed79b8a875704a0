set_option maxHeartbeats 4000000 in
set_option maxRecDepth 100000 in
theorem c_M_figure_2 (l : Launch) (dC : Nat → ClassId) (dI : Nat → Nat → Nat) (a0 r0 r1 r2 r3 r4 r5 r6 r7 r8 r9 r10 r11 r12 r13 r14 r15 r16 r17 r18 r19 : Nat) (sz : Nat)  : Met l y_M_figure w_M_figure ({ frames := 0, cells := 0, slots := 0, locals := 0 }) (va_Pc [.ref a0, .int 1] (fun U => U.heap.size = sz ∧ va_P (dC, dI) vwCl [(a0, .inr (4, [.int 0, .int 0, .ref r0, .int 1, .int 0, .ref r1, .ref r2, .ref r3, .ref r4, .ref r5, .int 0, .int 0, .int (-1), .int 0, .int (-1), .int 0, .ref r6, .int 0, .ref r7, .ref r8, .ref r9, .ref r10, .ref r11, .int 0, .int 0, .int 0, .ref r12, .ref r13, .int 0, .ref r14, .ref r15, .ref r16, .ref r17, .ref r18, .int 0, .int 0, .int 0, .ref r19]))] U.heap ∧ va_K (dC, dI) vwCl [] U ∧ va_D (fun _ => True) [(a0, .inr (4, [.int 0, .int 0, .ref r0, .int 1, .int 0, .ref r1, .ref r2, .ref r3, .ref r4, .ref r5, .int 0, .int 0, .int (-1), .int 0, .int (-1), .int 0, .ref r6, .int 0, .ref r7, .ref r8, .ref r9, .ref r10, .ref r11, .int 0, .int 0, .int 0, .ref r12, .ref r13, .int 0, .ref r14, .ref r15, .ref r16, .ref r17, .ref r18, .int 0, .int 0, .int 0, .ref r19]))])) (va_Qi (fun (r : Int32) (_ : Unit) => r = 1) (fun (_ : Unit) t => va_P (dC, dI) vwCl [(a0, .inr (4, [.int 0, .int 0, .ref r0, .int 1, .int 0, .ref r1, .ref r2, .ref r3, .ref r4, .ref r5, .int 0, .int 0, .int (-1), .int 0, .int (-1), .int 0, .ref r6, .int 0, .ref r7, .ref r8, .ref r9, .ref r10, .ref r11, .int 0, .int 0, .int 0, .ref r12, .ref r13, .int 0, .ref r14, .ref r15, .ref r16, .ref r17, .ref r18, .int 0, .int 0, .int 0, .ref r19]))] t.heap ∧ va_K (dC, dI) vwCl [] t ∧ va_D (va_A [(a0, .inr (4, [.int 0, .int 0, .ref r0, .int 1, .int 0, .ref r1, .ref r2, .ref r3, .ref r4, .ref r5, .int 0, .int 0, .int (-1), .int 0, .int (-1), .int 0, .ref r6, .int 0, .ref r7, .ref r8, .ref r9, .ref r10, .ref r11, .int 0, .int 0, .int 0, .ref r12, .ref r13, .int 0, .ref r14, .ref r15, .ref r16, .ref r17, .ref r18, .int 0, .int 0, .int 0, .ref r19]))] sz) [(a0, .inr (4, [.int 0, .int 0, .ref r0, .int 1, .int 0, .ref r1, .ref r2, .ref r3, .ref r4, .ref r5, .int 0, .int 0, .int (-1), .int 0, .int (-1), .int 0, .ref r6, .int 0, .ref r7, .ref r8, .ref r9, .ref r10, .ref r11, .int 0, .int 0, .int 0, .ref r12, .ref r13, .int 0, .ref r14, .ref r15, .ref r16, .ref r17, .ref r18, .int 0, .int 0, .int 0, .ref r19]))]) (va_A [(a0, .inr (4, [.int 0, .int 0, .ref r0, .int 1, .int 0, .ref r1, .ref r2, .ref r3, .ref r4, .ref r5, .int 0, .int 0, .int (-1), .int 0, .int (-1), .int 0, .ref r6, .int 0, .ref r7, .ref r8, .ref r9, .ref r10, .ref r11, .int 0, .int 0, .int 0, .ref r12, .ref r13, .int 0, .ref r14, .ref r15, .ref r16, .ref r17, .ref r18, .int 0, .int 0, .int 0, .ref r19]))] sz)) 0 0 (va_A [(a0, .inr (4, [.int 0, .int 0, .ref r0, .int 1, .int 0, .ref r1, .ref r2, .ref r3, .ref r4, .ref r5, .int 0, .int 0, .int (-1), .int 0, .int (-1), .int 0, .ref r6, .int 0, .ref r7, .ref r8, .ref r9, .ref r10, .ref r11, .int 0, .int 0, .int 0, .ref r12, .ref r13, .int 0, .ref r14, .ref r15, .ref r16, .ref r17, .ref r18, .int 0, .int 0, .int 0, .ref r19]))] sz) := by
  refine Met.ofW (cc := prog_6_method_52_code) (maxL := 2) (ret := (some .int)) (by decide) rfl ?_
  intro p e s m args below meth c s₁ B hml hv
  obtain ⟨rfl, hsz, hP, hK, hD0⟩ := hv
  have hx := B.exec
  have hb := B.bytes
  have hr := B.returns
  have hts := atoms_spec (ws := w_M_figure) B.pre
  have hown : s.vm.findClass R_M = some m.cls := findClass_of_methodNamed B.named
  have hlocks := B.notSynchronized
  subst hsz
  have hD := hD0.self (sz := s.heap.size)
  generalize hAe : va_A [(a0, .inr (4, [.int 0, .int 0, .ref r0, .int 1, .int 0, .ref r1, .ref r2, .ref r3, .ref r4, .ref r5, .int 0, .int 0, .int (-1), .int 0, .int (-1), .int 0, .ref r6, .int 0, .ref r7, .ref r8, .ref r9, .ref r10, .ref r11, .int 0, .int 0, .int 0, .ref r12, .ref r13, .int 0, .ref r14, .ref r15, .ref r16, .ref r17, .ref r18, .int 0, .int 0, .int 0, .ref r19]))] s.heap.size = A at hD ⊢
  have hA : ∀ q : Nat, s.heap.size ≤ q → A q := fun q h => by rw [← hAe]; exact Or.inr h
  have hS : va_S A s.heap s.heap [] := va_S.rf
  have hP : va_P (dC, dI) vwCl [(a0, .inr (4, [.int 0, .int 0, .ref r0, .int 1, .int 0, .ref r1, .ref r2, .ref r3, .ref r4, .ref r5, .int 0, .int 0, .int (-1), .int 0, .int (-1), .int 0, .ref r6, .int 0, .ref r7, .ref r8, .ref r9, .ref r10, .ref r11, .int 0, .int 0, .int 0, .ref r12, .ref r13, .int 0, .ref r14, .ref r15, .ref r16, .ref r17, .ref r18, .int 0, .int 0, .int 0, .ref r19]))] s.heap := hP
  have hl := lv_entry ([.ref a0, .int 1]) (n := 2) (Nat.le_of_ble_eq_true rfl)
  rw [lg_entry_eq]
  generalize (lg_sl ([.ref a0, .int 1]) ++ List.replicate (2 - (lg_sl ([.ref a0, .int 1])).length) Slot.unset).toArray = ls at hl ⊢
  have hl : lv_has ls 2 [(0, .ref a0), (1, .int 1)] := hl
  refine lv_aload_n hx hb d_M_figure_0 rfl (lv_at hl 0 rfl) ?_
  refine lv_iload_n hx hb d_M_figure_1 rfl (lv_at hl 1 rfl) ?_
  refine lv_if_lt (tgt := 10) hx hb d_M_figure_2 (by decide) (fun h => absurd h (by decide +kernel)) (fun _ => ?_)
  refine lv_iload_n hx hb d_M_figure_5 rfl (lv_at hl 1 rfl) ?_
  refine lv_iconst (v := 4) hx hb d_M_figure_6 (by decide) ?_
  refine lv_icmp_le (tgt := 14) hx hb d_M_figure_7 (by decide) (fun _ => ?_) (fun h => absurd (by decide +kernel) h)
  refine lv_iconst (v := 0) hx hb d_M_figure_14 (by decide) ?_
  refine va_put (D := (dC, dI)) (ci := 4) (v := .int 0) (ty := .int) (C := R_M) (T := F_M) (N := 38) hx hb hts (fun w h => List.mem_cons_of_mem _ (in_M w h)) t_M tk_M n_M hown hK hP hD hS 0 rfl rfl 0 (by decide) (hts _ (List.mem_cons_of_mem _ lk_175)) (fun _ h9 => h9) rfl (by decide +kernel) rfl rfl (Nat.le_of_ble_eq_true rfl) d_M_figure_15 (fun H locs hP hD hS => ?_)
  have hP : va_P (dC, dI) vwCl [(a0, .inr (4, [.int 0, .int 0, .ref r0, .int 1, .int 0, .ref r1, .ref r2, .ref r3, .ref r4, .ref r5, .int 0, .int 0, .int (-1), .int 0, .int (-1), .int 0, .ref r6, .int 0, .ref r7, .ref r8, .ref r9, .ref r10, .ref r11, .int 0, .int 0, .int 0, .ref r12, .ref r13, .int 0, .ref r14, .ref r15, .ref r16, .ref r17, .ref r18, .int 0, .int 0, .int 0, .ref r19]))] H := hP
  have hD : va_D A [(a0, .inr (4, [.int 0, .int 0, .ref r0, .int 1, .int 0, .ref r1, .ref r2, .ref r3, .ref r4, .ref r5, .int 0, .int 0, .int (-1), .int 0, .int (-1), .int 0, .ref r6, .int 0, .ref r7, .ref r8, .ref r9, .ref r10, .ref r11, .int 0, .int 0, .int 0, .ref r12, .ref r13, .int 0, .ref r14, .ref r15, .ref r16, .ref r17, .ref r18, .int 0, .int 0, .int 0, .ref r19]))] := hD
  refine lv_aload_n hx hb d_M_figure_18 rfl (lv_at hl 0 rfl) ?_
  refine va_get (D := (dC, dI)) (ci := 4) (v := .int 0) (C := R_M) (T := F_M) (N := 38) hx hb hts (fun w h => List.mem_cons_of_mem _ (in_M w h)) hown hK hP 0 rfl rfl 0 (by decide) (hts _ (List.mem_cons_of_mem _ lk_175)) (fun _ h9 => h9) rfl d_M_figure_19 ?_
  refine lv_if_le (tgt := 29) hx hb d_M_figure_22 (by decide) (fun _ => ?_) (fun h => absurd (by decide +kernel) h)
  refine lv_iload_n hx hb d_M_figure_29 rfl (lv_at hl 1 rfl) ?_
  refine lv_if_ne (tgt := 40) hx hb d_M_figure_30 (by decide) (fun _ => ?_) (fun h => absurd h (by decide +kernel))
  refine lv_iload_n hx hb d_M_figure_40 rfl (lv_at hl 1 rfl) ?_
  refine lv_iconst (v := 1) hx hb d_M_figure_41 (by decide) ?_
  refine lv_icmp_ne (tgt := 52) hx hb d_M_figure_42 (by decide) (fun h => absurd (by decide +kernel) h) (fun _ => ?_)
  refine lv_aload_n hx hb d_M_figure_45 rfl (lv_at hl 0 rfl) ?_
  refine va_get (D := (dC, dI)) (ci := 4) (v := .int 1) (C := R_M) (T := F_M) (N := 38) hx hb hts (fun w h => List.mem_cons_of_mem _ (in_M w h)) hown hK hP 0 rfl rfl 3 (by decide) (hts _ (List.mem_cons_of_mem _ lk_144)) (fun _ h9 => h9) rfl d_M_figure_46 ?_
  refine lv_goto (tgt := 80) hx hb d_M_figure_49 (by decide) ?_
  have hP9 := hP.sub (ws' := [(a0, .inr (4, [.int 0, .int 0, .ref r0, .int 1, .int 0, .ref r1, .ref r2, .ref r3, .ref r4, .ref r5, .int 0, .int 0, .int (-1), .int 0, .int (-1), .int 0, .ref r6, .int 0, .ref r7, .ref r8, .ref r9, .ref r10, .ref r11, .int 0, .int 0, .int 0, .ref r12, .ref r13, .int 0, .ref r14, .ref r15, .ref r16, .ref r17, .ref r18, .int 0, .int 0, .int 0, .ref r19]))]) [0] rfl
  have hD9 := hD.sub (ws' := [(a0, .inr (4, [.int 0, .int 0, .ref r0, .int 1, .int 0, .ref r1, .ref r2, .ref r3, .ref r4, .ref r5, .int 0, .int 0, .int (-1), .int 0, .int (-1), .int 0, .ref r6, .int 0, .ref r7, .ref r8, .ref r9, .ref r10, .ref r11, .int 0, .int 0, .int 0, .ref r12, .ref r13, .int 0, .ref r14, .ref r15, .ref r16, .ref r17, .ref r18, .int 0, .int 0, .int 0, .ref r19]))]) [0] (by decide) rfl
  have hK9 := hK.sub (tys' := []) [] rfl
  exact W.iret (v := 1) hx hb hr (fun t ht hW => ⟨⟨1, (), rfl, rfl, by rw [ht]; exact hP9, va_K.moved hW.alike hK9, hD9⟩, hS.F ht⟩) hS.2.2 d_M_figure_80

set_option maxHeartbeats 4000000 in
set_option maxRecDepth 100000 in
theorem c_D_figure_3 (l : Launch) (dC : Nat → ClassId) (dI : Nat → Nat → Nat) (a0 r0 r1 r2 r3 r4 r5 r6 : Nat) (sz : Nat)  : Met l y_D_figure w_D_figure ({ frames := 0, cells := 0, slots := 0, locals := 0 }) (va_Pc [.ref a0, .int 2] (fun U => U.heap.size = sz ∧ va_P (dC, dI) vwCl [(a0, .inr (0, [.ref r0, .int 0, .ref r1, .int 1, .int 0, .ref r2, .int 0, .int (-1), .ref r3, .ref r4, .int 0, .int (-1), .ref r5, .ref r6]))] U.heap ∧ va_K (dC, dI) vwCl [] U ∧ va_D (fun _ => True) [(a0, .inr (0, [.ref r0, .int 0, .ref r1, .int 1, .int 0, .ref r2, .int 0, .int (-1), .ref r3, .ref r4, .int 0, .int (-1), .ref r5, .ref r6]))])) (va_Qi (fun (r : Int32) (_ : Unit) => r = 0) (fun (_ : Unit) t => va_P (dC, dI) vwCl [(a0, .inr (0, [.ref r0, .int 0, .ref r1, .int 1, .int 0, .ref r2, .int 0, .int (-1), .ref r3, .ref r4, .int 0, .int (-1), .ref r5, .ref r6]))] t.heap ∧ va_K (dC, dI) vwCl [] t ∧ va_D (va_A [(a0, .inr (0, [.ref r0, .int 0, .ref r1, .int 1, .int 0, .ref r2, .int 0, .int (-1), .ref r3, .ref r4, .int 0, .int (-1), .ref r5, .ref r6]))] sz) [(a0, .inr (0, [.ref r0, .int 0, .ref r1, .int 1, .int 0, .ref r2, .int 0, .int (-1), .ref r3, .ref r4, .int 0, .int (-1), .ref r5, .ref r6]))]) (va_A [(a0, .inr (0, [.ref r0, .int 0, .ref r1, .int 1, .int 0, .ref r2, .int 0, .int (-1), .ref r3, .ref r4, .int 0, .int (-1), .ref r5, .ref r6]))] sz)) 0 0 (va_A [(a0, .inr (0, [.ref r0, .int 0, .ref r1, .int 1, .int 0, .ref r2, .int 0, .int (-1), .ref r3, .ref r4, .int 0, .int (-1), .ref r5, .ref r6]))] sz) := by
  refine Met.ofW (cc := prog_1_method_17_code) (maxL := 2) (ret := (some .int)) (by decide) rfl ?_
  intro p e s m args below meth c s₁ B hml hv
  obtain ⟨rfl, hsz, hP, hK, hD0⟩ := hv
  have hx := B.exec
  have hb := B.bytes
  have hr := B.returns
  have hts := atoms_spec (ws := w_D_figure) B.pre
  have hown : s.vm.findClass R_D = some m.cls := findClass_of_methodNamed B.named
  have hlocks := B.notSynchronized
  subst hsz
  have hD := hD0.self (sz := s.heap.size)
  generalize hAe : va_A [(a0, .inr (0, [.ref r0, .int 0, .ref r1, .int 1, .int 0, .ref r2, .int 0, .int (-1), .ref r3, .ref r4, .int 0, .int (-1), .ref r5, .ref r6]))] s.heap.size = A at hD ⊢
  have hA : ∀ q : Nat, s.heap.size ≤ q → A q := fun q h => by rw [← hAe]; exact Or.inr h
  have hS : va_S A s.heap s.heap [] := va_S.rf
  have hP : va_P (dC, dI) vwCl [(a0, .inr (0, [.ref r0, .int 0, .ref r1, .int 1, .int 0, .ref r2, .int 0, .int (-1), .ref r3, .ref r4, .int 0, .int (-1), .ref r5, .ref r6]))] s.heap := hP
  have hl := lv_entry ([.ref a0, .int 2]) (n := 2) (Nat.le_of_ble_eq_true rfl)
  rw [lg_entry_eq]
  generalize (lg_sl ([.ref a0, .int 2]) ++ List.replicate (2 - (lg_sl ([.ref a0, .int 2])).length) Slot.unset).toArray = ls at hl ⊢
  have hl : lv_has ls 2 [(0, .ref a0), (1, .int 2)] := hl
  refine lv_iload_n hx hb d_D_figure_0 rfl (lv_at hl 1 rfl) ?_
  refine lv_tableIn (off := 45) (tgt := 46) hx hb d_D_figure_1 (by decide) (by decide) (by decide) (by decide) ?_
  refine lv_aload_n hx hb d_D_figure_46 rfl (lv_at hl 0 rfl) ?_
  refine va_get (D := (dC, dI)) (ci := 0) (v := .int 0) (C := R_D) (T := F_D) (N := 14) hx hb hts (fun w h => List.mem_cons_of_mem _ (in_D w h)) hown hK hP 0 rfl rfl 6 (by decide) (hts _ (List.mem_cons_of_mem _ lk_192)) (fun _ h9 => h9) rfl d_D_figure_47 ?_
  have hP9 := hP.sub (ws' := [(a0, .inr (0, [.ref r0, .int 0, .ref r1, .int 1, .int 0, .ref r2, .int 0, .int (-1), .ref r3, .ref r4, .int 0, .int (-1), .ref r5, .ref r6]))]) [0] rfl
  have hD9 := hD.sub (ws' := [(a0, .inr (0, [.ref r0, .int 0, .ref r1, .int 1, .int 0, .ref r2, .int 0, .int (-1), .ref r3, .ref r4, .int 0, .int (-1), .ref r5, .ref r6]))]) [0] (by decide) rfl
  have hK9 := hK.sub (tys' := []) [] rfl
  exact W.iret (v := 0) hx hb hr (fun t ht hW => ⟨⟨0, (), rfl, rfl, by rw [ht]; exact hP9, va_K.moved hW.alike hK9, hD9⟩, hS.F ht⟩) hS.2.2 d_D_figure_50

set_option maxHeartbeats 4000000 in
set_option maxRecDepth 100000 in
theorem c_L_figure_3 (l : Launch) (dC : Nat → ClassId) (dI : Nat → Nat → Nat) (a0 a1 r0 r1 r2 r3 r4 r5 r6 : Nat) (t0 : ClassId) (sz : Nat)  : Met l y_L_figure w_L_figure ({ frames := 1, cells := 0, slots := 0, locals := 21 }) (va_Pc [.ref a0, .int 2, .ref a1] (fun U => U.heap.size = sz ∧ va_P (dC, dI) vwCl [(a0, .inr (0, [.ref r0, .int 0, .ref r1, .int 1, .int 0, .ref r2, .int 0, .int (-1), .ref r3, .ref r4, .int 0, .int (-1), .ref r5, .ref r6])), (a1, .inl (t0, 1, .inr (.inl (fun _ => 0))))] U.heap ∧ va_K (dC, dI) vwCl [(t0, .long)] U ∧ va_D (fun _ => True) [(a0, .inr (0, [.ref r0, .int 0, .ref r1, .int 1, .int 0, .ref r2, .int 0, .int (-1), .ref r3, .ref r4, .int 0, .int (-1), .ref r5, .ref r6])), (a1, .inl (t0, 1, .inr (.inl (fun _ => 0))))])) (va_Qi (fun (r : Int32) (_ : Unit) => r = 0) (fun (_ : Unit) t => va_P (dC, dI) vwCl [(a0, .inr (0, [.ref r0, .int 0, .ref r1, .int 1, .int 0, .ref r2, .int 0, .int (-1), .ref r3, .ref r4, .int 0, .int (-1), .ref r5, .ref r6])), (a1, .inl (t0, 1, .inr (.inl (vp_updL (fun _ => 0) 0 0))))] t.heap ∧ va_K (dC, dI) vwCl [(t0, .long)] t ∧ va_D (va_A [(a0, .inr (0, [.ref r0, .int 0, .ref r1, .int 1, .int 0, .ref r2, .int 0, .int (-1), .ref r3, .ref r4, .int 0, .int (-1), .ref r5, .ref r6])), (a1, .inl (t0, 1, .inr (.inl (fun _ => 0))))] sz) [(a0, .inr (0, [.ref r0, .int 0, .ref r1, .int 1, .int 0, .ref r2, .int 0, .int (-1), .ref r3, .ref r4, .int 0, .int (-1), .ref r5, .ref r6])), (a1, .inl (t0, 1, .inr (.inl (vp_updL (fun _ => 0) 0 0))))]) (va_A [(a0, .inr (0, [.ref r0, .int 0, .ref r1, .int 1, .int 0, .ref r2, .int 0, .int (-1), .ref r3, .ref r4, .int 0, .int (-1), .ref r5, .ref r6])), (a1, .inl (t0, 1, .inr (.inl (fun _ => 0))))] sz)) 0 0 (va_A [(a0, .inr (0, [.ref r0, .int 0, .ref r1, .int 1, .int 0, .ref r2, .int 0, .int (-1), .ref r3, .ref r4, .int 0, .int (-1), .ref r5, .ref r6])), (a1, .inl (t0, 1, .inr (.inl (fun _ => 0))))] sz) := by
  refine th_ofWw (tab := [(0, 9, 12, 28)]) (cc := method_14_code) (maxL := 4) (ret := (some .int)) (by decide) rfl ?_
  intro p e s m args below meth c s₁ B hml htab hv
  obtain ⟨rfl, hsz, hP, hK, hD0⟩ := hv
  have hx := B.exec
  have hb := B.bytes
  have hr := B.returns
  have hts := atoms_spec (ws := w_L_figure) B.pre
  have hown : s.vm.findClass R_L = some m.cls := findClass_of_methodNamed B.named
  have hlocks := B.notSynchronized
  subst hsz
  have hD := hD0.self (sz := s.heap.size)
  generalize hAe : va_A [(a0, .inr (0, [.ref r0, .int 0, .ref r1, .int 1, .int 0, .ref r2, .int 0, .int (-1), .ref r3, .ref r4, .int 0, .int (-1), .ref r5, .ref r6])), (a1, .inl (t0, 1, .inr (.inl (fun _ => 0))))] s.heap.size = A at hD ⊢
  have hA : ∀ q : Nat, s.heap.size ≤ q → A q := fun q h => by rw [← hAe]; exact Or.inr h
  have hS : va_S A s.heap s.heap [] := va_S.rf
  have hP : va_P (dC, dI) vwCl [(a0, .inr (0, [.ref r0, .int 0, .ref r1, .int 1, .int 0, .ref r2, .int 0, .int (-1), .ref r3, .ref r4, .int 0, .int (-1), .ref r5, .ref r6])), (a1, .inl (t0, 1, .inr (.inl (fun _ => 0))))] s.heap := hP
  have hl := lv_entry ([.ref a0, .int 2, .ref a1]) (n := 4) (Nat.le_of_ble_eq_true rfl)
  rw [lg_entry_eq]
  generalize (lg_sl ([.ref a0, .int 2, .ref a1]) ++ List.replicate (4 - (lg_sl ([.ref a0, .int 2, .ref a1])).length) Slot.unset).toArray = ls at hl ⊢
  have hl : lv_has ls 4 [(0, .ref a0), (1, .int 2), (2, .ref a1)] := hl
  refine lv_aload_n hx hb d_L_figure_0 rfl (lv_at hl 2 rfl) ?_
  refine lv_iconst (v := 0) hx hb d_L_figure_1 (by decide) ?_
  refine lv_aload_n hx hb d_L_figure_2 rfl (lv_at hl 0 rfl) ?_
  refine lv_iload_n hx hb d_L_figure_3 rfl (lv_at hl 1 rfl) ?_
  have hPc := hP.sub (ws' := [(a0, .inr (0, [.ref r0, .int 0, .ref r1, .int 1, .int 0, .ref r2, .int 0, .int (-1), .ref r3, .ref r4, .int 0, .int (-1), .ref r5, .ref r6]))]) [0] rfl
  have hDc := hD.sub (ws' := [(a0, .inr (0, [.ref r0, .int 0, .ref r1, .int 1, .int 0, .ref r2, .int 0, .int (-1), .ref r3, .ref r4, .int 0, .int (-1), .ref r5, .ref r6]))]) [0] (by decide) rfl
  have hKc := hK.sub (tys' := []) [] rfl
  have hFc := va_free (wc := [(a0, .inr (0, [.ref r0, .int 0, .ref r1, .int 1, .int 0, .ref r2, .int 0, .int (-1), .ref r3, .ref r4, .int 0, .int (-1), .ref r5, .ref r6]))]) hD hS hA [0] rfl
  refine va_calli (va_runV (As := [.int 2]) (rest := [.int 0, .ref a1]) ⟨hx, hb, hml, hown, hts⟩ (c_D_figure_3 l dC dI a0 r0 r1 r2 r3 r4 r5 r6 s.heap.size) (cwV 1 hts (gd_v lk_495 lk_496 lk_497 lk_16 lk_494) rfl rfl rfl (by decide +kernel) ⟨Nat.le_of_ble_eq_true rfl, Nat.le_of_ble_eq_true rfl⟩) ⟨fun a U g mk q => by obtain ⟨q0, q1, qP, qK, qD⟩ := q; exact ⟨q0, q1, qP, va_K.moved (u := U) (U := U.calling g mk a) (Vm.Alike.refl U.vm) qK, qD⟩, va_recv (ci := 0) (q0 := 0) hK hP rfl rfl, fun U hU hW => ⟨rfl, by rw [hU], by rw [hU]; exact hPc, va_K.moved hW.alike hKc, hDc.weaken (fun _ _ _ _ => trivial)⟩⟩ rfl rfl hl.1 rfl (lv_room (Nat.le_of_ble_eq_true rfl)) d_L_figure_4 ⟨Nat.le_of_ble_eq_true rfl, Nat.le_of_ble_eq_true rfl⟩) hS (fun q _ h => hFc q h) hFc (fun r u t H1 locs ht hvm hw hB hz1 hk1 hS => ?_)
  obtain ⟨hP1, hK1, hD1⟩ := hB
  rw [ht] at hP1
  have hK1 := va_K.moved hvm.symm hK1
  subst hw
  obtain ⟨hP, hD⟩ := va_join (wr := [(a1, .inl (t0, 1, .inr (.inl (fun _ => 0))))]) (w1 := [(a0, .inr (0, [.ref r0, .int 0, .ref r1, .int 1, .int 0, .ref r2, .int 0, .int (-1), .ref r3, .ref r4, .int 0, .int (-1), .ref r5, .ref r6]))]) hP hD [0] [1] rfl rfl (by decide) (by decide) hk1 hFc hP1 hD1
  generalize H1 = H at hP hS ⊢
  have hP : va_P (dC, dI) vwCl [(a1, .inl (t0, 1, .inr (.inl (fun _ => 0)))), (a0, .inr (0, [.ref r0, .int 0, .ref r1, .int 1, .int 0, .ref r2, .int 0, .int (-1), .ref r3, .ref r4, .int 0, .int (-1), .ref r5, .ref r6]))] H := hP
  have hD : va_D A [(a1, .inl (t0, 1, .inr (.inl (fun _ => 0)))), (a0, .inr (0, [.ref r0, .int 0, .ref r1, .int 1, .int 0, .ref r2, .int 0, .int (-1), .ref r3, .ref r4, .int 0, .int (-1), .ref r5, .ref r6]))] := hD
  refine lv_i2l (v := 0) hx hb d_L_figure_7 (by decide +kernel) ?_
  refine va_last hx hb hK hP hD hS 0 0 rfl rfl (wk_in (by decide +kernel)) d_L_figure_8 (fun H locs hP hD hS => ?_)
  have hP : va_P (dC, dI) vwCl [(a1, .inl (t0, 1, .inr (.inl (vp_updL (fun _ => 0) 0 0)))), (a0, .inr (0, [.ref r0, .int 0, .ref r1, .int 1, .int 0, .ref r2, .int 0, .int (-1), .ref r3, .ref r4, .int 0, .int (-1), .ref r5, .ref r6]))] H := hP
  have hD : va_D A [(a1, .inl (t0, 1, .inr (.inl (vp_updL (fun _ => 0) 0 0)))), (a0, .inr (0, [.ref r0, .int 0, .ref r1, .int 1, .int 0, .ref r2, .int 0, .int (-1), .ref r3, .ref r4, .int 0, .int (-1), .ref r5, .ref r6]))] := hD
  refine lv_goto (tgt := 15) hx hb d_L_figure_9 (by decide) ?_
  refine lv_iconst (v := 0) hx hb d_L_figure_15 (by decide) ?_
  have hP9 := hP.sub (ws' := [(a0, .inr (0, [.ref r0, .int 0, .ref r1, .int 1, .int 0, .ref r2, .int 0, .int (-1), .ref r3, .ref r4, .int 0, .int (-1), .ref r5, .ref r6])), (a1, .inl (t0, 1, .inr (.inl (vp_updL (fun _ => 0) 0 0))))]) [1, 0] rfl
  have hD9 := hD.sub (ws' := [(a0, .inr (0, [.ref r0, .int 0, .ref r1, .int 1, .int 0, .ref r2, .int 0, .int (-1), .ref r3, .ref r4, .int 0, .int (-1), .ref r5, .ref r6])), (a1, .inl (t0, 1, .inr (.inl (vp_updL (fun _ => 0) 0 0))))]) [1, 0] (by decide) rfl
  have hK9 := hK.sub (tys' := [(t0, .long)]) [0] rfl
  exact W.iret (v := 0) hx hb hr (fun t ht hW => ⟨⟨0, (), rfl, rfl, by rw [ht]; exact hP9, va_K.moved hW.alike hK9, hD9⟩, hS.F ht⟩) hS.2.2 d_L_figure_16

set_option maxHeartbeats 4000000 in
set_option maxRecDepth 100000 in
theorem c_M_figure_3 (l : Launch) (dC : Nat → ClassId) (dI : Nat → Nat → Nat) (a0 r0 r1 r2 r3 r4 r5 r6 r7 r8 r9 r10 r11 r12 r13 r14 r15 r16 r17 r18 r19 : Nat) (sz : Nat)  : Met l y_M_figure w_M_figure ({ frames := 0, cells := 0, slots := 0, locals := 0 }) (va_Pc [.ref a0, .int 2] (fun U => U.heap.size = sz ∧ va_P (dC, dI) vwCl [(a0, .inr (4, [.int 0, .int 0, .ref r0, .int 1, .int 0, .ref r1, .ref r2, .ref r3, .ref r4, .ref r5, .int 0, .int 0, .int (-1), .int 0, .int (-1), .int 0, .ref r6, .int 0, .ref r7, .ref r8, .ref r9, .ref r10, .ref r11, .int 0, .int 0, .int 0, .ref r12, .ref r13, .int 0, .ref r14, .ref r15, .ref r16, .ref r17, .ref r18, .int 0, .int 0, .int 0, .ref r19]))] U.heap ∧ va_K (dC, dI) vwCl [] U ∧ va_D (fun _ => True) [(a0, .inr (4, [.int 0, .int 0, .ref r0, .int 1, .int 0, .ref r1, .ref r2, .ref r3, .ref r4, .ref r5, .int 0, .int 0, .int (-1), .int 0, .int (-1), .int 0, .ref r6, .int 0, .ref r7, .ref r8, .ref r9, .ref r10, .ref r11, .int 0, .int 0, .int 0, .ref r12, .ref r13, .int 0, .ref r14, .ref r15, .ref r16, .ref r17, .ref r18, .int 0, .int 0, .int 0, .ref r19]))])) (va_Qi (fun (r : Int32) (_ : Unit) => r = 0) (fun (_ : Unit) t => va_P (dC, dI) vwCl [(a0, .inr (4, [.int 0, .int 0, .ref r0, .int 1, .int 0, .ref r1, .ref r2, .ref r3, .ref r4, .ref r5, .int 0, .int 0, .int (-1), .int 0, .int (-1), .int 0, .ref r6, .int 0, .ref r7, .ref r8, .ref r9, .ref r10, .ref r11, .int 0, .int 0, .int 0, .ref r12, .ref r13, .int 0, .ref r14, .ref r15, .ref r16, .ref r17, .ref r18, .int 0, .int 0, .int 0, .ref r19]))] t.heap ∧ va_K (dC, dI) vwCl [] t ∧ va_D (va_A [(a0, .inr (4, [.int 0, .int 0, .ref r0, .int 1, .int 0, .ref r1, .ref r2, .ref r3, .ref r4, .ref r5, .int 0, .int 0, .int (-1), .int 0, .int (-1), .int 0, .ref r6, .int 0, .ref r7, .ref r8, .ref r9, .ref r10, .ref r11, .int 0, .int 0, .int 0, .ref r12, .ref r13, .int 0, .ref r14, .ref r15, .ref r16, .ref r17, .ref r18, .int 0, .int 0, .int 0, .ref r19]))] sz) [(a0, .inr (4, [.int 0, .int 0, .ref r0, .int 1, .int 0, .ref r1, .ref r2, .ref r3, .ref r4, .ref r5, .int 0, .int 0, .int (-1), .int 0, .int (-1), .int 0, .ref r6, .int 0, .ref r7, .ref r8, .ref r9, .ref r10, .ref r11, .int 0, .int 0, .int 0, .ref r12, .ref r13, .int 0, .ref r14, .ref r15, .ref r16, .ref r17, .ref r18, .int 0, .int 0, .int 0, .ref r19]))]) (va_A [(a0, .inr (4, [.int 0, .int 0, .ref r0, .int 1, .int 0, .ref r1, .ref r2, .ref r3, .ref r4, .ref r5, .int 0, .int 0, .int (-1), .int 0, .int (-1), .int 0, .ref r6, .int 0, .ref r7, .ref r8, .ref r9, .ref r10, .ref r11, .int 0, .int 0, .int 0, .ref r12, .ref r13, .int 0, .ref r14, .ref r15, .ref r16, .ref r17, .ref r18, .int 0, .int 0, .int 0, .ref r19]))] sz)) 0 0 (va_A [(a0, .inr (4, [.int 0, .int 0, .ref r0, .int 1, .int 0, .ref r1, .ref r2, .ref r3, .ref r4, .ref r5, .int 0, .int 0, .int (-1), .int 0, .int (-1), .int 0, .ref r6, .int 0, .ref r7, .ref r8, .ref r9, .ref r10, .ref r11, .int 0, .int 0, .int 0, .ref r12, .ref r13, .int 0, .ref r14, .ref r15, .ref r16, .ref r17, .ref r18, .int 0, .int 0, .int 0, .ref r19]))] sz) := by
  refine Met.ofW (cc := prog_6_method_52_code) (maxL := 2) (ret := (some .int)) (by decide) rfl ?_
  intro p e s m args below meth c s₁ B hml hv
  obtain ⟨rfl, hsz, hP, hK, hD0⟩ := hv
  have hx := B.exec
  have hb := B.bytes
  have hr := B.returns
  have hts := atoms_spec (ws := w_M_figure) B.pre
  have hown : s.vm.findClass R_M = some m.cls := findClass_of_methodNamed B.named
  have hlocks := B.notSynchronized
  subst hsz
  have hD := hD0.self (sz := s.heap.size)
  generalize hAe : va_A [(a0, .inr (4, [.int 0, .int 0, .ref r0, .int 1, .int 0, .ref r1, .ref r2, .ref r3, .ref r4, .ref r5, .int 0, .int 0, .int (-1), .int 0, .int (-1), .int 0, .ref r6, .int 0, .ref r7, .ref r8, .ref r9, .ref r10, .ref r11, .int 0, .int 0, .int 0, .ref r12, .ref r13, .int 0, .ref r14, .ref r15, .ref r16, .ref r17, .ref r18, .int 0, .int 0, .int 0, .ref r19]))] s.heap.size = A at hD ⊢
  have hA : ∀ q : Nat, s.heap.size ≤ q → A q := fun q h => by rw [← hAe]; exact Or.inr h
  have hS : va_S A s.heap s.heap [] := va_S.rf
  have hP : va_P (dC, dI) vwCl [(a0, .inr (4, [.int 0, .int 0, .ref r0, .int 1, .int 0, .ref r1, .ref r2, .ref r3, .ref r4, .ref r5, .int 0, .int 0, .int (-1), .int 0, .int (-1), .int 0, .ref r6, .int 0, .ref r7, .ref r8, .ref r9, .ref r10, .ref r11, .int 0, .int 0, .int 0, .ref r12, .ref r13, .int 0, .ref r14, .ref r15, .ref r16, .ref r17, .ref r18, .int 0, .int 0, .int 0, .ref r19]))] s.heap := hP
  have hl := lv_entry ([.ref a0, .int 2]) (n := 2) (Nat.le_of_ble_eq_true rfl)
  rw [lg_entry_eq]
  generalize (lg_sl ([.ref a0, .int 2]) ++ List.replicate (2 - (lg_sl ([.ref a0, .int 2])).length) Slot.unset).toArray = ls at hl ⊢
  have hl : lv_has ls 2 [(0, .ref a0), (1, .int 2)] := hl
  refine lv_aload_n hx hb d_M_figure_0 rfl (lv_at hl 0 rfl) ?_
  refine lv_iload_n hx hb d_M_figure_1 rfl (lv_at hl 1 rfl) ?_
  refine lv_if_lt (tgt := 10) hx hb d_M_figure_2 (by decide) (fun h => absurd h (by decide +kernel)) (fun _ => ?_)
  refine lv_iload_n hx hb d_M_figure_5 rfl (lv_at hl 1 rfl) ?_
  refine lv_iconst (v := 4) hx hb d_M_figure_6 (by decide) ?_
  refine lv_icmp_le (tgt := 14) hx hb d_M_figure_7 (by decide) (fun _ => ?_) (fun h => absurd (by decide +kernel) h)
  refine lv_iconst (v := 0) hx hb d_M_figure_14 (by decide) ?_
  refine va_put (D := (dC, dI)) (ci := 4) (v := .int 0) (ty := .int) (C := R_M) (T := F_M) (N := 38) hx hb hts (fun w h => List.mem_cons_of_mem _ (in_M w h)) t_M tk_M n_M hown hK hP hD hS 0 rfl rfl 0 (by decide) (hts _ (List.mem_cons_of_mem _ lk_175)) (fun _ h9 => h9) rfl (by decide +kernel) rfl rfl (Nat.le_of_ble_eq_true rfl) d_M_figure_15 (fun H locs hP hD hS => ?_)
  have hP : va_P (dC, dI) vwCl [(a0, .inr (4, [.int 0, .int 0, .ref r0, .int 1, .int 0, .ref r1, .ref r2, .ref r3, .ref r4, .ref r5, .int 0, .int 0, .int (-1), .int 0, .int (-1), .int 0, .ref r6, .int 0, .ref r7, .ref r8, .ref r9, .ref r10, .ref r11, .int 0, .int 0, .int 0, .ref r12, .ref r13, .int 0, .ref r14, .ref r15, .ref r16, .ref r17, .ref r18, .int 0, .int 0, .int 0, .ref r19]))] H := hP
  have hD : va_D A [(a0, .inr (4, [.int 0, .int 0, .ref r0, .int 1, .int 0, .ref r1, .ref r2, .ref r3, .ref r4, .ref r5, .int 0, .int 0, .int (-1), .int 0, .int (-1), .int 0, .ref r6, .int 0, .ref r7, .ref r8, .ref r9, .ref r10, .ref r11, .int 0, .int 0, .int 0, .ref r12, .ref r13, .int 0, .ref r14, .ref r15, .ref r16, .ref r17, .ref r18, .int 0, .int 0, .int 0, .ref r19]))] := hD
  refine lv_aload_n hx hb d_M_figure_18 rfl (lv_at hl 0 rfl) ?_
  refine va_get (D := (dC, dI)) (ci := 4) (v := .int 0) (C := R_M) (T := F_M) (N := 38) hx hb hts (fun w h => List.mem_cons_of_mem _ (in_M w h)) hown hK hP 0 rfl rfl 0 (by decide) (hts _ (List.mem_cons_of_mem _ lk_175)) (fun _ h9 => h9) rfl d_M_figure_19 ?_
  refine lv_if_le (tgt := 29) hx hb d_M_figure_22 (by decide) (fun _ => ?_) (fun h => absurd (by decide +kernel) h)
  refine lv_iload_n hx hb d_M_figure_29 rfl (lv_at hl 1 rfl) ?_
  refine lv_if_ne (tgt := 40) hx hb d_M_figure_30 (by decide) (fun _ => ?_) (fun h => absurd h (by decide +kernel))
  refine lv_iload_n hx hb d_M_figure_40 rfl (lv_at hl 1 rfl) ?_
  refine lv_iconst (v := 1) hx hb d_M_figure_41 (by decide) ?_
  refine lv_icmp_ne (tgt := 52) hx hb d_M_figure_42 (by decide) (fun _ => ?_) (fun h => absurd h (by decide +kernel))
  refine lv_iload_n hx hb d_M_figure_52 rfl (lv_at hl 1 rfl) ?_
  refine lv_iconst (v := 2) hx hb d_M_figure_53 (by decide) ?_
  refine lv_icmp_ne (tgt := 64) hx hb d_M_figure_54 (by decide) (fun h => absurd (by decide +kernel) h) (fun _ => ?_)
  refine lv_aload_n hx hb d_M_figure_57 rfl (lv_at hl 0 rfl) ?_
  refine va_get (D := (dC, dI)) (ci := 4) (v := .int 0) (C := R_M) (T := F_M) (N := 38) hx hb hts (fun w h => List.mem_cons_of_mem _ (in_M w h)) hown hK hP 0 rfl rfl 11 (by decide) (hts _ (List.mem_cons_of_mem _ lk_210)) (fun _ h9 => h9) rfl d_M_figure_58 ?_
  refine lv_goto (tgt := 80) hx hb d_M_figure_61 (by decide) ?_
  have hP9 := hP.sub (ws' := [(a0, .inr (4, [.int 0, .int 0, .ref r0, .int 1, .int 0, .ref r1, .ref r2, .ref r3, .ref r4, .ref r5, .int 0, .int 0, .int (-1), .int 0, .int (-1), .int 0, .ref r6, .int 0, .ref r7, .ref r8, .ref r9, .ref r10, .ref r11, .int 0, .int 0, .int 0, .ref r12, .ref r13, .int 0, .ref r14, .ref r15, .ref r16, .ref r17, .ref r18, .int 0, .int 0, .int 0, .ref r19]))]) [0] rfl
  have hD9 := hD.sub (ws' := [(a0, .inr (4, [.int 0, .int 0, .ref r0, .int 1, .int 0, .ref r1, .ref r2, .ref r3, .ref r4, .ref r5, .int 0, .int 0, .int (-1), .int 0, .int (-1), .int 0, .ref r6, .int 0, .ref r7, .ref r8, .ref r9, .ref r10, .ref r11, .int 0, .int 0, .int 0, .ref r12, .ref r13, .int 0, .ref r14, .ref r15, .ref r16, .ref r17, .ref r18, .int 0, .int 0, .int 0, .ref r19]))]) [0] (by decide) rfl
  have hK9 := hK.sub (tys' := []) [] rfl
  exact W.iret (v := 0) hx hb hr (fun t ht hW => ⟨⟨0, (), rfl, rfl, by rw [ht]; exact hP9, va_K.moved hW.alike hK9, hD9⟩, hS.F ht⟩) hS.2.2 d_M_figure_80

set_option maxHeartbeats 4000000 in
set_option maxRecDepth 100000 in
theorem c_D_figure_4 (l : Launch) (dC : Nat → ClassId) (dI : Nat → Nat → Nat) (a0 r0 r1 r2 r3 r4 r5 r6 : Nat) (sz : Nat)  : Met l y_D_figure w_D_figure ({ frames := 0, cells := 0, slots := 0, locals := 0 }) (va_Pc [.ref a0, .int 3] (fun U => U.heap.size = sz ∧ va_P (dC, dI) vwCl [(a0, .inr (0, [.ref r0, .int 0, .ref r1, .int 1, .int 0, .ref r2, .int 0, .int (-1), .ref r3, .ref r4, .int 0, .int (-1), .ref r5, .ref r6]))] U.heap ∧ va_K (dC, dI) vwCl [] U ∧ va_D (fun _ => True) [(a0, .inr (0, [.ref r0, .int 0, .ref r1, .int 1, .int 0, .ref r2, .int 0, .int (-1), .ref r3, .ref r4, .int 0, .int (-1), .ref r5, .ref r6]))])) (va_Qi (fun (r : Int32) (_ : Unit) => r = (-1)) (fun (_ : Unit) t => va_P (dC, dI) vwCl [(a0, .inr (0, [.ref r0, .int 0, .ref r1, .int 1, .int 0, .ref r2, .int 0, .int (-1), .ref r3, .ref r4, .int 0, .int (-1), .ref r5, .ref r6]))] t.heap ∧ va_K (dC, dI) vwCl [] t ∧ va_D (va_A [(a0, .inr (0, [.ref r0, .int 0, .ref r1, .int 1, .int 0, .ref r2, .int 0, .int (-1), .ref r3, .ref r4, .int 0, .int (-1), .ref r5, .ref r6]))] sz) [(a0, .inr (0, [.ref r0, .int 0, .ref r1, .int 1, .int 0, .ref r2, .int 0, .int (-1), .ref r3, .ref r4, .int 0, .int (-1), .ref r5, .ref r6]))]) (va_A [(a0, .inr (0, [.ref r0, .int 0, .ref r1, .int 1, .int 0, .ref r2, .int 0, .int (-1), .ref r3, .ref r4, .int 0, .int (-1), .ref r5, .ref r6]))] sz)) 0 0 (va_A [(a0, .inr (0, [.ref r0, .int 0, .ref r1, .int 1, .int 0, .ref r2, .int 0, .int (-1), .ref r3, .ref r4, .int 0, .int (-1), .ref r5, .ref r6]))] sz) := by
  refine Met.ofW (cc := prog_1_method_17_code) (maxL := 2) (ret := (some .int)) (by decide) rfl ?_
  intro p e s m args below meth c s₁ B hml hv
  obtain ⟨rfl, hsz, hP, hK, hD0⟩ := hv
  have hx := B.exec
  have hb := B.bytes
  have hr := B.returns
  have hts := atoms_spec (ws := w_D_figure) B.pre
  have hown : s.vm.findClass R_D = some m.cls := findClass_of_methodNamed B.named
  have hlocks := B.notSynchronized
  subst hsz
  have hD := hD0.self (sz := s.heap.size)
  generalize hAe : va_A [(a0, .inr (0, [.ref r0, .int 0, .ref r1, .int 1, .int 0, .ref r2, .int 0, .int (-1), .ref r3, .ref r4, .int 0, .int (-1), .ref r5, .ref r6]))] s.heap.size = A at hD ⊢
  have hA : ∀ q : Nat, s.heap.size ≤ q → A q := fun q h => by rw [← hAe]; exact Or.inr h
  have hS : va_S A s.heap s.heap [] := va_S.rf
  have hP : va_P (dC, dI) vwCl [(a0, .inr (0, [.ref r0, .int 0, .ref r1, .int 1, .int 0, .ref r2, .int 0, .int (-1), .ref r3, .ref r4, .int 0, .int (-1), .ref r5, .ref r6]))] s.heap := hP
  have hl := lv_entry ([.ref a0, .int 3]) (n := 2) (Nat.le_of_ble_eq_true rfl)
  rw [lg_entry_eq]
  generalize (lg_sl ([.ref a0, .int 3]) ++ List.replicate (2 - (lg_sl ([.ref a0, .int 3])).length) Slot.unset).toArray = ls at hl ⊢
  have hl : lv_has ls 2 [(0, .ref a0), (1, .int 3)] := hl
  refine lv_iload_n hx hb d_D_figure_0 rfl (lv_at hl 1 rfl) ?_
  refine lv_tableIn (off := 50) (tgt := 51) hx hb d_D_figure_1 (by decide) (by decide) (by decide) (by decide) ?_
  refine lv_aload_n hx hb d_D_figure_51 rfl (lv_at hl 0 rfl) ?_
  refine va_get (D := (dC, dI)) (ci := 0) (v := .int (-1)) (C := R_D) (T := F_D) (N := 14) hx hb hts (fun w h => List.mem_cons_of_mem _ (in_D w h)) hown hK hP 0 rfl rfl 7 (by decide) (hts _ (List.mem_cons_of_mem _ lk_40)) (fun _ h9 => h9) rfl d_D_figure_52 ?_
  have hP9 := hP.sub (ws' := [(a0, .inr (0, [.ref r0, .int 0, .ref r1, .int 1, .int 0, .ref r2, .int 0, .int (-1), .ref r3, .ref r4, .int 0, .int (-1), .ref r5, .ref r6]))]) [0] rfl
  have hD9 := hD.sub (ws' := [(a0, .inr (0, [.ref r0, .int 0, .ref r1, .int 1, .int 0, .ref r2, .int 0, .int (-1), .ref r3, .ref r4, .int 0, .int (-1), .ref r5, .ref r6]))]) [0] (by decide) rfl
  have hK9 := hK.sub (tys' := []) [] rfl
  exact W.iret (v := (-1)) hx hb hr (fun t ht hW => ⟨⟨(-1), (), rfl, rfl, by rw [ht]; exact hP9, va_K.moved hW.alike hK9, hD9⟩, hS.F ht⟩) hS.2.2 d_D_figure_55

set_option maxHeartbeats 4000000 in
set_option maxRecDepth 100000 in
theorem c_L_figure_4 (l : Launch) (dC : Nat → ClassId) (dI : Nat → Nat → Nat) (a0 a1 r0 r1 r2 r3 r4 r5 r6 : Nat) (t0 : ClassId) (sz : Nat)  : Met l y_L_figure w_L_figure ({ frames := 1, cells := 0, slots := 0, locals := 21 }) (va_Pc [.ref a0, .int 3, .ref a1] (fun U => U.heap.size = sz ∧ va_P (dC, dI) vwCl [(a0, .inr (0, [.ref r0, .int 0, .ref r1, .int 1, .int 0, .ref r2, .int 0, .int (-1), .ref r3, .ref r4, .int 0, .int (-1), .ref r5, .ref r6])), (a1, .inl (t0, 1, .inr (.inl (fun _ => 0))))] U.heap ∧ va_K (dC, dI) vwCl [(t0, .long)] U ∧ va_D (fun _ => True) [(a0, .inr (0, [.ref r0, .int 0, .ref r1, .int 1, .int 0, .ref r2, .int 0, .int (-1), .ref r3, .ref r4, .int 0, .int (-1), .ref r5, .ref r6])), (a1, .inl (t0, 1, .inr (.inl (fun _ => 0))))])) (va_Qi (fun (r : Int32) (_ : Unit) => r = 0) (fun (_ : Unit) t => va_P (dC, dI) vwCl [(a0, .inr (0, [.ref r0, .int 0, .ref r1, .int 1, .int 0, .ref r2, .int 0, .int (-1), .ref r3, .ref r4, .int 0, .int (-1), .ref r5, .ref r6])), (a1, .inl (t0, 1, .inr (.inl (vp_updL (fun _ => 0) 0 (-1)))))] t.heap ∧ va_K (dC, dI) vwCl [(t0, .long)] t ∧ va_D (va_A [(a0, .inr (0, [.ref r0, .int 0, .ref r1, .int 1, .int 0, .ref r2, .int 0, .int (-1), .ref r3, .ref r4, .int 0, .int (-1), .ref r5, .ref r6])), (a1, .inl (t0, 1, .inr (.inl (fun _ => 0))))] sz) [(a0, .inr (0, [.ref r0, .int 0, .ref r1, .int 1, .int 0, .ref r2, .int 0, .int (-1), .ref r3, .ref r4, .int 0, .int (-1), .ref r5, .ref r6])), (a1, .inl (t0, 1, .inr (.inl (vp_updL (fun _ => 0) 0 (-1)))))]) (va_A [(a0, .inr (0, [.ref r0, .int 0, .ref r1, .int 1, .int 0, .ref r2, .int 0, .int (-1), .ref r3, .ref r4, .int 0, .int (-1), .ref r5, .ref r6])), (a1, .inl (t0, 1, .inr (.inl (fun _ => 0))))] sz)) 0 0 (va_A [(a0, .inr (0, [.ref r0, .int 0, .ref r1, .int 1, .int 0, .ref r2, .int 0, .int (-1), .ref r3, .ref r4, .int 0, .int (-1), .ref r5, .ref r6])), (a1, .inl (t0, 1, .inr (.inl (fun _ => 0))))] sz) := by
  refine th_ofWw (tab := [(0, 9, 12, 28)]) (cc := method_14_code) (maxL := 4) (ret := (some .int)) (by decide) rfl ?_
  intro p e s m args below meth c s₁ B hml htab hv
  obtain ⟨rfl, hsz, hP, hK, hD0⟩ := hv
  have hx := B.exec
  have hb := B.bytes
  have hr := B.returns
  have hts := atoms_spec (ws := w_L_figure) B.pre
  have hown : s.vm.findClass R_L = some m.cls := findClass_of_methodNamed B.named
  have hlocks := B.notSynchronized
  subst hsz
  have hD := hD0.self (sz := s.heap.size)
  generalize hAe : va_A [(a0, .inr (0, [.ref r0, .int 0, .ref r1, .int 1, .int 0, .ref r2, .int 0, .int (-1), .ref r3, .ref r4, .int 0, .int (-1), .ref r5, .ref r6])), (a1, .inl (t0, 1, .inr (.inl (fun _ => 0))))] s.heap.size = A at hD ⊢
  have hA : ∀ q : Nat, s.heap.size ≤ q → A q := fun q h => by rw [← hAe]; exact Or.inr h
  have hS : va_S A s.heap s.heap [] := va_S.rf
  have hP : va_P (dC, dI) vwCl [(a0, .inr (0, [.ref r0, .int 0, .ref r1, .int 1, .int 0, .ref r2, .int 0, .int (-1), .ref r3, .ref r4, .int 0, .int (-1), .ref r5, .ref r6])), (a1, .inl (t0, 1, .inr (.inl (fun _ => 0))))] s.heap := hP
  have hl := lv_entry ([.ref a0, .int 3, .ref a1]) (n := 4) (Nat.le_of_ble_eq_true rfl)
  rw [lg_entry_eq]
  generalize (lg_sl ([.ref a0, .int 3, .ref a1]) ++ List.replicate (4 - (lg_sl ([.ref a0, .int 3, .ref a1])).length) Slot.unset).toArray = ls at hl ⊢
  have hl : lv_has ls 4 [(0, .ref a0), (1, .int 3), (2, .ref a1)] := hl
  refine lv_aload_n hx hb d_L_figure_0 rfl (lv_at hl 2 rfl) ?_
  refine lv_iconst (v := 0) hx hb d_L_figure_1 (by decide) ?_
  refine lv_aload_n hx hb d_L_figure_2 rfl (lv_at hl 0 rfl) ?_
  refine lv_iload_n hx hb d_L_figure_3 rfl (lv_at hl 1 rfl) ?_
  have hPc := hP.sub (ws' := [(a0, .inr (0, [.ref r0, .int 0, .ref r1, .int 1, .int 0, .ref r2, .int 0, .int (-1), .ref r3, .ref r4, .int 0, .int (-1), .ref r5, .ref r6]))]) [0] rfl
  have hDc := hD.sub (ws' := [(a0, .inr (0, [.ref r0, .int 0, .ref r1, .int 1, .int 0, .ref r2, .int 0, .int (-1), .ref r3, .ref r4, .int 0, .int (-1), .ref r5, .ref r6]))]) [0] (by decide) rfl
  have hKc := hK.sub (tys' := []) [] rfl
  have hFc := va_free (wc := [(a0, .inr (0, [.ref r0, .int 0, .ref r1, .int 1, .int 0, .ref r2, .int 0, .int (-1), .ref r3, .ref r4, .int 0, .int (-1), .ref r5, .ref r6]))]) hD hS hA [0] rfl
  refine va_calli (va_runV (As := [.int 3]) (rest := [.int 0, .ref a1]) ⟨hx, hb, hml, hown, hts⟩ (c_D_figure_4 l dC dI a0 r0 r1 r2 r3 r4 r5 r6 s.heap.size) (cwV 1 hts (gd_v lk_495 lk_496 lk_497 lk_16 lk_494) rfl rfl rfl (by decide +kernel) ⟨Nat.le_of_ble_eq_true rfl, Nat.le_of_ble_eq_true rfl⟩) ⟨fun a U g mk q => by obtain ⟨q0, q1, qP, qK, qD⟩ := q; exact ⟨q0, q1, qP, va_K.moved (u := U) (U := U.calling g mk a) (Vm.Alike.refl U.vm) qK, qD⟩, va_recv (ci := 0) (q0 := 0) hK hP rfl rfl, fun U hU hW => ⟨rfl, by rw [hU], by rw [hU]; exact hPc, va_K.moved hW.alike hKc, hDc.weaken (fun _ _ _ _ => trivial)⟩⟩ rfl rfl hl.1 rfl (lv_room (Nat.le_of_ble_eq_true rfl)) d_L_figure_4 ⟨Nat.le_of_ble_eq_true rfl, Nat.le_of_ble_eq_true rfl⟩) hS (fun q _ h => hFc q h) hFc (fun r u t H1 locs ht hvm hw hB hz1 hk1 hS => ?_)
  obtain ⟨hP1, hK1, hD1⟩ := hB
  rw [ht] at hP1
  have hK1 := va_K.moved hvm.symm hK1
  subst hw
  obtain ⟨hP, hD⟩ := va_join (wr := [(a1, .inl (t0, 1, .inr (.inl (fun _ => 0))))]) (w1 := [(a0, .inr (0, [.ref r0, .int 0, .ref r1, .int 1, .int 0, .ref r2, .int 0, .int (-1), .ref r3, .ref r4, .int 0, .int (-1), .ref r5, .ref r6]))]) hP hD [0] [1] rfl rfl (by decide) (by decide) hk1 hFc hP1 hD1
  generalize H1 = H at hP hS ⊢
  have hP : va_P (dC, dI) vwCl [(a1, .inl (t0, 1, .inr (.inl (fun _ => 0)))), (a0, .inr (0, [.ref r0, .int 0, .ref r1, .int 1, .int 0, .ref r2, .int 0, .int (-1), .ref r3, .ref r4, .int 0, .int (-1), .ref r5, .ref r6]))] H := hP
  have hD : va_D A [(a1, .inl (t0, 1, .inr (.inl (fun _ => 0)))), (a0, .inr (0, [.ref r0, .int 0, .ref r1, .int 1, .int 0, .ref r2, .int 0, .int (-1), .ref r3, .ref r4, .int 0, .int (-1), .ref r5, .ref r6]))] := hD
  refine lv_i2l (v := (-1)) hx hb d_L_figure_7 (by decide +kernel) ?_
  refine va_last hx hb hK hP hD hS 0 0 rfl rfl (wk_in (by decide +kernel)) d_L_figure_8 (fun H locs hP hD hS => ?_)
  have hP : va_P (dC, dI) vwCl [(a1, .inl (t0, 1, .inr (.inl (vp_updL (fun _ => 0) 0 (-1))))), (a0, .inr (0, [.ref r0, .int 0, .ref r1, .int 1, .int 0, .ref r2, .int 0, .int (-1), .ref r3, .ref r4, .int 0, .int (-1), .ref r5, .ref r6]))] H := hP
  have hD : va_D A [(a1, .inl (t0, 1, .inr (.inl (vp_updL (fun _ => 0) 0 (-1))))), (a0, .inr (0, [.ref r0, .int 0, .ref r1, .int 1, .int 0, .ref r2, .int 0, .int (-1), .ref r3, .ref r4, .int 0, .int (-1), .ref r5, .ref r6]))] := hD
  refine lv_goto (tgt := 15) hx hb d_L_figure_9 (by decide) ?_
  refine lv_iconst (v := 0) hx hb d_L_figure_15 (by decide) ?_
  have hP9 := hP.sub (ws' := [(a0, .inr (0, [.ref r0, .int 0, .ref r1, .int 1, .int 0, .ref r2, .int 0, .int (-1), .ref r3, .ref r4, .int 0, .int (-1), .ref r5, .ref r6])), (a1, .inl (t0, 1, .inr (.inl (vp_updL (fun _ => 0) 0 (-1)))))]) [1, 0] rfl
  have hD9 := hD.sub (ws' := [(a0, .inr (0, [.ref r0, .int 0, .ref r1, .int 1, .int 0, .ref r2, .int 0, .int (-1), .ref r3, .ref r4, .int 0, .int (-1), .ref r5, .ref r6])), (a1, .inl (t0, 1, .inr (.inl (vp_updL (fun _ => 0) 0 (-1)))))]) [1, 0] (by decide) rfl
  have hK9 := hK.sub (tys' := [(t0, .long)]) [0] rfl
  exact W.iret (v := 0) hx hb hr (fun t ht hW => ⟨⟨0, (), rfl, rfl, by rw [ht]; exact hP9, va_K.moved hW.alike hK9, hD9⟩, hS.F ht⟩) hS.2.2 d_L_figure_16

set_option maxHeartbeats 4000000 in
set_option maxRecDepth 100000 in
theorem c_M_figure_4 (l : Launch) (dC : Nat → ClassId) (dI : Nat → Nat → Nat) (a0 r0 r1 r2 r3 r4 r5 r6 r7 r8 r9 r10 r11 r12 r13 r14 r15 r16 r17 r18 r19 : Nat) (sz : Nat)  : Met l y_M_figure w_M_figure ({ frames := 0, cells := 0, slots := 0, locals := 0 }) (va_Pc [.ref a0, .int 3] (fun U => U.heap.size = sz ∧ va_P (dC, dI) vwCl [(a0, .inr (4, [.int 0, .int 0, .ref r0, .int 1, .int 0, .ref r1, .ref r2, .ref r3, .ref r4, .ref r5, .int 0, .int 0, .int (-1), .int 0, .int (-1), .int 0, .ref r6, .int 0, .ref r7, .ref r8, .ref r9, .ref r10, .ref r11, .int 0, .int 0, .int 0, .ref r12, .ref r13, .int 0, .ref r14, .ref r15, .ref r16, .ref r17, .ref r18, .int 0, .int 0, .int 0, .ref r19]))] U.heap ∧ va_K (dC, dI) vwCl [] U ∧ va_D (fun _ => True) [(a0, .inr (4, [.int 0, .int 0, .ref r0, .int 1, .int 0, .ref r1, .ref r2, .ref r3, .ref r4, .ref r5, .int 0, .int 0, .int (-1), .int 0, .int (-1), .int 0, .ref r6, .int 0, .ref r7, .ref r8, .ref r9, .ref r10, .ref r11, .int 0, .int 0, .int 0, .ref r12, .ref r13, .int 0, .ref r14, .ref r15, .ref r16, .ref r17, .ref r18, .int 0, .int 0, .int 0, .ref r19]))])) (va_Qi (fun (r : Int32) (_ : Unit) => r = (-1)) (fun (_ : Unit) t => va_P (dC, dI) vwCl [(a0, .inr (4, [.int 0, .int 0, .ref r0, .int 1, .int 0, .ref r1, .ref r2, .ref r3, .ref r4, .ref r5, .int 0, .int 0, .int (-1), .int 0, .int (-1), .int 0, .ref r6, .int 0, .ref r7, .ref r8, .ref r9, .ref r10, .ref r11, .int 0, .int 0, .int 0, .ref r12, .ref r13, .int 0, .ref r14, .ref r15, .ref r16, .ref r17, .ref r18, .int 0, .int 0, .int 0, .ref r19]))] t.heap ∧ va_K (dC, dI) vwCl [] t ∧ va_D (va_A [(a0, .inr (4, [.int 0, .int 0, .ref r0, .int 1, .int 0, .ref r1, .ref r2, .ref r3, .ref r4, .ref r5, .int 0, .int 0, .int (-1), .int 0, .int (-1), .int 0, .ref r6, .int 0, .ref r7, .ref r8, .ref r9, .ref r10, .ref r11, .int 0, .int 0, .int 0, .ref r12, .ref r13, .int 0, .ref r14, .ref r15, .ref r16, .ref r17, .ref r18, .int 0, .int 0, .int 0, .ref r19]))] sz) [(a0, .inr (4, [.int 0, .int 0, .ref r0, .int 1, .int 0, .ref r1, .ref r2, .ref r3, .ref r4, .ref r5, .int 0, .int 0, .int (-1), .int 0, .int (-1), .int 0, .ref r6, .int 0, .ref r7, .ref r8, .ref r9, .ref r10, .ref r11, .int 0, .int 0, .int 0, .ref r12, .ref r13, .int 0, .ref r14, .ref r15, .ref r16, .ref r17, .ref r18, .int 0, .int 0, .int 0, .ref r19]))]) (va_A [(a0, .inr (4, [.int 0, .int 0, .ref r0, .int 1, .int 0, .ref r1, .ref r2, .ref r3, .ref r4, .ref r5, .int 0, .int 0, .int (-1), .int 0, .int (-1), .int 0, .ref r6, .int 0, .ref r7, .ref r8, .ref r9, .ref r10, .ref r11, .int 0, .int 0, .int 0, .ref r12, .ref r13, .int 0, .ref r14, .ref r15, .ref r16, .ref r17, .ref r18, .int 0, .int 0, .int 0, .ref r19]))] sz)) 0 0 (va_A [(a0, .inr (4, [.int 0, .int 0, .ref r0, .int 1, .int 0, .ref r1, .ref r2, .ref r3, .ref r4, .ref r5, .int 0, .int 0, .int (-1), .int 0, .int (-1), .int 0, .ref r6, .int 0, .ref r7, .ref r8, .ref r9, .ref r10, .ref r11, .int 0, .int 0, .int 0, .ref r12, .ref r13, .int 0, .ref r14, .ref r15, .ref r16, .ref r17, .ref r18, .int 0, .int 0, .int 0, .ref r19]))] sz) := by
  refine Met.ofW (cc := prog_6_method_52_code) (maxL := 2) (ret := (some .int)) (by decide) rfl ?_
  intro p e s m args below meth c s₁ B hml hv
  obtain ⟨rfl, hsz, hP, hK, hD0⟩ := hv
  have hx := B.exec
  have hb := B.bytes
  have hr := B.returns
  have hts := atoms_spec (ws := w_M_figure) B.pre
  have hown : s.vm.findClass R_M = some m.cls := findClass_of_methodNamed B.named
  have hlocks := B.notSynchronized
  subst hsz
  have hD := hD0.self (sz := s.heap.size)
  generalize hAe : va_A [(a0, .inr (4, [.int 0, .int 0, .ref r0, .int 1, .int 0, .ref r1, .ref r2, .ref r3, .ref r4, .ref r5, .int 0, .int 0, .int (-1), .int 0, .int (-1), .int 0, .ref r6, .int 0, .ref r7, .ref r8, .ref r9, .ref r10, .ref r11, .int 0, .int 0, .int 0, .ref r12, .ref r13, .int 0, .ref r14, .ref r15, .ref r16, .ref r17, .ref r18, .int 0, .int 0, .int 0, .ref r19]))] s.heap.size = A at hD ⊢
  have hA : ∀ q : Nat, s.heap.size ≤ q → A q := fun q h => by rw [← hAe]; exact Or.inr h
  have hS : va_S A s.heap s.heap [] := va_S.rf
  have hP : va_P (dC, dI) vwCl [(a0, .inr (4, [.int 0, .int 0, .ref r0, .int 1, .int 0, .ref r1, .ref r2, .ref r3, .ref r4, .ref r5, .int 0, .int 0, .int (-1), .int 0, .int (-1), .int 0, .ref r6, .int 0, .ref r7, .ref r8, .ref r9, .ref r10, .ref r11, .int 0, .int 0, .int 0, .ref r12, .ref r13, .int 0, .ref r14, .ref r15, .ref r16, .ref r17, .ref r18, .int 0, .int 0, .int 0, .ref r19]))] s.heap := hP
  have hl := lv_entry ([.ref a0, .int 3]) (n := 2) (Nat.le_of_ble_eq_true rfl)
  rw [lg_entry_eq]
  generalize (lg_sl ([.ref a0, .int 3]) ++ List.replicate (2 - (lg_sl ([.ref a0, .int 3])).length) Slot.unset).toArray = ls at hl ⊢
  have hl : lv_has ls 2 [(0, .ref a0), (1, .int 3)] := hl
  refine lv_aload_n hx hb d_M_figure_0 rfl (lv_at hl 0 rfl) ?_
  refine lv_iload_n hx hb d_M_figure_1 rfl (lv_at hl 1 rfl) ?_
  refine lv_if_lt (tgt := 10) hx hb d_M_figure_2 (by decide) (fun h => absurd h (by decide +kernel)) (fun _ => ?_)
  refine lv_iload_n hx hb d_M_figure_5 rfl (lv_at hl 1 rfl) ?_
  refine lv_iconst (v := 4) hx hb d_M_figure_6 (by decide) ?_
  refine lv_icmp_le (tgt := 14) hx hb d_M_figure_7 (by decide) (fun _ => ?_) (fun h => absurd (by decide +kernel) h)
  refine lv_iconst (v := 0) hx hb d_M_figure_14 (by decide) ?_
  refine va_put (D := (dC, dI)) (ci := 4) (v := .int 0) (ty := .int) (C := R_M) (T := F_M) (N := 38) hx hb hts (fun w h => List.mem_cons_of_mem _ (in_M w h)) t_M tk_M n_M hown hK hP hD hS 0 rfl rfl 0 (by decide) (hts _ (List.mem_cons_of_mem _ lk_175)) (fun _ h9 => h9) rfl (by decide +kernel) rfl rfl (Nat.le_of_ble_eq_true rfl) d_M_figure_15 (fun H locs hP hD hS => ?_)
  have hP : va_P (dC, dI) vwCl [(a0, .inr (4, [.int 0, .int 0, .ref r0, .int 1, .int 0, .ref r1, .ref r2, .ref r3, .ref r4, .ref r5, .int 0, .int 0, .int (-1), .int 0, .int (-1), .int 0, .ref r6, .int 0, .ref r7, .ref r8, .ref r9, .ref r10, .ref r11, .int 0, .int 0, .int 0, .ref r12, .ref r13, .int 0, .ref r14, .ref r15, .ref r16, .ref r17, .ref r18, .int 0, .int 0, .int 0, .ref r19]))] H := hP
  have hD : va_D A [(a0, .inr (4, [.int 0, .int 0, .ref r0, .int 1, .int 0, .ref r1, .ref r2, .ref r3, .ref r4, .ref r5, .int 0, .int 0, .int (-1), .int 0, .int (-1), .int 0, .ref r6, .int 0, .ref r7, .ref r8, .ref r9, .ref r10, .ref r11, .int 0, .int 0, .int 0, .ref r12, .ref r13, .int 0, .ref r14, .ref r15, .ref r16, .ref r17, .ref r18, .int 0, .int 0, .int 0, .ref r19]))] := hD
  refine lv_aload_n hx hb d_M_figure_18 rfl (lv_at hl 0 rfl) ?_
  refine va_get (D := (dC, dI)) (ci := 4) (v := .int 0) (C := R_M) (T := F_M) (N := 38) hx hb hts (fun w h => List.mem_cons_of_mem _ (in_M w h)) hown hK hP 0 rfl rfl 0 (by decide) (hts _ (List.mem_cons_of_mem _ lk_175)) (fun _ h9 => h9) rfl d_M_figure_19 ?_
  refine lv_if_le (tgt := 29) hx hb d_M_figure_22 (by decide) (fun _ => ?_) (fun h => absurd (by decide +kernel) h)
  refine lv_iload_n hx hb d_M_figure_29 rfl (lv_at hl 1 rfl) ?_
  refine lv_if_ne (tgt := 40) hx hb d_M_figure_30 (by decide) (fun _ => ?_) (fun h => absurd h (by decide +kernel))
  refine lv_iload_n hx hb d_M_figure_40 rfl (lv_at hl 1 rfl) ?_
  refine lv_iconst (v := 1) hx hb d_M_figure_41 (by decide) ?_
  refine lv_icmp_ne (tgt := 52) hx hb d_M_figure_42 (by decide) (fun _ => ?_) (fun h => absurd h (by decide +kernel))
  refine lv_iload_n hx hb d_M_figure_52 rfl (lv_at hl 1 rfl) ?_
  refine lv_iconst (v := 2) hx hb d_M_figure_53 (by decide) ?_
  refine lv_icmp_ne (tgt := 64) hx hb d_M_figure_54 (by decide) (fun _ => ?_) (fun h => absurd h (by decide +kernel))
  refine lv_iload_n hx hb d_M_figure_64 rfl (lv_at hl 1 rfl) ?_
  refine lv_iconst (v := 3) hx hb d_M_figure_65 (by decide) ?_
  refine lv_icmp_ne (tgt := 76) hx hb d_M_figure_66 (by decide) (fun h => absurd (by decide +kernel) h) (fun _ => ?_)
  refine lv_aload_n hx hb d_M_figure_69 rfl (lv_at hl 0 rfl) ?_
  refine va_get (D := (dC, dI)) (ci := 4) (v := .int (-1)) (C := R_M) (T := F_M) (N := 38) hx hb hts (fun w h => List.mem_cons_of_mem _ (in_M w h)) hown hK hP 0 rfl rfl 12 (by decide) (hts _ (List.mem_cons_of_mem _ lk_150)) (fun _ h9 => h9) rfl d_M_figure_70 ?_
  refine lv_goto (tgt := 80) hx hb d_M_figure_73 (by decide) ?_
  have hP9 := hP.sub (ws' := [(a0, .inr (4, [.int 0, .int 0, .ref r0, .int 1, .int 0, .ref r1, .ref r2, .ref r3, .ref r4, .ref r5, .int 0, .int 0, .int (-1), .int 0, .int (-1), .int 0, .ref r6, .int 0, .ref r7, .ref r8, .ref r9, .ref r10, .ref r11, .int 0, .int 0, .int 0, .ref r12, .ref r13, .int 0, .ref r14, .ref r15, .ref r16, .ref r17, .ref r18, .int 0, .int 0, .int 0, .ref r19]))]) [0] rfl
  have hD9 := hD.sub (ws' := [(a0, .inr (4, [.int 0, .int 0, .ref r0, .int 1, .int 0, .ref r1, .ref r2, .ref r3, .ref r4, .ref r5, .int 0, .int 0, .int (-1), .int 0, .int (-1), .int 0, .ref r6, .int 0, .ref r7, .ref r8, .ref r9, .ref r10, .ref r11, .int 0, .int 0, .int 0, .ref r12, .ref r13, .int 0, .ref r14, .ref r15, .ref r16, .ref r17, .ref r18, .int 0, .int 0, .int 0, .ref r19]))]) [0] (by decide) rfl
  have hK9 := hK.sub (tys' := []) [] rfl
  exact W.iret (v := (-1)) hx hb hr (fun t ht hW => ⟨⟨(-1), (), rfl, rfl, by rw [ht]; exact hP9, va_K.moved hW.alike hK9, hD9⟩, hS.F ht⟩) hS.2.2 d_M_figure_80

set_option maxHeartbeats 4000000 in
set_option maxRecDepth 100000 in
theorem c_D_figure_5 (l : Launch) (dC : Nat → ClassId) (dI : Nat → Nat → Nat) (a0 r0 r1 r2 r3 r4 r5 r6 : Nat) (sz : Nat)  : Met l y_D_figure w_D_figure ({ frames := 0, cells := 0, slots := 0, locals := 0 }) (va_Pc [.ref a0, .int 4] (fun U => U.heap.size = sz ∧ va_P (dC, dI) vwCl [(a0, .inr (0, [.ref r0, .int 0, .ref r1, .int 1, .int 0, .ref r2, .int 0, .int (-1), .ref r3, .ref r4, .int 0, .int (-1), .ref r5, .ref r6]))] U.heap ∧ va_K (dC, dI) vwCl [] U ∧ va_D (fun _ => True) [(a0, .inr (0, [.ref r0, .int 0, .ref r1, .int 1, .int 0, .ref r2, .int 0, .int (-1), .ref r3, .ref r4, .int 0, .int (-1), .ref r5, .ref r6]))])) (va_Qi (fun (r : Int32) (_ : Unit) => r = 0) (fun (_ : Unit) t => va_P (dC, dI) vwCl [(a0, .inr (0, [.ref r0, .int 0, .ref r1, .int 1, .int 0, .ref r2, .int 0, .int (-1), .ref r3, .ref r4, .int 0, .int (-1), .ref r5, .ref r6]))] t.heap ∧ va_K (dC, dI) vwCl [] t ∧ va_D (va_A [(a0, .inr (0, [.ref r0, .int 0, .ref r1, .int 1, .int 0, .ref r2, .int 0, .int (-1), .ref r3, .ref r4, .int 0, .int (-1), .ref r5, .ref r6]))] sz) [(a0, .inr (0, [.ref r0, .int 0, .ref r1, .int 1, .int 0, .ref r2, .int 0, .int (-1), .ref r3, .ref r4, .int 0, .int (-1), .ref r5, .ref r6]))]) (va_A [(a0, .inr (0, [.ref r0, .int 0, .ref r1, .int 1, .int 0, .ref r2, .int 0, .int (-1), .ref r3, .ref r4, .int 0, .int (-1), .ref r5, .ref r6]))] sz)) 0 0 (va_A [(a0, .inr (0, [.ref r0, .int 0, .ref r1, .int 1, .int 0, .ref r2, .int 0, .int (-1), .ref r3, .ref r4, .int 0, .int (-1), .ref r5, .ref r6]))] sz) := by
  refine Met.ofW (cc := prog_1_method_17_code) (maxL := 2) (ret := (some .int)) (by decide) rfl ?_
  intro p e s m args below meth c s₁ B hml hv
  obtain ⟨rfl, hsz, hP, hK, hD0⟩ := hv
  have hx := B.exec
  have hb := B.bytes
  have hr := B.returns
  have hts := atoms_spec (ws := w_D_figure) B.pre
  have hown : s.vm.findClass R_D = some m.cls := findClass_of_methodNamed B.named
  have hlocks := B.notSynchronized
  subst hsz
  have hD := hD0.self (sz := s.heap.size)
  generalize hAe : va_A [(a0, .inr (0, [.ref r0, .int 0, .ref r1, .int 1, .int 0, .ref r2, .int 0, .int (-1), .ref r3, .ref r4, .int 0, .int (-1), .ref r5, .ref r6]))] s.heap.size = A at hD ⊢
  have hA : ∀ q : Nat, s.heap.size ≤ q → A q := fun q h => by rw [← hAe]; exact Or.inr h
  have hS : va_S A s.heap s.heap [] := va_S.rf
  have hP : va_P (dC, dI) vwCl [(a0, .inr (0, [.ref r0, .int 0, .ref r1, .int 1, .int 0, .ref r2, .int 0, .int (-1), .ref r3, .ref r4, .int 0, .int (-1), .ref r5, .ref r6]))] s.heap := hP
  have hl := lv_entry ([.ref a0, .int 4]) (n := 2) (Nat.le_of_ble_eq_true rfl)
  rw [lg_entry_eq]
  generalize (lg_sl ([.ref a0, .int 4]) ++ List.replicate (2 - (lg_sl ([.ref a0, .int 4])).length) Slot.unset).toArray = ls at hl ⊢
  have hl : lv_has ls 2 [(0, .ref a0), (1, .int 4)] := hl
  refine lv_iload_n hx hb d_D_figure_0 rfl (lv_at hl 1 rfl) ?_
  refine lv_tableIn (off := 55) (tgt := 56) hx hb d_D_figure_1 (by decide) (by decide) (by decide) (by decide) ?_
  refine lv_aload_n hx hb d_D_figure_56 rfl (lv_at hl 0 rfl) ?_
  refine va_get (D := (dC, dI)) (ci := 0) (v := .int 0) (C := R_D) (T := F_D) (N := 14) hx hb hts (fun w h => List.mem_cons_of_mem _ (in_D w h)) hown hK hP 0 rfl rfl 1 (by decide) (hts _ (List.mem_cons_of_mem _ lk_170)) (fun _ h9 => h9) rfl d_D_figure_57 ?_
  have hP9 := hP.sub (ws' := [(a0, .inr (0, [.ref r0, .int 0, .ref r1, .int 1, .int 0, .ref r2, .int 0, .int (-1), .ref r3, .ref r4, .int 0, .int (-1), .ref r5, .ref r6]))]) [0] rfl
  have hD9 := hD.sub (ws' := [(a0, .inr (0, [.ref r0, .int 0, .ref r1, .int 1, .int 0, .ref r2, .int 0, .int (-1), .ref r3, .ref r4, .int 0, .int (-1), .ref r5, .ref r6]))]) [0] (by decide) rfl
  have hK9 := hK.sub (tys' := []) [] rfl
  exact W.iret (v := 0) hx hb hr (fun t ht hW => ⟨⟨0, (), rfl, rfl, by rw [ht]; exact hP9, va_K.moved hW.alike hK9, hD9⟩, hS.F ht⟩) hS.2.2 d_D_figure_60

set_option maxHeartbeats 4000000 in
set_option maxRecDepth 100000 in
theorem c_L_figure_5 (l : Launch) (dC : Nat → ClassId) (dI : Nat → Nat → Nat) (a0 a1 r0 r1 r2 r3 r4 r5 r6 : Nat) (t0 : ClassId) (sz : Nat)  : Met l y_L_figure w_L_figure ({ frames := 1, cells := 0, slots := 0, locals := 21 }) (va_Pc [.ref a0, .int 4, .ref a1] (fun U => U.heap.size = sz ∧ va_P (dC, dI) vwCl [(a0, .inr (0, [.ref r0, .int 0, .ref r1, .int 1, .int 0, .ref r2, .int 0, .int (-1), .ref r3, .ref r4, .int 0, .int (-1), .ref r5, .ref r6])), (a1, .inl (t0, 1, .inr (.inl (fun _ => 0))))] U.heap ∧ va_K (dC, dI) vwCl [(t0, .long)] U ∧ va_D (fun _ => True) [(a0, .inr (0, [.ref r0, .int 0, .ref r1, .int 1, .int 0, .ref r2, .int 0, .int (-1), .ref r3, .ref r4, .int 0, .int (-1), .ref r5, .ref r6])), (a1, .inl (t0, 1, .inr (.inl (fun _ => 0))))])) (va_Qi (fun (r : Int32) (_ : Unit) => r = 0) (fun (_ : Unit) t => va_P (dC, dI) vwCl [(a0, .inr (0, [.ref r0, .int 0, .ref r1, .int 1, .int 0, .ref r2, .int 0, .int (-1), .ref r3, .ref r4, .int 0, .int (-1), .ref r5, .ref r6])), (a1, .inl (t0, 1, .inr (.inl (vp_updL (fun _ => 0) 0 0))))] t.heap ∧ va_K (dC, dI) vwCl [(t0, .long)] t ∧ va_D (va_A [(a0, .inr (0, [.ref r0, .int 0, .ref r1, .int 1, .int 0, .ref r2, .int 0, .int (-1), .ref r3, .ref r4, .int 0, .int (-1), .ref r5, .ref r6])), (a1, .inl (t0, 1, .inr (.inl (fun _ => 0))))] sz) [(a0, .inr (0, [.ref r0, .int 0, .ref r1, .int 1, .int 0, .ref r2, .int 0, .int (-1), .ref r3, .ref r4, .int 0, .int (-1), .ref r5, .ref r6])), (a1, .inl (t0, 1, .inr (.inl (vp_updL (fun _ => 0) 0 0))))]) (va_A [(a0, .inr (0, [.ref r0, .int 0, .ref r1, .int 1, .int 0, .ref r2, .int 0, .int (-1), .ref r3, .ref r4, .int 0, .int (-1), .ref r5, .ref r6])), (a1, .inl (t0, 1, .inr (.inl (fun _ => 0))))] sz)) 0 0 (va_A [(a0, .inr (0, [.ref r0, .int 0, .ref r1, .int 1, .int 0, .ref r2, .int 0, .int (-1), .ref r3, .ref r4, .int 0, .int (-1), .ref r5, .ref r6])), (a1, .inl (t0, 1, .inr (.inl (fun _ => 0))))] sz) := by
  refine th_ofWw (tab := [(0, 9, 12, 28)]) (cc := method_14_code) (maxL := 4) (ret := (some .int)) (by decide) rfl ?_
  intro p e s m args below meth c s₁ B hml htab hv
  obtain ⟨rfl, hsz, hP, hK, hD0⟩ := hv
  have hx := B.exec
  have hb := B.bytes
  have hr := B.returns
  have hts := atoms_spec (ws := w_L_figure) B.pre
  have hown : s.vm.findClass R_L = some m.cls := findClass_of_methodNamed B.named
  have hlocks := B.notSynchronized
  subst hsz
  have hD := hD0.self (sz := s.heap.size)
  generalize hAe : va_A [(a0, .inr (0, [.ref r0, .int 0, .ref r1, .int 1, .int 0, .ref r2, .int 0, .int (-1), .ref r3, .ref r4, .int 0, .int (-1), .ref r5, .ref r6])), (a1, .inl (t0, 1, .inr (.inl (fun _ => 0))))] s.heap.size = A at hD ⊢
  have hA : ∀ q : Nat, s.heap.size ≤ q → A q := fun q h => by rw [← hAe]; exact Or.inr h
  have hS : va_S A s.heap s.heap [] := va_S.rf
  have hP : va_P (dC, dI) vwCl [(a0, .inr (0, [.ref r0, .int 0, .ref r1, .int 1, .int 0, .ref r2, .int 0, .int (-1), .ref r3, .ref r4, .int 0, .int (-1), .ref r5, .ref r6])), (a1, .inl (t0, 1, .inr (.inl (fun _ => 0))))] s.heap := hP
  have hl := lv_entry ([.ref a0, .int 4, .ref a1]) (n := 4) (Nat.le_of_ble_eq_true rfl)
  rw [lg_entry_eq]
  generalize (lg_sl ([.ref a0, .int 4, .ref a1]) ++ List.replicate (4 - (lg_sl ([.ref a0, .int 4, .ref a1])).length) Slot.unset).toArray = ls at hl ⊢
  have hl : lv_has ls 4 [(0, .ref a0), (1, .int 4), (2, .ref a1)] := hl
  refine lv_aload_n hx hb d_L_figure_0 rfl (lv_at hl 2 rfl) ?_
  refine lv_iconst (v := 0) hx hb d_L_figure_1 (by decide) ?_
  refine lv_aload_n hx hb d_L_figure_2 rfl (lv_at hl 0 rfl) ?_
  refine lv_iload_n hx hb d_L_figure_3 rfl (lv_at hl 1 rfl) ?_
  have hPc := hP.sub (ws' := [(a0, .inr (0, [.ref r0, .int 0, .ref r1, .int 1, .int 0, .ref r2, .int 0, .int (-1), .ref r3, .ref r4, .int 0, .int (-1), .ref r5, .ref r6]))]) [0] rfl
  have hDc := hD.sub (ws' := [(a0, .inr (0, [.ref r0, .int 0, .ref r1, .int 1, .int 0, .ref r2, .int 0, .int (-1), .ref r3, .ref r4, .int 0, .int (-1), .ref r5, .ref r6]))]) [0] (by decide) rfl
  have hKc := hK.sub (tys' := []) [] rfl
  have hFc := va_free (wc := [(a0, .inr (0, [.ref r0, .int 0, .ref r1, .int 1, .int 0, .ref r2, .int 0, .int (-1), .ref r3, .ref r4, .int 0, .int (-1), .ref r5, .ref r6]))]) hD hS hA [0] rfl
  refine va_calli (va_runV (As := [.int 4]) (rest := [.int 0, .ref a1]) ⟨hx, hb, hml, hown, hts⟩ (c_D_figure_5 l dC dI a0 r0 r1 r2 r3 r4 r5 r6 s.heap.size) (cwV 1 hts (gd_v lk_495 lk_496 lk_497 lk_16 lk_494) rfl rfl rfl (by decide +kernel) ⟨Nat.le_of_ble_eq_true rfl, Nat.le_of_ble_eq_true rfl⟩) ⟨fun a U g mk q => by obtain ⟨q0, q1, qP, qK, qD⟩ := q; exact ⟨q0, q1, qP, va_K.moved (u := U) (U := U.calling g mk a) (Vm.Alike.refl U.vm) qK, qD⟩, va_recv (ci := 0) (q0 := 0) hK hP rfl rfl, fun U hU hW => ⟨rfl, by rw [hU], by rw [hU]; exact hPc, va_K.moved hW.alike hKc, hDc.weaken (fun _ _ _ _ => trivial)⟩⟩ rfl rfl hl.1 rfl (lv_room (Nat.le_of_ble_eq_true rfl)) d_L_figure_4 ⟨Nat.le_of_ble_eq_true rfl, Nat.le_of_ble_eq_true rfl⟩) hS (fun q _ h => hFc q h) hFc (fun r u t H1 locs ht hvm hw hB hz1 hk1 hS => ?_)
  obtain ⟨hP1, hK1, hD1⟩ := hB
  rw [ht] at hP1
  have hK1 := va_K.moved hvm.symm hK1
  subst hw
  obtain ⟨hP, hD⟩ := va_join (wr := [(a1, .inl (t0, 1, .inr (.inl (fun _ => 0))))]) (w1 := [(a0, .inr (0, [.ref r0, .int 0, .ref r1, .int 1, .int 0, .ref r2, .int 0, .int (-1), .ref r3, .ref r4, .int 0, .int (-1), .ref r5, .ref r6]))]) hP hD [0] [1] rfl rfl (by decide) (by decide) hk1 hFc hP1 hD1
  generalize H1 = H at hP hS ⊢
  have hP : va_P (dC, dI) vwCl [(a1, .inl (t0, 1, .inr (.inl (fun _ => 0)))), (a0, .inr (0, [.ref r0, .int 0, .ref r1, .int 1, .int 0, .ref r2, .int 0, .int (-1), .ref r3, .ref r4, .int 0, .int (-1), .ref r5, .ref r6]))] H := hP
  have hD : va_D A [(a1, .inl (t0, 1, .inr (.inl (fun _ => 0)))), (a0, .inr (0, [.ref r0, .int 0, .ref r1, .int 1, .int 0, .ref r2, .int 0, .int (-1), .ref r3, .ref r4, .int 0, .int (-1), .ref r5, .ref r6]))] := hD
  refine lv_i2l (v := 0) hx hb d_L_figure_7 (by decide +kernel) ?_
  refine va_last hx hb hK hP hD hS 0 0 rfl rfl (wk_in (by decide +kernel)) d_L_figure_8 (fun H locs hP hD hS => ?_)
  have hP : va_P (dC, dI) vwCl [(a1, .inl (t0, 1, .inr (.inl (vp_updL (fun _ => 0) 0 0)))), (a0, .inr (0, [.ref r0, .int 0, .ref r1, .int 1, .int 0, .ref r2, .int 0, .int (-1), .ref r3, .ref r4, .int 0, .int (-1), .ref r5, .ref r6]))] H := hP
  have hD : va_D A [(a1, .inl (t0, 1, .inr (.inl (vp_updL (fun _ => 0) 0 0)))), (a0, .inr (0, [.ref r0, .int 0, .ref r1, .int 1, .int 0, .ref r2, .int 0, .int (-1), .ref r3, .ref r4, .int 0, .int (-1), .ref r5, .ref r6]))] := hD
  refine lv_goto (tgt := 15) hx hb d_L_figure_9 (by decide) ?_
  refine lv_iconst (v := 0) hx hb d_L_figure_15 (by decide) ?_
  have hP9 := hP.sub (ws' := [(a0, .inr (0, [.ref r0, .int 0, .ref r1, .int 1, .int 0, .ref r2, .int 0, .int (-1), .ref r3, .ref r4, .int 0, .int (-1), .ref r5, .ref r6])), (a1, .inl (t0, 1, .inr (.inl (vp_updL (fun _ => 0) 0 0))))]) [1, 0] rfl
  have hD9 := hD.sub (ws' := [(a0, .inr (0, [.ref r0, .int 0, .ref r1, .int 1, .int 0, .ref r2, .int 0, .int (-1), .ref r3, .ref r4, .int 0, .int (-1), .ref r5, .ref r6])), (a1, .inl (t0, 1, .inr (.inl (vp_updL (fun _ => 0) 0 0))))]) [1, 0] (by decide) rfl
  have hK9 := hK.sub (tys' := [(t0, .long)]) [0] rfl
  exact W.iret (v := 0) hx hb hr (fun t ht hW => ⟨⟨0, (), rfl, rfl, by rw [ht]; exact hP9, va_K.moved hW.alike hK9, hD9⟩, hS.F ht⟩) hS.2.2 d_L_figure_16

set_option maxHeartbeats 4000000 in
set_option maxRecDepth 100000 in
theorem c_M_figure_5 (l : Launch) (dC : Nat → ClassId) (dI : Nat → Nat → Nat) (a0 r0 r1 r2 r3 r4 r5 r6 r7 r8 r9 r10 r11 r12 r13 r14 r15 r16 r17 r18 r19 : Nat) (sz : Nat)  : Met l y_M_figure w_M_figure ({ frames := 0, cells := 0, slots := 0, locals := 0 }) (va_Pc [.ref a0, .int 4] (fun U => U.heap.size = sz ∧ va_P (dC, dI) vwCl [(a0, .inr (4, [.int 0, .int 0, .ref r0, .int 1, .int 0, .ref r1, .ref r2, .ref r3, .ref r4, .ref r5, .int 0, .int 0, .int (-1), .int 0, .int (-1), .int 0, .ref r6, .int 0, .ref r7, .ref r8, .ref r9, .ref r10, .ref r11, .int 0, .int 0, .int 0, .ref r12, .ref r13, .int 0, .ref r14, .ref r15, .ref r16, .ref r17, .ref r18, .int 0, .int 0, .int 0, .ref r19]))] U.heap ∧ va_K (dC, dI) vwCl [] U ∧ va_D (fun _ => True) [(a0, .inr (4, [.int 0, .int 0, .ref r0, .int 1, .int 0, .ref r1, .ref r2, .ref r3, .ref r4, .ref r5, .int 0, .int 0, .int (-1), .int 0, .int (-1), .int 0, .ref r6, .int 0, .ref r7, .ref r8, .ref r9, .ref r10, .ref r11, .int 0, .int 0, .int 0, .ref r12, .ref r13, .int 0, .ref r14, .ref r15, .ref r16, .ref r17, .ref r18, .int 0, .int 0, .int 0, .ref r19]))])) (va_Qi (fun (r : Int32) (_ : Unit) => r = 0) (fun (_ : Unit) t => va_P (dC, dI) vwCl [(a0, .inr (4, [.int 0, .int 0, .ref r0, .int 1, .int 0, .ref r1, .ref r2, .ref r3, .ref r4, .ref r5, .int 0, .int 0, .int (-1), .int 0, .int (-1), .int 0, .ref r6, .int 0, .ref r7, .ref r8, .ref r9, .ref r10, .ref r11, .int 0, .int 0, .int 0, .ref r12, .ref r13, .int 0, .ref r14, .ref r15, .ref r16, .ref r17, .ref r18, .int 0, .int 0, .int 0, .ref r19]))] t.heap ∧ va_K (dC, dI) vwCl [] t ∧ va_D (va_A [(a0, .inr (4, [.int 0, .int 0, .ref r0, .int 1, .int 0, .ref r1, .ref r2, .ref r3, .ref r4, .ref r5, .int 0, .int 0, .int (-1), .int 0, .int (-1), .int 0, .ref r6, .int 0, .ref r7, .ref r8, .ref r9, .ref r10, .ref r11, .int 0, .int 0, .int 0, .ref r12, .ref r13, .int 0, .ref r14, .ref r15, .ref r16, .ref r17, .ref r18, .int 0, .int 0, .int 0, .ref r19]))] sz) [(a0, .inr (4, [.int 0, .int 0, .ref r0, .int 1, .int 0, .ref r1, .ref r2, .ref r3, .ref r4, .ref r5, .int 0, .int 0, .int (-1), .int 0, .int (-1), .int 0, .ref r6, .int 0, .ref r7, .ref r8, .ref r9, .ref r10, .ref r11, .int 0, .int 0, .int 0, .ref r12, .ref r13, .int 0, .ref r14, .ref r15, .ref r16, .ref r17, .ref r18, .int 0, .int 0, .int 0, .ref r19]))]) (va_A [(a0, .inr (4, [.int 0, .int 0, .ref r0, .int 1, .int 0, .ref r1, .ref r2, .ref r3, .ref r4, .ref r5, .int 0, .int 0, .int (-1), .int 0, .int (-1), .int 0, .ref r6, .int 0, .ref r7, .ref r8, .ref r9, .ref r10, .ref r11, .int 0, .int 0, .int 0, .ref r12, .ref r13, .int 0, .ref r14, .ref r15, .ref r16, .ref r17, .ref r18, .int 0, .int 0, .int 0, .ref r19]))] sz)) 0 0 (va_A [(a0, .inr (4, [.int 0, .int 0, .ref r0, .int 1, .int 0, .ref r1, .ref r2, .ref r3, .ref r4, .ref r5, .int 0, .int 0, .int (-1), .int 0, .int (-1), .int 0, .ref r6, .int 0, .ref r7, .ref r8, .ref r9, .ref r10, .ref r11, .int 0, .int 0, .int 0, .ref r12, .ref r13, .int 0, .ref r14, .ref r15, .ref r16, .ref r17, .ref r18, .int 0, .int 0, .int 0, .ref r19]))] sz) := by
  refine Met.ofW (cc := prog_6_method_52_code) (maxL := 2) (ret := (some .int)) (by decide) rfl ?_
  intro p e s m args below meth c s₁ B hml hv
  obtain ⟨rfl, hsz, hP, hK, hD0⟩ := hv
  have hx := B.exec
  have hb := B.bytes
  have hr := B.returns
  have hts := atoms_spec (ws := w_M_figure) B.pre
  have hown : s.vm.findClass R_M = some m.cls := findClass_of_methodNamed B.named
  have hlocks := B.notSynchronized
  subst hsz
  have hD := hD0.self (sz := s.heap.size)
  generalize hAe : va_A [(a0, .inr (4, [.int 0, .int 0, .ref r0, .int 1, .int 0, .ref r1, .ref r2, .ref r3, .ref r4, .ref r5, .int 0, .int 0, .int (-1), .int 0, .int (-1), .int 0, .ref r6, .int 0, .ref r7, .ref r8, .ref r9, .ref r10, .ref r11, .int 0, .int 0, .int 0, .ref r12, .ref r13, .int 0, .ref r14, .ref r15, .ref r16, .ref r17, .ref r18, .int 0, .int 0, .int 0, .ref r19]))] s.heap.size = A at hD ⊢
  have hA : ∀ q : Nat, s.heap.size ≤ q → A q := fun q h => by rw [← hAe]; exact Or.inr h
  have hS : va_S A s.heap s.heap [] := va_S.rf
  have hP : va_P (dC, dI) vwCl [(a0, .inr (4, [.int 0, .int 0, .ref r0, .int 1, .int 0, .ref r1, .ref r2, .ref r3, .ref r4, .ref r5, .int 0, .int 0, .int (-1), .int 0, .int (-1), .int 0, .ref r6, .int 0, .ref r7, .ref r8, .ref r9, .ref r10, .ref r11, .int 0, .int 0, .int 0, .ref r12, .ref r13, .int 0, .ref r14, .ref r15, .ref r16, .ref r17, .ref r18, .int 0, .int 0, .int 0, .ref r19]))] s.heap := hP
  have hl := lv_entry ([.ref a0, .int 4]) (n := 2) (Nat.le_of_ble_eq_true rfl)
  rw [lg_entry_eq]
  generalize (lg_sl ([.ref a0, .int 4]) ++ List.replicate (2 - (lg_sl ([.ref a0, .int 4])).length) Slot.unset).toArray = ls at hl ⊢
  have hl : lv_has ls 2 [(0, .ref a0), (1, .int 4)] := hl
  refine lv_aload_n hx hb d_M_figure_0 rfl (lv_at hl 0 rfl) ?_
  refine lv_iload_n hx hb d_M_figure_1 rfl (lv_at hl 1 rfl) ?_
  refine lv_if_lt (tgt := 10) hx hb d_M_figure_2 (by decide) (fun h => absurd h (by decide +kernel)) (fun _ => ?_)
  refine lv_iload_n hx hb d_M_figure_5 rfl (lv_at hl 1 rfl) ?_
  refine lv_iconst (v := 4) hx hb d_M_figure_6 (by decide) ?_
  refine lv_icmp_le (tgt := 14) hx hb d_M_figure_7 (by decide) (fun _ => ?_) (fun h => absurd (by decide +kernel) h)
  refine lv_iconst (v := 0) hx hb d_M_figure_14 (by decide) ?_
  refine va_put (D := (dC, dI)) (ci := 4) (v := .int 0) (ty := .int) (C := R_M) (T := F_M) (N := 38) hx hb hts (fun w h => List.mem_cons_of_mem _ (in_M w h)) t_M tk_M n_M hown hK hP hD hS 0 rfl rfl 0 (by decide) (hts _ (List.mem_cons_of_mem _ lk_175)) (fun _ h9 => h9) rfl (by decide +kernel) rfl rfl (Nat.le_of_ble_eq_true rfl) d_M_figure_15 (fun H locs hP hD hS => ?_)
  have hP : va_P (dC, dI) vwCl [(a0, .inr (4, [.int 0, .int 0, .ref r0, .int 1, .int 0, .ref r1, .ref r2, .ref r3, .ref r4, .ref r5, .int 0, .int 0, .int (-1), .int 0, .int (-1), .int 0, .ref r6, .int 0, .ref r7, .ref r8, .ref r9, .ref r10, .ref r11, .int 0, .int 0, .int 0, .ref r12, .ref r13, .int 0, .ref r14, .ref r15, .ref r16, .ref r17, .ref r18, .int 0, .int 0, .int 0, .ref r19]))] H := hP
  have hD : va_D A [(a0, .inr (4, [.int 0, .int 0, .ref r0, .int 1, .int 0, .ref r1, .ref r2, .ref r3, .ref r4, .ref r5, .int 0, .int 0, .int (-1), .int 0, .int (-1), .int 0, .ref r6, .int 0, .ref r7, .ref r8, .ref r9, .ref r10, .ref r11, .int 0, .int 0, .int 0, .ref r12, .ref r13, .int 0, .ref r14, .ref r15, .ref r16, .ref r17, .ref r18, .int 0, .int 0, .int 0, .ref r19]))] := hD
  refine lv_aload_n hx hb d_M_figure_18 rfl (lv_at hl 0 rfl) ?_
  refine va_get (D := (dC, dI)) (ci := 4) (v := .int 0) (C := R_M) (T := F_M) (N := 38) hx hb hts (fun w h => List.mem_cons_of_mem _ (in_M w h)) hown hK hP 0 rfl rfl 0 (by decide) (hts _ (List.mem_cons_of_mem _ lk_175)) (fun _ h9 => h9) rfl d_M_figure_19 ?_
  refine lv_if_le (tgt := 29) hx hb d_M_figure_22 (by decide) (fun _ => ?_) (fun h => absurd (by decide +kernel) h)
  refine lv_iload_n hx hb d_M_figure_29 rfl (lv_at hl 1 rfl) ?_
  refine lv_if_ne (tgt := 40) hx hb d_M_figure_30 (by decide) (fun _ => ?_) (fun h => absurd h (by decide +kernel))
  refine lv_iload_n hx hb d_M_figure_40 rfl (lv_at hl 1 rfl) ?_
  refine lv_iconst (v := 1) hx hb d_M_figure_41 (by decide) ?_
  refine lv_icmp_ne (tgt := 52) hx hb d_M_figure_42 (by decide) (fun _ => ?_) (fun h => absurd h (by decide +kernel))
  refine lv_iload_n hx hb d_M_figure_52 rfl (lv_at hl 1 rfl) ?_
  refine lv_iconst (v := 2) hx hb d_M_figure_53 (by decide) ?_
  refine lv_icmp_ne (tgt := 64) hx hb d_M_figure_54 (by decide) (fun _ => ?_) (fun h => absurd h (by decide +kernel))
  refine lv_iload_n hx hb d_M_figure_64 rfl (lv_at hl 1 rfl) ?_
  refine lv_iconst (v := 3) hx hb d_M_figure_65 (by decide) ?_
  refine lv_icmp_ne (tgt := 76) hx hb d_M_figure_66 (by decide) (fun _ => ?_) (fun h => absurd h (by decide +kernel))
  refine lv_aload_n hx hb d_M_figure_76 rfl (lv_at hl 0 rfl) ?_
  refine va_get (D := (dC, dI)) (ci := 4) (v := .int 0) (C := R_M) (T := F_M) (N := 38) hx hb hts (fun w h => List.mem_cons_of_mem _ (in_M w h)) hown hK hP 0 rfl rfl 1 (by decide) (hts _ (List.mem_cons_of_mem _ lk_179)) (fun _ h9 => h9) rfl d_M_figure_77 ?_
  have hP9 := hP.sub (ws' := [(a0, .inr (4, [.int 0, .int 0, .ref r0, .int 1, .int 0, .ref r1, .ref r2, .ref r3, .ref r4, .ref r5, .int 0, .int 0, .int (-1), .int 0, .int (-1), .int 0, .ref r6, .int 0, .ref r7, .ref r8, .ref r9, .ref r10, .ref r11, .int 0, .int 0, .int 0, .ref r12, .ref r13, .int 0, .ref r14, .ref r15, .ref r16, .ref r17, .ref r18, .int 0, .int 0, .int 0, .ref r19]))]) [0] rfl
  have hD9 := hD.sub (ws' := [(a0, .inr (4, [.int 0, .int 0, .ref r0, .int 1, .int 0, .ref r1, .ref r2, .ref r3, .ref r4, .ref r5, .int 0, .int 0, .int (-1), .int 0, .int (-1), .int 0, .ref r6, .int 0, .ref r7, .ref r8, .ref r9, .ref r10, .ref r11, .int 0, .int 0, .int 0, .ref r12, .ref r13, .int 0, .ref r14, .ref r15, .ref r16, .ref r17, .ref r18, .int 0, .int 0, .int 0, .ref r19]))]) [0] (by decide) rfl
  have hK9 := hK.sub (tys' := []) [] rfl
  exact W.iret (v := 0) hx hb hr (fun t ht hW => ⟨⟨0, (), rfl, rfl, by rw [ht]; exact hP9, va_K.moved hW.alike hK9, hD9⟩, hS.F ht⟩) hS.2.2 d_M_figure_80

set_option maxHeartbeats 4000000 in
set_option maxRecDepth 100000 in
theorem c_D_figure_6 (l : Launch) (hfl : l.flags = flags0) (dC : Nat → ClassId) (dI : Nat → Nat → Nat) (a0 r0 r1 r2 r3 r4 r5 r6 : Nat) (sz : Nat) (k0 : Int32) (hh0 : ¬ k0.toInt = 0) (hh1 : ¬ k0.toInt = 1) (hh2 : ¬ k0.toInt = 2) (hh3 : ¬ k0.toInt = 3) (hh4 : ¬ k0.toInt = 4) : th_Met l y_D_figure w_D_figure ({ frames := 6, cells := 1, slots := 6, locals := 81 }) (va_Pc [.ref a0, .int k0] (fun U => U.heap.size = sz ∧ va_P (dC, dI) vwCl [(a0, .inr (0, [.ref r0, .int 0, .ref r1, .int 1, .int 0, .ref r2, .int 0, .int (-1), .ref r3, .ref r4, .int 0, .int (-1), .ref r5, .ref r6]))] U.heap ∧ va_K (dC, dI) vwCl [] U ∧ va_D (fun _ => True) [(a0, .inr (0, [.ref r0, .int 0, .ref r1, .int 1, .int 0, .ref r2, .int 0, .int (-1), .ref r3, .ref r4, .int 0, .int (-1), .ref r5, .ref r6]))] ∧ th_Zs U)) (th_Qn "java/lang/IllegalArgumentException") 1 6 (fun _ => False) := by
  refine th_Met.ofW (cc := prog_1_method_17_code) (maxL := 2) (ret := (some .int)) (by decide) rfl ?_
  intro p e s m args below meth c s₁ B hml hnh hv
  obtain ⟨rfl, hsz, hP, hK, hD0, hZ⟩ := hv
  have hx := B.exec
  have hb := B.bytes
  have hr := B.returns
  have hts := atoms_spec (ws := w_D_figure) B.pre
  have hown : s.vm.findClass R_D = some m.cls := findClass_of_methodNamed B.named
  have hlocks := B.notSynchronized
  have htr := Launch.traces_off hfl B.admits
  subst hsz
  have hD := hD0.self (sz := s.heap.size)
  generalize hAe : va_A [(a0, .inr (0, [.ref r0, .int 0, .ref r1, .int 1, .int 0, .ref r2, .int 0, .int (-1), .ref r3, .ref r4, .int 0, .int (-1), .ref r5, .ref r6]))] s.heap.size = A at hD
  have hA : ∀ q : Nat, s.heap.size ≤ q → A q := fun q h => by rw [← hAe]; exact Or.inr h
  have hS : va_S A s.heap s.heap [] := va_S.rf
  have hP : va_P (dC, dI) vwCl [(a0, .inr (0, [.ref r0, .int 0, .ref r1, .int 1, .int 0, .ref r2, .int 0, .int (-1), .ref r3, .ref r4, .int 0, .int (-1), .ref r5, .ref r6]))] s.heap := hP
  have hl := lv_entry ([.ref a0, .int k0]) (n := 2) (Nat.le_of_ble_eq_true rfl)
  rw [lg_entry_eq]
  generalize (lg_sl ([.ref a0, .int k0]) ++ List.replicate (2 - (lg_sl ([.ref a0, .int k0])).length) Slot.unset).toArray = ls at hl ⊢
  have hl : lv_has ls 2 [(0, .ref a0), (1, .int k0)] := hl
  refine lv_iload_n hx hb d_D_figure_0 rfl (lv_at hl 1 rfl) ?_
  refine lv_tableOut (tgt := 61) hx hb d_D_figure_1 (by omega) (by decide) ?_
  exact th_new hx hb htr hown (by decide) (by decide) (oa_3 hts hZ) (hts _ (List.mem_cons_of_mem _ lk_441)) (hts _ (List.mem_cons_of_mem _ lk_442)) hnh (by rw [hl.1, hml]) hS.1 (Nat.le_of_ble_eq_true rfl) (Nat.le_of_ble_eq_true rfl) (Nat.le_of_ble_eq_true rfl) (Nat.le_of_ble_eq_true rfl) hlocks d_D_figure_61 d_D_figure_64 d_D_figure_65 d_D_figure_68

set_option maxHeartbeats 4000000 in
set_option maxRecDepth 100000 in
theorem c_L_figure_6 (l : Launch) (hfl : l.flags = flags0) (dC : Nat → ClassId) (dI : Nat → Nat → Nat) (a0 r0 r1 r2 r3 r4 r5 r6 r7 : Nat) (sz : Nat) (k0 : Int32) (hh0 : ¬ k0.toInt = 0) (hh1 : ¬ k0.toInt = 1) (hh2 : ¬ k0.toInt = 2) (hh3 : ¬ k0.toInt = 3) (hh4 : ¬ k0.toInt = 4) : Met l y_L_figure w_L_figure ({ frames := 7, cells := 1, slots := 6, locals := 102 }) (va_Pc [.ref a0, .int k0, .ref r7] (fun U => U.heap.size = sz ∧ va_P (dC, dI) vwCl [(a0, .inr (0, [.ref r0, .int 0, .ref r1, .int 1, .int 0, .ref r2, .int 0, .int (-1), .ref r3, .ref r4, .int 0, .int (-1), .ref r5, .ref r6]))] U.heap ∧ va_K (dC, dI) vwCl [] U ∧ va_D (fun _ => True) [(a0, .inr (0, [.ref r0, .int 0, .ref r1, .int 1, .int 0, .ref r2, .int 0, .int (-1), .ref r3, .ref r4, .int 0, .int (-1), .ref r5, .ref r6]))] ∧ th_Zs U)) (va_Qi (fun (r : Int32) (_ : Unit) => r = 1) (fun (_ : Unit) t => va_P (dC, dI) vwCl [(a0, .inr (0, [.ref r0, .int 0, .ref r1, .int 1, .int 0, .ref r2, .int 0, .int (-1), .ref r3, .ref r4, .int 0, .int (-1), .ref r5, .ref r6]))] t.heap ∧ va_K (dC, dI) vwCl [] t ∧ va_D (va_A [(a0, .inr (0, [.ref r0, .int 0, .ref r1, .int 1, .int 0, .ref r2, .int 0, .int (-1), .ref r3, .ref r4, .int 0, .int (-1), .ref r5, .ref r6]))] sz) [(a0, .inr (0, [.ref r0, .int 0, .ref r1, .int 1, .int 0, .ref r2, .int 0, .int (-1), .ref r3, .ref r4, .int 0, .int (-1), .ref r5, .ref r6]))]) (va_A [(a0, .inr (0, [.ref r0, .int 0, .ref r1, .int 1, .int 0, .ref r2, .int 0, .int (-1), .ref r3, .ref r4, .int 0, .int (-1), .ref r5, .ref r6]))] sz)) 1 6 (va_A [(a0, .inr (0, [.ref r0, .int 0, .ref r1, .int 1, .int 0, .ref r2, .int 0, .int (-1), .ref r3, .ref r4, .int 0, .int (-1), .ref r5, .ref r6]))] sz) := by
  refine th_ofWw (tab := [(0, 9, 12, 28)]) (cc := method_14_code) (maxL := 4) (ret := (some .int)) (by decide) rfl ?_
  intro p e s m args below meth c s₁ B hml htab hv
  obtain ⟨rfl, hsz, hP, hK, hD0, hZ⟩ := hv
  have hx := B.exec
  have hb := B.bytes
  have hr := B.returns
  have hts := atoms_spec (ws := w_L_figure) B.pre
  have hown : s.vm.findClass R_L = some m.cls := findClass_of_methodNamed B.named
  have hlocks := B.notSynchronized
  have htr := Launch.traces_off hfl B.admits
  subst hsz
  have hD := hD0.self (sz := s.heap.size)
  generalize hAe : va_A [(a0, .inr (0, [.ref r0, .int 0, .ref r1, .int 1, .int 0, .ref r2, .int 0, .int (-1), .ref r3, .ref r4, .int 0, .int (-1), .ref r5, .ref r6]))] s.heap.size = A at hD ⊢
  have hA : ∀ q : Nat, s.heap.size ≤ q → A q := fun q h => by rw [← hAe]; exact Or.inr h
  have hS : va_S A s.heap s.heap [] := va_S.rf
  have hP : va_P (dC, dI) vwCl [(a0, .inr (0, [.ref r0, .int 0, .ref r1, .int 1, .int 0, .ref r2, .int 0, .int (-1), .ref r3, .ref r4, .int 0, .int (-1), .ref r5, .ref r6]))] s.heap := hP
  have hl := lv_entry ([.ref a0, .int k0, .ref r7]) (n := 4) (Nat.le_of_ble_eq_true rfl)
  rw [lg_entry_eq]
  generalize (lg_sl ([.ref a0, .int k0, .ref r7]) ++ List.replicate (4 - (lg_sl ([.ref a0, .int k0, .ref r7])).length) Slot.unset).toArray = ls at hl ⊢
  have hl : lv_has ls 4 [(0, .ref a0), (1, .int k0), (2, .ref r7)] := hl
  refine lv_aload_n hx hb d_L_figure_0 rfl (lv_at hl 2 rfl) ?_
  refine lv_iconst (v := 0) hx hb d_L_figure_1 (by decide) ?_
  refine lv_aload_n hx hb d_L_figure_2 rfl (lv_at hl 0 rfl) ?_
  refine lv_iload_n hx hb d_L_figure_3 rfl (lv_at hl 1 rfl) ?_
  have hPc := hP.sub (ws' := [(a0, .inr (0, [.ref r0, .int 0, .ref r1, .int 1, .int 0, .ref r2, .int 0, .int (-1), .ref r3, .ref r4, .int 0, .int (-1), .ref r5, .ref r6]))]) [0] rfl
  have hDc := hD.sub (ws' := [(a0, .inr (0, [.ref r0, .int 0, .ref r1, .int 1, .int 0, .ref r2, .int 0, .int (-1), .ref r3, .ref r4, .int 0, .int (-1), .ref r5, .ref r6]))]) [0] (by decide) rfl
  have hKc := hK.sub (tys' := []) [] rfl
  have hFc := va_free (wc := [(a0, .inr (0, [.ref r0, .int 0, .ref r1, .int 1, .int 0, .ref r2, .int 0, .int (-1), .ref r3, .ref r4, .int 0, .int (-1), .ref r5, .ref r6]))]) hD hS hA [0] rfl
  refine th_catch (own := R_L) (C := "java/lang/IllegalArgumentException") (hpc := 12) (A1 := fun _ => False) (th_runV (As := [.int k0]) (rest := [.int 0, .ref r7]) ⟨hx, hb, hml, hown, hts⟩ (c_D_figure_6 l hfl dC dI a0 r0 r1 r2 r3 r4 r5 r6 s.heap.size k0 (by omega) (by omega) (by omega) (by omega) (by omega)) (cwV 1 hts (gd_v lk_495 lk_496 lk_497 lk_16 lk_494) rfl rfl rfl (by decide +kernel) ⟨Nat.le_of_ble_eq_true rfl, Nat.le_of_ble_eq_true rfl⟩) ⟨fun a U g mk q => by obtain ⟨q0, q1, qP, qK, qD, qZ⟩ := q; exact ⟨q0, q1, qP, va_K.moved (u := U) (U := U.calling g mk a) (Vm.Alike.refl U.vm) qK, qD, th_Zs.calling qZ⟩, va_recv (ci := 0) (q0 := 0) hK hP rfl rfl, fun U hU hW => ⟨rfl, by rw [hU], by rw [hU]; exact hPc, va_K.moved hW.alike hKc, hDc.weaken (fun _ _ _ _ => trivial), hZ.same hU hW⟩⟩ rfl rfl hl.1 rfl (lv_room (Nat.le_of_ble_eq_true rfl)) d_L_figure_4 ⟨Nat.le_of_ble_eq_true rfl, Nat.le_of_ble_eq_true rfl⟩) hown htab (by refine ⟨⟨by decide, by decide, by decide⟩, "java/lang/IllegalArgumentException", (hts _ (List.mem_cons_of_mem _ lk_443)), ?_⟩; exact Or.inl ⟨rfl, rfl⟩) (fun _ _ _ h => h) hS (fun _ _ h => h.elim) (fun _ h => h.elim) (fun x st₀ t H1 locs ht hvm _ _ hz1 hk1 hS => ?_)
  have hP := hP.kept (fun k q hk => hk1 q.1 (hP k q hk).lt (fun z => z))
  generalize H1 = H at hP hS ⊢
  refine W.cs (cells' := 1) (slots' := 6) rfl rfl ?_
  refine lv_astore_n (lv' := [(3, .ref x), (0, .ref a0), (1, .int k0), (2, .ref r7)]) hx hb d_L_figure_12 rfl hl (by decide) rfl (fun ls hl => ?_)
  have hl : lv_has ls 4 [(3, .ref x), (0, .ref a0), (1, .int k0), (2, .ref r7)] := hl
  refine lv_iconst (v := 1) hx hb d_L_figure_13 (by decide) ?_
  have hP9 := hP.sub (ws' := [(a0, .inr (0, [.ref r0, .int 0, .ref r1, .int 1, .int 0, .ref r2, .int 0, .int (-1), .ref r3, .ref r4, .int 0, .int (-1), .ref r5, .ref r6]))]) [0] rfl
  have hD9 := hD.sub (ws' := [(a0, .inr (0, [.ref r0, .int 0, .ref r1, .int 1, .int 0, .ref r2, .int 0, .int (-1), .ref r3, .ref r4, .int 0, .int (-1), .ref r5, .ref r6]))]) [0] (by decide) rfl
  have hK9 := hK.sub (tys' := []) [] rfl
  exact W.iret (v := 1) hx hb hr (fun t ht hW => ⟨⟨1, (), rfl, rfl, by rw [ht]; exact hP9, va_K.moved hW.alike hK9, hD9⟩, hS.F ht⟩) hS.2.2 d_L_figure_14

set_option maxHeartbeats 4000000 in
set_option maxRecDepth 100000 in
theorem c_M_figure_6 (l : Launch) (dC : Nat → ClassId) (dI : Nat → Nat → Nat) (a0 r0 r1 r2 r3 r4 r5 r6 r7 r8 r9 r10 r11 r12 r13 r14 r15 r16 r17 r18 r19 : Nat) (sz : Nat) (k0 : Int32) (hh0 : ¬ k0.toInt = 0) (hh1 : ¬ k0.toInt = 1) (hh2 : ¬ k0.toInt = 2) (hh3 : ¬ k0.toInt = 3) (hh4 : ¬ k0.toInt = 4) : Met l y_M_figure w_M_figure ({ frames := 0, cells := 0, slots := 0, locals := 0 }) (va_Pc [.ref a0, .int k0] (fun U => U.heap.size = sz ∧ va_P (dC, dI) vwCl [(a0, .inr (4, [.int 0, .int 0, .ref r0, .int 1, .int 0, .ref r1, .ref r2, .ref r3, .ref r4, .ref r5, .int 0, .int 0, .int (-1), .int 0, .int (-1), .int 0, .ref r6, .int 0, .ref r7, .ref r8, .ref r9, .ref r10, .ref r11, .int 0, .int 0, .int 0, .ref r12, .ref r13, .int 0, .ref r14, .ref r15, .ref r16, .ref r17, .ref r18, .int 0, .int 0, .int 0, .ref r19]))] U.heap ∧ va_K (dC, dI) vwCl [] U ∧ va_D (fun _ => True) [(a0, .inr (4, [.int 0, .int 0, .ref r0, .int 1, .int 0, .ref r1, .ref r2, .ref r3, .ref r4, .ref r5, .int 0, .int 0, .int (-1), .int 0, .int (-1), .int 0, .ref r6, .int 0, .ref r7, .ref r8, .ref r9, .ref r10, .ref r11, .int 0, .int 0, .int 0, .ref r12, .ref r13, .int 0, .ref r14, .ref r15, .ref r16, .ref r17, .ref r18, .int 0, .int 0, .int 0, .ref r19]))])) (va_Qi (fun (r : Int32) (_ : Unit) => r = 0) (fun (_ : Unit) t => va_P (dC, dI) vwCl [(a0, .inr (4, [.int 1, .int 0, .ref r0, .int 1, .int 0, .ref r1, .ref r2, .ref r3, .ref r4, .ref r5, .int 0, .int 0, .int (-1), .int 0, .int (-1), .int 0, .ref r6, .int 0, .ref r7, .ref r8, .ref r9, .ref r10, .ref r11, .int 0, .int 0, .int 0, .ref r12, .ref r13, .int 0, .ref r14, .ref r15, .ref r16, .ref r17, .ref r18, .int 0, .int 0, .int 0, .ref r19]))] t.heap ∧ va_K (dC, dI) vwCl [] t ∧ va_D (va_A [(a0, .inr (4, [.int 0, .int 0, .ref r0, .int 1, .int 0, .ref r1, .ref r2, .ref r3, .ref r4, .ref r5, .int 0, .int 0, .int (-1), .int 0, .int (-1), .int 0, .ref r6, .int 0, .ref r7, .ref r8, .ref r9, .ref r10, .ref r11, .int 0, .int 0, .int 0, .ref r12, .ref r13, .int 0, .ref r14, .ref r15, .ref r16, .ref r17, .ref r18, .int 0, .int 0, .int 0, .ref r19]))] sz) [(a0, .inr (4, [.int 1, .int 0, .ref r0, .int 1, .int 0, .ref r1, .ref r2, .ref r3, .ref r4, .ref r5, .int 0, .int 0, .int (-1), .int 0, .int (-1), .int 0, .ref r6, .int 0, .ref r7, .ref r8, .ref r9, .ref r10, .ref r11, .int 0, .int 0, .int 0, .ref r12, .ref r13, .int 0, .ref r14, .ref r15, .ref r16, .ref r17, .ref r18, .int 0, .int 0, .int 0, .ref r19]))]) (va_A [(a0, .inr (4, [.int 0, .int 0, .ref r0, .int 1, .int 0, .ref r1, .ref r2, .ref r3, .ref r4, .ref r5, .int 0, .int 0, .int (-1), .int 0, .int (-1), .int 0, .ref r6, .int 0, .ref r7, .ref r8, .ref r9, .ref r10, .ref r11, .int 0, .int 0, .int 0, .ref r12, .ref r13, .int 0, .ref r14, .ref r15, .ref r16, .ref r17, .ref r18, .int 0, .int 0, .int 0, .ref r19]))] sz)) 0 0 (va_A [(a0, .inr (4, [.int 0, .int 0, .ref r0, .int 1, .int 0, .ref r1, .ref r2, .ref r3, .ref r4, .ref r5, .int 0, .int 0, .int (-1), .int 0, .int (-1), .int 0, .ref r6, .int 0, .ref r7, .ref r8, .ref r9, .ref r10, .ref r11, .int 0, .int 0, .int 0, .ref r12, .ref r13, .int 0, .ref r14, .ref r15, .ref r16, .ref r17, .ref r18, .int 0, .int 0, .int 0, .ref r19]))] sz) := by
  refine Met.ofW (cc := prog_6_method_52_code) (maxL := 2) (ret := (some .int)) (by decide) rfl ?_
  intro p e s m args below meth c s₁ B hml hv
  obtain ⟨rfl, hsz, hP, hK, hD0⟩ := hv
  have hx := B.exec
  have hb := B.bytes
  have hr := B.returns
  have hts := atoms_spec (ws := w_M_figure) B.pre
  have hown : s.vm.findClass R_M = some m.cls := findClass_of_methodNamed B.named
  have hlocks := B.notSynchronized
  subst hsz
  have hD := hD0.self (sz := s.heap.size)
  generalize hAe : va_A [(a0, .inr (4, [.int 0, .int 0, .ref r0, .int 1, .int 0, .ref r1, .ref r2, .ref r3, .ref r4, .ref r5, .int 0, .int 0, .int (-1), .int 0, .int (-1), .int 0, .ref r6, .int 0, .ref r7, .ref r8, .ref r9, .ref r10, .ref r11, .int 0, .int 0, .int 0, .ref r12, .ref r13, .int 0, .ref r14, .ref r15, .ref r16, .ref r17, .ref r18, .int 0, .int 0, .int 0, .ref r19]))] s.heap.size = A at hD ⊢
  have hA : ∀ q : Nat, s.heap.size ≤ q → A q := fun q h => by rw [← hAe]; exact Or.inr h
  have hS : va_S A s.heap s.heap [] := va_S.rf
  have hP : va_P (dC, dI) vwCl [(a0, .inr (4, [.int 0, .int 0, .ref r0, .int 1, .int 0, .ref r1, .ref r2, .ref r3, .ref r4, .ref r5, .int 0, .int 0, .int (-1), .int 0, .int (-1), .int 0, .ref r6, .int 0, .ref r7, .ref r8, .ref r9, .ref r10, .ref r11, .int 0, .int 0, .int 0, .ref r12, .ref r13, .int 0, .ref r14, .ref r15, .ref r16, .ref r17, .ref r18, .int 0, .int 0, .int 0, .ref r19]))] s.heap := hP
  have hl := lv_entry ([.ref a0, .int k0]) (n := 2) (Nat.le_of_ble_eq_true rfl)
  rw [lg_entry_eq]
  generalize (lg_sl ([.ref a0, .int k0]) ++ List.replicate (2 - (lg_sl ([.ref a0, .int k0])).length) Slot.unset).toArray = ls at hl ⊢
  have hl : lv_has ls 2 [(0, .ref a0), (1, .int k0)] := hl
  refine lv_aload_n hx hb d_M_figure_0 rfl (lv_at hl 0 rfl) ?_
  refine lv_iload_n hx hb d_M_figure_1 rfl (lv_at hl 1 rfl) ?_
  refine lv_if_lt (tgt := 10) hx hb d_M_figure_2 (by decide) (fun hf1 => ?_) (fun hf1 => ?_)
  ·
    have hf1 : k0.toInt < 0 := (wk_lt 0 (by decide)).mp hf1
    refine lv_iconst (v := 1) hx hb d_M_figure_10 (by decide) ?_
    refine lv_goto (tgt := 15) hx hb d_M_figure_11 (by decide) ?_
    refine va_put (D := (dC, dI)) (ci := 4) (v := .int 1) (ty := .int) (C := R_M) (T := F_M) (N := 38) hx hb hts (fun w h => List.mem_cons_of_mem _ (in_M w h)) t_M tk_M n_M hown hK hP hD hS 0 rfl rfl 0 (by decide) (hts _ (List.mem_cons_of_mem _ lk_175)) (fun _ h9 => h9) rfl (by decide +kernel) rfl rfl (Nat.le_of_ble_eq_true rfl) d_M_figure_15 (fun H locs hP hD hS => ?_)
    have hP : va_P (dC, dI) vwCl [(a0, .inr (4, [.int 1, .int 0, .ref r0, .int 1, .int 0, .ref r1, .ref r2, .ref r3, .ref r4, .ref r5, .int 0, .int 0, .int (-1), .int 0, .int (-1), .int 0, .ref r6, .int 0, .ref r7, .ref r8, .ref r9, .ref r10, .ref r11, .int 0, .int 0, .int 0, .ref r12, .ref r13, .int 0, .ref r14, .ref r15, .ref r16, .ref r17, .ref r18, .int 0, .int 0, .int 0, .ref r19]))] H := hP
    have hD : va_D A [(a0, .inr (4, [.int 1, .int 0, .ref r0, .int 1, .int 0, .ref r1, .ref r2, .ref r3, .ref r4, .ref r5, .int 0, .int 0, .int (-1), .int 0, .int (-1), .int 0, .ref r6, .int 0, .ref r7, .ref r8, .ref r9, .ref r10, .ref r11, .int 0, .int 0, .int 0, .ref r12, .ref r13, .int 0, .ref r14, .ref r15, .ref r16, .ref r17, .ref r18, .int 0, .int 0, .int 0, .ref r19]))] := hD
    refine lv_aload_n hx hb d_M_figure_18 rfl (lv_at hl 0 rfl) ?_
    refine va_get (D := (dC, dI)) (ci := 4) (v := .int 1) (C := R_M) (T := F_M) (N := 38) hx hb hts (fun w h => List.mem_cons_of_mem _ (in_M w h)) hown hK hP 0 rfl rfl 0 (by decide) (hts _ (List.mem_cons_of_mem _ lk_175)) (fun _ h9 => h9) rfl d_M_figure_19 ?_
    refine lv_if_le (tgt := 29) hx hb d_M_figure_22 (by decide) (fun h => absurd h (by decide +kernel)) (fun _ => ?_)
    refine lv_iconst (v := 0) hx hb d_M_figure_25 (by decide) ?_
    refine lv_goto (tgt := 80) hx hb d_M_figure_26 (by decide) ?_
    have hP9 := hP.sub (ws' := [(a0, .inr (4, [.int 1, .int 0, .ref r0, .int 1, .int 0, .ref r1, .ref r2, .ref r3, .ref r4, .ref r5, .int 0, .int 0, .int (-1), .int 0, .int (-1), .int 0, .ref r6, .int 0, .ref r7, .ref r8, .ref r9, .ref r10, .ref r11, .int 0, .int 0, .int 0, .ref r12, .ref r13, .int 0, .ref r14, .ref r15, .ref r16, .ref r17, .ref r18, .int 0, .int 0, .int 0, .ref r19]))]) [0] rfl
    have hD9 := hD.sub (ws' := [(a0, .inr (4, [.int 1, .int 0, .ref r0, .int 1, .int 0, .ref r1, .ref r2, .ref r3, .ref r4, .ref r5, .int 0, .int 0, .int (-1), .int 0, .int (-1), .int 0, .ref r6, .int 0, .ref r7, .ref r8, .ref r9, .ref r10, .ref r11, .int 0, .int 0, .int 0, .ref r12, .ref r13, .int 0, .ref r14, .ref r15, .ref r16, .ref r17, .ref r18, .int 0, .int 0, .int 0, .ref r19]))]) [0] (by decide) rfl
    have hK9 := hK.sub (tys' := []) [] rfl
    exact W.iret (v := 0) hx hb hr (fun t ht hW => ⟨⟨0, (), rfl, rfl, by rw [ht]; exact hP9, va_K.moved hW.alike hK9, hD9⟩, hS.F ht⟩) hS.2.2 d_M_figure_80
  ·
    have hf1 : ¬ k0.toInt < 0 := fun z => hf1 ((wk_lt 0 (by decide)).mpr z)
    refine lv_iload_n hx hb d_M_figure_5 rfl (lv_at hl 1 rfl) ?_
    refine lv_iconst (v := 4) hx hb d_M_figure_6 (by decide) ?_
    refine lv_icmp_le (tgt := 14) hx hb d_M_figure_7 (by decide) (fun h => absurd h (fun z => absurd ((wk_le 4 (by decide)).mp z) (by omega))) (fun _ => ?_)
    refine lv_iconst (v := 1) hx hb d_M_figure_10 (by decide) ?_
    refine lv_goto (tgt := 15) hx hb d_M_figure_11 (by decide) ?_
    refine va_put (D := (dC, dI)) (ci := 4) (v := .int 1) (ty := .int) (C := R_M) (T := F_M) (N := 38) hx hb hts (fun w h => List.mem_cons_of_mem _ (in_M w h)) t_M tk_M n_M hown hK hP hD hS 0 rfl rfl 0 (by decide) (hts _ (List.mem_cons_of_mem _ lk_175)) (fun _ h9 => h9) rfl (by decide +kernel) rfl rfl (Nat.le_of_ble_eq_true rfl) d_M_figure_15 (fun H locs hP hD hS => ?_)
    have hP : va_P (dC, dI) vwCl [(a0, .inr (4, [.int 1, .int 0, .ref r0, .int 1, .int 0, .ref r1, .ref r2, .ref r3, .ref r4, .ref r5, .int 0, .int 0, .int (-1), .int 0, .int (-1), .int 0, .ref r6, .int 0, .ref r7, .ref r8, .ref r9, .ref r10, .ref r11, .int 0, .int 0, .int 0, .ref r12, .ref r13, .int 0, .ref r14, .ref r15, .ref r16, .ref r17, .ref r18, .int 0, .int 0, .int 0, .ref r19]))] H := hP
    have hD : va_D A [(a0, .inr (4, [.int 1, .int 0, .ref r0, .int 1, .int 0, .ref r1, .ref r2, .ref r3, .ref r4, .ref r5, .int 0, .int 0, .int (-1), .int 0, .int (-1), .int 0, .ref r6, .int 0, .ref r7, .ref r8, .ref r9, .ref r10, .ref r11, .int 0, .int 0, .int 0, .ref r12, .ref r13, .int 0, .ref r14, .ref r15, .ref r16, .ref r17, .ref r18, .int 0, .int 0, .int 0, .ref r19]))] := hD
    refine lv_aload_n hx hb d_M_figure_18 rfl (lv_at hl 0 rfl) ?_
    refine va_get (D := (dC, dI)) (ci := 4) (v := .int 1) (C := R_M) (T := F_M) (N := 38) hx hb hts (fun w h => List.mem_cons_of_mem _ (in_M w h)) hown hK hP 0 rfl rfl 0 (by decide) (hts _ (List.mem_cons_of_mem _ lk_175)) (fun _ h9 => h9) rfl d_M_figure_19 ?_
    refine lv_if_le (tgt := 29) hx hb d_M_figure_22 (by decide) (fun h => absurd h (by decide +kernel)) (fun _ => ?_)
    refine lv_iconst (v := 0) hx hb d_M_figure_25 (by decide) ?_
    refine lv_goto (tgt := 80) hx hb d_M_figure_26 (by decide) ?_
    have hP9 := hP.sub (ws' := [(a0, .inr (4, [.int 1, .int 0, .ref r0, .int 1, .int 0, .ref r1, .ref r2, .ref r3, .ref r4, .ref r5, .int 0, .int 0, .int (-1), .int 0, .int (-1), .int 0, .ref r6, .int 0, .ref r7, .ref r8, .ref r9, .ref r10, .ref r11, .int 0, .int 0, .int 0, .ref r12, .ref r13, .int 0, .ref r14, .ref r15, .ref r16, .ref r17, .ref r18, .int 0, .int 0, .int 0, .ref r19]))]) [0] rfl
    have hD9 := hD.sub (ws' := [(a0, .inr (4, [.int 1, .int 0, .ref r0, .int 1, .int 0, .ref r1, .ref r2, .ref r3, .ref r4, .ref r5, .int 0, .int 0, .int (-1), .int 0, .int (-1), .int 0, .ref r6, .int 0, .ref r7, .ref r8, .ref r9, .ref r10, .ref r11, .int 0, .int 0, .int 0, .ref r12, .ref r13, .int 0, .ref r14, .ref r15, .ref r16, .ref r17, .ref r18, .int 0, .int 0, .int 0, .ref r19]))]) [0] (by decide) rfl
    have hK9 := hK.sub (tys' := []) [] rfl
    exact W.iret (v := 0) hx hb hr (fun t ht hW => ⟨⟨0, (), rfl, rfl, by rw [ht]; exact hP9, va_K.moved hW.alike hK9, hD9⟩, hS.F ht⟩) hS.2.2 d_M_figure_80

set_option maxHeartbeats 4000000 in
set_option maxRecDepth 100000 in
theorem c_D_parent (l : Launch) (dC : Nat → ClassId) (dI : Nat → Nat → Nat) (a0 a1 a2 r0 r1 r2 r3 r4 r5 : Nat) (t0 : ClassId) (sz : Nat)  : Met l y_D_parent w_D_parent ({ frames := 1, cells := 0, slots := 0, locals := 21 }) (va_Pc [.ref a0, .int 0] (fun U => U.heap.size = sz ∧ va_P (dC, dI) vwCl [(a0, .inr (0, [.ref r0, .int 0, .ref a1, .int 1, .int 0, .ref r1, .int 0, .int (-1), .ref r2, .ref r3, .int 0, .int (-1), .ref r4, .ref r5])), (a1, .inl (t0, 40, .inr (.inr (.inr (.inr (va_up (fun _ => none) 0 (some a2))))))), (a2, .inr (1, [.ref r1, .int (-1), .int 0, .int (-1)]))] U.heap ∧ va_K (dC, dI) vwCl [(t0, (.object "DraftTree$State"))] U ∧ va_D (fun _ => True) [(a0, .inr (0, [.ref r0, .int 0, .ref a1, .int 1, .int 0, .ref r1, .int 0, .int (-1), .ref r2, .ref r3, .int 0, .int (-1), .ref r4, .ref r5])), (a1, .inl (t0, 40, .inr (.inr (.inr (.inr (va_up (fun _ => none) 0 (some a2))))))), (a2, .inr (1, [.ref r1, .int (-1), .int 0, .int (-1)]))])) (va_Qi (fun (r : Int32) (_ : Unit) => r = (-1)) (fun (_ : Unit) t => va_P (dC, dI) vwCl [(a0, .inr (0, [.ref r0, .int 0, .ref a1, .int 1, .int 0, .ref r1, .int 0, .int (-1), .ref r2, .ref r3, .int 0, .int (-1), .ref r4, .ref r5])), (a1, .inl (t0, 40, .inr (.inr (.inr (.inr (va_up (fun _ => none) 0 (some a2))))))), (a2, .inr (1, [.ref r1, .int (-1), .int 0, .int (-1)]))] t.heap ∧ va_K (dC, dI) vwCl [(t0, (.object "DraftTree$State"))] t ∧ va_D (va_A [(a0, .inr (0, [.ref r0, .int 0, .ref a1, .int 1, .int 0, .ref r1, .int 0, .int (-1), .ref r2, .ref r3, .int 0, .int (-1), .ref r4, .ref r5])), (a1, .inl (t0, 40, .inr (.inr (.inr (.inr (va_up (fun _ => none) 0 (some a2))))))), (a2, .inr (1, [.ref r1, .int (-1), .int 0, .int (-1)]))] sz) [(a0, .inr (0, [.ref r0, .int 0, .ref a1, .int 1, .int 0, .ref r1, .int 0, .int (-1), .ref r2, .ref r3, .int 0, .int (-1), .ref r4, .ref r5])), (a1, .inl (t0, 40, .inr (.inr (.inr (.inr (va_up (fun _ => none) 0 (some a2))))))), (a2, .inr (1, [.ref r1, .int (-1), .int 0, .int (-1)]))]) (va_A [(a0, .inr (0, [.ref r0, .int 0, .ref a1, .int 1, .int 0, .ref r1, .int 0, .int (-1), .ref r2, .ref r3, .int 0, .int (-1), .ref r4, .ref r5])), (a1, .inl (t0, 40, .inr (.inr (.inr (.inr (va_up (fun _ => none) 0 (some a2))))))), (a2, .inr (1, [.ref r1, .int (-1), .int 0, .int (-1)]))] sz)) 0 0 (va_A [(a0, .inr (0, [.ref r0, .int 0, .ref a1, .int 1, .int 0, .ref r1, .int 0, .int (-1), .ref r2, .ref r3, .int 0, .int (-1), .ref r4, .ref r5])), (a1, .inl (t0, 40, .inr (.inr (.inr (.inr (va_up (fun _ => none) 0 (some a2))))))), (a2, .inr (1, [.ref r1, .int (-1), .int 0, .int (-1)]))] sz) := by
  refine Met.ofW (cc := prog_1_method_18_code) (maxL := 2) (ret := (some .int)) (by decide) rfl ?_
  intro p e s m args below meth c s₁ B hml hv
  obtain ⟨rfl, hsz, hP, hK, hD0⟩ := hv
  have hx := B.exec
  have hb := B.bytes
  have hr := B.returns
  have hts := atoms_spec (ws := w_D_parent) B.pre
  have hown : s.vm.findClass R_D = some m.cls := findClass_of_methodNamed B.named
  have hlocks := B.notSynchronized
  subst hsz
  have hD := hD0.self (sz := s.heap.size)
  generalize hAe : va_A [(a0, .inr (0, [.ref r0, .int 0, .ref a1, .int 1, .int 0, .ref r1, .int 0, .int (-1), .ref r2, .ref r3, .int 0, .int (-1), .ref r4, .ref r5])), (a1, .inl (t0, 40, .inr (.inr (.inr (.inr (va_up (fun _ => none) 0 (some a2))))))), (a2, .inr (1, [.ref r1, .int (-1), .int 0, .int (-1)]))] s.heap.size = A at hD ⊢
  have hA : ∀ q : Nat, s.heap.size ≤ q → A q := fun q h => by rw [← hAe]; exact Or.inr h
  have hS : va_S A s.heap s.heap [] := va_S.rf
  have hP : va_P (dC, dI) vwCl [(a0, .inr (0, [.ref r0, .int 0, .ref a1, .int 1, .int 0, .ref r1, .int 0, .int (-1), .ref r2, .ref r3, .int 0, .int (-1), .ref r4, .ref r5])), (a1, .inl (t0, 40, .inr (.inr (.inr (.inr (va_up (fun _ => none) 0 (some a2))))))), (a2, .inr (1, [.ref r1, .int (-1), .int 0, .int (-1)]))] s.heap := hP
  have hl := lv_entry ([.ref a0, .int 0]) (n := 2) (Nat.le_of_ble_eq_true rfl)
  rw [lg_entry_eq]
  generalize (lg_sl ([.ref a0, .int 0]) ++ List.replicate (2 - (lg_sl ([.ref a0, .int 0])).length) Slot.unset).toArray = ls at hl ⊢
  have hl : lv_has ls 2 [(0, .ref a0), (1, .int 0)] := hl
  refine lv_aload_n hx hb d_D_parent_0 rfl (lv_at hl 0 rfl) ?_
  refine lv_iload_n hx hb d_D_parent_1 rfl (lv_at hl 1 rfl) ?_
  have hPc := hP.sub (ws' := [(a0, .inr (0, [.ref r0, .int 0, .ref a1, .int 1, .int 0, .ref r1, .int 0, .int (-1), .ref r2, .ref r3, .int 0, .int (-1), .ref r4, .ref r5]))]) [0] rfl
  have hDc := hD.sub (ws' := [(a0, .inr (0, [.ref r0, .int 0, .ref a1, .int 1, .int 0, .ref r1, .int 0, .int (-1), .ref r2, .ref r3, .int 0, .int (-1), .ref r4, .ref r5]))]) [0] (by decide) rfl
  have hKc := hK.sub (tys' := []) [] rfl
  have hFc := va_free (wc := [(a0, .inr (0, [.ref r0, .int 0, .ref a1, .int 1, .int 0, .ref r1, .int 0, .int (-1), .ref r2, .ref r3, .int 0, .int (-1), .ref r4, .ref r5]))]) hD hS hA [0] rfl
  refine va_callv (va_runV (As := [.int 0]) (rest := []) ⟨hx, hb, hml, hown, hts⟩ (c_D_requireState l dC dI a0 r0 a1 r1 r2 r3 r4 r5 s.heap.size) (cwV 1 hts (gd_v lk_416 lk_417 lk_418 lk_16 lk_415) rfl rfl rfl (by decide +kernel) ⟨Nat.le_of_ble_eq_true rfl, Nat.le_of_ble_eq_true rfl⟩) ⟨fun a U g mk q => by obtain ⟨q0, q1, qP, qK, qD⟩ := q; exact ⟨q0, q1, qP, va_K.moved (u := U) (U := U.calling g mk a) (Vm.Alike.refl U.vm) qK, qD⟩, va_recv (ci := 0) (q0 := 0) hK hP rfl rfl, fun U hU hW => ⟨rfl, by rw [hU], by rw [hU]; exact hPc, va_K.moved hW.alike hKc, hDc.weaken (fun _ _ _ _ => trivial)⟩⟩ rfl rfl hl.1 rfl (lv_room (Nat.le_of_ble_eq_true rfl)) d_D_parent_2 ⟨Nat.le_of_ble_eq_true rfl, Nat.le_of_ble_eq_true rfl⟩) hS (fun q _ h => hFc q h) hFc (fun u t H1 locs ht hvm hw hB hz1 hk1 hS => ?_)
  obtain ⟨hP1, hK1, hD1⟩ := hB
  rw [ht] at hP1
  have hK1 := va_K.moved hvm.symm hK1
  obtain ⟨hP, hD⟩ := va_join (wr := [(a1, .inl (t0, 40, .inr (.inr (.inr (.inr (va_up (fun _ => none) 0 (some a2))))))), (a2, .inr (1, [.ref r1, .int (-1), .int 0, .int (-1)]))]) (w1 := [(a0, .inr (0, [.ref r0, .int 0, .ref a1, .int 1, .int 0, .ref r1, .int 0, .int (-1), .ref r2, .ref r3, .int 0, .int (-1), .ref r4, .ref r5]))]) hP hD [0] [1, 2] rfl rfl (by decide) (by decide) hk1 hFc hP1 hD1
  generalize H1 = H at hP hS ⊢
  have hP : va_P (dC, dI) vwCl [(a1, .inl (t0, 40, .inr (.inr (.inr (.inr (va_up (fun _ => none) 0 (some a2))))))), (a2, .inr (1, [.ref r1, .int (-1), .int 0, .int (-1)])), (a0, .inr (0, [.ref r0, .int 0, .ref a1, .int 1, .int 0, .ref r1, .int 0, .int (-1), .ref r2, .ref r3, .int 0, .int (-1), .ref r4, .ref r5]))] H := hP
  have hD : va_D A [(a1, .inl (t0, 40, .inr (.inr (.inr (.inr (va_up (fun _ => none) 0 (some a2))))))), (a2, .inr (1, [.ref r1, .int (-1), .int 0, .int (-1)])), (a0, .inr (0, [.ref r0, .int 0, .ref a1, .int 1, .int 0, .ref r1, .int 0, .int (-1), .ref r2, .ref r3, .int 0, .int (-1), .ref r4, .ref r5]))] := hD
  refine lv_aload_n hx hb d_D_parent_5 rfl (lv_at hl 0 rfl) ?_
  refine va_get (D := (dC, dI)) (ci := 0) (v := .ref a1) (C := R_D) (T := F_D) (N := 14) hx hb hts (fun w h => List.mem_cons_of_mem _ (in_D w h)) hown hK hP 2 rfl rfl 2 (by decide) (hts _ (List.mem_cons_of_mem _ lk_23)) (fun _ h9 => h9) rfl d_D_parent_6 ?_
  refine lv_iload_n hx hb d_D_parent_9 rfl (lv_at hl 1 rfl) ?_
  refine va_aldq hx hb hK hP 0 0 rfl rfl (wk_in (by decide +kernel)) d_D_parent_10 ?_
  refine wk_top (w := .ref a2) rfl ?_
  refine va_get (D := (dC, dI)) (ci := 1) (v := .int (-1)) (C := R_S) (T := F_S) (N := 4) hx hb hts (fun w h => List.mem_cons_of_mem _ (in_S w h)) hown hK hP 1 rfl rfl 1 (by decide) (hts _ (List.mem_cons_of_mem _ lk_388)) (fun _ h9 => h9) rfl d_D_parent_11 ?_
  have hP9 := hP.sub (ws' := [(a0, .inr (0, [.ref r0, .int 0, .ref a1, .int 1, .int 0, .ref r1, .int 0, .int (-1), .ref r2, .ref r3, .int 0, .int (-1), .ref r4, .ref r5])), (a1, .inl (t0, 40, .inr (.inr (.inr (.inr (va_up (fun _ => none) 0 (some a2))))))), (a2, .inr (1, [.ref r1, .int (-1), .int 0, .int (-1)]))]) [2, 0, 1] rfl
  have hD9 := hD.sub (ws' := [(a0, .inr (0, [.ref r0, .int 0, .ref a1, .int 1, .int 0, .ref r1, .int 0, .int (-1), .ref r2, .ref r3, .int 0, .int (-1), .ref r4, .ref r5])), (a1, .inl (t0, 40, .inr (.inr (.inr (.inr (va_up (fun _ => none) 0 (some a2))))))), (a2, .inr (1, [.ref r1, .int (-1), .int 0, .int (-1)]))]) [2, 0, 1] (by decide) rfl
  have hK9 := hK.sub (tys' := [(t0, (.object "DraftTree$State"))]) [0] rfl
  exact W.iret (v := (-1)) hx hb hr (fun t ht hW => ⟨⟨(-1), (), rfl, rfl, by rw [ht]; exact hP9, va_K.moved hW.alike hK9, hD9⟩, hS.F ht⟩) hS.2.2 d_D_parent_14

set_option maxHeartbeats 4000000 in
set_option maxRecDepth 100000 in
theorem c_L_parent (l : Launch) (dC : Nat → ClassId) (dI : Nat → Nat → Nat) (a0 a1 a2 a3 r0 r1 r2 r3 r4 r5 : Nat) (t0 t1 : ClassId) (sz : Nat)  : Met l y_L_parent w_L_parent ({ frames := 2, cells := 0, slots := 0, locals := 42 }) (va_Pc [.ref a0, .int 0, .ref a3] (fun U => U.heap.size = sz ∧ va_P (dC, dI) vwCl [(a0, .inr (0, [.ref r0, .int 0, .ref a1, .int 1, .int 0, .ref r1, .int 0, .int (-1), .ref r2, .ref r3, .int 0, .int (-1), .ref r4, .ref r5])), (a1, .inl (t0, 40, .inr (.inr (.inr (.inr (va_up (fun _ => none) 0 (some a2))))))), (a2, .inr (1, [.ref r1, .int (-1), .int 0, .int (-1)])), (a3, .inl (t1, 1, .inr (.inl (fun _ => 0))))] U.heap ∧ va_K (dC, dI) vwCl [(t0, (.object "DraftTree$State")), (t1, .long)] U ∧ va_D (fun _ => True) [(a0, .inr (0, [.ref r0, .int 0, .ref a1, .int 1, .int 0, .ref r1, .int 0, .int (-1), .ref r2, .ref r3, .int 0, .int (-1), .ref r4, .ref r5])), (a1, .inl (t0, 40, .inr (.inr (.inr (.inr (va_up (fun _ => none) 0 (some a2))))))), (a2, .inr (1, [.ref r1, .int (-1), .int 0, .int (-1)])), (a3, .inl (t1, 1, .inr (.inl (fun _ => 0))))])) (va_Qi (fun (r : Int32) (_ : Unit) => r = 0) (fun (_ : Unit) t => va_P (dC, dI) vwCl [(a0, .inr (0, [.ref r0, .int 0, .ref a1, .int 1, .int 0, .ref r1, .int 0, .int (-1), .ref r2, .ref r3, .int 0, .int (-1), .ref r4, .ref r5])), (a1, .inl (t0, 40, .inr (.inr (.inr (.inr (va_up (fun _ => none) 0 (some a2))))))), (a2, .inr (1, [.ref r1, .int (-1), .int 0, .int (-1)])), (a3, .inl (t1, 1, .inr (.inl (vp_updL (fun _ => 0) 0 (-1)))))] t.heap ∧ va_K (dC, dI) vwCl [(t0, (.object "DraftTree$State")), (t1, .long)] t ∧ va_D (va_A [(a0, .inr (0, [.ref r0, .int 0, .ref a1, .int 1, .int 0, .ref r1, .int 0, .int (-1), .ref r2, .ref r3, .int 0, .int (-1), .ref r4, .ref r5])), (a1, .inl (t0, 40, .inr (.inr (.inr (.inr (va_up (fun _ => none) 0 (some a2))))))), (a2, .inr (1, [.ref r1, .int (-1), .int 0, .int (-1)])), (a3, .inl (t1, 1, .inr (.inl (fun _ => 0))))] sz) [(a0, .inr (0, [.ref r0, .int 0, .ref a1, .int 1, .int 0, .ref r1, .int 0, .int (-1), .ref r2, .ref r3, .int 0, .int (-1), .ref r4, .ref r5])), (a1, .inl (t0, 40, .inr (.inr (.inr (.inr (va_up (fun _ => none) 0 (some a2))))))), (a2, .inr (1, [.ref r1, .int (-1), .int 0, .int (-1)])), (a3, .inl (t1, 1, .inr (.inl (vp_updL (fun _ => 0) 0 (-1)))))]) (va_A [(a0, .inr (0, [.ref r0, .int 0, .ref a1, .int 1, .int 0, .ref r1, .int 0, .int (-1), .ref r2, .ref r3, .int 0, .int (-1), .ref r4, .ref r5])), (a1, .inl (t0, 40, .inr (.inr (.inr (.inr (va_up (fun _ => none) 0 (some a2))))))), (a2, .inr (1, [.ref r1, .int (-1), .int 0, .int (-1)])), (a3, .inl (t1, 1, .inr (.inl (fun _ => 0))))] sz)) 0 0 (va_A [(a0, .inr (0, [.ref r0, .int 0, .ref a1, .int 1, .int 0, .ref r1, .int 0, .int (-1), .ref r2, .ref r3, .int 0, .int (-1), .ref r4, .ref r5])), (a1, .inl (t0, 40, .inr (.inr (.inr (.inr (va_up (fun _ => none) 0 (some a2))))))), (a2, .inr (1, [.ref r1, .int (-1), .int 0, .int (-1)])), (a3, .inl (t1, 1, .inr (.inl (fun _ => 0))))] sz) := by
  refine th_ofWw (tab := [(0, 9, 12, 28)]) (cc := method_15_code) (maxL := 4) (ret := (some .int)) (by decide) rfl ?_
  intro p e s m args below meth c s₁ B hml htab hv
  obtain ⟨rfl, hsz, hP, hK, hD0⟩ := hv
  have hx := B.exec
  have hb := B.bytes
  have hr := B.returns
  have hts := atoms_spec (ws := w_L_parent) B.pre
  have hown : s.vm.findClass R_L = some m.cls := findClass_of_methodNamed B.named
  have hlocks := B.notSynchronized
  subst hsz
  have hD := hD0.self (sz := s.heap.size)
  generalize hAe : va_A [(a0, .inr (0, [.ref r0, .int 0, .ref a1, .int 1, .int 0, .ref r1, .int 0, .int (-1), .ref r2, .ref r3, .int 0, .int (-1), .ref r4, .ref r5])), (a1, .inl (t0, 40, .inr (.inr (.inr (.inr (va_up (fun _ => none) 0 (some a2))))))), (a2, .inr (1, [.ref r1, .int (-1), .int 0, .int (-1)])), (a3, .inl (t1, 1, .inr (.inl (fun _ => 0))))] s.heap.size = A at hD ⊢
  have hA : ∀ q : Nat, s.heap.size ≤ q → A q := fun q h => by rw [← hAe]; exact Or.inr h
  have hS : va_S A s.heap s.heap [] := va_S.rf
  have hP : va_P (dC, dI) vwCl [(a0, .inr (0, [.ref r0, .int 0, .ref a1, .int 1, .int 0, .ref r1, .int 0, .int (-1), .ref r2, .ref r3, .int 0, .int (-1), .ref r4, .ref r5])), (a1, .inl (t0, 40, .inr (.inr (.inr (.inr (va_up (fun _ => none) 0 (some a2))))))), (a2, .inr (1, [.ref r1, .int (-1), .int 0, .int (-1)])), (a3, .inl (t1, 1, .inr (.inl (fun _ => 0))))] s.heap := hP
  have hl := lv_entry ([.ref a0, .int 0, .ref a3]) (n := 4) (Nat.le_of_ble_eq_true rfl)
  rw [lg_entry_eq]
  generalize (lg_sl ([.ref a0, .int 0, .ref a3]) ++ List.replicate (4 - (lg_sl ([.ref a0, .int 0, .ref a3])).length) Slot.unset).toArray = ls at hl ⊢
  have hl : lv_has ls 4 [(0, .ref a0), (1, .int 0), (2, .ref a3)] := hl
  refine lv_aload_n hx hb d_L_parent_0 rfl (lv_at hl 2 rfl) ?_
  refine lv_iconst (v := 0) hx hb d_L_parent_1 (by decide) ?_
  refine lv_aload_n hx hb d_L_parent_2 rfl (lv_at hl 0 rfl) ?_
  refine lv_iload_n hx hb d_L_parent_3 rfl (lv_at hl 1 rfl) ?_
  have hPc := hP.sub (ws' := [(a0, .inr (0, [.ref r0, .int 0, .ref a1, .int 1, .int 0, .ref r1, .int 0, .int (-1), .ref r2, .ref r3, .int 0, .int (-1), .ref r4, .ref r5])), (a1, .inl (t0, 40, .inr (.inr (.inr (.inr (va_up (fun _ => none) 0 (some a2))))))), (a2, .inr (1, [.ref r1, .int (-1), .int 0, .int (-1)]))]) [0, 1, 2] rfl
  have hDc := hD.sub (ws' := [(a0, .inr (0, [.ref r0, .int 0, .ref a1, .int 1, .int 0, .ref r1, .int 0, .int (-1), .ref r2, .ref r3, .int 0, .int (-1), .ref r4, .ref r5])), (a1, .inl (t0, 40, .inr (.inr (.inr (.inr (va_up (fun _ => none) 0 (some a2))))))), (a2, .inr (1, [.ref r1, .int (-1), .int 0, .int (-1)]))]) [0, 1, 2] (by decide) rfl
  have hKc := hK.sub (tys' := [(t0, (.object "DraftTree$State"))]) [0] rfl
  have hFc := va_free (wc := [(a0, .inr (0, [.ref r0, .int 0, .ref a1, .int 1, .int 0, .ref r1, .int 0, .int (-1), .ref r2, .ref r3, .int 0, .int (-1), .ref r4, .ref r5])), (a1, .inl (t0, 40, .inr (.inr (.inr (.inr (va_up (fun _ => none) 0 (some a2))))))), (a2, .inr (1, [.ref r1, .int (-1), .int 0, .int (-1)]))]) hD hS hA [0, 1, 2] rfl
  refine va_calli (va_runV (As := [.int 0]) (rest := [.int 0, .ref a3]) ⟨hx, hb, hml, hown, hts⟩ (c_D_parent l dC dI a0 a1 a2 r0 r1 r2 r3 r4 r5 t0 s.heap.size) (cwV 1 hts (gd_v lk_506 lk_507 lk_508 lk_16 lk_505) rfl rfl rfl (by decide +kernel) ⟨Nat.le_of_ble_eq_true rfl, Nat.le_of_ble_eq_true rfl⟩) ⟨fun a U g mk q => by obtain ⟨q0, q1, qP, qK, qD⟩ := q; exact ⟨q0, q1, qP, va_K.moved (u := U) (U := U.calling g mk a) (Vm.Alike.refl U.vm) qK, qD⟩, va_recv (ci := 0) (q0 := 0) hK hP rfl rfl, fun U hU hW => ⟨rfl, by rw [hU], by rw [hU]; exact hPc, va_K.moved hW.alike hKc, hDc.weaken (fun _ _ _ _ => trivial)⟩⟩ rfl rfl hl.1 rfl (lv_room (Nat.le_of_ble_eq_true rfl)) d_L_parent_4 ⟨Nat.le_of_ble_eq_true rfl, Nat.le_of_ble_eq_true rfl⟩) hS (fun q _ h => hFc q h) hFc (fun r u t H1 locs ht hvm hw hB hz1 hk1 hS => ?_)
  obtain ⟨hP1, hK1, hD1⟩ := hB
  rw [ht] at hP1
  have hK1 := va_K.moved hvm.symm hK1
  subst hw
  obtain ⟨hP, hD⟩ := va_join (wr := [(a3, .inl (t1, 1, .inr (.inl (fun _ => 0))))]) (w1 := [(a0, .inr (0, [.ref r0, .int 0, .ref a1, .int 1, .int 0, .ref r1, .int 0, .int (-1), .ref r2, .ref r3, .int 0, .int (-1), .ref r4, .ref r5])), (a1, .inl (t0, 40, .inr (.inr (.inr (.inr (va_up (fun _ => none) 0 (some a2))))))), (a2, .inr (1, [.ref r1, .int (-1), .int 0, .int (-1)]))]) hP hD [0, 1, 2] [3] rfl rfl (by decide) (by decide) hk1 hFc hP1 hD1
  generalize H1 = H at hP hS ⊢
  have hP : va_P (dC, dI) vwCl [(a3, .inl (t1, 1, .inr (.inl (fun _ => 0)))), (a0, .inr (0, [.ref r0, .int 0, .ref a1, .int 1, .int 0, .ref r1, .int 0, .int (-1), .ref r2, .ref r3, .int 0, .int (-1), .ref r4, .ref r5])), (a1, .inl (t0, 40, .inr (.inr (.inr (.inr (va_up (fun _ => none) 0 (some a2))))))), (a2, .inr (1, [.ref r1, .int (-1), .int 0, .int (-1)]))] H := hP
  have hD : va_D A [(a3, .inl (t1, 1, .inr (.inl (fun _ => 0)))), (a0, .inr (0, [.ref r0, .int 0, .ref a1, .int 1, .int 0, .ref r1, .int 0, .int (-1), .ref r2, .ref r3, .int 0, .int (-1), .ref r4, .ref r5])), (a1, .inl (t0, 40, .inr (.inr (.inr (.inr (va_up (fun _ => none) 0 (some a2))))))), (a2, .inr (1, [.ref r1, .int (-1), .int 0, .int (-1)]))] := hD
  refine lv_i2l (v := (-1)) hx hb d_L_parent_7 (by decide +kernel) ?_
  refine va_last hx hb hK hP hD hS 0 1 rfl rfl (wk_in (by decide +kernel)) d_L_parent_8 (fun H locs hP hD hS => ?_)
  have hP : va_P (dC, dI) vwCl [(a3, .inl (t1, 1, .inr (.inl (vp_updL (fun _ => 0) 0 (-1))))), (a0, .inr (0, [.ref r0, .int 0, .ref a1, .int 1, .int 0, .ref r1, .int 0, .int (-1), .ref r2, .ref r3, .int 0, .int (-1), .ref r4, .ref r5])), (a1, .inl (t0, 40, .inr (.inr (.inr (.inr (va_up (fun _ => none) 0 (some a2))))))), (a2, .inr (1, [.ref r1, .int (-1), .int 0, .int (-1)]))] H := hP
  have hD : va_D A [(a3, .inl (t1, 1, .inr (.inl (vp_updL (fun _ => 0) 0 (-1))))), (a0, .inr (0, [.ref r0, .int 0, .ref a1, .int 1, .int 0, .ref r1, .int 0, .int (-1), .ref r2, .ref r3, .int 0, .int (-1), .ref r4, .ref r5])), (a1, .inl (t0, 40, .inr (.inr (.inr (.inr (va_up (fun _ => none) 0 (some a2))))))), (a2, .inr (1, [.ref r1, .int (-1), .int 0, .int (-1)]))] := hD
  refine lv_goto (tgt := 15) hx hb d_L_parent_9 (by decide) ?_
  refine lv_iconst (v := 0) hx hb d_L_parent_15 (by decide) ?_
  have hP9 := hP.sub (ws' := [(a0, .inr (0, [.ref r0, .int 0, .ref a1, .int 1, .int 0, .ref r1, .int 0, .int (-1), .ref r2, .ref r3, .int 0, .int (-1), .ref r4, .ref r5])), (a1, .inl (t0, 40, .inr (.inr (.inr (.inr (va_up (fun _ => none) 0 (some a2))))))), (a2, .inr (1, [.ref r1, .int (-1), .int 0, .int (-1)])), (a3, .inl (t1, 1, .inr (.inl (vp_updL (fun _ => 0) 0 (-1)))))]) [1, 2, 3, 0] rfl
  have hD9 := hD.sub (ws' := [(a0, .inr (0, [.ref r0, .int 0, .ref a1, .int 1, .int 0, .ref r1, .int 0, .int (-1), .ref r2, .ref r3, .int 0, .int (-1), .ref r4, .ref r5])), (a1, .inl (t0, 40, .inr (.inr (.inr (.inr (va_up (fun _ => none) 0 (some a2))))))), (a2, .inr (1, [.ref r1, .int (-1), .int 0, .int (-1)])), (a3, .inl (t1, 1, .inr (.inl (vp_updL (fun _ => 0) 0 (-1)))))]) [1, 2, 3, 0] (by decide) rfl
  have hK9 := hK.sub (tys' := [(t0, (.object "DraftTree$State")), (t1, .long)]) [0, 1] rfl
  exact W.iret (v := 0) hx hb hr (fun t ht hW => ⟨⟨0, (), rfl, rfl, by rw [ht]; exact hP9, va_K.moved hW.alike hK9, hD9⟩, hS.F ht⟩) hS.2.2 d_L_parent_16

set_option maxHeartbeats 4000000 in
set_option maxRecDepth 100000 in
theorem c_M_parent (l : Launch) (dC : Nat → ClassId) (dI : Nat → Nat → Nat) (a0 a1 r0 r1 r2 r3 r4 r5 r6 r7 r8 r9 r10 r11 r12 r13 r14 r15 r16 r17 r18 : Nat) (t0 : ClassId) (sz : Nat)  : Met l y_M_parent w_M_parent ({ frames := 0, cells := 0, slots := 0, locals := 0 }) (va_Pc [.ref a0, .int 0] (fun U => U.heap.size = sz ∧ va_P (dC, dI) vwCl [(a0, .inr (4, [.int 0, .int 0, .ref r0, .int 1, .int 0, .ref r1, .ref r2, .ref r3, .ref a1, .ref r4, .int 0, .int 0, .int (-1), .int 0, .int (-1), .int 0, .ref r5, .int 0, .ref r6, .ref r7, .ref r8, .ref r9, .ref r10, .int 0, .int 0, .int 0, .ref r11, .ref r12, .int 0, .ref r13, .ref r14, .ref r15, .ref r16, .ref r17, .int 0, .int 0, .int 0, .ref r18])), (a1, .inl (t0, 40, .inl (upd (fun _ => 0) 0 (-1))))] U.heap ∧ va_K (dC, dI) vwCl [(t0, .int)] U ∧ va_D (fun _ => True) [(a0, .inr (4, [.int 0, .int 0, .ref r0, .int 1, .int 0, .ref r1, .ref r2, .ref r3, .ref a1, .ref r4, .int 0, .int 0, .int (-1), .int 0, .int (-1), .int 0, .ref r5, .int 0, .ref r6, .ref r7, .ref r8, .ref r9, .ref r10, .int 0, .int 0, .int 0, .ref r11, .ref r12, .int 0, .ref r13, .ref r14, .ref r15, .ref r16, .ref r17, .int 0, .int 0, .int 0, .ref r18])), (a1, .inl (t0, 40, .inl (upd (fun _ => 0) 0 (-1))))])) (va_Qi (fun (r : Int32) (_ : Unit) => r = (-1)) (fun (_ : Unit) t => va_P (dC, dI) vwCl [(a0, .inr (4, [.int 0, .int 0, .ref r0, .int 1, .int 0, .ref r1, .ref r2, .ref r3, .ref a1, .ref r4, .int 0, .int 0, .int (-1), .int 0, .int (-1), .int 0, .ref r5, .int 0, .ref r6, .ref r7, .ref r8, .ref r9, .ref r10, .int 0, .int 0, .int 0, .ref r11, .ref r12, .int 0, .ref r13, .ref r14, .ref r15, .ref r16, .ref r17, .int 0, .int 0, .int 0, .ref r18])), (a1, .inl (t0, 40, .inl (upd (fun _ => 0) 0 (-1))))] t.heap ∧ va_K (dC, dI) vwCl [(t0, .int)] t ∧ va_D (va_A [(a0, .inr (4, [.int 0, .int 0, .ref r0, .int 1, .int 0, .ref r1, .ref r2, .ref r3, .ref a1, .ref r4, .int 0, .int 0, .int (-1), .int 0, .int (-1), .int 0, .ref r5, .int 0, .ref r6, .ref r7, .ref r8, .ref r9, .ref r10, .int 0, .int 0, .int 0, .ref r11, .ref r12, .int 0, .ref r13, .ref r14, .ref r15, .ref r16, .ref r17, .int 0, .int 0, .int 0, .ref r18])), (a1, .inl (t0, 40, .inl (upd (fun _ => 0) 0 (-1))))] sz) [(a0, .inr (4, [.int 0, .int 0, .ref r0, .int 1, .int 0, .ref r1, .ref r2, .ref r3, .ref a1, .ref r4, .int 0, .int 0, .int (-1), .int 0, .int (-1), .int 0, .ref r5, .int 0, .ref r6, .ref r7, .ref r8, .ref r9, .ref r10, .int 0, .int 0, .int 0, .ref r11, .ref r12, .int 0, .ref r13, .ref r14, .ref r15, .ref r16, .ref r17, .int 0, .int 0, .int 0, .ref r18])), (a1, .inl (t0, 40, .inl (upd (fun _ => 0) 0 (-1))))]) (va_A [(a0, .inr (4, [.int 0, .int 0, .ref r0, .int 1, .int 0, .ref r1, .ref r2, .ref r3, .ref a1, .ref r4, .int 0, .int 0, .int (-1), .int 0, .int (-1), .int 0, .ref r5, .int 0, .ref r6, .ref r7, .ref r8, .ref r9, .ref r10, .int 0, .int 0, .int 0, .ref r11, .ref r12, .int 0, .ref r13, .ref r14, .ref r15, .ref r16, .ref r17, .int 0, .int 0, .int 0, .ref r18])), (a1, .inl (t0, 40, .inl (upd (fun _ => 0) 0 (-1))))] sz)) 0 0 (va_A [(a0, .inr (4, [.int 0, .int 0, .ref r0, .int 1, .int 0, .ref r1, .ref r2, .ref r3, .ref a1, .ref r4, .int 0, .int 0, .int (-1), .int 0, .int (-1), .int 0, .ref r5, .int 0, .ref r6, .ref r7, .ref r8, .ref r9, .ref r10, .int 0, .int 0, .int 0, .ref r11, .ref r12, .int 0, .ref r13, .ref r14, .ref r15, .ref r16, .ref r17, .int 0, .int 0, .int 0, .ref r18])), (a1, .inl (t0, 40, .inl (upd (fun _ => 0) 0 (-1))))] sz) := by
  refine Met.ofW (cc := prog_6_method_53_code) (maxL := 2) (ret := (some .int)) (by decide) rfl ?_
  intro p e s m args below meth c s₁ B hml hv
  obtain ⟨rfl, hsz, hP, hK, hD0⟩ := hv
  have hx := B.exec
  have hb := B.bytes
  have hr := B.returns
  have hts := atoms_spec (ws := w_M_parent) B.pre
  have hown : s.vm.findClass R_M = some m.cls := findClass_of_methodNamed B.named
  have hlocks := B.notSynchronized
  subst hsz
  have hD := hD0.self (sz := s.heap.size)
  generalize hAe : va_A [(a0, .inr (4, [.int 0, .int 0, .ref r0, .int 1, .int 0, .ref r1, .ref r2, .ref r3, .ref a1, .ref r4, .int 0, .int 0, .int (-1), .int 0, .int (-1), .int 0, .ref r5, .int 0, .ref r6, .ref r7, .ref r8, .ref r9, .ref r10, .int 0, .int 0, .int 0, .ref r11, .ref r12, .int 0, .ref r13, .ref r14, .ref r15, .ref r16, .ref r17, .int 0, .int 0, .int 0, .ref r18])), (a1, .inl (t0, 40, .inl (upd (fun _ => 0) 0 (-1))))] s.heap.size = A at hD ⊢
  have hA : ∀ q : Nat, s.heap.size ≤ q → A q := fun q h => by rw [← hAe]; exact Or.inr h
  have hS : va_S A s.heap s.heap [] := va_S.rf
  have hP : va_P (dC, dI) vwCl [(a0, .inr (4, [.int 0, .int 0, .ref r0, .int 1, .int 0, .ref r1, .ref r2, .ref r3, .ref a1, .ref r4, .int 0, .int 0, .int (-1), .int 0, .int (-1), .int 0, .ref r5, .int 0, .ref r6, .ref r7, .ref r8, .ref r9, .ref r10, .int 0, .int 0, .int 0, .ref r11, .ref r12, .int 0, .ref r13, .ref r14, .ref r15, .ref r16, .ref r17, .int 0, .int 0, .int 0, .ref r18])), (a1, .inl (t0, 40, .inl (upd (fun _ => 0) 0 (-1))))] s.heap := hP
  have hl := lv_entry ([.ref a0, .int 0]) (n := 2) (Nat.le_of_ble_eq_true rfl)
  rw [lg_entry_eq]
  generalize (lg_sl ([.ref a0, .int 0]) ++ List.replicate (2 - (lg_sl ([.ref a0, .int 0])).length) Slot.unset).toArray = ls at hl ⊢
  have hl : lv_has ls 2 [(0, .ref a0), (1, .int 0)] := hl
  refine lv_aload_n hx hb d_M_parent_0 rfl (lv_at hl 0 rfl) ?_
  refine lv_iload_n hx hb d_M_parent_1 rfl (lv_at hl 1 rfl) ?_
  refine lv_if_lt (tgt := 13) hx hb d_M_parent_2 (by decide) (fun h => absurd h (by decide +kernel)) (fun _ => ?_)
  refine lv_iload_n hx hb d_M_parent_5 rfl (lv_at hl 1 rfl) ?_
  refine lv_aload_n hx hb d_M_parent_6 rfl (lv_at hl 0 rfl) ?_
  refine va_get (D := (dC, dI)) (ci := 4) (v := .int 1) (C := R_M) (T := F_M) (N := 38) hx hb hts (fun w h => List.mem_cons_of_mem _ (in_M w h)) hown hK hP 0 rfl rfl 3 (by decide) (hts _ (List.mem_cons_of_mem _ lk_144)) (fun _ h9 => h9) rfl d_M_parent_7 ?_
  refine lv_icmp_lt (tgt := 17) hx hb d_M_parent_10 (by decide) (fun _ => ?_) (fun h => absurd (by decide +kernel) h)
  refine lv_iconst (v := 0) hx hb d_M_parent_17 (by decide) ?_
  refine va_put (D := (dC, dI)) (ci := 4) (v := .int 0) (ty := .int) (C := R_M) (T := F_M) (N := 38) hx hb hts (fun w h => List.mem_cons_of_mem _ (in_M w h)) t_M tk_M n_M hown hK hP hD hS 0 rfl rfl 0 (by decide) (hts _ (List.mem_cons_of_mem _ lk_175)) (fun _ h9 => h9) rfl (by decide +kernel) rfl rfl (Nat.le_of_ble_eq_true rfl) d_M_parent_18 (fun H locs hP hD hS => ?_)
  have hP : va_P (dC, dI) vwCl [(a0, .inr (4, [.int 0, .int 0, .ref r0, .int 1, .int 0, .ref r1, .ref r2, .ref r3, .ref a1, .ref r4, .int 0, .int 0, .int (-1), .int 0, .int (-1), .int 0, .ref r5, .int 0, .ref r6, .ref r7, .ref r8, .ref r9, .ref r10, .int 0, .int 0, .int 0, .ref r11, .ref r12, .int 0, .ref r13, .ref r14, .ref r15, .ref r16, .ref r17, .int 0, .int 0, .int 0, .ref r18])), (a1, .inl (t0, 40, .inl (upd (fun _ => 0) 0 (-1))))] H := hP
  have hD : va_D A [(a0, .inr (4, [.int 0, .int 0, .ref r0, .int 1, .int 0, .ref r1, .ref r2, .ref r3, .ref a1, .ref r4, .int 0, .int 0, .int (-1), .int 0, .int (-1), .int 0, .ref r5, .int 0, .ref r6, .ref r7, .ref r8, .ref r9, .ref r10, .int 0, .int 0, .int 0, .ref r11, .ref r12, .int 0, .ref r13, .ref r14, .ref r15, .ref r16, .ref r17, .int 0, .int 0, .int 0, .ref r18])), (a1, .inl (t0, 40, .inl (upd (fun _ => 0) 0 (-1))))] := hD
  refine lv_aload_n hx hb d_M_parent_21 rfl (lv_at hl 0 rfl) ?_
  refine va_get (D := (dC, dI)) (ci := 4) (v := .int 0) (C := R_M) (T := F_M) (N := 38) hx hb hts (fun w h => List.mem_cons_of_mem _ (in_M w h)) hown hK hP 0 rfl rfl 0 (by decide) (hts _ (List.mem_cons_of_mem _ lk_175)) (fun _ h9 => h9) rfl d_M_parent_22 ?_
  refine lv_if_ne (tgt := 37) hx hb d_M_parent_25 (by decide) (fun h => absurd (by decide +kernel) h) (fun _ => ?_)
  refine lv_aload_n hx hb d_M_parent_28 rfl (lv_at hl 0 rfl) ?_
  refine va_get (D := (dC, dI)) (ci := 4) (v := .ref a1) (C := R_M) (T := F_M) (N := 38) hx hb hts (fun w h => List.mem_cons_of_mem _ (in_M w h)) hown hK hP 0 rfl rfl 8 (by decide) (hts _ (List.mem_cons_of_mem _ lk_148)) (fun _ h9 => h9) rfl d_M_parent_29 ?_
  refine lv_iload_n hx hb d_M_parent_32 rfl (lv_at hl 1 rfl) ?_
  refine va_iald hx hb hK hP 1 0 rfl rfl (wk_in (by decide +kernel)) d_M_parent_33 ?_
  refine wk_top (w := .int (-1)) (congrArg _ (by decide +kernel)) ?_
  refine lv_goto (tgt := 38) hx hb d_M_parent_34 (by decide) ?_
  have hP9 := hP.sub (ws' := [(a0, .inr (4, [.int 0, .int 0, .ref r0, .int 1, .int 0, .ref r1, .ref r2, .ref r3, .ref a1, .ref r4, .int 0, .int 0, .int (-1), .int 0, .int (-1), .int 0, .ref r5, .int 0, .ref r6, .ref r7, .ref r8, .ref r9, .ref r10, .int 0, .int 0, .int 0, .ref r11, .ref r12, .int 0, .ref r13, .ref r14, .ref r15, .ref r16, .ref r17, .int 0, .int 0, .int 0, .ref r18])), (a1, .inl (t0, 40, .inl (upd (fun _ => 0) 0 (-1))))]) [0, 1] rfl
  have hD9 := hD.sub (ws' := [(a0, .inr (4, [.int 0, .int 0, .ref r0, .int 1, .int 0, .ref r1, .ref r2, .ref r3, .ref a1, .ref r4, .int 0, .int 0, .int (-1), .int 0, .int (-1), .int 0, .ref r5, .int 0, .ref r6, .ref r7, .ref r8, .ref r9, .ref r10, .int 0, .int 0, .int 0, .ref r11, .ref r12, .int 0, .ref r13, .ref r14, .ref r15, .ref r16, .ref r17, .int 0, .int 0, .int 0, .ref r18])), (a1, .inl (t0, 40, .inl (upd (fun _ => 0) 0 (-1))))]) [0, 1] (by decide) rfl
  have hK9 := hK.sub (tys' := [(t0, .int)]) [0] rfl
  exact W.iret (v := (-1)) hx hb hr (fun t ht hW => ⟨⟨(-1), (), rfl, rfl, by rw [ht]; exact hP9, va_K.moved hW.alike hK9, hD9⟩, hS.F ht⟩) hS.2.2 d_M_parent_38

set_option maxHeartbeats 4000000 in
set_option maxRecDepth 100000 in
theorem c_D_parent_2 (l : Launch) (hfl : l.flags = flags0) (dC : Nat → ClassId) (dI : Nat → Nat → Nat) (a0 r0 r1 r2 r3 r4 r5 r6 : Nat) (sz : Nat) (k0 : Int32) (hh0 : ¬ k0.toInt = 0) : th_Met l y_D_parent w_D_parent ({ frames := 7, cells := 1, slots := 6, locals := 102 }) (va_Pc [.ref a0, .int k0] (fun U => U.heap.size = sz ∧ va_P (dC, dI) vwCl [(a0, .inr (0, [.ref r0, .int 0, .ref r1, .int 1, .int 0, .ref r2, .int 0, .int (-1), .ref r3, .ref r4, .int 0, .int (-1), .ref r5, .ref r6]))] U.heap ∧ va_K (dC, dI) vwCl [] U ∧ va_D (fun _ => True) [(a0, .inr (0, [.ref r0, .int 0, .ref r1, .int 1, .int 0, .ref r2, .int 0, .int (-1), .ref r3, .ref r4, .int 0, .int (-1), .ref r5, .ref r6]))] ∧ th_Zs U)) (th_Qn "java/lang/IllegalArgumentException") 1 6 (fun _ => False) := by
  refine th_Met.ofW (cc := prog_1_method_18_code) (maxL := 2) (ret := (some .int)) (by decide) rfl ?_
  intro p e s m args below meth c s₁ B hml hnh hv
  obtain ⟨rfl, hsz, hP, hK, hD0, hZ⟩ := hv
  have hx := B.exec
  have hb := B.bytes
  have hr := B.returns
  have hts := atoms_spec (ws := w_D_parent) B.pre
  have hown : s.vm.findClass R_D = some m.cls := findClass_of_methodNamed B.named
  have hlocks := B.notSynchronized
  have htr := Launch.traces_off hfl B.admits
  subst hsz
  have hD := hD0.self (sz := s.heap.size)
  generalize hAe : va_A [(a0, .inr (0, [.ref r0, .int 0, .ref r1, .int 1, .int 0, .ref r2, .int 0, .int (-1), .ref r3, .ref r4, .int 0, .int (-1), .ref r5, .ref r6]))] s.heap.size = A at hD
  have hA : ∀ q : Nat, s.heap.size ≤ q → A q := fun q h => by rw [← hAe]; exact Or.inr h
  have hS : va_S A s.heap s.heap [] := va_S.rf
  have hP : va_P (dC, dI) vwCl [(a0, .inr (0, [.ref r0, .int 0, .ref r1, .int 1, .int 0, .ref r2, .int 0, .int (-1), .ref r3, .ref r4, .int 0, .int (-1), .ref r5, .ref r6]))] s.heap := hP
  have hl := lv_entry ([.ref a0, .int k0]) (n := 2) (Nat.le_of_ble_eq_true rfl)
  rw [lg_entry_eq]
  generalize (lg_sl ([.ref a0, .int k0]) ++ List.replicate (2 - (lg_sl ([.ref a0, .int k0])).length) Slot.unset).toArray = ls at hl ⊢
  have hl : lv_has ls 2 [(0, .ref a0), (1, .int k0)] := hl
  refine lv_aload_n hx hb d_D_parent_0 rfl (lv_at hl 0 rfl) ?_
  refine lv_iload_n hx hb d_D_parent_1 rfl (lv_at hl 1 rfl) ?_
  have hPc := hP.sub (ws' := [(a0, .inr (0, [.ref r0, .int 0, .ref r1, .int 1, .int 0, .ref r2, .int 0, .int (-1), .ref r3, .ref r4, .int 0, .int (-1), .ref r5, .ref r6]))]) [0] rfl
  have hDc := hD.sub (ws' := [(a0, .inr (0, [.ref r0, .int 0, .ref r1, .int 1, .int 0, .ref r2, .int 0, .int (-1), .ref r3, .ref r4, .int 0, .int (-1), .ref r5, .ref r6]))]) [0] (by decide) rfl
  have hKc := hK.sub (tys' := []) [] rfl
  have hFc := va_free (wc := [(a0, .inr (0, [.ref r0, .int 0, .ref r1, .int 1, .int 0, .ref r2, .int 0, .int (-1), .ref r3, .ref r4, .int 0, .int (-1), .ref r5, .ref r6]))]) hD hS hA [0] rfl
  exact th_pass (th_runV (As := [.int k0]) (rest := []) ⟨hx, hb, hml, hown, hts⟩ (c_D_requireState_2 l hfl dC dI a0 r0 r1 r2 r3 r4 r5 r6 s.heap.size k0 (by omega)) (cwV 1 hts (gd_v lk_416 lk_417 lk_418 lk_16 lk_415) rfl rfl rfl (by decide +kernel) ⟨Nat.le_of_ble_eq_true rfl, Nat.le_of_ble_eq_true rfl⟩) ⟨fun a U g mk q => by obtain ⟨q0, q1, qP, qK, qD, qZ⟩ := q; exact ⟨q0, q1, qP, va_K.moved (u := U) (U := U.calling g mk a) (Vm.Alike.refl U.vm) qK, qD, th_Zs.calling qZ⟩, va_recv (ci := 0) (q0 := 0) hK hP rfl rfl, fun U hU hW => ⟨rfl, by rw [hU], by rw [hU]; exact hPc, va_K.moved hW.alike hKc, hDc.weaken (fun _ _ _ _ => trivial), hZ.same hU hW⟩⟩ rfl rfl hl.1 rfl (lv_room (Nat.le_of_ble_eq_true rfl)) d_D_parent_2 ⟨Nat.le_of_ble_eq_true rfl, Nat.le_of_ble_eq_true rfl⟩) hnh hlocks (fun _ h => h)

set_option maxHeartbeats 4000000 in
set_option maxRecDepth 100000 in
theorem c_L_parent_2 (l : Launch) (hfl : l.flags = flags0) (dC : Nat → ClassId) (dI : Nat → Nat → Nat) (a0 r0 r1 r2 r3 r4 r5 r6 r7 : Nat) (sz : Nat) (k0 : Int32) (hh0 : ¬ k0.toInt = 0) : Met l y_L_parent w_L_parent ({ frames := 8, cells := 1, slots := 6, locals := 123 }) (va_Pc [.ref a0, .int k0, .ref r7] (fun U => U.heap.size = sz ∧ va_P (dC, dI) vwCl [(a0, .inr (0, [.ref r0, .int 0, .ref r1, .int 1, .int 0, .ref r2, .int 0, .int (-1), .ref r3, .ref r4, .int 0, .int (-1), .ref r5, .ref r6]))] U.heap ∧ va_K (dC, dI) vwCl [] U ∧ va_D (fun _ => True) [(a0, .inr (0, [.ref r0, .int 0, .ref r1, .int 1, .int 0, .ref r2, .int 0, .int (-1), .ref r3, .ref r4, .int 0, .int (-1), .ref r5, .ref r6]))] ∧ th_Zs U)) (va_Qi (fun (r : Int32) (_ : Unit) => r = 1) (fun (_ : Unit) t => va_P (dC, dI) vwCl [(a0, .inr (0, [.ref r0, .int 0, .ref r1, .int 1, .int 0, .ref r2, .int 0, .int (-1), .ref r3, .ref r4, .int 0, .int (-1), .ref r5, .ref r6]))] t.heap ∧ va_K (dC, dI) vwCl [] t ∧ va_D (va_A [(a0, .inr (0, [.ref r0, .int 0, .ref r1, .int 1, .int 0, .ref r2, .int 0, .int (-1), .ref r3, .ref r4, .int 0, .int (-1), .ref r5, .ref r6]))] sz) [(a0, .inr (0, [.ref r0, .int 0, .ref r1, .int 1, .int 0, .ref r2, .int 0, .int (-1), .ref r3, .ref r4, .int 0, .int (-1), .ref r5, .ref r6]))]) (va_A [(a0, .inr (0, [.ref r0, .int 0, .ref r1, .int 1, .int 0, .ref r2, .int 0, .int (-1), .ref r3, .ref r4, .int 0, .int (-1), .ref r5, .ref r6]))] sz)) 1 6 (va_A [(a0, .inr (0, [.ref r0, .int 0, .ref r1, .int 1, .int 0, .ref r2, .int 0, .int (-1), .ref r3, .ref r4, .int 0, .int (-1), .ref r5, .ref r6]))] sz) := by
  refine th_ofWw (tab := [(0, 9, 12, 28)]) (cc := method_15_code) (maxL := 4) (ret := (some .int)) (by decide) rfl ?_
  intro p e s m args below meth c s₁ B hml htab hv
  obtain ⟨rfl, hsz, hP, hK, hD0, hZ⟩ := hv
  have hx := B.exec
  have hb := B.bytes
  have hr := B.returns
  have hts := atoms_spec (ws := w_L_parent) B.pre
  have hown : s.vm.findClass R_L = some m.cls := findClass_of_methodNamed B.named
  have hlocks := B.notSynchronized
  have htr := Launch.traces_off hfl B.admits
  subst hsz
  have hD := hD0.self (sz := s.heap.size)
  generalize hAe : va_A [(a0, .inr (0, [.ref r0, .int 0, .ref r1, .int 1, .int 0, .ref r2, .int 0, .int (-1), .ref r3, .ref r4, .int 0, .int (-1), .ref r5, .ref r6]))] s.heap.size = A at hD ⊢
  have hA : ∀ q : Nat, s.heap.size ≤ q → A q := fun q h => by rw [← hAe]; exact Or.inr h
  have hS : va_S A s.heap s.heap [] := va_S.rf
  have hP : va_P (dC, dI) vwCl [(a0, .inr (0, [.ref r0, .int 0, .ref r1, .int 1, .int 0, .ref r2, .int 0, .int (-1), .ref r3, .ref r4, .int 0, .int (-1), .ref r5, .ref r6]))] s.heap := hP
  have hl := lv_entry ([.ref a0, .int k0, .ref r7]) (n := 4) (Nat.le_of_ble_eq_true rfl)
  rw [lg_entry_eq]
  generalize (lg_sl ([.ref a0, .int k0, .ref r7]) ++ List.replicate (4 - (lg_sl ([.ref a0, .int k0, .ref r7])).length) Slot.unset).toArray = ls at hl ⊢
  have hl : lv_has ls 4 [(0, .ref a0), (1, .int k0), (2, .ref r7)] := hl
  refine lv_aload_n hx hb d_L_parent_0 rfl (lv_at hl 2 rfl) ?_
  refine lv_iconst (v := 0) hx hb d_L_parent_1 (by decide) ?_
  refine lv_aload_n hx hb d_L_parent_2 rfl (lv_at hl 0 rfl) ?_
  refine lv_iload_n hx hb d_L_parent_3 rfl (lv_at hl 1 rfl) ?_
  have hPc := hP.sub (ws' := [(a0, .inr (0, [.ref r0, .int 0, .ref r1, .int 1, .int 0, .ref r2, .int 0, .int (-1), .ref r3, .ref r4, .int 0, .int (-1), .ref r5, .ref r6]))]) [0] rfl
  have hDc := hD.sub (ws' := [(a0, .inr (0, [.ref r0, .int 0, .ref r1, .int 1, .int 0, .ref r2, .int 0, .int (-1), .ref r3, .ref r4, .int 0, .int (-1), .ref r5, .ref r6]))]) [0] (by decide) rfl
  have hKc := hK.sub (tys' := []) [] rfl
  have hFc := va_free (wc := [(a0, .inr (0, [.ref r0, .int 0, .ref r1, .int 1, .int 0, .ref r2, .int 0, .int (-1), .ref r3, .ref r4, .int 0, .int (-1), .ref r5, .ref r6]))]) hD hS hA [0] rfl
  refine th_catch (own := R_L) (C := "java/lang/IllegalArgumentException") (hpc := 12) (A1 := fun _ => False) (th_runV (As := [.int k0]) (rest := [.int 0, .ref r7]) ⟨hx, hb, hml, hown, hts⟩ (c_D_parent_2 l hfl dC dI a0 r0 r1 r2 r3 r4 r5 r6 s.heap.size k0 (by omega)) (cwV 1 hts (gd_v lk_506 lk_507 lk_508 lk_16 lk_505) rfl rfl rfl (by decide +kernel) ⟨Nat.le_of_ble_eq_true rfl, Nat.le_of_ble_eq_true rfl⟩) ⟨fun a U g mk q => by obtain ⟨q0, q1, qP, qK, qD, qZ⟩ := q; exact ⟨q0, q1, qP, va_K.moved (u := U) (U := U.calling g mk a) (Vm.Alike.refl U.vm) qK, qD, th_Zs.calling qZ⟩, va_recv (ci := 0) (q0 := 0) hK hP rfl rfl, fun U hU hW => ⟨rfl, by rw [hU], by rw [hU]; exact hPc, va_K.moved hW.alike hKc, hDc.weaken (fun _ _ _ _ => trivial), hZ.same hU hW⟩⟩ rfl rfl hl.1 rfl (lv_room (Nat.le_of_ble_eq_true rfl)) d_L_parent_4 ⟨Nat.le_of_ble_eq_true rfl, Nat.le_of_ble_eq_true rfl⟩) hown htab (by refine ⟨⟨by decide, by decide, by decide⟩, "java/lang/IllegalArgumentException", (hts _ (List.mem_cons_of_mem _ lk_443)), ?_⟩; exact Or.inl ⟨rfl, rfl⟩) (fun _ _ _ h => h) hS (fun _ _ h => h.elim) (fun _ h => h.elim) (fun x st₀ t H1 locs ht hvm _ _ hz1 hk1 hS => ?_)
  have hP := hP.kept (fun k q hk => hk1 q.1 (hP k q hk).lt (fun z => z))
  generalize H1 = H at hP hS ⊢
  refine W.cs (cells' := 1) (slots' := 6) rfl rfl ?_
  refine lv_astore_n (lv' := [(3, .ref x), (0, .ref a0), (1, .int k0), (2, .ref r7)]) hx hb d_L_parent_12 rfl hl (by decide) rfl (fun ls hl => ?_)
  have hl : lv_has ls 4 [(3, .ref x), (0, .ref a0), (1, .int k0), (2, .ref r7)] := hl
  refine lv_iconst (v := 1) hx hb d_L_parent_13 (by decide) ?_
  have hP9 := hP.sub (ws' := [(a0, .inr (0, [.ref r0, .int 0, .ref r1, .int 1, .int 0, .ref r2, .int 0, .int (-1), .ref r3, .ref r4, .int 0, .int (-1), .ref r5, .ref r6]))]) [0] rfl
  have hD9 := hD.sub (ws' := [(a0, .inr (0, [.ref r0, .int 0, .ref r1, .int 1, .int 0, .ref r2, .int 0, .int (-1), .ref r3, .ref r4, .int 0, .int (-1), .ref r5, .ref r6]))]) [0] (by decide) rfl
  have hK9 := hK.sub (tys' := []) [] rfl
  exact W.iret (v := 1) hx hb hr (fun t ht hW => ⟨⟨1, (), rfl, rfl, by rw [ht]; exact hP9, va_K.moved hW.alike hK9, hD9⟩, hS.F ht⟩) hS.2.2 d_L_parent_14

set_option maxHeartbeats 4000000 in
set_option maxRecDepth 100000 in
theorem c_M_parent_2 (l : Launch) (dC : Nat → ClassId) (dI : Nat → Nat → Nat) (a0 r0 r1 r2 r3 r4 r5 r6 r7 r8 r9 r10 r11 r12 r13 r14 r15 r16 r17 r18 r19 : Nat) (sz : Nat) (k0 : Int32) (hh0 : ¬ k0.toInt = 0) : Met l y_M_parent w_M_parent ({ frames := 0, cells := 0, slots := 0, locals := 0 }) (va_Pc [.ref a0, .int k0] (fun U => U.heap.size = sz ∧ va_P (dC, dI) vwCl [(a0, .inr (4, [.int 0, .int 0, .ref r0, .int 1, .int 0, .ref r1, .ref r2, .ref r3, .ref r4, .ref r5, .int 0, .int 0, .int (-1), .int 0, .int (-1), .int 0, .ref r6, .int 0, .ref r7, .ref r8, .ref r9, .ref r10, .ref r11, .int 0, .int 0, .int 0, .ref r12, .ref r13, .int 0, .ref r14, .ref r15, .ref r16, .ref r17, .ref r18, .int 0, .int 0, .int 0, .ref r19]))] U.heap ∧ va_K (dC, dI) vwCl [] U ∧ va_D (fun _ => True) [(a0, .inr (4, [.int 0, .int 0, .ref r0, .int 1, .int 0, .ref r1, .ref r2, .ref r3, .ref r4, .ref r5, .int 0, .int 0, .int (-1), .int 0, .int (-1), .int 0, .ref r6, .int 0, .ref r7, .ref r8, .ref r9, .ref r10, .ref r11, .int 0, .int 0, .int 0, .ref r12, .ref r13, .int 0, .ref r14, .ref r15, .ref r16, .ref r17, .ref r18, .int 0, .int 0, .int 0, .ref r19]))])) (va_Qi (fun (r : Int32) (_ : Unit) => r = 0) (fun (_ : Unit) t => va_P (dC, dI) vwCl [(a0, .inr (4, [.int 1, .int 0, .ref r0, .int 1, .int 0, .ref r1, .ref r2, .ref r3, .ref r4, .ref r5, .int 0, .int 0, .int (-1), .int 0, .int (-1), .int 0, .ref r6, .int 0, .ref r7, .ref r8, .ref r9, .ref r10, .ref r11, .int 0, .int 0, .int 0, .ref r12, .ref r13, .int 0, .ref r14, .ref r15, .ref r16, .ref r17, .ref r18, .int 0, .int 0, .int 0, .ref r19]))] t.heap ∧ va_K (dC, dI) vwCl [] t ∧ va_D (va_A [(a0, .inr (4, [.int 0, .int 0, .ref r0, .int 1, .int 0, .ref r1, .ref r2, .ref r3, .ref r4, .ref r5, .int 0, .int 0, .int (-1), .int 0, .int (-1), .int 0, .ref r6, .int 0, .ref r7, .ref r8, .ref r9, .ref r10, .ref r11, .int 0, .int 0, .int 0, .ref r12, .ref r13, .int 0, .ref r14, .ref r15, .ref r16, .ref r17, .ref r18, .int 0, .int 0, .int 0, .ref r19]))] sz) [(a0, .inr (4, [.int 1, .int 0, .ref r0, .int 1, .int 0, .ref r1, .ref r2, .ref r3, .ref r4, .ref r5, .int 0, .int 0, .int (-1), .int 0, .int (-1), .int 0, .ref r6, .int 0, .ref r7, .ref r8, .ref r9, .ref r10, .ref r11, .int 0, .int 0, .int 0, .ref r12, .ref r13, .int 0, .ref r14, .ref r15, .ref r16, .ref r17, .ref r18, .int 0, .int 0, .int 0, .ref r19]))]) (va_A [(a0, .inr (4, [.int 0, .int 0, .ref r0, .int 1, .int 0, .ref r1, .ref r2, .ref r3, .ref r4, .ref r5, .int 0, .int 0, .int (-1), .int 0, .int (-1), .int 0, .ref r6, .int 0, .ref r7, .ref r8, .ref r9, .ref r10, .ref r11, .int 0, .int 0, .int 0, .ref r12, .ref r13, .int 0, .ref r14, .ref r15, .ref r16, .ref r17, .ref r18, .int 0, .int 0, .int 0, .ref r19]))] sz)) 0 0 (va_A [(a0, .inr (4, [.int 0, .int 0, .ref r0, .int 1, .int 0, .ref r1, .ref r2, .ref r3, .ref r4, .ref r5, .int 0, .int 0, .int (-1), .int 0, .int (-1), .int 0, .ref r6, .int 0, .ref r7, .ref r8, .ref r9, .ref r10, .ref r11, .int 0, .int 0, .int 0, .ref r12, .ref r13, .int 0, .ref r14, .ref r15, .ref r16, .ref r17, .ref r18, .int 0, .int 0, .int 0, .ref r19]))] sz) := by
  refine Met.ofW (cc := prog_6_method_53_code) (maxL := 2) (ret := (some .int)) (by decide) rfl ?_
  intro p e s m args below meth c s₁ B hml hv
  obtain ⟨rfl, hsz, hP, hK, hD0⟩ := hv
  have hx := B.exec
  have hb := B.bytes
  have hr := B.returns
  have hts := atoms_spec (ws := w_M_parent) B.pre
  have hown : s.vm.findClass R_M = some m.cls := findClass_of_methodNamed B.named
  have hlocks := B.notSynchronized
  subst hsz
  have hD := hD0.self (sz := s.heap.size)
  generalize hAe : va_A [(a0, .inr (4, [.int 0, .int 0, .ref r0, .int 1, .int 0, .ref r1, .ref r2, .ref r3, .ref r4, .ref r5, .int 0, .int 0, .int (-1), .int 0, .int (-1), .int 0, .ref r6, .int 0, .ref r7, .ref r8, .ref r9, .ref r10, .ref r11, .int 0, .int 0, .int 0, .ref r12, .ref r13, .int 0, .ref r14, .ref r15, .ref r16, .ref r17, .ref r18, .int 0, .int 0, .int 0, .ref r19]))] s.heap.size = A at hD ⊢
  have hA : ∀ q : Nat, s.heap.size ≤ q → A q := fun q h => by rw [← hAe]; exact Or.inr h
  have hS : va_S A s.heap s.heap [] := va_S.rf
  have hP : va_P (dC, dI) vwCl [(a0, .inr (4, [.int 0, .int 0, .ref r0, .int 1, .int 0, .ref r1, .ref r2, .ref r3, .ref r4, .ref r5, .int 0, .int 0, .int (-1), .int 0, .int (-1), .int 0, .ref r6, .int 0, .ref r7, .ref r8, .ref r9, .ref r10, .ref r11, .int 0, .int 0, .int 0, .ref r12, .ref r13, .int 0, .ref r14, .ref r15, .ref r16, .ref r17, .ref r18, .int 0, .int 0, .int 0, .ref r19]))] s.heap := hP
  have hl := lv_entry ([.ref a0, .int k0]) (n := 2) (Nat.le_of_ble_eq_true rfl)
  rw [lg_entry_eq]
  generalize (lg_sl ([.ref a0, .int k0]) ++ List.replicate (2 - (lg_sl ([.ref a0, .int k0])).length) Slot.unset).toArray = ls at hl ⊢
  have hl : lv_has ls 2 [(0, .ref a0), (1, .int k0)] := hl
  refine lv_aload_n hx hb d_M_parent_0 rfl (lv_at hl 0 rfl) ?_
  refine lv_iload_n hx hb d_M_parent_1 rfl (lv_at hl 1 rfl) ?_
  refine lv_if_lt (tgt := 13) hx hb d_M_parent_2 (by decide) (fun hf1 => ?_) (fun hf1 => ?_)
  ·
    have hf1 : k0.toInt < 0 := (wk_lt 0 (by decide)).mp hf1
    refine lv_iconst (v := 1) hx hb d_M_parent_13 (by decide) ?_
    refine lv_goto (tgt := 18) hx hb d_M_parent_14 (by decide) ?_
    refine va_put (D := (dC, dI)) (ci := 4) (v := .int 1) (ty := .int) (C := R_M) (T := F_M) (N := 38) hx hb hts (fun w h => List.mem_cons_of_mem _ (in_M w h)) t_M tk_M n_M hown hK hP hD hS 0 rfl rfl 0 (by decide) (hts _ (List.mem_cons_of_mem _ lk_175)) (fun _ h9 => h9) rfl (by decide +kernel) rfl rfl (Nat.le_of_ble_eq_true rfl) d_M_parent_18 (fun H locs hP hD hS => ?_)
    have hP : va_P (dC, dI) vwCl [(a0, .inr (4, [.int 1, .int 0, .ref r0, .int 1, .int 0, .ref r1, .ref r2, .ref r3, .ref r4, .ref r5, .int 0, .int 0, .int (-1), .int 0, .int (-1), .int 0, .ref r6, .int 0, .ref r7, .ref r8, .ref r9, .ref r10, .ref r11, .int 0, .int 0, .int 0, .ref r12, .ref r13, .int 0, .ref r14, .ref r15, .ref r16, .ref r17, .ref r18, .int 0, .int 0, .int 0, .ref r19]))] H := hP
    have hD : va_D A [(a0, .inr (4, [.int 1, .int 0, .ref r0, .int 1, .int 0, .ref r1, .ref r2, .ref r3, .ref r4, .ref r5, .int 0, .int 0, .int (-1), .int 0, .int (-1), .int 0, .ref r6, .int 0, .ref r7, .ref r8, .ref r9, .ref r10, .ref r11, .int 0, .int 0, .int 0, .ref r12, .ref r13, .int 0, .ref r14, .ref r15, .ref r16, .ref r17, .ref r18, .int 0, .int 0, .int 0, .ref r19]))] := hD
    refine lv_aload_n hx hb d_M_parent_21 rfl (lv_at hl 0 rfl) ?_
    refine va_get (D := (dC, dI)) (ci := 4) (v := .int 1) (C := R_M) (T := F_M) (N := 38) hx hb hts (fun w h => List.mem_cons_of_mem _ (in_M w h)) hown hK hP 0 rfl rfl 0 (by decide) (hts _ (List.mem_cons_of_mem _ lk_175)) (fun _ h9 => h9) rfl d_M_parent_22 ?_
    refine lv_if_ne (tgt := 37) hx hb d_M_parent_25 (by decide) (fun _ => ?_) (fun h => absurd h (by decide +kernel))
    refine lv_iconst (v := 0) hx hb d_M_parent_37 (by decide) ?_
    have hP9 := hP.sub (ws' := [(a0, .inr (4, [.int 1, .int 0, .ref r0, .int 1, .int 0, .ref r1, .ref r2, .ref r3, .ref r4, .ref r5, .int 0, .int 0, .int (-1), .int 0, .int (-1), .int 0, .ref r6, .int 0, .ref r7, .ref r8, .ref r9, .ref r10, .ref r11, .int 0, .int 0, .int 0, .ref r12, .ref r13, .int 0, .ref r14, .ref r15, .ref r16, .ref r17, .ref r18, .int 0, .int 0, .int 0, .ref r19]))]) [0] rfl
    have hD9 := hD.sub (ws' := [(a0, .inr (4, [.int 1, .int 0, .ref r0, .int 1, .int 0, .ref r1, .ref r2, .ref r3, .ref r4, .ref r5, .int 0, .int 0, .int (-1), .int 0, .int (-1), .int 0, .ref r6, .int 0, .ref r7, .ref r8, .ref r9, .ref r10, .ref r11, .int 0, .int 0, .int 0, .ref r12, .ref r13, .int 0, .ref r14, .ref r15, .ref r16, .ref r17, .ref r18, .int 0, .int 0, .int 0, .ref r19]))]) [0] (by decide) rfl
    have hK9 := hK.sub (tys' := []) [] rfl
    exact W.iret (v := 0) hx hb hr (fun t ht hW => ⟨⟨0, (), rfl, rfl, by rw [ht]; exact hP9, va_K.moved hW.alike hK9, hD9⟩, hS.F ht⟩) hS.2.2 d_M_parent_38
  ·
    have hf1 : ¬ k0.toInt < 0 := fun z => hf1 ((wk_lt 0 (by decide)).mpr z)
    refine lv_iload_n hx hb d_M_parent_5 rfl (lv_at hl 1 rfl) ?_
    refine lv_aload_n hx hb d_M_parent_6 rfl (lv_at hl 0 rfl) ?_
    refine va_get (D := (dC, dI)) (ci := 4) (v := .int 1) (C := R_M) (T := F_M) (N := 38) hx hb hts (fun w h => List.mem_cons_of_mem _ (in_M w h)) hown hK hP 0 rfl rfl 3 (by decide) (hts _ (List.mem_cons_of_mem _ lk_144)) (fun _ h9 => h9) rfl d_M_parent_7 ?_
    refine lv_icmp_lt (tgt := 17) hx hb d_M_parent_10 (by decide) (fun h => absurd h (fun z => absurd ((wk_lt 1 (by decide)).mp z) (by omega))) (fun _ => ?_)
    refine lv_iconst (v := 1) hx hb d_M_parent_13 (by decide) ?_
    refine lv_goto (tgt := 18) hx hb d_M_parent_14 (by decide) ?_
    refine va_put (D := (dC, dI)) (ci := 4) (v := .int 1) (ty := .int) (C := R_M) (T := F_M) (N := 38) hx hb hts (fun w h => List.mem_cons_of_mem _ (in_M w h)) t_M tk_M n_M hown hK hP hD hS 0 rfl rfl 0 (by decide) (hts _ (List.mem_cons_of_mem _ lk_175)) (fun _ h9 => h9) rfl (by decide +kernel) rfl rfl (Nat.le_of_ble_eq_true rfl) d_M_parent_18 (fun H locs hP hD hS => ?_)
    have hP : va_P (dC, dI) vwCl [(a0, .inr (4, [.int 1, .int 0, .ref r0, .int 1, .int 0, .ref r1, .ref r2, .ref r3, .ref r4, .ref r5, .int 0, .int 0, .int (-1), .int 0, .int (-1), .int 0, .ref r6, .int 0, .ref r7, .ref r8, .ref r9, .ref r10, .ref r11, .int 0, .int 0, .int 0, .ref r12, .ref r13, .int 0, .ref r14, .ref r15, .ref r16, .ref r17, .ref r18, .int 0, .int 0, .int 0, .ref r19]))] H := hP
    have hD : va_D A [(a0, .inr (4, [.int 1, .int 0, .ref r0, .int 1, .int 0, .ref r1, .ref r2, .ref r3, .ref r4, .ref r5, .int 0, .int 0, .int (-1), .int 0, .int (-1), .int 0, .ref r6, .int 0, .ref r7, .ref r8, .ref r9, .ref r10, .ref r11, .int 0, .int 0, .int 0, .ref r12, .ref r13, .int 0, .ref r14, .ref r15, .ref r16, .ref r17, .ref r18, .int 0, .int 0, .int 0, .ref r19]))] := hD
    refine lv_aload_n hx hb d_M_parent_21 rfl (lv_at hl 0 rfl) ?_
    refine va_get (D := (dC, dI)) (ci := 4) (v := .int 1) (C := R_M) (T := F_M) (N := 38) hx hb hts (fun w h => List.mem_cons_of_mem _ (in_M w h)) hown hK hP 0 rfl rfl 0 (by decide) (hts _ (List.mem_cons_of_mem _ lk_175)) (fun _ h9 => h9) rfl d_M_parent_22 ?_
    refine lv_if_ne (tgt := 37) hx hb d_M_parent_25 (by decide) (fun _ => ?_) (fun h => absurd h (by decide +kernel))
    refine lv_iconst (v := 0) hx hb d_M_parent_37 (by decide) ?_
    have hP9 := hP.sub (ws' := [(a0, .inr (4, [.int 1, .int 0, .ref r0, .int 1, .int 0, .ref r1, .ref r2, .ref r3, .ref r4, .ref r5, .int 0, .int 0, .int (-1), .int 0, .int (-1), .int 0, .ref r6, .int 0, .ref r7, .ref r8, .ref r9, .ref r10, .ref r11, .int 0, .int 0, .int 0, .ref r12, .ref r13, .int 0, .ref r14, .ref r15, .ref r16, .ref r17, .ref r18, .int 0, .int 0, .int 0, .ref r19]))]) [0] rfl
    have hD9 := hD.sub (ws' := [(a0, .inr (4, [.int 1, .int 0, .ref r0, .int 1, .int 0, .ref r1, .ref r2, .ref r3, .ref r4, .ref r5, .int 0, .int 0, .int (-1), .int 0, .int (-1), .int 0, .ref r6, .int 0, .ref r7, .ref r8, .ref r9, .ref r10, .ref r11, .int 0, .int 0, .int 0, .ref r12, .ref r13, .int 0, .ref r14, .ref r15, .ref r16, .ref r17, .ref r18, .int 0, .int 0, .int 0, .ref r19]))]) [0] (by decide) rfl
    have hK9 := hK.sub (tys' := []) [] rfl
    exact W.iret (v := 0) hx hb hr (fun t ht hW => ⟨⟨0, (), rfl, rfl, by rw [ht]; exact hP9, va_K.moved hW.alike hK9, hD9⟩, hS.F ht⟩) hS.2.2 d_M_parent_38

