set_option maxHeartbeats 4000000 in
set_option maxRecDepth 100000 in
theorem c_M_jump_2 (l : Launch) (dC : Nat → ClassId) (dI : Nat → Nat → Nat) (a0 r0 r1 r2 r3 r4 r5 r6 r7 r8 r9 r10 r11 r12 r13 r14 r15 r16 r17 r18 r19 : Nat) (sz : Nat) (k0 : Int32) (hh0 : ¬ k0.toInt = 0) : Met l y_M_jump w_M_jump ({ frames := 0, cells := 0, slots := 0, locals := 0 }) (va_Pc [.ref a0, .int k0] (fun U => U.heap.size = sz ∧ va_P (dC, dI) vwCl [(a0, .inr (4, [.int 0, .int 0, .ref r0, .int 1, .int 0, .ref r1, .ref r2, .ref r3, .ref r4, .ref r5, .int 0, .int 0, .int (-1), .int 0, .int (-1), .int 0, .ref r6, .int 0, .ref r7, .ref r8, .ref r9, .ref r10, .ref r11, .int 0, .int 0, .int 0, .ref r12, .ref r13, .int 0, .ref r14, .ref r15, .ref r16, .ref r17, .ref r18, .int 0, .int 0, .int 0, .ref r19]))] U.heap ∧ va_K (dC, dI) vwCl [] U ∧ va_D (fun _ => True) [(a0, .inr (4, [.int 0, .int 0, .ref r0, .int 1, .int 0, .ref r1, .ref r2, .ref r3, .ref r4, .ref r5, .int 0, .int 0, .int (-1), .int 0, .int (-1), .int 0, .ref r6, .int 0, .ref r7, .ref r8, .ref r9, .ref r10, .ref r11, .int 0, .int 0, .int 0, .ref r12, .ref r13, .int 0, .ref r14, .ref r15, .ref r16, .ref r17, .ref r18, .int 0, .int 0, .int 0, .ref r19]))])) (va_Qv (fun (u : Unit) => u = u) (fun (_ : Unit) t => va_P (dC, dI) vwCl [(a0, .inr (4, [.int 1, .int 0, .ref r0, .int 1, .int 0, .ref r1, .ref r2, .ref r3, .ref r4, .ref r5, .int 0, .int 0, .int (-1), .int 0, .int (-1), .int 0, .ref r6, .int 0, .ref r7, .ref r8, .ref r9, .ref r10, .ref r11, .int 0, .int 0, .int 0, .ref r12, .ref r13, .int 0, .ref r14, .ref r15, .ref r16, .ref r17, .ref r18, .int 0, .int 0, .int 0, .ref r19]))] t.heap ∧ va_K (dC, dI) vwCl [] t ∧ va_D (va_A [(a0, .inr (4, [.int 0, .int 0, .ref r0, .int 1, .int 0, .ref r1, .ref r2, .ref r3, .ref r4, .ref r5, .int 0, .int 0, .int (-1), .int 0, .int (-1), .int 0, .ref r6, .int 0, .ref r7, .ref r8, .ref r9, .ref r10, .ref r11, .int 0, .int 0, .int 0, .ref r12, .ref r13, .int 0, .ref r14, .ref r15, .ref r16, .ref r17, .ref r18, .int 0, .int 0, .int 0, .ref r19]))] sz) [(a0, .inr (4, [.int 1, .int 0, .ref r0, .int 1, .int 0, .ref r1, .ref r2, .ref r3, .ref r4, .ref r5, .int 0, .int 0, .int (-1), .int 0, .int (-1), .int 0, .ref r6, .int 0, .ref r7, .ref r8, .ref r9, .ref r10, .ref r11, .int 0, .int 0, .int 0, .ref r12, .ref r13, .int 0, .ref r14, .ref r15, .ref r16, .ref r17, .ref r18, .int 0, .int 0, .int 0, .ref r19]))]) (va_A [(a0, .inr (4, [.int 0, .int 0, .ref r0, .int 1, .int 0, .ref r1, .ref r2, .ref r3, .ref r4, .ref r5, .int 0, .int 0, .int (-1), .int 0, .int (-1), .int 0, .ref r6, .int 0, .ref r7, .ref r8, .ref r9, .ref r10, .ref r11, .int 0, .int 0, .int 0, .ref r12, .ref r13, .int 0, .ref r14, .ref r15, .ref r16, .ref r17, .ref r18, .int 0, .int 0, .int 0, .ref r19]))] sz)) 0 0 (va_A [(a0, .inr (4, [.int 0, .int 0, .ref r0, .int 1, .int 0, .ref r1, .ref r2, .ref r3, .ref r4, .ref r5, .int 0, .int 0, .int (-1), .int 0, .int (-1), .int 0, .ref r6, .int 0, .ref r7, .ref r8, .ref r9, .ref r10, .ref r11, .int 0, .int 0, .int 0, .ref r12, .ref r13, .int 0, .ref r14, .ref r15, .ref r16, .ref r17, .ref r18, .int 0, .int 0, .int 0, .ref r19]))] sz) := by
  refine Met.ofW (cc := prog_6_method_20_code) (maxL := 2) (ret := none) (by decide) rfl ?_
  intro p e s m args below meth c s₁ B hml hv
  obtain ⟨rfl, hsz, hP, hK, hD0⟩ := hv
  have hx := B.exec
  have hb := B.bytes
  have hr := B.returns
  have hts := atoms_spec (ws := w_M_jump) B.pre
  have hown : s.vm.findClass R_M = some m.cls := findClass_of_methodNamed B.named
  have hlocks := B.notSynchronized
  subst hsz
  have hD := hD0.self (sz := s.heap.size)
  generalize hAe : va_A [(a0, .inr (4, [.int 0, .int 0, .ref r0, .int 1, .int 0, .ref r1, .ref r2, .ref r3, .ref r4, .ref r5, .int 0, .int 0, .int (-1), .int 0, .int (-1), .int 0, .ref r6, .int 0, .ref r7, .ref r8, .ref r9, .ref r10, .ref r11, .int 0, .int 0, .int 0, .ref r12, .ref r13, .int 0, .ref r14, .ref r15, .ref r16, .ref r17, .ref r18, .int 0, .int 0, .int 0, .ref r19]))] s.heap.size = A at hD ⊢
  have hA : ∀ q : Nat, s.heap.size ≤ q → A q := fun q h => by rw [← hAe]; exact Or.inr h
  have hS : va_S A s.heap s.heap [] := va_S.rf
  have hP : va_P (dC, dI) vwCl [(a0, .inr (4, [.int 0, .int 0, .ref r0, .int 1, .int 0, .ref r1, .ref r2, .ref r3, .ref r4, .ref r5, .int 0, .int 0, .int (-1), .int 0, .int (-1), .int 0, .ref r6, .int 0, .ref r7, .ref r8, .ref r9, .ref r10, .ref r11, .int 0, .int 0, .int 0, .ref r12, .ref r13, .int 0, .ref r14, .ref r15, .ref r16, .ref r17, .ref r18, .int 0, .int 0, .int 0, .ref r19]))] s.heap := hP
  have hl := lv_entry ([.ref a0, .int k0]) (n := 2) (Nat.le_of_ble_eq_true rfl)
  rw [lg_entry_eq]
  generalize (lg_sl ([.ref a0, .int k0]) ++ List.replicate (2 - (lg_sl ([.ref a0, .int k0])).length) Slot.unset).toArray = ls at hl ⊢
  have hl : lv_has ls 2 [(0, .ref a0), (1, .int k0)] := hl
  refine lv_aload_n hx hb d_M_jump_0 rfl (lv_at hl 0 rfl) ?_
  refine lv_iload_n hx hb d_M_jump_1 rfl (lv_at hl 1 rfl) ?_
  refine lv_if_lt (tgt := 13) hx hb d_M_jump_2 (by decide) (fun hf1 => ?_) (fun hf1 => ?_)
  ·
    have hf1 : k0.toInt < 0 := (wk_lt 0 (by decide)).mp hf1
    refine lv_iconst (v := 1) hx hb d_M_jump_13 (by decide) ?_
    refine lv_goto (tgt := 18) hx hb d_M_jump_14 (by decide) ?_
    refine va_put (D := (dC, dI)) (ci := 4) (v := .int 1) (ty := .int) (C := R_M) (T := F_M) (N := 38) hx hb hts (fun w h => List.mem_cons_of_mem _ (in_M w h)) t_M tk_M n_M hown hK hP hD hS 0 rfl rfl 0 (by decide) (hts _ (List.mem_cons_of_mem _ lk_175)) (fun _ h9 => h9) rfl (by decide +kernel) rfl rfl (Nat.le_of_ble_eq_true rfl) d_M_jump_18 (fun H locs hP hD hS => ?_)
    have hP : va_P (dC, dI) vwCl [(a0, .inr (4, [.int 1, .int 0, .ref r0, .int 1, .int 0, .ref r1, .ref r2, .ref r3, .ref r4, .ref r5, .int 0, .int 0, .int (-1), .int 0, .int (-1), .int 0, .ref r6, .int 0, .ref r7, .ref r8, .ref r9, .ref r10, .ref r11, .int 0, .int 0, .int 0, .ref r12, .ref r13, .int 0, .ref r14, .ref r15, .ref r16, .ref r17, .ref r18, .int 0, .int 0, .int 0, .ref r19]))] H := hP
    have hD : va_D A [(a0, .inr (4, [.int 1, .int 0, .ref r0, .int 1, .int 0, .ref r1, .ref r2, .ref r3, .ref r4, .ref r5, .int 0, .int 0, .int (-1), .int 0, .int (-1), .int 0, .ref r6, .int 0, .ref r7, .ref r8, .ref r9, .ref r10, .ref r11, .int 0, .int 0, .int 0, .ref r12, .ref r13, .int 0, .ref r14, .ref r15, .ref r16, .ref r17, .ref r18, .int 0, .int 0, .int 0, .ref r19]))] := hD
    refine lv_aload_n hx hb d_M_jump_21 rfl (lv_at hl 0 rfl) ?_
    refine va_get (D := (dC, dI)) (ci := 4) (v := .int 1) (C := R_M) (T := F_M) (N := 38) hx hb hts (fun w h => List.mem_cons_of_mem _ (in_M w h)) hown hK hP 0 rfl rfl 0 (by decide) (hts _ (List.mem_cons_of_mem _ lk_175)) (fun _ h9 => h9) rfl d_M_jump_22 ?_
    refine lv_if_ne (tgt := 33) hx hb d_M_jump_25 (by decide) (fun _ => ?_) (fun h => absurd h (by decide +kernel))
    have hP9 := hP.sub (ws' := [(a0, .inr (4, [.int 1, .int 0, .ref r0, .int 1, .int 0, .ref r1, .ref r2, .ref r3, .ref r4, .ref r5, .int 0, .int 0, .int (-1), .int 0, .int (-1), .int 0, .ref r6, .int 0, .ref r7, .ref r8, .ref r9, .ref r10, .ref r11, .int 0, .int 0, .int 0, .ref r12, .ref r13, .int 0, .ref r14, .ref r15, .ref r16, .ref r17, .ref r18, .int 0, .int 0, .int 0, .ref r19]))]) [0] rfl
    have hD9 := hD.sub (ws' := [(a0, .inr (4, [.int 1, .int 0, .ref r0, .int 1, .int 0, .ref r1, .ref r2, .ref r3, .ref r4, .ref r5, .int 0, .int 0, .int (-1), .int 0, .int (-1), .int 0, .ref r6, .int 0, .ref r7, .ref r8, .ref r9, .ref r10, .ref r11, .int 0, .int 0, .int 0, .ref r12, .ref r13, .int 0, .ref r14, .ref r15, .ref r16, .ref r17, .ref r18, .int 0, .int 0, .int 0, .ref r19]))]) [0] (by decide) rfl
    have hK9 := hK.sub (tys' := []) [] rfl
    exact W.vret hx hb hr (fun t ht hW => ⟨⟨(), rfl, rfl, by rw [ht]; exact hP9, va_K.moved hW.alike hK9, hD9⟩, hS.F ht⟩) hS.2.2 d_M_jump_33
  ·
    have hf1 : ¬ k0.toInt < 0 := fun z => hf1 ((wk_lt 0 (by decide)).mpr z)
    refine lv_iload_n hx hb d_M_jump_5 rfl (lv_at hl 1 rfl) ?_
    refine lv_aload_n hx hb d_M_jump_6 rfl (lv_at hl 0 rfl) ?_
    refine va_get (D := (dC, dI)) (ci := 4) (v := .int 1) (C := R_M) (T := F_M) (N := 38) hx hb hts (fun w h => List.mem_cons_of_mem _ (in_M w h)) hown hK hP 0 rfl rfl 3 (by decide) (hts _ (List.mem_cons_of_mem _ lk_144)) (fun _ h9 => h9) rfl d_M_jump_7 ?_
    refine lv_icmp_lt (tgt := 17) hx hb d_M_jump_10 (by decide) (fun h => absurd h (fun z => absurd ((wk_lt 1 (by decide)).mp z) (by omega))) (fun _ => ?_)
    refine lv_iconst (v := 1) hx hb d_M_jump_13 (by decide) ?_
    refine lv_goto (tgt := 18) hx hb d_M_jump_14 (by decide) ?_
    refine va_put (D := (dC, dI)) (ci := 4) (v := .int 1) (ty := .int) (C := R_M) (T := F_M) (N := 38) hx hb hts (fun w h => List.mem_cons_of_mem _ (in_M w h)) t_M tk_M n_M hown hK hP hD hS 0 rfl rfl 0 (by decide) (hts _ (List.mem_cons_of_mem _ lk_175)) (fun _ h9 => h9) rfl (by decide +kernel) rfl rfl (Nat.le_of_ble_eq_true rfl) d_M_jump_18 (fun H locs hP hD hS => ?_)
    have hP : va_P (dC, dI) vwCl [(a0, .inr (4, [.int 1, .int 0, .ref r0, .int 1, .int 0, .ref r1, .ref r2, .ref r3, .ref r4, .ref r5, .int 0, .int 0, .int (-1), .int 0, .int (-1), .int 0, .ref r6, .int 0, .ref r7, .ref r8, .ref r9, .ref r10, .ref r11, .int 0, .int 0, .int 0, .ref r12, .ref r13, .int 0, .ref r14, .ref r15, .ref r16, .ref r17, .ref r18, .int 0, .int 0, .int 0, .ref r19]))] H := hP
    have hD : va_D A [(a0, .inr (4, [.int 1, .int 0, .ref r0, .int 1, .int 0, .ref r1, .ref r2, .ref r3, .ref r4, .ref r5, .int 0, .int 0, .int (-1), .int 0, .int (-1), .int 0, .ref r6, .int 0, .ref r7, .ref r8, .ref r9, .ref r10, .ref r11, .int 0, .int 0, .int 0, .ref r12, .ref r13, .int 0, .ref r14, .ref r15, .ref r16, .ref r17, .ref r18, .int 0, .int 0, .int 0, .ref r19]))] := hD
    refine lv_aload_n hx hb d_M_jump_21 rfl (lv_at hl 0 rfl) ?_
    refine va_get (D := (dC, dI)) (ci := 4) (v := .int 1) (C := R_M) (T := F_M) (N := 38) hx hb hts (fun w h => List.mem_cons_of_mem _ (in_M w h)) hown hK hP 0 rfl rfl 0 (by decide) (hts _ (List.mem_cons_of_mem _ lk_175)) (fun _ h9 => h9) rfl d_M_jump_22 ?_
    refine lv_if_ne (tgt := 33) hx hb d_M_jump_25 (by decide) (fun _ => ?_) (fun h => absurd h (by decide +kernel))
    have hP9 := hP.sub (ws' := [(a0, .inr (4, [.int 1, .int 0, .ref r0, .int 1, .int 0, .ref r1, .ref r2, .ref r3, .ref r4, .ref r5, .int 0, .int 0, .int (-1), .int 0, .int (-1), .int 0, .ref r6, .int 0, .ref r7, .ref r8, .ref r9, .ref r10, .ref r11, .int 0, .int 0, .int 0, .ref r12, .ref r13, .int 0, .ref r14, .ref r15, .ref r16, .ref r17, .ref r18, .int 0, .int 0, .int 0, .ref r19]))]) [0] rfl
    have hD9 := hD.sub (ws' := [(a0, .inr (4, [.int 1, .int 0, .ref r0, .int 1, .int 0, .ref r1, .ref r2, .ref r3, .ref r4, .ref r5, .int 0, .int 0, .int (-1), .int 0, .int (-1), .int 0, .ref r6, .int 0, .ref r7, .ref r8, .ref r9, .ref r10, .ref r11, .int 0, .int 0, .int 0, .ref r12, .ref r13, .int 0, .ref r14, .ref r15, .ref r16, .ref r17, .ref r18, .int 0, .int 0, .int 0, .ref r19]))]) [0] (by decide) rfl
    have hK9 := hK.sub (tys' := []) [] rfl
    exact W.vret hx hb hr (fun t ht hW => ⟨⟨(), rfl, rfl, by rw [ht]; exact hP9, va_K.moved hW.alike hK9, hD9⟩, hS.F ht⟩) hS.2.2 d_M_jump_33

set_option maxHeartbeats 4000000 in
set_option maxRecDepth 100000 in
theorem c_D_length (l : Launch) (dC : Nat → ClassId) (dI : Nat → Nat → Nat) (a0 a1 r0 r1 r2 r3 r4 r5 : Nat) (t0 : ClassId) (sz : Nat)  : Met l y_D_length w_D_length ({ frames := 0, cells := 0, slots := 0, locals := 0 }) (va_Pc [.ref a0] (fun U => U.heap.size = sz ∧ va_P (dC, dI) vwCl [(a0, .inr (0, [.ref r0, .int 0, .ref r1, .int 1, .int 0, .ref a1, .int 0, .int (-1), .ref r2, .ref r3, .int 0, .int (-1), .ref r4, .ref r5])), (a1, .inl (t0, 0, .inl (fun _ => 0)))] U.heap ∧ va_K (dC, dI) vwCl [(t0, .char)] U ∧ va_D (fun _ => True) [(a0, .inr (0, [.ref r0, .int 0, .ref r1, .int 1, .int 0, .ref a1, .int 0, .int (-1), .ref r2, .ref r3, .int 0, .int (-1), .ref r4, .ref r5])), (a1, .inl (t0, 0, .inl (fun _ => 0)))])) (va_Qi (fun (r : Int32) (_ : Unit) => r = 0) (fun (_ : Unit) t => va_P (dC, dI) vwCl [(a0, .inr (0, [.ref r0, .int 0, .ref r1, .int 1, .int 0, .ref a1, .int 0, .int (-1), .ref r2, .ref r3, .int 0, .int (-1), .ref r4, .ref r5])), (a1, .inl (t0, 0, .inl (fun _ => 0)))] t.heap ∧ va_K (dC, dI) vwCl [(t0, .char)] t ∧ va_D (va_A [(a0, .inr (0, [.ref r0, .int 0, .ref r1, .int 1, .int 0, .ref a1, .int 0, .int (-1), .ref r2, .ref r3, .int 0, .int (-1), .ref r4, .ref r5])), (a1, .inl (t0, 0, .inl (fun _ => 0)))] sz) [(a0, .inr (0, [.ref r0, .int 0, .ref r1, .int 1, .int 0, .ref a1, .int 0, .int (-1), .ref r2, .ref r3, .int 0, .int (-1), .ref r4, .ref r5])), (a1, .inl (t0, 0, .inl (fun _ => 0)))]) (va_A [(a0, .inr (0, [.ref r0, .int 0, .ref r1, .int 1, .int 0, .ref a1, .int 0, .int (-1), .ref r2, .ref r3, .int 0, .int (-1), .ref r4, .ref r5])), (a1, .inl (t0, 0, .inl (fun _ => 0)))] sz)) 0 0 (va_A [(a0, .inr (0, [.ref r0, .int 0, .ref r1, .int 1, .int 0, .ref a1, .int 0, .int (-1), .ref r2, .ref r3, .int 0, .int (-1), .ref r4, .ref r5])), (a1, .inl (t0, 0, .inl (fun _ => 0)))] sz) := by
  refine Met.ofW (cc := prog_1_method_14_code) (maxL := 1) (ret := (some .int)) (by decide) rfl ?_
  intro p e s m args below meth c s₁ B hml hv
  obtain ⟨rfl, hsz, hP, hK, hD0⟩ := hv
  have hx := B.exec
  have hb := B.bytes
  have hr := B.returns
  have hts := atoms_spec (ws := w_D_length) B.pre
  have hown : s.vm.findClass R_D = some m.cls := findClass_of_methodNamed B.named
  have hlocks := B.notSynchronized
  subst hsz
  have hD := hD0.self (sz := s.heap.size)
  generalize hAe : va_A [(a0, .inr (0, [.ref r0, .int 0, .ref r1, .int 1, .int 0, .ref a1, .int 0, .int (-1), .ref r2, .ref r3, .int 0, .int (-1), .ref r4, .ref r5])), (a1, .inl (t0, 0, .inl (fun _ => 0)))] s.heap.size = A at hD ⊢
  have hA : ∀ q : Nat, s.heap.size ≤ q → A q := fun q h => by rw [← hAe]; exact Or.inr h
  have hS : va_S A s.heap s.heap [] := va_S.rf
  have hP : va_P (dC, dI) vwCl [(a0, .inr (0, [.ref r0, .int 0, .ref r1, .int 1, .int 0, .ref a1, .int 0, .int (-1), .ref r2, .ref r3, .int 0, .int (-1), .ref r4, .ref r5])), (a1, .inl (t0, 0, .inl (fun _ => 0)))] s.heap := hP
  have hl := lv_entry ([.ref a0]) (n := 1) (Nat.le_of_ble_eq_true rfl)
  rw [lg_entry_eq]
  generalize (lg_sl ([.ref a0]) ++ List.replicate (1 - (lg_sl ([.ref a0])).length) Slot.unset).toArray = ls at hl ⊢
  have hl : lv_has ls 1 [(0, .ref a0)] := hl
  refine lv_aload_n hx hb d_D_length_0 rfl (lv_at hl 0 rfl) ?_
  refine va_get (D := (dC, dI)) (ci := 0) (v := .ref a1) (C := R_D) (T := F_D) (N := 14) hx hb hts (fun w h => List.mem_cons_of_mem _ (in_D w h)) hown hK hP 0 rfl rfl 5 (by decide) (hts _ (List.mem_cons_of_mem _ lk_24)) (fun _ h9 => h9) rfl d_D_length_1 ?_
  refine va_alen (v := 0) hx hb hK hP 1 0 rfl rfl (by decide) d_D_length_4 ?_
  have hP9 := hP.sub (ws' := [(a0, .inr (0, [.ref r0, .int 0, .ref r1, .int 1, .int 0, .ref a1, .int 0, .int (-1), .ref r2, .ref r3, .int 0, .int (-1), .ref r4, .ref r5])), (a1, .inl (t0, 0, .inl (fun _ => 0)))]) [0, 1] rfl
  have hD9 := hD.sub (ws' := [(a0, .inr (0, [.ref r0, .int 0, .ref r1, .int 1, .int 0, .ref a1, .int 0, .int (-1), .ref r2, .ref r3, .int 0, .int (-1), .ref r4, .ref r5])), (a1, .inl (t0, 0, .inl (fun _ => 0)))]) [0, 1] (by decide) rfl
  have hK9 := hK.sub (tys' := [(t0, .char)]) [0] rfl
  exact W.iret (v := 0) hx hb hr (fun t ht hW => ⟨⟨0, (), rfl, rfl, by rw [ht]; exact hP9, va_K.moved hW.alike hK9, hD9⟩, hS.F ht⟩) hS.2.2 d_D_length_5

set_option maxHeartbeats 4000000 in
set_option maxRecDepth 100000 in
theorem c_M_length (l : Launch) (dC : Nat → ClassId) (dI : Nat → Nat → Nat) (a0 a1 r0 r1 r2 r3 r4 r5 r6 r7 r8 r9 r10 r11 r12 r13 r14 r15 r16 r17 r18 : Nat) (t0 : ClassId) (sz : Nat)  : Met l y_M_length w_M_length ({ frames := 1, cells := 0, slots := 0, locals := 20 }) (va_Pc [.ref a0] (fun U => U.heap.size = sz ∧ va_P (dC, dI) vwCl [(a0, .inr (4, [.int 0, .int 0, .ref r0, .int 1, .int 0, .ref r1, .ref a1, .ref r2, .ref r3, .ref r4, .int 0, .int 0, .int (-1), .int 0, .int (-1), .int 0, .ref r5, .int 0, .ref r6, .ref r7, .ref r8, .ref r9, .ref r10, .int 0, .int 0, .int 0, .ref r11, .ref r12, .int 0, .ref r13, .ref r14, .ref r15, .ref r16, .ref r17, .int 0, .int 0, .int 0, .ref r18])), (a1, .inl (t0, 40, .inl (fun _ => 0)))] U.heap ∧ va_K (dC, dI) vwCl [(t0, .int)] U ∧ va_D (fun _ => True) [(a0, .inr (4, [.int 0, .int 0, .ref r0, .int 1, .int 0, .ref r1, .ref a1, .ref r2, .ref r3, .ref r4, .int 0, .int 0, .int (-1), .int 0, .int (-1), .int 0, .ref r5, .int 0, .ref r6, .ref r7, .ref r8, .ref r9, .ref r10, .int 0, .int 0, .int 0, .ref r11, .ref r12, .int 0, .ref r13, .ref r14, .ref r15, .ref r16, .ref r17, .int 0, .int 0, .int 0, .ref r18])), (a1, .inl (t0, 40, .inl (fun _ => 0)))])) (va_Qi (fun (r : Int32) (_ : Unit) => r = 0) (fun (_ : Unit) t => va_P (dC, dI) vwCl [(a0, .inr (4, [.int 0, .int 0, .ref r0, .int 1, .int 0, .ref r1, .ref a1, .ref r2, .ref r3, .ref r4, .int 0, .int 0, .int (-1), .int 0, .int (-1), .int 0, .ref r5, .int 0, .ref r6, .ref r7, .ref r8, .ref r9, .ref r10, .int 0, .int 0, .int 0, .ref r11, .ref r12, .int 0, .ref r13, .ref r14, .ref r15, .ref r16, .ref r17, .int 0, .int 0, .int 0, .ref r18])), (a1, .inl (t0, 40, .inl (fun _ => 0)))] t.heap ∧ va_K (dC, dI) vwCl [(t0, .int)] t ∧ va_D (va_A [(a0, .inr (4, [.int 0, .int 0, .ref r0, .int 1, .int 0, .ref r1, .ref a1, .ref r2, .ref r3, .ref r4, .int 0, .int 0, .int (-1), .int 0, .int (-1), .int 0, .ref r5, .int 0, .ref r6, .ref r7, .ref r8, .ref r9, .ref r10, .int 0, .int 0, .int 0, .ref r11, .ref r12, .int 0, .ref r13, .ref r14, .ref r15, .ref r16, .ref r17, .int 0, .int 0, .int 0, .ref r18])), (a1, .inl (t0, 40, .inl (fun _ => 0)))] sz) [(a0, .inr (4, [.int 0, .int 0, .ref r0, .int 1, .int 0, .ref r1, .ref a1, .ref r2, .ref r3, .ref r4, .int 0, .int 0, .int (-1), .int 0, .int (-1), .int 0, .ref r5, .int 0, .ref r6, .ref r7, .ref r8, .ref r9, .ref r10, .int 0, .int 0, .int 0, .ref r11, .ref r12, .int 0, .ref r13, .ref r14, .ref r15, .ref r16, .ref r17, .int 0, .int 0, .int 0, .ref r18])), (a1, .inl (t0, 40, .inl (fun _ => 0)))]) (va_A [(a0, .inr (4, [.int 0, .int 0, .ref r0, .int 1, .int 0, .ref r1, .ref a1, .ref r2, .ref r3, .ref r4, .int 0, .int 0, .int (-1), .int 0, .int (-1), .int 0, .ref r5, .int 0, .ref r6, .ref r7, .ref r8, .ref r9, .ref r10, .int 0, .int 0, .int 0, .ref r11, .ref r12, .int 0, .ref r13, .ref r14, .ref r15, .ref r16, .ref r17, .int 0, .int 0, .int 0, .ref r18])), (a1, .inl (t0, 40, .inl (fun _ => 0)))] sz)) 0 0 (va_A [(a0, .inr (4, [.int 0, .int 0, .ref r0, .int 1, .int 0, .ref r1, .ref a1, .ref r2, .ref r3, .ref r4, .int 0, .int 0, .int (-1), .int 0, .int (-1), .int 0, .ref r5, .int 0, .ref r6, .ref r7, .ref r8, .ref r9, .ref r10, .int 0, .int 0, .int 0, .ref r11, .ref r12, .int 0, .ref r13, .ref r14, .ref r15, .ref r16, .ref r17, .int 0, .int 0, .int 0, .ref r18])), (a1, .inl (t0, 40, .inl (fun _ => 0)))] sz) := by
  refine Met.ofW (cc := prog_6_method_47_code) (maxL := 1) (ret := (some .int)) (by decide) rfl ?_
  intro p e s m args below meth c s₁ B hml hv
  obtain ⟨rfl, hsz, hP, hK, hD0⟩ := hv
  have hx := B.exec
  have hb := B.bytes
  have hr := B.returns
  have hts := atoms_spec (ws := w_M_length) B.pre
  have hown : s.vm.findClass R_M = some m.cls := findClass_of_methodNamed B.named
  have hlocks := B.notSynchronized
  subst hsz
  have hD := hD0.self (sz := s.heap.size)
  generalize hAe : va_A [(a0, .inr (4, [.int 0, .int 0, .ref r0, .int 1, .int 0, .ref r1, .ref a1, .ref r2, .ref r3, .ref r4, .int 0, .int 0, .int (-1), .int 0, .int (-1), .int 0, .ref r5, .int 0, .ref r6, .ref r7, .ref r8, .ref r9, .ref r10, .int 0, .int 0, .int 0, .ref r11, .ref r12, .int 0, .ref r13, .ref r14, .ref r15, .ref r16, .ref r17, .int 0, .int 0, .int 0, .ref r18])), (a1, .inl (t0, 40, .inl (fun _ => 0)))] s.heap.size = A at hD ⊢
  have hA : ∀ q : Nat, s.heap.size ≤ q → A q := fun q h => by rw [← hAe]; exact Or.inr h
  have hS : va_S A s.heap s.heap [] := va_S.rf
  have hP : va_P (dC, dI) vwCl [(a0, .inr (4, [.int 0, .int 0, .ref r0, .int 1, .int 0, .ref r1, .ref a1, .ref r2, .ref r3, .ref r4, .int 0, .int 0, .int (-1), .int 0, .int (-1), .int 0, .ref r5, .int 0, .ref r6, .ref r7, .ref r8, .ref r9, .ref r10, .int 0, .int 0, .int 0, .ref r11, .ref r12, .int 0, .ref r13, .ref r14, .ref r15, .ref r16, .ref r17, .int 0, .int 0, .int 0, .ref r18])), (a1, .inl (t0, 40, .inl (fun _ => 0)))] s.heap := hP
  have hl := lv_entry ([.ref a0]) (n := 1) (Nat.le_of_ble_eq_true rfl)
  rw [lg_entry_eq]
  generalize (lg_sl ([.ref a0]) ++ List.replicate (1 - (lg_sl ([.ref a0])).length) Slot.unset).toArray = ls at hl ⊢
  have hl : lv_has ls 1 [(0, .ref a0)] := hl
  refine lv_aload_n hx hb d_M_length_0 rfl (lv_at hl 0 rfl) ?_
  refine lv_iconst (v := 0) hx hb d_M_length_1 (by decide) ?_
  refine va_put (D := (dC, dI)) (ci := 4) (v := .int 0) (ty := .int) (C := R_M) (T := F_M) (N := 38) hx hb hts (fun w h => List.mem_cons_of_mem _ (in_M w h)) t_M tk_M n_M hown hK hP hD hS 0 rfl rfl 0 (by decide) (hts _ (List.mem_cons_of_mem _ lk_175)) (fun _ h9 => h9) rfl (by decide +kernel) rfl rfl (Nat.le_of_ble_eq_true rfl) d_M_length_2 (fun H locs hP hD hS => ?_)
  have hP : va_P (dC, dI) vwCl [(a0, .inr (4, [.int 0, .int 0, .ref r0, .int 1, .int 0, .ref r1, .ref a1, .ref r2, .ref r3, .ref r4, .int 0, .int 0, .int (-1), .int 0, .int (-1), .int 0, .ref r5, .int 0, .ref r6, .ref r7, .ref r8, .ref r9, .ref r10, .int 0, .int 0, .int 0, .ref r11, .ref r12, .int 0, .ref r13, .ref r14, .ref r15, .ref r16, .ref r17, .int 0, .int 0, .int 0, .ref r18])), (a1, .inl (t0, 40, .inl (fun _ => 0)))] H := hP
  have hD : va_D A [(a0, .inr (4, [.int 0, .int 0, .ref r0, .int 1, .int 0, .ref r1, .ref a1, .ref r2, .ref r3, .ref r4, .int 0, .int 0, .int (-1), .int 0, .int (-1), .int 0, .ref r5, .int 0, .ref r6, .ref r7, .ref r8, .ref r9, .ref r10, .int 0, .int 0, .int 0, .ref r11, .ref r12, .int 0, .ref r13, .ref r14, .ref r15, .ref r16, .ref r17, .int 0, .int 0, .int 0, .ref r18])), (a1, .inl (t0, 40, .inl (fun _ => 0)))] := hD
  refine lv_aload_n hx hb d_M_length_5 rfl (lv_at hl 0 rfl) ?_
  have hPc := hP.sub (ws' := [(a0, .inr (4, [.int 0, .int 0, .ref r0, .int 1, .int 0, .ref r1, .ref a1, .ref r2, .ref r3, .ref r4, .int 0, .int 0, .int (-1), .int 0, .int (-1), .int 0, .ref r5, .int 0, .ref r6, .ref r7, .ref r8, .ref r9, .ref r10, .int 0, .int 0, .int 0, .ref r11, .ref r12, .int 0, .ref r13, .ref r14, .ref r15, .ref r16, .ref r17, .int 0, .int 0, .int 0, .ref r18])), (a1, .inl (t0, 40, .inl (fun _ => 0)))]) [0, 1] rfl
  have hDc := hD.sub (ws' := [(a0, .inr (4, [.int 0, .int 0, .ref r0, .int 1, .int 0, .ref r1, .ref a1, .ref r2, .ref r3, .ref r4, .int 0, .int 0, .int (-1), .int 0, .int (-1), .int 0, .ref r5, .int 0, .ref r6, .ref r7, .ref r8, .ref r9, .ref r10, .int 0, .int 0, .int 0, .ref r11, .ref r12, .int 0, .ref r13, .ref r14, .ref r15, .ref r16, .ref r17, .int 0, .int 0, .int 0, .ref r18])), (a1, .inl (t0, 40, .inl (fun _ => 0)))]) [0, 1] (by decide) rfl
  have hKc := hK.sub (tys' := [(t0, .int)]) [0] rfl
  have hFc := va_free (wc := [(a0, .inr (4, [.int 0, .int 0, .ref r0, .int 1, .int 0, .ref r1, .ref a1, .ref r2, .ref r3, .ref r4, .int 0, .int 0, .int (-1), .int 0, .int (-1), .int 0, .ref r5, .int 0, .ref r6, .ref r7, .ref r8, .ref r9, .ref r10, .int 0, .int 0, .int 0, .ref r11, .ref r12, .int 0, .ref r13, .ref r14, .ref r15, .ref r16, .ref r17, .int 0, .int 0, .int 0, .ref r18])), (a1, .inl (t0, 40, .inl (fun _ => 0)))]) hD hS hA [0, 1] rfl
  refine va_calli (va_runV (As := []) (rest := []) ⟨hx, hb, hml, hown, hts⟩ (c_M_textLength l dC dI a0 a1 r0 r1 r2 r3 r4 r5 r6 r7 r8 r9 r10 r11 r12 r13 r14 r15 r16 r17 r18 t0 H.size) (cwV 0 hts (gd_v lk_240 lk_241 lk_242 lk_141 lk_239) rfl rfl rfl (by decide +kernel) ⟨Nat.le_of_ble_eq_true rfl, Nat.le_of_ble_eq_true rfl⟩) ⟨fun a U g mk q => by obtain ⟨q0, q1, qP, qK, qD⟩ := q; exact ⟨q0, q1, qP, va_K.moved (u := U) (U := U.calling g mk a) (Vm.Alike.refl U.vm) qK, qD⟩, va_recv (ci := 4) (q0 := 0) hK hP rfl rfl, fun U hU hW => ⟨rfl, by rw [hU], by rw [hU]; exact hPc, va_K.moved hW.alike hKc, hDc.weaken (fun _ _ _ _ => trivial)⟩⟩ rfl rfl hl.1 rfl (lv_room (Nat.le_of_ble_eq_true rfl)) d_M_length_6 ⟨Nat.le_of_ble_eq_true rfl, Nat.le_of_ble_eq_true rfl⟩) hS (fun q _ h => hFc q h) hFc (fun r u t H1 locs ht hvm hw hB hz1 hk1 hS => ?_)
  obtain ⟨hP1, hK1, hD1⟩ := hB
  rw [ht] at hP1
  have hK1 := va_K.moved hvm.symm hK1
  subst hw
  obtain ⟨hP, hD⟩ := va_join (wr := []) (w1 := [(a0, .inr (4, [.int 0, .int 0, .ref r0, .int 1, .int 0, .ref r1, .ref a1, .ref r2, .ref r3, .ref r4, .int 0, .int 0, .int (-1), .int 0, .int (-1), .int 0, .ref r5, .int 0, .ref r6, .ref r7, .ref r8, .ref r9, .ref r10, .int 0, .int 0, .int 0, .ref r11, .ref r12, .int 0, .ref r13, .ref r14, .ref r15, .ref r16, .ref r17, .int 0, .int 0, .int 0, .ref r18])), (a1, .inl (t0, 40, .inl (fun _ => 0)))]) hP hD [0, 1] [] rfl rfl (by decide) (by decide) hk1 hFc hP1 hD1
  generalize H1 = H at hP hS ⊢
  have hP : va_P (dC, dI) vwCl [(a0, .inr (4, [.int 0, .int 0, .ref r0, .int 1, .int 0, .ref r1, .ref a1, .ref r2, .ref r3, .ref r4, .int 0, .int 0, .int (-1), .int 0, .int (-1), .int 0, .ref r5, .int 0, .ref r6, .ref r7, .ref r8, .ref r9, .ref r10, .int 0, .int 0, .int 0, .ref r11, .ref r12, .int 0, .ref r13, .ref r14, .ref r15, .ref r16, .ref r17, .int 0, .int 0, .int 0, .ref r18])), (a1, .inl (t0, 40, .inl (fun _ => 0)))] H := hP
  have hD : va_D A [(a0, .inr (4, [.int 0, .int 0, .ref r0, .int 1, .int 0, .ref r1, .ref a1, .ref r2, .ref r3, .ref r4, .int 0, .int 0, .int (-1), .int 0, .int (-1), .int 0, .ref r5, .int 0, .ref r6, .ref r7, .ref r8, .ref r9, .ref r10, .int 0, .int 0, .int 0, .ref r11, .ref r12, .int 0, .ref r13, .ref r14, .ref r15, .ref r16, .ref r17, .int 0, .int 0, .int 0, .ref r18])), (a1, .inl (t0, 40, .inl (fun _ => 0)))] := hD
  have hP9 := hP.sub (ws' := [(a0, .inr (4, [.int 0, .int 0, .ref r0, .int 1, .int 0, .ref r1, .ref a1, .ref r2, .ref r3, .ref r4, .int 0, .int 0, .int (-1), .int 0, .int (-1), .int 0, .ref r5, .int 0, .ref r6, .ref r7, .ref r8, .ref r9, .ref r10, .int 0, .int 0, .int 0, .ref r11, .ref r12, .int 0, .ref r13, .ref r14, .ref r15, .ref r16, .ref r17, .int 0, .int 0, .int 0, .ref r18])), (a1, .inl (t0, 40, .inl (fun _ => 0)))]) [0, 1] rfl
  have hD9 := hD.sub (ws' := [(a0, .inr (4, [.int 0, .int 0, .ref r0, .int 1, .int 0, .ref r1, .ref a1, .ref r2, .ref r3, .ref r4, .int 0, .int 0, .int (-1), .int 0, .int (-1), .int 0, .ref r5, .int 0, .ref r6, .ref r7, .ref r8, .ref r9, .ref r10, .int 0, .int 0, .int 0, .ref r11, .ref r12, .int 0, .ref r13, .ref r14, .ref r15, .ref r16, .ref r17, .int 0, .int 0, .int 0, .ref r18])), (a1, .inl (t0, 40, .inl (fun _ => 0)))]) [0, 1] (by decide) rfl
  have hK9 := hK.sub (tys' := [(t0, .int)]) [0] rfl
  exact W.iret (v := 0) hx hb hr (fun t ht hW => ⟨⟨0, (), rfl, rfl, by rw [ht]; exact hP9, va_K.moved hW.alike hK9, hD9⟩, hS.F ht⟩) hS.2.2 d_M_length_9

set_option maxHeartbeats 4000000 in
set_option maxRecDepth 100000 in
theorem c_D_at (l : Launch) (hfl : l.flags = flags0) (dC : Nat → ClassId) (dI : Nat → Nat → Nat) (a0 a1 r0 r1 r2 r3 r4 r5 : Nat) (t0 : ClassId) (sz : Nat) (k0 : Int32)  : th_Met l y_D_at w_D_at ({ frames := 6, cells := 1, slots := 6, locals := 81 }) (va_Pc [.ref a0, .int k0] (fun U => U.heap.size = sz ∧ va_P (dC, dI) vwCl [(a0, .inr (0, [.ref r0, .int 0, .ref r1, .int 1, .int 0, .ref a1, .int 0, .int (-1), .ref r2, .ref r3, .int 0, .int (-1), .ref r4, .ref r5])), (a1, .inl (t0, 0, .inl (fun _ => 0)))] U.heap ∧ va_K (dC, dI) vwCl [(t0, .char)] U ∧ va_D (fun _ => True) [(a0, .inr (0, [.ref r0, .int 0, .ref r1, .int 1, .int 0, .ref a1, .int 0, .int (-1), .ref r2, .ref r3, .int 0, .int (-1), .ref r4, .ref r5])), (a1, .inl (t0, 0, .inl (fun _ => 0)))] ∧ th_Zs U)) (th_Qn "java/lang/IndexOutOfBoundsException") 1 6 (fun _ => False) := by
  refine th_Met.ofW (cc := prog_1_method_15_code) (maxL := 2) (ret := (some .char)) (by decide) rfl ?_
  intro p e s m args below meth c s₁ B hml hnh hv
  obtain ⟨rfl, hsz, hP, hK, hD0, hZ⟩ := hv
  have hx := B.exec
  have hb := B.bytes
  have hr := B.returns
  have hts := atoms_spec (ws := w_D_at) B.pre
  have hown : s.vm.findClass R_D = some m.cls := findClass_of_methodNamed B.named
  have hlocks := B.notSynchronized
  have htr := Launch.traces_off hfl B.admits
  subst hsz
  have hD := hD0.self (sz := s.heap.size)
  generalize hAe : va_A [(a0, .inr (0, [.ref r0, .int 0, .ref r1, .int 1, .int 0, .ref a1, .int 0, .int (-1), .ref r2, .ref r3, .int 0, .int (-1), .ref r4, .ref r5])), (a1, .inl (t0, 0, .inl (fun _ => 0)))] s.heap.size = A at hD
  have hA : ∀ q : Nat, s.heap.size ≤ q → A q := fun q h => by rw [← hAe]; exact Or.inr h
  have hS : va_S A s.heap s.heap [] := va_S.rf
  have hP : va_P (dC, dI) vwCl [(a0, .inr (0, [.ref r0, .int 0, .ref r1, .int 1, .int 0, .ref a1, .int 0, .int (-1), .ref r2, .ref r3, .int 0, .int (-1), .ref r4, .ref r5])), (a1, .inl (t0, 0, .inl (fun _ => 0)))] s.heap := hP
  have hl := lv_entry ([.ref a0, .int k0]) (n := 2) (Nat.le_of_ble_eq_true rfl)
  rw [lg_entry_eq]
  generalize (lg_sl ([.ref a0, .int k0]) ++ List.replicate (2 - (lg_sl ([.ref a0, .int k0])).length) Slot.unset).toArray = ls at hl ⊢
  have hl : lv_has ls 2 [(0, .ref a0), (1, .int k0)] := hl
  refine lv_iload_n hx hb d_D_at_0 rfl (lv_at hl 1 rfl) ?_
  refine lv_if_lt (tgt := 13) hx hb d_D_at_1 (by decide) (fun hf1 => ?_) (fun hf1 => ?_)
  ·
    have hf1 : k0.toInt < 0 := (wk_lt 0 (by decide)).mp hf1
    exact th_new hx hb htr hown (by decide) (by decide) (oa_0 hts hZ) (hts _ (List.mem_cons_of_mem _ lk_265)) (hts _ (List.mem_cons_of_mem _ lk_266)) hnh (by rw [hl.1, hml]) hS.1 (Nat.le_of_ble_eq_true rfl) (Nat.le_of_ble_eq_true rfl) (Nat.le_of_ble_eq_true rfl) (Nat.le_of_ble_eq_true rfl) hlocks d_D_at_13 d_D_at_16 d_D_at_17 d_D_at_20
  ·
    have hf1 : ¬ k0.toInt < 0 := fun z => hf1 ((wk_lt 0 (by decide)).mpr z)
    refine lv_iload_n hx hb d_D_at_4 rfl (lv_at hl 1 rfl) ?_
    refine lv_aload_n hx hb d_D_at_5 rfl (lv_at hl 0 rfl) ?_
    refine va_get (D := (dC, dI)) (ci := 0) (v := .ref a1) (C := R_D) (T := F_D) (N := 14) hx hb hts (fun w h => List.mem_cons_of_mem _ (in_D w h)) hown hK hP 0 rfl rfl 5 (by decide) (hts _ (List.mem_cons_of_mem _ lk_24)) (fun _ h9 => h9) rfl d_D_at_6 ?_
    refine va_alen (v := 0) hx hb hK hP 1 0 rfl rfl (by decide) d_D_at_9 ?_
    refine lv_icmp_lt (tgt := 21) hx hb d_D_at_10 (by decide) (fun h => absurd h (fun z => absurd ((wk_lt 0 (by decide)).mp z) (by omega))) (fun _ => ?_)
    exact th_new hx hb htr hown (by decide) (by decide) (oa_0 hts hZ) (hts _ (List.mem_cons_of_mem _ lk_265)) (hts _ (List.mem_cons_of_mem _ lk_266)) hnh (by rw [hl.1, hml]) hS.1 (Nat.le_of_ble_eq_true rfl) (Nat.le_of_ble_eq_true rfl) (Nat.le_of_ble_eq_true rfl) (Nat.le_of_ble_eq_true rfl) hlocks d_D_at_13 d_D_at_16 d_D_at_17 d_D_at_20

set_option maxHeartbeats 4000000 in
set_option maxRecDepth 100000 in
theorem c_L_at (l : Launch) (hfl : l.flags = flags0) (dC : Nat → ClassId) (dI : Nat → Nat → Nat) (a0 a1 r0 r1 r2 r3 r4 r5 r6 : Nat) (t0 : ClassId) (sz : Nat) (k0 : Int32)  : Met l y_L_at w_L_at ({ frames := 7, cells := 1, slots := 6, locals := 102 }) (va_Pc [.ref a0, .int k0, .ref r6] (fun U => U.heap.size = sz ∧ va_P (dC, dI) vwCl [(a0, .inr (0, [.ref r0, .int 0, .ref r1, .int 1, .int 0, .ref a1, .int 0, .int (-1), .ref r2, .ref r3, .int 0, .int (-1), .ref r4, .ref r5])), (a1, .inl (t0, 0, .inl (fun _ => 0)))] U.heap ∧ va_K (dC, dI) vwCl [(t0, .char)] U ∧ va_D (fun _ => True) [(a0, .inr (0, [.ref r0, .int 0, .ref r1, .int 1, .int 0, .ref a1, .int 0, .int (-1), .ref r2, .ref r3, .int 0, .int (-1), .ref r4, .ref r5])), (a1, .inl (t0, 0, .inl (fun _ => 0)))] ∧ th_Zs U)) (va_Qi (fun (r : Int32) (_ : Unit) => r = 1) (fun (_ : Unit) t => va_P (dC, dI) vwCl [(a0, .inr (0, [.ref r0, .int 0, .ref r1, .int 1, .int 0, .ref a1, .int 0, .int (-1), .ref r2, .ref r3, .int 0, .int (-1), .ref r4, .ref r5])), (a1, .inl (t0, 0, .inl (fun _ => 0)))] t.heap ∧ va_K (dC, dI) vwCl [(t0, .char)] t ∧ va_D (va_A [(a0, .inr (0, [.ref r0, .int 0, .ref r1, .int 1, .int 0, .ref a1, .int 0, .int (-1), .ref r2, .ref r3, .int 0, .int (-1), .ref r4, .ref r5])), (a1, .inl (t0, 0, .inl (fun _ => 0)))] sz) [(a0, .inr (0, [.ref r0, .int 0, .ref r1, .int 1, .int 0, .ref a1, .int 0, .int (-1), .ref r2, .ref r3, .int 0, .int (-1), .ref r4, .ref r5])), (a1, .inl (t0, 0, .inl (fun _ => 0)))]) (va_A [(a0, .inr (0, [.ref r0, .int 0, .ref r1, .int 1, .int 0, .ref a1, .int 0, .int (-1), .ref r2, .ref r3, .int 0, .int (-1), .ref r4, .ref r5])), (a1, .inl (t0, 0, .inl (fun _ => 0)))] sz)) 1 6 (va_A [(a0, .inr (0, [.ref r0, .int 0, .ref r1, .int 1, .int 0, .ref a1, .int 0, .int (-1), .ref r2, .ref r3, .int 0, .int (-1), .ref r4, .ref r5])), (a1, .inl (t0, 0, .inl (fun _ => 0)))] sz) := by
  refine th_ofWw (tab := [(0, 9, 12, 23)]) (cc := method_12_code) (maxL := 4) (ret := (some .int)) (by decide) rfl ?_
  intro p e s m args below meth c s₁ B hml htab hv
  obtain ⟨rfl, hsz, hP, hK, hD0, hZ⟩ := hv
  have hx := B.exec
  have hb := B.bytes
  have hr := B.returns
  have hts := atoms_spec (ws := w_L_at) B.pre
  have hown : s.vm.findClass R_L = some m.cls := findClass_of_methodNamed B.named
  have hlocks := B.notSynchronized
  have htr := Launch.traces_off hfl B.admits
  subst hsz
  have hD := hD0.self (sz := s.heap.size)
  generalize hAe : va_A [(a0, .inr (0, [.ref r0, .int 0, .ref r1, .int 1, .int 0, .ref a1, .int 0, .int (-1), .ref r2, .ref r3, .int 0, .int (-1), .ref r4, .ref r5])), (a1, .inl (t0, 0, .inl (fun _ => 0)))] s.heap.size = A at hD ⊢
  have hA : ∀ q : Nat, s.heap.size ≤ q → A q := fun q h => by rw [← hAe]; exact Or.inr h
  have hS : va_S A s.heap s.heap [] := va_S.rf
  have hP : va_P (dC, dI) vwCl [(a0, .inr (0, [.ref r0, .int 0, .ref r1, .int 1, .int 0, .ref a1, .int 0, .int (-1), .ref r2, .ref r3, .int 0, .int (-1), .ref r4, .ref r5])), (a1, .inl (t0, 0, .inl (fun _ => 0)))] s.heap := hP
  have hl := lv_entry ([.ref a0, .int k0, .ref r6]) (n := 4) (Nat.le_of_ble_eq_true rfl)
  rw [lg_entry_eq]
  generalize (lg_sl ([.ref a0, .int k0, .ref r6]) ++ List.replicate (4 - (lg_sl ([.ref a0, .int k0, .ref r6])).length) Slot.unset).toArray = ls at hl ⊢
  have hl : lv_has ls 4 [(0, .ref a0), (1, .int k0), (2, .ref r6)] := hl
  refine lv_aload_n hx hb d_L_at_0 rfl (lv_at hl 2 rfl) ?_
  refine lv_iconst (v := 0) hx hb d_L_at_1 (by decide) ?_
  refine lv_aload_n hx hb d_L_at_2 rfl (lv_at hl 0 rfl) ?_
  refine lv_iload_n hx hb d_L_at_3 rfl (lv_at hl 1 rfl) ?_
  have hPc := hP.sub (ws' := [(a0, .inr (0, [.ref r0, .int 0, .ref r1, .int 1, .int 0, .ref a1, .int 0, .int (-1), .ref r2, .ref r3, .int 0, .int (-1), .ref r4, .ref r5])), (a1, .inl (t0, 0, .inl (fun _ => 0)))]) [0, 1] rfl
  have hDc := hD.sub (ws' := [(a0, .inr (0, [.ref r0, .int 0, .ref r1, .int 1, .int 0, .ref a1, .int 0, .int (-1), .ref r2, .ref r3, .int 0, .int (-1), .ref r4, .ref r5])), (a1, .inl (t0, 0, .inl (fun _ => 0)))]) [0, 1] (by decide) rfl
  have hKc := hK.sub (tys' := [(t0, .char)]) [0] rfl
  have hFc := va_free (wc := [(a0, .inr (0, [.ref r0, .int 0, .ref r1, .int 1, .int 0, .ref a1, .int 0, .int (-1), .ref r2, .ref r3, .int 0, .int (-1), .ref r4, .ref r5])), (a1, .inl (t0, 0, .inl (fun _ => 0)))]) hD hS hA [0, 1] rfl
  refine th_catch (own := R_L) (C := "java/lang/IndexOutOfBoundsException") (hpc := 12) (A1 := fun _ => False) (th_runV (As := [.int k0]) (rest := [.int 0, .ref r6]) ⟨hx, hb, hml, hown, hts⟩ (c_D_at l hfl dC dI a0 a1 r0 r1 r2 r3 r4 r5 t0 s.heap.size k0) (cwV 1 hts (gd_v lk_453 lk_454 lk_455 lk_16 lk_452) rfl rfl rfl (by decide +kernel) ⟨Nat.le_of_ble_eq_true rfl, Nat.le_of_ble_eq_true rfl⟩) ⟨fun a U g mk q => by obtain ⟨q0, q1, qP, qK, qD, qZ⟩ := q; exact ⟨q0, q1, qP, va_K.moved (u := U) (U := U.calling g mk a) (Vm.Alike.refl U.vm) qK, qD, th_Zs.calling qZ⟩, va_recv (ci := 0) (q0 := 0) hK hP rfl rfl, fun U hU hW => ⟨rfl, by rw [hU], by rw [hU]; exact hPc, va_K.moved hW.alike hKc, hDc.weaken (fun _ _ _ _ => trivial), hZ.same hU hW⟩⟩ rfl rfl hl.1 rfl (lv_room (Nat.le_of_ble_eq_true rfl)) d_L_at_4 ⟨Nat.le_of_ble_eq_true rfl, Nat.le_of_ble_eq_true rfl⟩) hown htab (by refine ⟨⟨by decide, by decide, by decide⟩, "java/lang/IndexOutOfBoundsException", (hts _ (List.mem_cons_of_mem _ lk_267)), ?_⟩; exact Or.inl ⟨rfl, rfl⟩) (fun _ _ _ h => h) hS (fun _ _ h => h.elim) (fun _ h => h.elim) (fun x st₀ t H1 locs ht hvm _ _ hz1 hk1 hS => ?_)
  have hP := hP.kept (fun k q hk => hk1 q.1 (hP k q hk).lt (fun z => z))
  generalize H1 = H at hP hS ⊢
  refine W.cs (cells' := 1) (slots' := 6) rfl rfl ?_
  refine lv_astore_n (lv' := [(3, .ref x), (0, .ref a0), (1, .int k0), (2, .ref r6)]) hx hb d_L_at_12 rfl hl (by decide) rfl (fun ls hl => ?_)
  have hl : lv_has ls 4 [(3, .ref x), (0, .ref a0), (1, .int k0), (2, .ref r6)] := hl
  refine lv_iconst (v := 1) hx hb d_L_at_13 (by decide) ?_
  have hP9 := hP.sub (ws' := [(a0, .inr (0, [.ref r0, .int 0, .ref r1, .int 1, .int 0, .ref a1, .int 0, .int (-1), .ref r2, .ref r3, .int 0, .int (-1), .ref r4, .ref r5])), (a1, .inl (t0, 0, .inl (fun _ => 0)))]) [0, 1] rfl
  have hD9 := hD.sub (ws' := [(a0, .inr (0, [.ref r0, .int 0, .ref r1, .int 1, .int 0, .ref a1, .int 0, .int (-1), .ref r2, .ref r3, .int 0, .int (-1), .ref r4, .ref r5])), (a1, .inl (t0, 0, .inl (fun _ => 0)))]) [0, 1] (by decide) rfl
  have hK9 := hK.sub (tys' := [(t0, .char)]) [0] rfl
  exact W.iret (v := 1) hx hb hr (fun t ht hW => ⟨⟨1, (), rfl, rfl, by rw [ht]; exact hP9, va_K.moved hW.alike hK9, hD9⟩, hS.F ht⟩) hS.2.2 d_L_at_14

set_option maxHeartbeats 4000000 in
set_option maxRecDepth 100000 in
theorem c_M_at (l : Launch) (dC : Nat → ClassId) (dI : Nat → Nat → Nat) (a0 a1 r0 r1 r2 r3 r4 r5 r6 r7 r8 r9 r10 r11 r12 r13 r14 r15 r16 r17 r18 : Nat) (t0 : ClassId) (sz : Nat) (k0 : Int32)  : Met l y_M_at w_M_at ({ frames := 1, cells := 0, slots := 0, locals := 20 }) (va_Pc [.ref a0, .int k0] (fun U => U.heap.size = sz ∧ va_P (dC, dI) vwCl [(a0, .inr (4, [.int 0, .int 0, .ref r0, .int 1, .int 0, .ref r1, .ref a1, .ref r2, .ref r3, .ref r4, .int 0, .int 0, .int (-1), .int 0, .int (-1), .int 0, .ref r5, .int 0, .ref r6, .ref r7, .ref r8, .ref r9, .ref r10, .int 0, .int 0, .int 0, .ref r11, .ref r12, .int 0, .ref r13, .ref r14, .ref r15, .ref r16, .ref r17, .int 0, .int 0, .int 0, .ref r18])), (a1, .inl (t0, 40, .inl (fun _ => 0)))] U.heap ∧ va_K (dC, dI) vwCl [(t0, .int)] U ∧ va_D (fun _ => True) [(a0, .inr (4, [.int 0, .int 0, .ref r0, .int 1, .int 0, .ref r1, .ref a1, .ref r2, .ref r3, .ref r4, .int 0, .int 0, .int (-1), .int 0, .int (-1), .int 0, .ref r5, .int 0, .ref r6, .ref r7, .ref r8, .ref r9, .ref r10, .int 0, .int 0, .int 0, .ref r11, .ref r12, .int 0, .ref r13, .ref r14, .ref r15, .ref r16, .ref r17, .int 0, .int 0, .int 0, .ref r18])), (a1, .inl (t0, 40, .inl (fun _ => 0)))])) (va_Qi (fun (r : Int32) (_ : Unit) => r = 0) (fun (_ : Unit) t => va_P (dC, dI) vwCl [(a0, .inr (4, [.int 1, .int 0, .ref r0, .int 1, .int 0, .ref r1, .ref a1, .ref r2, .ref r3, .ref r4, .int 0, .int 0, .int (-1), .int 0, .int (-1), .int 0, .ref r5, .int 0, .ref r6, .ref r7, .ref r8, .ref r9, .ref r10, .int 0, .int 0, .int 0, .ref r11, .ref r12, .int 0, .ref r13, .ref r14, .ref r15, .ref r16, .ref r17, .int 0, .int 0, .int 0, .ref r18])), (a1, .inl (t0, 40, .inl (fun _ => 0)))] t.heap ∧ va_K (dC, dI) vwCl [(t0, .int)] t ∧ va_D (va_A [(a0, .inr (4, [.int 0, .int 0, .ref r0, .int 1, .int 0, .ref r1, .ref a1, .ref r2, .ref r3, .ref r4, .int 0, .int 0, .int (-1), .int 0, .int (-1), .int 0, .ref r5, .int 0, .ref r6, .ref r7, .ref r8, .ref r9, .ref r10, .int 0, .int 0, .int 0, .ref r11, .ref r12, .int 0, .ref r13, .ref r14, .ref r15, .ref r16, .ref r17, .int 0, .int 0, .int 0, .ref r18])), (a1, .inl (t0, 40, .inl (fun _ => 0)))] sz) [(a0, .inr (4, [.int 1, .int 0, .ref r0, .int 1, .int 0, .ref r1, .ref a1, .ref r2, .ref r3, .ref r4, .int 0, .int 0, .int (-1), .int 0, .int (-1), .int 0, .ref r5, .int 0, .ref r6, .ref r7, .ref r8, .ref r9, .ref r10, .int 0, .int 0, .int 0, .ref r11, .ref r12, .int 0, .ref r13, .ref r14, .ref r15, .ref r16, .ref r17, .int 0, .int 0, .int 0, .ref r18])), (a1, .inl (t0, 40, .inl (fun _ => 0)))]) (va_A [(a0, .inr (4, [.int 0, .int 0, .ref r0, .int 1, .int 0, .ref r1, .ref a1, .ref r2, .ref r3, .ref r4, .int 0, .int 0, .int (-1), .int 0, .int (-1), .int 0, .ref r5, .int 0, .ref r6, .ref r7, .ref r8, .ref r9, .ref r10, .int 0, .int 0, .int 0, .ref r11, .ref r12, .int 0, .ref r13, .ref r14, .ref r15, .ref r16, .ref r17, .int 0, .int 0, .int 0, .ref r18])), (a1, .inl (t0, 40, .inl (fun _ => 0)))] sz)) 0 0 (va_A [(a0, .inr (4, [.int 0, .int 0, .ref r0, .int 1, .int 0, .ref r1, .ref a1, .ref r2, .ref r3, .ref r4, .int 0, .int 0, .int (-1), .int 0, .int (-1), .int 0, .ref r5, .int 0, .ref r6, .ref r7, .ref r8, .ref r9, .ref r10, .int 0, .int 0, .int 0, .ref r11, .ref r12, .int 0, .ref r13, .ref r14, .ref r15, .ref r16, .ref r17, .int 0, .int 0, .int 0, .ref r18])), (a1, .inl (t0, 40, .inl (fun _ => 0)))] sz) := by
  refine Met.ofW (cc := prog_6_method_48_code) (maxL := 2) (ret := (some .char)) (by decide) rfl ?_
  intro p e s m args below meth c s₁ B hml hv
  obtain ⟨rfl, hsz, hP, hK, hD0⟩ := hv
  have hx := B.exec
  have hb := B.bytes
  have hr := B.returns
  have hts := atoms_spec (ws := w_M_at) B.pre
  have hown : s.vm.findClass R_M = some m.cls := findClass_of_methodNamed B.named
  have hlocks := B.notSynchronized
  subst hsz
  have hD := hD0.self (sz := s.heap.size)
  generalize hAe : va_A [(a0, .inr (4, [.int 0, .int 0, .ref r0, .int 1, .int 0, .ref r1, .ref a1, .ref r2, .ref r3, .ref r4, .int 0, .int 0, .int (-1), .int 0, .int (-1), .int 0, .ref r5, .int 0, .ref r6, .ref r7, .ref r8, .ref r9, .ref r10, .int 0, .int 0, .int 0, .ref r11, .ref r12, .int 0, .ref r13, .ref r14, .ref r15, .ref r16, .ref r17, .int 0, .int 0, .int 0, .ref r18])), (a1, .inl (t0, 40, .inl (fun _ => 0)))] s.heap.size = A at hD ⊢
  have hA : ∀ q : Nat, s.heap.size ≤ q → A q := fun q h => by rw [← hAe]; exact Or.inr h
  have hS : va_S A s.heap s.heap [] := va_S.rf
  have hP : va_P (dC, dI) vwCl [(a0, .inr (4, [.int 0, .int 0, .ref r0, .int 1, .int 0, .ref r1, .ref a1, .ref r2, .ref r3, .ref r4, .int 0, .int 0, .int (-1), .int 0, .int (-1), .int 0, .ref r5, .int 0, .ref r6, .ref r7, .ref r8, .ref r9, .ref r10, .int 0, .int 0, .int 0, .ref r11, .ref r12, .int 0, .ref r13, .ref r14, .ref r15, .ref r16, .ref r17, .int 0, .int 0, .int 0, .ref r18])), (a1, .inl (t0, 40, .inl (fun _ => 0)))] s.heap := hP
  have hl := lv_entry ([.ref a0, .int k0]) (n := 2) (Nat.le_of_ble_eq_true rfl)
  rw [lg_entry_eq]
  generalize (lg_sl ([.ref a0, .int k0]) ++ List.replicate (2 - (lg_sl ([.ref a0, .int k0])).length) Slot.unset).toArray = ls at hl ⊢
  have hl : lv_has ls 2 [(0, .ref a0), (1, .int k0)] := hl
  refine lv_aload_n hx hb d_M_at_0 rfl (lv_at hl 0 rfl) ?_
  refine lv_iload_n hx hb d_M_at_1 rfl (lv_at hl 1 rfl) ?_
  refine lv_if_lt (tgt := 13) hx hb d_M_at_2 (by decide) (fun hf1 => ?_) (fun hf1 => ?_)
  ·
    have hf1 : k0.toInt < 0 := (wk_lt 0 (by decide)).mp hf1
    refine lv_iconst (v := 1) hx hb d_M_at_13 (by decide) ?_
    refine lv_goto (tgt := 18) hx hb d_M_at_14 (by decide) ?_
    refine va_put (D := (dC, dI)) (ci := 4) (v := .int 1) (ty := .int) (C := R_M) (T := F_M) (N := 38) hx hb hts (fun w h => List.mem_cons_of_mem _ (in_M w h)) t_M tk_M n_M hown hK hP hD hS 0 rfl rfl 0 (by decide) (hts _ (List.mem_cons_of_mem _ lk_175)) (fun _ h9 => h9) rfl (by decide +kernel) rfl rfl (Nat.le_of_ble_eq_true rfl) d_M_at_18 (fun H locs hP hD hS => ?_)
    have hP : va_P (dC, dI) vwCl [(a0, .inr (4, [.int 1, .int 0, .ref r0, .int 1, .int 0, .ref r1, .ref a1, .ref r2, .ref r3, .ref r4, .int 0, .int 0, .int (-1), .int 0, .int (-1), .int 0, .ref r5, .int 0, .ref r6, .ref r7, .ref r8, .ref r9, .ref r10, .int 0, .int 0, .int 0, .ref r11, .ref r12, .int 0, .ref r13, .ref r14, .ref r15, .ref r16, .ref r17, .int 0, .int 0, .int 0, .ref r18])), (a1, .inl (t0, 40, .inl (fun _ => 0)))] H := hP
    have hD : va_D A [(a0, .inr (4, [.int 1, .int 0, .ref r0, .int 1, .int 0, .ref r1, .ref a1, .ref r2, .ref r3, .ref r4, .int 0, .int 0, .int (-1), .int 0, .int (-1), .int 0, .ref r5, .int 0, .ref r6, .ref r7, .ref r8, .ref r9, .ref r10, .int 0, .int 0, .int 0, .ref r11, .ref r12, .int 0, .ref r13, .ref r14, .ref r15, .ref r16, .ref r17, .int 0, .int 0, .int 0, .ref r18])), (a1, .inl (t0, 40, .inl (fun _ => 0)))] := hD
    refine lv_aload_n hx hb d_M_at_21 rfl (lv_at hl 0 rfl) ?_
    refine va_get (D := (dC, dI)) (ci := 4) (v := .int 1) (C := R_M) (T := F_M) (N := 38) hx hb hts (fun w h => List.mem_cons_of_mem _ (in_M w h)) hown hK hP 0 rfl rfl 0 (by decide) (hts _ (List.mem_cons_of_mem _ lk_175)) (fun _ h9 => h9) rfl d_M_at_22 ?_
    refine lv_if_ne (tgt := 36) hx hb d_M_at_25 (by decide) (fun _ => ?_) (fun h => absurd h (by decide +kernel))
    refine lv_iconst (v := 0) hx hb d_M_at_36 (by decide) ?_
    have hP9 := hP.sub (ws' := [(a0, .inr (4, [.int 1, .int 0, .ref r0, .int 1, .int 0, .ref r1, .ref a1, .ref r2, .ref r3, .ref r4, .int 0, .int 0, .int (-1), .int 0, .int (-1), .int 0, .ref r5, .int 0, .ref r6, .ref r7, .ref r8, .ref r9, .ref r10, .int 0, .int 0, .int 0, .ref r11, .ref r12, .int 0, .ref r13, .ref r14, .ref r15, .ref r16, .ref r17, .int 0, .int 0, .int 0, .ref r18])), (a1, .inl (t0, 40, .inl (fun _ => 0)))]) [0, 1] rfl
    have hD9 := hD.sub (ws' := [(a0, .inr (4, [.int 1, .int 0, .ref r0, .int 1, .int 0, .ref r1, .ref a1, .ref r2, .ref r3, .ref r4, .int 0, .int 0, .int (-1), .int 0, .int (-1), .int 0, .ref r5, .int 0, .ref r6, .ref r7, .ref r8, .ref r9, .ref r10, .int 0, .int 0, .int 0, .ref r11, .ref r12, .int 0, .ref r13, .ref r14, .ref r15, .ref r16, .ref r17, .int 0, .int 0, .int 0, .ref r18])), (a1, .inl (t0, 40, .inl (fun _ => 0)))]) [0, 1] (by decide) rfl
    have hK9 := hK.sub (tys' := [(t0, .int)]) [0] rfl
    exact W.zret (v := 0) hx hb hr rfl (fun t ht hW => ⟨⟨0, (), rfl, rfl, by rw [ht]; exact hP9, va_K.moved hW.alike hK9, hD9⟩, hS.F ht⟩) hS.2.2 d_M_at_37
  ·
    have hf1 : ¬ k0.toInt < 0 := fun z => hf1 ((wk_lt 0 (by decide)).mpr z)
    refine lv_iload_n hx hb d_M_at_5 rfl (lv_at hl 1 rfl) ?_
    refine lv_aload_n hx hb d_M_at_6 rfl (lv_at hl 0 rfl) ?_
    have hPc := hP.sub (ws' := [(a0, .inr (4, [.int 0, .int 0, .ref r0, .int 1, .int 0, .ref r1, .ref a1, .ref r2, .ref r3, .ref r4, .int 0, .int 0, .int (-1), .int 0, .int (-1), .int 0, .ref r5, .int 0, .ref r6, .ref r7, .ref r8, .ref r9, .ref r10, .int 0, .int 0, .int 0, .ref r11, .ref r12, .int 0, .ref r13, .ref r14, .ref r15, .ref r16, .ref r17, .int 0, .int 0, .int 0, .ref r18])), (a1, .inl (t0, 40, .inl (fun _ => 0)))]) [0, 1] rfl
    have hDc := hD.sub (ws' := [(a0, .inr (4, [.int 0, .int 0, .ref r0, .int 1, .int 0, .ref r1, .ref a1, .ref r2, .ref r3, .ref r4, .int 0, .int 0, .int (-1), .int 0, .int (-1), .int 0, .ref r5, .int 0, .ref r6, .ref r7, .ref r8, .ref r9, .ref r10, .int 0, .int 0, .int 0, .ref r11, .ref r12, .int 0, .ref r13, .ref r14, .ref r15, .ref r16, .ref r17, .int 0, .int 0, .int 0, .ref r18])), (a1, .inl (t0, 40, .inl (fun _ => 0)))]) [0, 1] (by decide) rfl
    have hKc := hK.sub (tys' := [(t0, .int)]) [0] rfl
    have hFc := va_free (wc := [(a0, .inr (4, [.int 0, .int 0, .ref r0, .int 1, .int 0, .ref r1, .ref a1, .ref r2, .ref r3, .ref r4, .int 0, .int 0, .int (-1), .int 0, .int (-1), .int 0, .ref r5, .int 0, .ref r6, .ref r7, .ref r8, .ref r9, .ref r10, .int 0, .int 0, .int 0, .ref r11, .ref r12, .int 0, .ref r13, .ref r14, .ref r15, .ref r16, .ref r17, .int 0, .int 0, .int 0, .ref r18])), (a1, .inl (t0, 40, .inl (fun _ => 0)))]) hD hS hA [0, 1] rfl
    refine va_calli (va_runV (As := []) (rest := [.int k0, .ref a0]) ⟨hx, hb, hml, hown, hts⟩ (c_M_textLength l dC dI a0 a1 r0 r1 r2 r3 r4 r5 r6 r7 r8 r9 r10 r11 r12 r13 r14 r15 r16 r17 r18 t0 s.heap.size) (cwV 0 hts (gd_v lk_240 lk_241 lk_242 lk_141 lk_239) rfl rfl rfl (by decide +kernel) ⟨Nat.le_of_ble_eq_true rfl, Nat.le_of_ble_eq_true rfl⟩) ⟨fun a U g mk q => by obtain ⟨q0, q1, qP, qK, qD⟩ := q; exact ⟨q0, q1, qP, va_K.moved (u := U) (U := U.calling g mk a) (Vm.Alike.refl U.vm) qK, qD⟩, va_recv (ci := 4) (q0 := 0) hK hP rfl rfl, fun U hU hW => ⟨rfl, by rw [hU], by rw [hU]; exact hPc, va_K.moved hW.alike hKc, hDc.weaken (fun _ _ _ _ => trivial)⟩⟩ rfl rfl hl.1 rfl (lv_room (Nat.le_of_ble_eq_true rfl)) d_M_at_7 ⟨Nat.le_of_ble_eq_true rfl, Nat.le_of_ble_eq_true rfl⟩) hS (fun q _ h => hFc q h) hFc (fun r u t H1 locs ht hvm hw hB hz1 hk1 hS => ?_)
    obtain ⟨hP1, hK1, hD1⟩ := hB
    rw [ht] at hP1
    have hK1 := va_K.moved hvm.symm hK1
    subst hw
    obtain ⟨hP, hD⟩ := va_join (wr := []) (w1 := [(a0, .inr (4, [.int 0, .int 0, .ref r0, .int 1, .int 0, .ref r1, .ref a1, .ref r2, .ref r3, .ref r4, .int 0, .int 0, .int (-1), .int 0, .int (-1), .int 0, .ref r5, .int 0, .ref r6, .ref r7, .ref r8, .ref r9, .ref r10, .int 0, .int 0, .int 0, .ref r11, .ref r12, .int 0, .ref r13, .ref r14, .ref r15, .ref r16, .ref r17, .int 0, .int 0, .int 0, .ref r18])), (a1, .inl (t0, 40, .inl (fun _ => 0)))]) hP hD [0, 1] [] rfl rfl (by decide) (by decide) hk1 hFc hP1 hD1
    generalize H1 = H at hP hS ⊢
    have hP : va_P (dC, dI) vwCl [(a0, .inr (4, [.int 0, .int 0, .ref r0, .int 1, .int 0, .ref r1, .ref a1, .ref r2, .ref r3, .ref r4, .int 0, .int 0, .int (-1), .int 0, .int (-1), .int 0, .ref r5, .int 0, .ref r6, .ref r7, .ref r8, .ref r9, .ref r10, .int 0, .int 0, .int 0, .ref r11, .ref r12, .int 0, .ref r13, .ref r14, .ref r15, .ref r16, .ref r17, .int 0, .int 0, .int 0, .ref r18])), (a1, .inl (t0, 40, .inl (fun _ => 0)))] H := hP
    have hD : va_D A [(a0, .inr (4, [.int 0, .int 0, .ref r0, .int 1, .int 0, .ref r1, .ref a1, .ref r2, .ref r3, .ref r4, .int 0, .int 0, .int (-1), .int 0, .int (-1), .int 0, .ref r5, .int 0, .ref r6, .ref r7, .ref r8, .ref r9, .ref r10, .int 0, .int 0, .int 0, .ref r11, .ref r12, .int 0, .ref r13, .ref r14, .ref r15, .ref r16, .ref r17, .int 0, .int 0, .int 0, .ref r18])), (a1, .inl (t0, 40, .inl (fun _ => 0)))] := hD
    refine lv_icmp_lt (tgt := 17) hx hb d_M_at_10 (by decide) (fun h => absurd h (fun z => absurd ((wk_lt 0 (by decide)).mp z) (by omega))) (fun _ => ?_)
    refine lv_iconst (v := 1) hx hb d_M_at_13 (by decide) ?_
    refine lv_goto (tgt := 18) hx hb d_M_at_14 (by decide) ?_
    refine va_put (D := (dC, dI)) (ci := 4) (v := .int 1) (ty := .int) (C := R_M) (T := F_M) (N := 38) hx hb hts (fun w h => List.mem_cons_of_mem _ (in_M w h)) t_M tk_M n_M hown hK hP hD hS 0 rfl rfl 0 (by decide) (hts _ (List.mem_cons_of_mem _ lk_175)) (fun _ h9 => h9) rfl (by decide +kernel) rfl rfl (Nat.le_of_ble_eq_true rfl) d_M_at_18 (fun H locs hP hD hS => ?_)
    have hP : va_P (dC, dI) vwCl [(a0, .inr (4, [.int 1, .int 0, .ref r0, .int 1, .int 0, .ref r1, .ref a1, .ref r2, .ref r3, .ref r4, .int 0, .int 0, .int (-1), .int 0, .int (-1), .int 0, .ref r5, .int 0, .ref r6, .ref r7, .ref r8, .ref r9, .ref r10, .int 0, .int 0, .int 0, .ref r11, .ref r12, .int 0, .ref r13, .ref r14, .ref r15, .ref r16, .ref r17, .int 0, .int 0, .int 0, .ref r18])), (a1, .inl (t0, 40, .inl (fun _ => 0)))] H := hP
    have hD : va_D A [(a0, .inr (4, [.int 1, .int 0, .ref r0, .int 1, .int 0, .ref r1, .ref a1, .ref r2, .ref r3, .ref r4, .int 0, .int 0, .int (-1), .int 0, .int (-1), .int 0, .ref r5, .int 0, .ref r6, .ref r7, .ref r8, .ref r9, .ref r10, .int 0, .int 0, .int 0, .ref r11, .ref r12, .int 0, .ref r13, .ref r14, .ref r15, .ref r16, .ref r17, .int 0, .int 0, .int 0, .ref r18])), (a1, .inl (t0, 40, .inl (fun _ => 0)))] := hD
    refine lv_aload_n hx hb d_M_at_21 rfl (lv_at hl 0 rfl) ?_
    refine va_get (D := (dC, dI)) (ci := 4) (v := .int 1) (C := R_M) (T := F_M) (N := 38) hx hb hts (fun w h => List.mem_cons_of_mem _ (in_M w h)) hown hK hP 0 rfl rfl 0 (by decide) (hts _ (List.mem_cons_of_mem _ lk_175)) (fun _ h9 => h9) rfl d_M_at_22 ?_
    refine lv_if_ne (tgt := 36) hx hb d_M_at_25 (by decide) (fun _ => ?_) (fun h => absurd h (by decide +kernel))
    refine lv_iconst (v := 0) hx hb d_M_at_36 (by decide) ?_
    have hP9 := hP.sub (ws' := [(a0, .inr (4, [.int 1, .int 0, .ref r0, .int 1, .int 0, .ref r1, .ref a1, .ref r2, .ref r3, .ref r4, .int 0, .int 0, .int (-1), .int 0, .int (-1), .int 0, .ref r5, .int 0, .ref r6, .ref r7, .ref r8, .ref r9, .ref r10, .int 0, .int 0, .int 0, .ref r11, .ref r12, .int 0, .ref r13, .ref r14, .ref r15, .ref r16, .ref r17, .int 0, .int 0, .int 0, .ref r18])), (a1, .inl (t0, 40, .inl (fun _ => 0)))]) [0, 1] rfl
    have hD9 := hD.sub (ws' := [(a0, .inr (4, [.int 1, .int 0, .ref r0, .int 1, .int 0, .ref r1, .ref a1, .ref r2, .ref r3, .ref r4, .int 0, .int 0, .int (-1), .int 0, .int (-1), .int 0, .ref r5, .int 0, .ref r6, .ref r7, .ref r8, .ref r9, .ref r10, .int 0, .int 0, .int 0, .ref r11, .ref r12, .int 0, .ref r13, .ref r14, .ref r15, .ref r16, .ref r17, .int 0, .int 0, .int 0, .ref r18])), (a1, .inl (t0, 40, .inl (fun _ => 0)))]) [0, 1] (by decide) rfl
    have hK9 := hK.sub (tys' := [(t0, .int)]) [0] rfl
    exact W.zret (v := 0) hx hb hr rfl (fun t ht hW => ⟨⟨0, (), rfl, rfl, by rw [ht]; exact hP9, va_K.moved hW.alike hK9, hD9⟩, hS.F ht⟩) hS.2.2 d_M_at_37

set_option maxHeartbeats 4000000 in
set_option maxRecDepth 100000 in
theorem c_D_breaksBefore (l : Launch) (dC : Nat → ClassId) (dI : Nat → Nat → Nat) (a0 r0 r1 r2 r3 r4 r5 r6 : Nat) (sz : Nat)  : Met l y_D_breaksBefore w_D_breaksBefore ({ frames := 0, cells := 0, slots := 0, locals := 0 }) (va_Pc [.ref a0, .int 0] (fun U => U.heap.size = sz ∧ va_P (dC, dI) vwCl [(a0, .inr (0, [.ref r0, .int 0, .ref r1, .int 1, .int 0, .ref r2, .int 0, .int (-1), .ref r3, .ref r4, .int 0, .int (-1), .ref r5, .ref r6]))] U.heap ∧ va_K (dC, dI) vwCl [] U ∧ va_D (fun _ => True) [(a0, .inr (0, [.ref r0, .int 0, .ref r1, .int 1, .int 0, .ref r2, .int 0, .int (-1), .ref r3, .ref r4, .int 0, .int (-1), .ref r5, .ref r6]))])) (va_Qi (fun (r : Int32) (_ : Unit) => r = 0) (fun (_ : Unit) t => va_P (dC, dI) vwCl [(a0, .inr (0, [.ref r0, .int 0, .ref r1, .int 1, .int 0, .ref r2, .int 0, .int (-1), .ref r3, .ref r4, .int 0, .int (-1), .ref r5, .ref r6]))] t.heap ∧ va_K (dC, dI) vwCl [] t ∧ va_D (va_A [(a0, .inr (0, [.ref r0, .int 0, .ref r1, .int 1, .int 0, .ref r2, .int 0, .int (-1), .ref r3, .ref r4, .int 0, .int (-1), .ref r5, .ref r6]))] sz) [(a0, .inr (0, [.ref r0, .int 0, .ref r1, .int 1, .int 0, .ref r2, .int 0, .int (-1), .ref r3, .ref r4, .int 0, .int (-1), .ref r5, .ref r6]))]) (va_A [(a0, .inr (0, [.ref r0, .int 0, .ref r1, .int 1, .int 0, .ref r2, .int 0, .int (-1), .ref r3, .ref r4, .int 0, .int (-1), .ref r5, .ref r6]))] sz)) 0 0 (va_A [(a0, .inr (0, [.ref r0, .int 0, .ref r1, .int 1, .int 0, .ref r2, .int 0, .int (-1), .ref r3, .ref r4, .int 0, .int (-1), .ref r5, .ref r6]))] sz) := by
  refine Met.ofW (cc := prog_1_method_29_code) (maxL := 4) (ret := (some .int)) (by decide) rfl ?_
  intro p e s m args below meth c s₁ B hml hv
  obtain ⟨rfl, hsz, hP, hK, hD0⟩ := hv
  have hx := B.exec
  have hb := B.bytes
  have hr := B.returns
  have hts := atoms_spec (ws := w_D_breaksBefore) B.pre
  have hown : s.vm.findClass R_D = some m.cls := findClass_of_methodNamed B.named
  have hlocks := B.notSynchronized
  subst hsz
  have hD := hD0.self (sz := s.heap.size)
  generalize hAe : va_A [(a0, .inr (0, [.ref r0, .int 0, .ref r1, .int 1, .int 0, .ref r2, .int 0, .int (-1), .ref r3, .ref r4, .int 0, .int (-1), .ref r5, .ref r6]))] s.heap.size = A at hD ⊢
  have hA : ∀ q : Nat, s.heap.size ≤ q → A q := fun q h => by rw [← hAe]; exact Or.inr h
  have hS : va_S A s.heap s.heap [] := va_S.rf
  have hP : va_P (dC, dI) vwCl [(a0, .inr (0, [.ref r0, .int 0, .ref r1, .int 1, .int 0, .ref r2, .int 0, .int (-1), .ref r3, .ref r4, .int 0, .int (-1), .ref r5, .ref r6]))] s.heap := hP
  have hl := lv_entry ([.ref a0, .int 0]) (n := 4) (Nat.le_of_ble_eq_true rfl)
  rw [lg_entry_eq]
  generalize (lg_sl ([.ref a0, .int 0]) ++ List.replicate (4 - (lg_sl ([.ref a0, .int 0])).length) Slot.unset).toArray = ls at hl ⊢
  have hl : lv_has ls 4 [(0, .ref a0), (1, .int 0)] := hl
  refine lv_iconst (v := 0) hx hb d_D_breaksBefore_0 (by decide) ?_
  refine lv_istore_n (lv' := [(2, .int 0), (0, .ref a0), (1, .int 0)]) hx hb d_D_breaksBefore_1 rfl hl (by decide) rfl (fun ls hl => ?_)
  have hl : lv_has ls 4 [(2, .int 0), (0, .ref a0), (1, .int 0)] := hl
  refine lv_iconst (v := 0) hx hb d_D_breaksBefore_2 (by decide) ?_
  refine lv_istore_n (lv' := [(3, .int 0), (2, .int 0), (0, .ref a0), (1, .int 0)]) hx hb d_D_breaksBefore_3 rfl hl (by decide) rfl (fun ls hl => ?_)
  have hl : lv_has ls 4 [(3, .int 0), (2, .int 0), (0, .ref a0), (1, .int 0)] := hl
  refine lv_iload_n hx hb d_D_breaksBefore_4 rfl (lv_at hl 0 rfl) ?_
  refine lv_iload_n hx hb d_D_breaksBefore_5 rfl (lv_at hl 3 rfl) ?_
  refine lv_icmp_ge (tgt := 29) hx hb d_D_breaksBefore_6 (by decide) (fun _ => ?_) (fun h => absurd (by decide +kernel) h)
  refine lv_iload_n hx hb d_D_breaksBefore_29 rfl (lv_at hl 1 rfl) ?_
  have hP9 := hP.sub (ws' := [(a0, .inr (0, [.ref r0, .int 0, .ref r1, .int 1, .int 0, .ref r2, .int 0, .int (-1), .ref r3, .ref r4, .int 0, .int (-1), .ref r5, .ref r6]))]) [0] rfl
  have hD9 := hD.sub (ws' := [(a0, .inr (0, [.ref r0, .int 0, .ref r1, .int 1, .int 0, .ref r2, .int 0, .int (-1), .ref r3, .ref r4, .int 0, .int (-1), .ref r5, .ref r6]))]) [0] (by decide) rfl
  have hK9 := hK.sub (tys' := []) [] rfl
  exact W.iret (v := 0) hx hb hr (fun t ht hW => ⟨⟨0, (), rfl, rfl, by rw [ht]; exact hP9, va_K.moved hW.alike hK9, hD9⟩, hS.F ht⟩) hS.2.2 d_D_breaksBefore_30

set_option maxHeartbeats 4000000 in
set_option maxRecDepth 100000 in
theorem c_D_line (l : Launch) (dC : Nat → ClassId) (dI : Nat → Nat → Nat) (a0 a1 r0 r1 r2 r3 r4 r5 : Nat) (t0 : ClassId) (sz : Nat)  : Met l y_D_line w_D_line ({ frames := 1, cells := 0, slots := 0, locals := 23 }) (va_Pc [.ref a0, .int 0, .int 0] (fun U => U.heap.size = sz ∧ va_P (dC, dI) vwCl [(a0, .inr (0, [.ref r0, .int 0, .ref r1, .int 1, .int 0, .ref a1, .int 0, .int (-1), .ref r2, .ref r3, .int 0, .int (-1), .ref r4, .ref r5])), (a1, .inl (t0, 0, .inl (fun _ => 0)))] U.heap ∧ va_K (dC, dI) vwCl [(t0, .char)] U ∧ va_D (fun _ => True) [(a0, .inr (0, [.ref r0, .int 0, .ref r1, .int 1, .int 0, .ref a1, .int 0, .int (-1), .ref r2, .ref r3, .int 0, .int (-1), .ref r4, .ref r5])), (a1, .inl (t0, 0, .inl (fun _ => 0)))])) (va_Qi (fun (r : Int32) (_ : Unit) => r = 1) (fun (_ : Unit) t => va_P (dC, dI) vwCl [(a0, .inr (0, [.ref r0, .int 0, .ref r1, .int 1, .int 0, .ref a1, .int 0, .int (-1), .ref r2, .ref r3, .int 0, .int (-1), .ref r4, .ref r5])), (a1, .inl (t0, 0, .inl (fun _ => 0)))] t.heap ∧ va_K (dC, dI) vwCl [(t0, .char)] t ∧ va_D (va_A [(a0, .inr (0, [.ref r0, .int 0, .ref r1, .int 1, .int 0, .ref a1, .int 0, .int (-1), .ref r2, .ref r3, .int 0, .int (-1), .ref r4, .ref r5])), (a1, .inl (t0, 0, .inl (fun _ => 0)))] sz) [(a0, .inr (0, [.ref r0, .int 0, .ref r1, .int 1, .int 0, .ref a1, .int 0, .int (-1), .ref r2, .ref r3, .int 0, .int (-1), .ref r4, .ref r5])), (a1, .inl (t0, 0, .inl (fun _ => 0)))]) (va_A [(a0, .inr (0, [.ref r0, .int 0, .ref r1, .int 1, .int 0, .ref a1, .int 0, .int (-1), .ref r2, .ref r3, .int 0, .int (-1), .ref r4, .ref r5])), (a1, .inl (t0, 0, .inl (fun _ => 0)))] sz)) 0 0 (va_A [(a0, .inr (0, [.ref r0, .int 0, .ref r1, .int 1, .int 0, .ref a1, .int 0, .int (-1), .ref r2, .ref r3, .int 0, .int (-1), .ref r4, .ref r5])), (a1, .inl (t0, 0, .inl (fun _ => 0)))] sz) := by
  refine Met.ofW (cc := prog_1_method_16_code) (maxL := 3) (ret := (some .int)) (by decide) rfl ?_
  intro p e s m args below meth c s₁ B hml hv
  obtain ⟨rfl, hsz, hP, hK, hD0⟩ := hv
  have hx := B.exec
  have hb := B.bytes
  have hr := B.returns
  have hts := atoms_spec (ws := w_D_line) B.pre
  have hown : s.vm.findClass R_D = some m.cls := findClass_of_methodNamed B.named
  have hlocks := B.notSynchronized
  subst hsz
  have hD := hD0.self (sz := s.heap.size)
  generalize hAe : va_A [(a0, .inr (0, [.ref r0, .int 0, .ref r1, .int 1, .int 0, .ref a1, .int 0, .int (-1), .ref r2, .ref r3, .int 0, .int (-1), .ref r4, .ref r5])), (a1, .inl (t0, 0, .inl (fun _ => 0)))] s.heap.size = A at hD ⊢
  have hA : ∀ q : Nat, s.heap.size ≤ q → A q := fun q h => by rw [← hAe]; exact Or.inr h
  have hS : va_S A s.heap s.heap [] := va_S.rf
  have hP : va_P (dC, dI) vwCl [(a0, .inr (0, [.ref r0, .int 0, .ref r1, .int 1, .int 0, .ref a1, .int 0, .int (-1), .ref r2, .ref r3, .int 0, .int (-1), .ref r4, .ref r5])), (a1, .inl (t0, 0, .inl (fun _ => 0)))] s.heap := hP
  have hl := lv_entry ([.ref a0, .int 0, .int 0]) (n := 3) (Nat.le_of_ble_eq_true rfl)
  rw [lg_entry_eq]
  generalize (lg_sl ([.ref a0, .int 0, .int 0]) ++ List.replicate (3 - (lg_sl ([.ref a0, .int 0, .int 0])).length) Slot.unset).toArray = ls at hl ⊢
  have hl : lv_has ls 3 [(0, .ref a0), (1, .int 0), (2, .int 0)] := hl
  refine lv_iload_n hx hb d_D_line_0 rfl (lv_at hl 1 rfl) ?_
  refine lv_tableIn (off := 31) (tgt := 32) hx hb d_D_line_1 (by decide) (by decide) (by decide) (by decide) ?_
  refine lv_aload_n hx hb d_D_line_32 rfl (lv_at hl 0 rfl) ?_
  refine lv_aload_n hx hb d_D_line_33 rfl (lv_at hl 0 rfl) ?_
  refine va_get (D := (dC, dI)) (ci := 0) (v := .ref a1) (C := R_D) (T := F_D) (N := 14) hx hb hts (fun w h => List.mem_cons_of_mem _ (in_D w h)) hown hK hP 0 rfl rfl 5 (by decide) (hts _ (List.mem_cons_of_mem _ lk_24)) (fun _ h9 => h9) rfl d_D_line_34 ?_
  refine va_alen (v := 0) hx hb hK hP 1 0 rfl rfl (by decide) d_D_line_37 ?_
  have hPc := hP.sub (ws' := [(a0, .inr (0, [.ref r0, .int 0, .ref r1, .int 1, .int 0, .ref a1, .int 0, .int (-1), .ref r2, .ref r3, .int 0, .int (-1), .ref r4, .ref r5]))]) [0] rfl
  have hDc := hD.sub (ws' := [(a0, .inr (0, [.ref r0, .int 0, .ref r1, .int 1, .int 0, .ref a1, .int 0, .int (-1), .ref r2, .ref r3, .int 0, .int (-1), .ref r4, .ref r5]))]) [0] (by decide) rfl
  have hKc := hK.sub (tys' := []) [] rfl
  have hFc := va_free (wc := [(a0, .inr (0, [.ref r0, .int 0, .ref r1, .int 1, .int 0, .ref a1, .int 0, .int (-1), .ref r2, .ref r3, .int 0, .int (-1), .ref r4, .ref r5]))]) hD hS hA [0] rfl
  refine va_calli (va_runV (As := [.int 0]) (rest := []) ⟨hx, hb, hml, hown, hts⟩ (c_D_breaksBefore l dC dI a0 r0 r1 a1 r2 r3 r4 r5 s.heap.size) (cwV 1 hts (gd_v lk_464 lk_465 lk_466 lk_16 lk_463) rfl rfl rfl (by decide +kernel) ⟨Nat.le_of_ble_eq_true rfl, Nat.le_of_ble_eq_true rfl⟩) ⟨fun a U g mk q => by obtain ⟨q0, q1, qP, qK, qD⟩ := q; exact ⟨q0, q1, qP, va_K.moved (u := U) (U := U.calling g mk a) (Vm.Alike.refl U.vm) qK, qD⟩, va_recv (ci := 0) (q0 := 0) hK hP rfl rfl, fun U hU hW => ⟨rfl, by rw [hU], by rw [hU]; exact hPc, va_K.moved hW.alike hKc, hDc.weaken (fun _ _ _ _ => trivial)⟩⟩ rfl rfl hl.1 rfl (lv_room (Nat.le_of_ble_eq_true rfl)) d_D_line_38 ⟨Nat.le_of_ble_eq_true rfl, Nat.le_of_ble_eq_true rfl⟩) hS (fun q _ h => hFc q h) hFc (fun r u t H1 locs ht hvm hw hB hz1 hk1 hS => ?_)
  obtain ⟨hP1, hK1, hD1⟩ := hB
  rw [ht] at hP1
  have hK1 := va_K.moved hvm.symm hK1
  subst hw
  obtain ⟨hP, hD⟩ := va_join (wr := [(a1, .inl (t0, 0, .inl (fun _ => 0)))]) (w1 := [(a0, .inr (0, [.ref r0, .int 0, .ref r1, .int 1, .int 0, .ref a1, .int 0, .int (-1), .ref r2, .ref r3, .int 0, .int (-1), .ref r4, .ref r5]))]) hP hD [0] [1] rfl rfl (by decide) (by decide) hk1 hFc hP1 hD1
  generalize H1 = H at hP hS ⊢
  have hP : va_P (dC, dI) vwCl [(a1, .inl (t0, 0, .inl (fun _ => 0))), (a0, .inr (0, [.ref r0, .int 0, .ref r1, .int 1, .int 0, .ref a1, .int 0, .int (-1), .ref r2, .ref r3, .int 0, .int (-1), .ref r4, .ref r5]))] H := hP
  have hD : va_D A [(a1, .inl (t0, 0, .inl (fun _ => 0))), (a0, .inr (0, [.ref r0, .int 0, .ref r1, .int 1, .int 0, .ref a1, .int 0, .int (-1), .ref r2, .ref r3, .int 0, .int (-1), .ref r4, .ref r5]))] := hD
  refine lv_iconst (v := 1) hx hb d_D_line_41 (by decide) ?_
  refine t_iadd (v := 1) hx hb d_D_line_42 (by decide +kernel) ?_
  have hP9 := hP.sub (ws' := [(a0, .inr (0, [.ref r0, .int 0, .ref r1, .int 1, .int 0, .ref a1, .int 0, .int (-1), .ref r2, .ref r3, .int 0, .int (-1), .ref r4, .ref r5])), (a1, .inl (t0, 0, .inl (fun _ => 0)))]) [1, 0] rfl
  have hD9 := hD.sub (ws' := [(a0, .inr (0, [.ref r0, .int 0, .ref r1, .int 1, .int 0, .ref a1, .int 0, .int (-1), .ref r2, .ref r3, .int 0, .int (-1), .ref r4, .ref r5])), (a1, .inl (t0, 0, .inl (fun _ => 0)))]) [1, 0] (by decide) rfl
  have hK9 := hK.sub (tys' := [(t0, .char)]) [0] rfl
  exact W.iret (v := 1) hx hb hr (fun t ht hW => ⟨⟨1, (), rfl, rfl, by rw [ht]; exact hP9, va_K.moved hW.alike hK9, hD9⟩, hS.F ht⟩) hS.2.2 d_D_line_43

set_option maxHeartbeats 4000000 in
set_option maxRecDepth 100000 in
theorem c_L_line (l : Launch) (dC : Nat → ClassId) (dI : Nat → Nat → Nat) (a0 a1 a2 r0 r1 r2 r3 r4 r5 : Nat) (t0 t1 : ClassId) (sz : Nat)  : Met l y_L_line w_L_line ({ frames := 2, cells := 0, slots := 0, locals := 45 }) (va_Pc [.ref a0, .int 0, .int 0, .ref a2] (fun U => U.heap.size = sz ∧ va_P (dC, dI) vwCl [(a0, .inr (0, [.ref r0, .int 0, .ref r1, .int 1, .int 0, .ref a1, .int 0, .int (-1), .ref r2, .ref r3, .int 0, .int (-1), .ref r4, .ref r5])), (a1, .inl (t0, 0, .inl (fun _ => 0))), (a2, .inl (t1, 1, .inr (.inl (fun _ => 0))))] U.heap ∧ va_K (dC, dI) vwCl [(t0, .char), (t1, .long)] U ∧ va_D (fun _ => True) [(a0, .inr (0, [.ref r0, .int 0, .ref r1, .int 1, .int 0, .ref a1, .int 0, .int (-1), .ref r2, .ref r3, .int 0, .int (-1), .ref r4, .ref r5])), (a1, .inl (t0, 0, .inl (fun _ => 0))), (a2, .inl (t1, 1, .inr (.inl (fun _ => 0))))])) (va_Qi (fun (r : Int32) (_ : Unit) => r = 0) (fun (_ : Unit) t => va_P (dC, dI) vwCl [(a0, .inr (0, [.ref r0, .int 0, .ref r1, .int 1, .int 0, .ref a1, .int 0, .int (-1), .ref r2, .ref r3, .int 0, .int (-1), .ref r4, .ref r5])), (a1, .inl (t0, 0, .inl (fun _ => 0))), (a2, .inl (t1, 1, .inr (.inl (vp_updL (fun _ => 0) 0 1))))] t.heap ∧ va_K (dC, dI) vwCl [(t0, .char), (t1, .long)] t ∧ va_D (va_A [(a0, .inr (0, [.ref r0, .int 0, .ref r1, .int 1, .int 0, .ref a1, .int 0, .int (-1), .ref r2, .ref r3, .int 0, .int (-1), .ref r4, .ref r5])), (a1, .inl (t0, 0, .inl (fun _ => 0))), (a2, .inl (t1, 1, .inr (.inl (fun _ => 0))))] sz) [(a0, .inr (0, [.ref r0, .int 0, .ref r1, .int 1, .int 0, .ref a1, .int 0, .int (-1), .ref r2, .ref r3, .int 0, .int (-1), .ref r4, .ref r5])), (a1, .inl (t0, 0, .inl (fun _ => 0))), (a2, .inl (t1, 1, .inr (.inl (vp_updL (fun _ => 0) 0 1))))]) (va_A [(a0, .inr (0, [.ref r0, .int 0, .ref r1, .int 1, .int 0, .ref a1, .int 0, .int (-1), .ref r2, .ref r3, .int 0, .int (-1), .ref r4, .ref r5])), (a1, .inl (t0, 0, .inl (fun _ => 0))), (a2, .inl (t1, 1, .inr (.inl (fun _ => 0))))] sz)) 0 0 (va_A [(a0, .inr (0, [.ref r0, .int 0, .ref r1, .int 1, .int 0, .ref a1, .int 0, .int (-1), .ref r2, .ref r3, .int 0, .int (-1), .ref r4, .ref r5])), (a1, .inl (t0, 0, .inl (fun _ => 0))), (a2, .inl (t1, 1, .inr (.inl (fun _ => 0))))] sz) := by
  refine th_ofWw (tab := [(0, 10, 13, 28), (0, 10, 17, 23)]) (cc := method_13_code) (maxL := 5) (ret := (some .int)) (by decide) rfl ?_
  intro p e s m args below meth c s₁ B hml htab hv
  obtain ⟨rfl, hsz, hP, hK, hD0⟩ := hv
  have hx := B.exec
  have hb := B.bytes
  have hr := B.returns
  have hts := atoms_spec (ws := w_L_line) B.pre
  have hown : s.vm.findClass R_L = some m.cls := findClass_of_methodNamed B.named
  have hlocks := B.notSynchronized
  subst hsz
  have hD := hD0.self (sz := s.heap.size)
  generalize hAe : va_A [(a0, .inr (0, [.ref r0, .int 0, .ref r1, .int 1, .int 0, .ref a1, .int 0, .int (-1), .ref r2, .ref r3, .int 0, .int (-1), .ref r4, .ref r5])), (a1, .inl (t0, 0, .inl (fun _ => 0))), (a2, .inl (t1, 1, .inr (.inl (fun _ => 0))))] s.heap.size = A at hD ⊢
  have hA : ∀ q : Nat, s.heap.size ≤ q → A q := fun q h => by rw [← hAe]; exact Or.inr h
  have hS : va_S A s.heap s.heap [] := va_S.rf
  have hP : va_P (dC, dI) vwCl [(a0, .inr (0, [.ref r0, .int 0, .ref r1, .int 1, .int 0, .ref a1, .int 0, .int (-1), .ref r2, .ref r3, .int 0, .int (-1), .ref r4, .ref r5])), (a1, .inl (t0, 0, .inl (fun _ => 0))), (a2, .inl (t1, 1, .inr (.inl (fun _ => 0))))] s.heap := hP
  have hl := lv_entry ([.ref a0, .int 0, .int 0, .ref a2]) (n := 5) (Nat.le_of_ble_eq_true rfl)
  rw [lg_entry_eq]
  generalize (lg_sl ([.ref a0, .int 0, .int 0, .ref a2]) ++ List.replicate (5 - (lg_sl ([.ref a0, .int 0, .int 0, .ref a2])).length) Slot.unset).toArray = ls at hl ⊢
  have hl : lv_has ls 5 [(0, .ref a0), (1, .int 0), (2, .int 0), (3, .ref a2)] := hl
  refine lv_aload_n hx hb d_L_line_0 rfl (lv_at hl 3 rfl) ?_
  refine lv_iconst (v := 0) hx hb d_L_line_1 (by decide) ?_
  refine lv_aload_n hx hb d_L_line_2 rfl (lv_at hl 0 rfl) ?_
  refine lv_iload_n hx hb d_L_line_3 rfl (lv_at hl 1 rfl) ?_
  refine lv_iload_n hx hb d_L_line_4 rfl (lv_at hl 2 rfl) ?_
  have hPc := hP.sub (ws' := [(a0, .inr (0, [.ref r0, .int 0, .ref r1, .int 1, .int 0, .ref a1, .int 0, .int (-1), .ref r2, .ref r3, .int 0, .int (-1), .ref r4, .ref r5])), (a1, .inl (t0, 0, .inl (fun _ => 0)))]) [0, 1] rfl
  have hDc := hD.sub (ws' := [(a0, .inr (0, [.ref r0, .int 0, .ref r1, .int 1, .int 0, .ref a1, .int 0, .int (-1), .ref r2, .ref r3, .int 0, .int (-1), .ref r4, .ref r5])), (a1, .inl (t0, 0, .inl (fun _ => 0)))]) [0, 1] (by decide) rfl
  have hKc := hK.sub (tys' := [(t0, .char)]) [0] rfl
  have hFc := va_free (wc := [(a0, .inr (0, [.ref r0, .int 0, .ref r1, .int 1, .int 0, .ref a1, .int 0, .int (-1), .ref r2, .ref r3, .int 0, .int (-1), .ref r4, .ref r5])), (a1, .inl (t0, 0, .inl (fun _ => 0)))]) hD hS hA [0, 1] rfl
  refine va_calli (va_runV (As := [.int 0, .int 0]) (rest := [.int 0, .ref a2]) ⟨hx, hb, hml, hown, hts⟩ (c_D_line l dC dI a0 a1 r0 r1 r2 r3 r4 r5 t0 s.heap.size) (cwV 2 hts (gd_v lk_468 lk_469 lk_470 lk_16 lk_467) rfl rfl rfl (by decide +kernel) ⟨Nat.le_of_ble_eq_true rfl, Nat.le_of_ble_eq_true rfl⟩) ⟨fun a U g mk q => by obtain ⟨q0, q1, qP, qK, qD⟩ := q; exact ⟨q0, q1, qP, va_K.moved (u := U) (U := U.calling g mk a) (Vm.Alike.refl U.vm) qK, qD⟩, va_recv (ci := 0) (q0 := 0) hK hP rfl rfl, fun U hU hW => ⟨rfl, by rw [hU], by rw [hU]; exact hPc, va_K.moved hW.alike hKc, hDc.weaken (fun _ _ _ _ => trivial)⟩⟩ rfl rfl hl.1 rfl (lv_room (Nat.le_of_ble_eq_true rfl)) d_L_line_5 ⟨Nat.le_of_ble_eq_true rfl, Nat.le_of_ble_eq_true rfl⟩) hS (fun q _ h => hFc q h) hFc (fun r u t H1 locs ht hvm hw hB hz1 hk1 hS => ?_)
  obtain ⟨hP1, hK1, hD1⟩ := hB
  rw [ht] at hP1
  have hK1 := va_K.moved hvm.symm hK1
  subst hw
  obtain ⟨hP, hD⟩ := va_join (wr := [(a2, .inl (t1, 1, .inr (.inl (fun _ => 0))))]) (w1 := [(a0, .inr (0, [.ref r0, .int 0, .ref r1, .int 1, .int 0, .ref a1, .int 0, .int (-1), .ref r2, .ref r3, .int 0, .int (-1), .ref r4, .ref r5])), (a1, .inl (t0, 0, .inl (fun _ => 0)))]) hP hD [0, 1] [2] rfl rfl (by decide) (by decide) hk1 hFc hP1 hD1
  generalize H1 = H at hP hS ⊢
  have hP : va_P (dC, dI) vwCl [(a2, .inl (t1, 1, .inr (.inl (fun _ => 0)))), (a0, .inr (0, [.ref r0, .int 0, .ref r1, .int 1, .int 0, .ref a1, .int 0, .int (-1), .ref r2, .ref r3, .int 0, .int (-1), .ref r4, .ref r5])), (a1, .inl (t0, 0, .inl (fun _ => 0)))] H := hP
  have hD : va_D A [(a2, .inl (t1, 1, .inr (.inl (fun _ => 0)))), (a0, .inr (0, [.ref r0, .int 0, .ref r1, .int 1, .int 0, .ref a1, .int 0, .int (-1), .ref r2, .ref r3, .int 0, .int (-1), .ref r4, .ref r5])), (a1, .inl (t0, 0, .inl (fun _ => 0)))] := hD
  refine lv_i2l (v := 1) hx hb d_L_line_8 (by decide +kernel) ?_
  refine va_last hx hb hK hP hD hS 0 1 rfl rfl (wk_in (by decide +kernel)) d_L_line_9 (fun H locs hP hD hS => ?_)
  have hP : va_P (dC, dI) vwCl [(a2, .inl (t1, 1, .inr (.inl (vp_updL (fun _ => 0) 0 1)))), (a0, .inr (0, [.ref r0, .int 0, .ref r1, .int 1, .int 0, .ref a1, .int 0, .int (-1), .ref r2, .ref r3, .int 0, .int (-1), .ref r4, .ref r5])), (a1, .inl (t0, 0, .inl (fun _ => 0)))] H := hP
  have hD : va_D A [(a2, .inl (t1, 1, .inr (.inl (vp_updL (fun _ => 0) 0 1)))), (a0, .inr (0, [.ref r0, .int 0, .ref r1, .int 1, .int 0, .ref a1, .int 0, .int (-1), .ref r2, .ref r3, .int 0, .int (-1), .ref r4, .ref r5])), (a1, .inl (t0, 0, .inl (fun _ => 0)))] := hD
  refine lv_goto (tgt := 21) hx hb d_L_line_10 (by decide) ?_
  refine lv_iconst (v := 0) hx hb d_L_line_21 (by decide) ?_
  have hP9 := hP.sub (ws' := [(a0, .inr (0, [.ref r0, .int 0, .ref r1, .int 1, .int 0, .ref a1, .int 0, .int (-1), .ref r2, .ref r3, .int 0, .int (-1), .ref r4, .ref r5])), (a1, .inl (t0, 0, .inl (fun _ => 0))), (a2, .inl (t1, 1, .inr (.inl (vp_updL (fun _ => 0) 0 1))))]) [1, 2, 0] rfl
  have hD9 := hD.sub (ws' := [(a0, .inr (0, [.ref r0, .int 0, .ref r1, .int 1, .int 0, .ref a1, .int 0, .int (-1), .ref r2, .ref r3, .int 0, .int (-1), .ref r4, .ref r5])), (a1, .inl (t0, 0, .inl (fun _ => 0))), (a2, .inl (t1, 1, .inr (.inl (vp_updL (fun _ => 0) 0 1))))]) [1, 2, 0] (by decide) rfl
  have hK9 := hK.sub (tys' := [(t0, .char), (t1, .long)]) [0, 1] rfl
  exact W.iret (v := 0) hx hb hr (fun t ht hW => ⟨⟨0, (), rfl, rfl, by rw [ht]; exact hP9, va_K.moved hW.alike hK9, hD9⟩, hS.F ht⟩) hS.2.2 d_L_line_22

set_option maxHeartbeats 4000000 in
set_option maxRecDepth 100000 in
theorem c_M_breaks (l : Launch) (dC : Nat → ClassId) (dI : Nat → Nat → Nat) (a0 r0 r1 r2 r3 r4 r5 r6 r7 r8 r9 r10 r11 r12 r13 r14 r15 r16 r17 r18 r19 : Nat) (sz : Nat)  : Met l y_M_breaks w_M_breaks ({ frames := 0, cells := 0, slots := 0, locals := 0 }) (va_Pc [.ref a0, .int 0] (fun U => U.heap.size = sz ∧ va_P (dC, dI) vwCl [(a0, .inr (4, [.int 0, .int 0, .ref r0, .int 1, .int 0, .ref r1, .ref r2, .ref r3, .ref r4, .ref r5, .int 0, .int 0, .int (-1), .int 0, .int (-1), .int 0, .ref r6, .int 0, .ref r7, .ref r8, .ref r9, .ref r10, .ref r11, .int 0, .int 0, .int 0, .ref r12, .ref r13, .int 0, .ref r14, .ref r15, .ref r16, .ref r17, .ref r18, .int 0, .int 0, .int 0, .ref r19]))] U.heap ∧ va_K (dC, dI) vwCl [] U ∧ va_D (fun _ => True) [(a0, .inr (4, [.int 0, .int 0, .ref r0, .int 1, .int 0, .ref r1, .ref r2, .ref r3, .ref r4, .ref r5, .int 0, .int 0, .int (-1), .int 0, .int (-1), .int 0, .ref r6, .int 0, .ref r7, .ref r8, .ref r9, .ref r10, .ref r11, .int 0, .int 0, .int 0, .ref r12, .ref r13, .int 0, .ref r14, .ref r15, .ref r16, .ref r17, .ref r18, .int 0, .int 0, .int 0, .ref r19]))])) (va_Qi (fun (r : Int32) (_ : Unit) => r = 0) (fun (_ : Unit) t => va_P (dC, dI) vwCl [(a0, .inr (4, [.int 0, .int 0, .ref r0, .int 1, .int 0, .ref r1, .ref r2, .ref r3, .ref r4, .ref r5, .int 0, .int 0, .int (-1), .int 0, .int (-1), .int 0, .ref r6, .int 0, .ref r7, .ref r8, .ref r9, .ref r10, .ref r11, .int 0, .int 0, .int 0, .ref r12, .ref r13, .int 0, .ref r14, .ref r15, .ref r16, .ref r17, .ref r18, .int 0, .int 0, .int 0, .ref r19]))] t.heap ∧ va_K (dC, dI) vwCl [] t ∧ va_D (va_A [(a0, .inr (4, [.int 0, .int 0, .ref r0, .int 1, .int 0, .ref r1, .ref r2, .ref r3, .ref r4, .ref r5, .int 0, .int 0, .int (-1), .int 0, .int (-1), .int 0, .ref r6, .int 0, .ref r7, .ref r8, .ref r9, .ref r10, .ref r11, .int 0, .int 0, .int 0, .ref r12, .ref r13, .int 0, .ref r14, .ref r15, .ref r16, .ref r17, .ref r18, .int 0, .int 0, .int 0, .ref r19]))] sz) [(a0, .inr (4, [.int 0, .int 0, .ref r0, .int 1, .int 0, .ref r1, .ref r2, .ref r3, .ref r4, .ref r5, .int 0, .int 0, .int (-1), .int 0, .int (-1), .int 0, .ref r6, .int 0, .ref r7, .ref r8, .ref r9, .ref r10, .ref r11, .int 0, .int 0, .int 0, .ref r12, .ref r13, .int 0, .ref r14, .ref r15, .ref r16, .ref r17, .ref r18, .int 0, .int 0, .int 0, .ref r19]))]) (va_A [(a0, .inr (4, [.int 0, .int 0, .ref r0, .int 1, .int 0, .ref r1, .ref r2, .ref r3, .ref r4, .ref r5, .int 0, .int 0, .int (-1), .int 0, .int (-1), .int 0, .ref r6, .int 0, .ref r7, .ref r8, .ref r9, .ref r10, .ref r11, .int 0, .int 0, .int 0, .ref r12, .ref r13, .int 0, .ref r14, .ref r15, .ref r16, .ref r17, .ref r18, .int 0, .int 0, .int 0, .ref r19]))] sz)) 0 0 (va_A [(a0, .inr (4, [.int 0, .int 0, .ref r0, .int 1, .int 0, .ref r1, .ref r2, .ref r3, .ref r4, .ref r5, .int 0, .int 0, .int (-1), .int 0, .int (-1), .int 0, .ref r6, .int 0, .ref r7, .ref r8, .ref r9, .ref r10, .ref r11, .int 0, .int 0, .int 0, .ref r12, .ref r13, .int 0, .ref r14, .ref r15, .ref r16, .ref r17, .ref r18, .int 0, .int 0, .int 0, .ref r19]))] sz) := by
  refine Met.ofW (cc := prog_6_method_49_code) (maxL := 4) (ret := (some .int)) (by decide) rfl ?_
  intro p e s m args below meth c s₁ B hml hv
  obtain ⟨rfl, hsz, hP, hK, hD0⟩ := hv
  have hx := B.exec
  have hb := B.bytes
  have hr := B.returns
  have hts := atoms_spec (ws := w_M_breaks) B.pre
  have hown : s.vm.findClass R_M = some m.cls := findClass_of_methodNamed B.named
  have hlocks := B.notSynchronized
  subst hsz
  have hD := hD0.self (sz := s.heap.size)
  generalize hAe : va_A [(a0, .inr (4, [.int 0, .int 0, .ref r0, .int 1, .int 0, .ref r1, .ref r2, .ref r3, .ref r4, .ref r5, .int 0, .int 0, .int (-1), .int 0, .int (-1), .int 0, .ref r6, .int 0, .ref r7, .ref r8, .ref r9, .ref r10, .ref r11, .int 0, .int 0, .int 0, .ref r12, .ref r13, .int 0, .ref r14, .ref r15, .ref r16, .ref r17, .ref r18, .int 0, .int 0, .int 0, .ref r19]))] s.heap.size = A at hD ⊢
  have hA : ∀ q : Nat, s.heap.size ≤ q → A q := fun q h => by rw [← hAe]; exact Or.inr h
  have hS : va_S A s.heap s.heap [] := va_S.rf
  have hP : va_P (dC, dI) vwCl [(a0, .inr (4, [.int 0, .int 0, .ref r0, .int 1, .int 0, .ref r1, .ref r2, .ref r3, .ref r4, .ref r5, .int 0, .int 0, .int (-1), .int 0, .int (-1), .int 0, .ref r6, .int 0, .ref r7, .ref r8, .ref r9, .ref r10, .ref r11, .int 0, .int 0, .int 0, .ref r12, .ref r13, .int 0, .ref r14, .ref r15, .ref r16, .ref r17, .ref r18, .int 0, .int 0, .int 0, .ref r19]))] s.heap := hP
  have hl := lv_entry ([.ref a0, .int 0]) (n := 4) (Nat.le_of_ble_eq_true rfl)
  rw [lg_entry_eq]
  generalize (lg_sl ([.ref a0, .int 0]) ++ List.replicate (4 - (lg_sl ([.ref a0, .int 0])).length) Slot.unset).toArray = ls at hl ⊢
  have hl : lv_has ls 4 [(0, .ref a0), (1, .int 0)] := hl
  refine lv_iconst (v := 0) hx hb d_M_breaks_0 (by decide) ?_
  refine lv_istore_n (lv' := [(2, .int 0), (0, .ref a0), (1, .int 0)]) hx hb d_M_breaks_1 rfl hl (by decide) rfl (fun ls hl => ?_)
  have hl : lv_has ls 4 [(2, .int 0), (0, .ref a0), (1, .int 0)] := hl
  refine lv_iconst (v := 0) hx hb d_M_breaks_2 (by decide) ?_
  refine lv_istore_n (lv' := [(3, .int 0), (2, .int 0), (0, .ref a0), (1, .int 0)]) hx hb d_M_breaks_3 rfl hl (by decide) rfl (fun ls hl => ?_)
  have hl : lv_has ls 4 [(3, .int 0), (2, .int 0), (0, .ref a0), (1, .int 0)] := hl
  refine lv_iload_n hx hb d_M_breaks_4 rfl (lv_at hl 0 rfl) ?_
  refine lv_iload_n hx hb d_M_breaks_5 rfl (lv_at hl 3 rfl) ?_
  refine lv_icmp_ge (tgt := 33) hx hb d_M_breaks_6 (by decide) (fun _ => ?_) (fun h => absurd (by decide +kernel) h)
  refine lv_iload_n hx hb d_M_breaks_33 rfl (lv_at hl 1 rfl) ?_
  have hP9 := hP.sub (ws' := [(a0, .inr (4, [.int 0, .int 0, .ref r0, .int 1, .int 0, .ref r1, .ref r2, .ref r3, .ref r4, .ref r5, .int 0, .int 0, .int (-1), .int 0, .int (-1), .int 0, .ref r6, .int 0, .ref r7, .ref r8, .ref r9, .ref r10, .ref r11, .int 0, .int 0, .int 0, .ref r12, .ref r13, .int 0, .ref r14, .ref r15, .ref r16, .ref r17, .ref r18, .int 0, .int 0, .int 0, .ref r19]))]) [0] rfl
  have hD9 := hD.sub (ws' := [(a0, .inr (4, [.int 0, .int 0, .ref r0, .int 1, .int 0, .ref r1, .ref r2, .ref r3, .ref r4, .ref r5, .int 0, .int 0, .int (-1), .int 0, .int (-1), .int 0, .ref r6, .int 0, .ref r7, .ref r8, .ref r9, .ref r10, .ref r11, .int 0, .int 0, .int 0, .ref r12, .ref r13, .int 0, .ref r14, .ref r15, .ref r16, .ref r17, .ref r18, .int 0, .int 0, .int 0, .ref r19]))]) [0] (by decide) rfl
  have hK9 := hK.sub (tys' := []) [] rfl
  exact W.iret (v := 0) hx hb hr (fun t ht hW => ⟨⟨0, (), rfl, rfl, by rw [ht]; exact hP9, va_K.moved hW.alike hK9, hD9⟩, hS.F ht⟩) hS.2.2 d_M_breaks_34

set_option maxHeartbeats 4000000 in
set_option maxRecDepth 100000 in
theorem c_M_line (l : Launch) (dC : Nat → ClassId) (dI : Nat → Nat → Nat) (a0 a1 r0 r1 r2 r3 r4 r5 r6 r7 r8 r9 r10 r11 r12 r13 r14 r15 r16 r17 r18 : Nat) (t0 : ClassId) (sz : Nat)  : Met l y_M_line w_M_line ({ frames := 1, cells := 0, slots := 0, locals := 23 }) (va_Pc [.ref a0, .int 0, .int 0] (fun U => U.heap.size = sz ∧ va_P (dC, dI) vwCl [(a0, .inr (4, [.int 0, .int 0, .ref r0, .int 1, .int 0, .ref r1, .ref a1, .ref r2, .ref r3, .ref r4, .int 0, .int 0, .int (-1), .int 0, .int (-1), .int 0, .ref r5, .int 0, .ref r6, .ref r7, .ref r8, .ref r9, .ref r10, .int 0, .int 0, .int 0, .ref r11, .ref r12, .int 0, .ref r13, .ref r14, .ref r15, .ref r16, .ref r17, .int 0, .int 0, .int 0, .ref r18])), (a1, .inl (t0, 40, .inl (fun _ => 0)))] U.heap ∧ va_K (dC, dI) vwCl [(t0, .int)] U ∧ va_D (fun _ => True) [(a0, .inr (4, [.int 0, .int 0, .ref r0, .int 1, .int 0, .ref r1, .ref a1, .ref r2, .ref r3, .ref r4, .int 0, .int 0, .int (-1), .int 0, .int (-1), .int 0, .ref r5, .int 0, .ref r6, .ref r7, .ref r8, .ref r9, .ref r10, .int 0, .int 0, .int 0, .ref r11, .ref r12, .int 0, .ref r13, .ref r14, .ref r15, .ref r16, .ref r17, .int 0, .int 0, .int 0, .ref r18])), (a1, .inl (t0, 40, .inl (fun _ => 0)))])) (va_Qi (fun (r : Int32) (_ : Unit) => r = 1) (fun (_ : Unit) t => va_P (dC, dI) vwCl [(a0, .inr (4, [.int 0, .int 0, .ref r0, .int 1, .int 0, .ref r1, .ref a1, .ref r2, .ref r3, .ref r4, .int 0, .int 0, .int (-1), .int 0, .int (-1), .int 0, .ref r5, .int 0, .ref r6, .ref r7, .ref r8, .ref r9, .ref r10, .int 0, .int 0, .int 0, .ref r11, .ref r12, .int 0, .ref r13, .ref r14, .ref r15, .ref r16, .ref r17, .int 0, .int 0, .int 0, .ref r18])), (a1, .inl (t0, 40, .inl (fun _ => 0)))] t.heap ∧ va_K (dC, dI) vwCl [(t0, .int)] t ∧ va_D (va_A [(a0, .inr (4, [.int 0, .int 0, .ref r0, .int 1, .int 0, .ref r1, .ref a1, .ref r2, .ref r3, .ref r4, .int 0, .int 0, .int (-1), .int 0, .int (-1), .int 0, .ref r5, .int 0, .ref r6, .ref r7, .ref r8, .ref r9, .ref r10, .int 0, .int 0, .int 0, .ref r11, .ref r12, .int 0, .ref r13, .ref r14, .ref r15, .ref r16, .ref r17, .int 0, .int 0, .int 0, .ref r18])), (a1, .inl (t0, 40, .inl (fun _ => 0)))] sz) [(a0, .inr (4, [.int 0, .int 0, .ref r0, .int 1, .int 0, .ref r1, .ref a1, .ref r2, .ref r3, .ref r4, .int 0, .int 0, .int (-1), .int 0, .int (-1), .int 0, .ref r5, .int 0, .ref r6, .ref r7, .ref r8, .ref r9, .ref r10, .int 0, .int 0, .int 0, .ref r11, .ref r12, .int 0, .ref r13, .ref r14, .ref r15, .ref r16, .ref r17, .int 0, .int 0, .int 0, .ref r18])), (a1, .inl (t0, 40, .inl (fun _ => 0)))]) (va_A [(a0, .inr (4, [.int 0, .int 0, .ref r0, .int 1, .int 0, .ref r1, .ref a1, .ref r2, .ref r3, .ref r4, .int 0, .int 0, .int (-1), .int 0, .int (-1), .int 0, .ref r5, .int 0, .ref r6, .ref r7, .ref r8, .ref r9, .ref r10, .int 0, .int 0, .int 0, .ref r11, .ref r12, .int 0, .ref r13, .ref r14, .ref r15, .ref r16, .ref r17, .int 0, .int 0, .int 0, .ref r18])), (a1, .inl (t0, 40, .inl (fun _ => 0)))] sz)) 0 0 (va_A [(a0, .inr (4, [.int 0, .int 0, .ref r0, .int 1, .int 0, .ref r1, .ref a1, .ref r2, .ref r3, .ref r4, .int 0, .int 0, .int (-1), .int 0, .int (-1), .int 0, .ref r5, .int 0, .ref r6, .ref r7, .ref r8, .ref r9, .ref r10, .int 0, .int 0, .int 0, .ref r11, .ref r12, .int 0, .ref r13, .ref r14, .ref r15, .ref r16, .ref r17, .int 0, .int 0, .int 0, .ref r18])), (a1, .inl (t0, 40, .inl (fun _ => 0)))] sz) := by
  refine Met.ofW (cc := prog_6_method_51_code) (maxL := 7) (ret := (some .int)) (by decide) rfl ?_
  intro p e s m args below meth c s₁ B hml hv
  obtain ⟨rfl, hsz, hP, hK, hD0⟩ := hv
  have hx := B.exec
  have hb := B.bytes
  have hr := B.returns
  have hts := atoms_spec (ws := w_M_line) B.pre
  have hown : s.vm.findClass R_M = some m.cls := findClass_of_methodNamed B.named
  have hlocks := B.notSynchronized
  subst hsz
  have hD := hD0.self (sz := s.heap.size)
  generalize hAe : va_A [(a0, .inr (4, [.int 0, .int 0, .ref r0, .int 1, .int 0, .ref r1, .ref a1, .ref r2, .ref r3, .ref r4, .int 0, .int 0, .int (-1), .int 0, .int (-1), .int 0, .ref r5, .int 0, .ref r6, .ref r7, .ref r8, .ref r9, .ref r10, .int 0, .int 0, .int 0, .ref r11, .ref r12, .int 0, .ref r13, .ref r14, .ref r15, .ref r16, .ref r17, .int 0, .int 0, .int 0, .ref r18])), (a1, .inl (t0, 40, .inl (fun _ => 0)))] s.heap.size = A at hD ⊢
  have hA : ∀ q : Nat, s.heap.size ≤ q → A q := fun q h => by rw [← hAe]; exact Or.inr h
  have hS : va_S A s.heap s.heap [] := va_S.rf
  have hP : va_P (dC, dI) vwCl [(a0, .inr (4, [.int 0, .int 0, .ref r0, .int 1, .int 0, .ref r1, .ref a1, .ref r2, .ref r3, .ref r4, .int 0, .int 0, .int (-1), .int 0, .int (-1), .int 0, .ref r5, .int 0, .ref r6, .ref r7, .ref r8, .ref r9, .ref r10, .int 0, .int 0, .int 0, .ref r11, .ref r12, .int 0, .ref r13, .ref r14, .ref r15, .ref r16, .ref r17, .int 0, .int 0, .int 0, .ref r18])), (a1, .inl (t0, 40, .inl (fun _ => 0)))] s.heap := hP
  have hl := lv_entry ([.ref a0, .int 0, .int 0]) (n := 7) (Nat.le_of_ble_eq_true rfl)
  rw [lg_entry_eq]
  generalize (lg_sl ([.ref a0, .int 0, .int 0]) ++ List.replicate (7 - (lg_sl ([.ref a0, .int 0, .int 0])).length) Slot.unset).toArray = ls at hl ⊢
  have hl : lv_has ls 7 [(0, .ref a0), (1, .int 0), (2, .int 0)] := hl
  refine lv_aload_n hx hb d_M_line_0 rfl (lv_at hl 0 rfl) ?_
  refine lv_aload_n hx hb d_M_line_1 rfl (lv_at hl 0 rfl) ?_
  have hPc := hP.sub (ws' := [(a0, .inr (4, [.int 0, .int 0, .ref r0, .int 1, .int 0, .ref r1, .ref a1, .ref r2, .ref r3, .ref r4, .int 0, .int 0, .int (-1), .int 0, .int (-1), .int 0, .ref r5, .int 0, .ref r6, .ref r7, .ref r8, .ref r9, .ref r10, .int 0, .int 0, .int 0, .ref r11, .ref r12, .int 0, .ref r13, .ref r14, .ref r15, .ref r16, .ref r17, .int 0, .int 0, .int 0, .ref r18])), (a1, .inl (t0, 40, .inl (fun _ => 0)))]) [0, 1] rfl
  have hDc := hD.sub (ws' := [(a0, .inr (4, [.int 0, .int 0, .ref r0, .int 1, .int 0, .ref r1, .ref a1, .ref r2, .ref r3, .ref r4, .int 0, .int 0, .int (-1), .int 0, .int (-1), .int 0, .ref r5, .int 0, .ref r6, .ref r7, .ref r8, .ref r9, .ref r10, .int 0, .int 0, .int 0, .ref r11, .ref r12, .int 0, .ref r13, .ref r14, .ref r15, .ref r16, .ref r17, .int 0, .int 0, .int 0, .ref r18])), (a1, .inl (t0, 40, .inl (fun _ => 0)))]) [0, 1] (by decide) rfl
  have hKc := hK.sub (tys' := [(t0, .int)]) [0] rfl
  have hFc := va_free (wc := [(a0, .inr (4, [.int 0, .int 0, .ref r0, .int 1, .int 0, .ref r1, .ref a1, .ref r2, .ref r3, .ref r4, .int 0, .int 0, .int (-1), .int 0, .int (-1), .int 0, .ref r5, .int 0, .ref r6, .ref r7, .ref r8, .ref r9, .ref r10, .int 0, .int 0, .int 0, .ref r11, .ref r12, .int 0, .ref r13, .ref r14, .ref r15, .ref r16, .ref r17, .int 0, .int 0, .int 0, .ref r18])), (a1, .inl (t0, 40, .inl (fun _ => 0)))]) hD hS hA [0, 1] rfl
  refine va_calli (va_runV (As := []) (rest := [.ref a0]) ⟨hx, hb, hml, hown, hts⟩ (c_M_textLength l dC dI a0 a1 r0 r1 r2 r3 r4 r5 r6 r7 r8 r9 r10 r11 r12 r13 r14 r15 r16 r17 r18 t0 s.heap.size) (cwV 0 hts (gd_v lk_240 lk_241 lk_242 lk_141 lk_239) rfl rfl rfl (by decide +kernel) ⟨Nat.le_of_ble_eq_true rfl, Nat.le_of_ble_eq_true rfl⟩) ⟨fun a U g mk q => by obtain ⟨q0, q1, qP, qK, qD⟩ := q; exact ⟨q0, q1, qP, va_K.moved (u := U) (U := U.calling g mk a) (Vm.Alike.refl U.vm) qK, qD⟩, va_recv (ci := 4) (q0 := 0) hK hP rfl rfl, fun U hU hW => ⟨rfl, by rw [hU], by rw [hU]; exact hPc, va_K.moved hW.alike hKc, hDc.weaken (fun _ _ _ _ => trivial)⟩⟩ rfl rfl hl.1 rfl (lv_room (Nat.le_of_ble_eq_true rfl)) d_M_line_2 ⟨Nat.le_of_ble_eq_true rfl, Nat.le_of_ble_eq_true rfl⟩) hS (fun q _ h => hFc q h) hFc (fun r u t H1 locs ht hvm hw hB hz1 hk1 hS => ?_)
  obtain ⟨hP1, hK1, hD1⟩ := hB
  rw [ht] at hP1
  have hK1 := va_K.moved hvm.symm hK1
  subst hw
  obtain ⟨hP, hD⟩ := va_join (wr := []) (w1 := [(a0, .inr (4, [.int 0, .int 0, .ref r0, .int 1, .int 0, .ref r1, .ref a1, .ref r2, .ref r3, .ref r4, .int 0, .int 0, .int (-1), .int 0, .int (-1), .int 0, .ref r5, .int 0, .ref r6, .ref r7, .ref r8, .ref r9, .ref r10, .int 0, .int 0, .int 0, .ref r11, .ref r12, .int 0, .ref r13, .ref r14, .ref r15, .ref r16, .ref r17, .int 0, .int 0, .int 0, .ref r18])), (a1, .inl (t0, 40, .inl (fun _ => 0)))]) hP hD [0, 1] [] rfl rfl (by decide) (by decide) hk1 hFc hP1 hD1
  generalize H1 = H at hP hS ⊢
  have hP : va_P (dC, dI) vwCl [(a0, .inr (4, [.int 0, .int 0, .ref r0, .int 1, .int 0, .ref r1, .ref a1, .ref r2, .ref r3, .ref r4, .int 0, .int 0, .int (-1), .int 0, .int (-1), .int 0, .ref r5, .int 0, .ref r6, .ref r7, .ref r8, .ref r9, .ref r10, .int 0, .int 0, .int 0, .ref r11, .ref r12, .int 0, .ref r13, .ref r14, .ref r15, .ref r16, .ref r17, .int 0, .int 0, .int 0, .ref r18])), (a1, .inl (t0, 40, .inl (fun _ => 0)))] H := hP
  have hD : va_D A [(a0, .inr (4, [.int 0, .int 0, .ref r0, .int 1, .int 0, .ref r1, .ref a1, .ref r2, .ref r3, .ref r4, .int 0, .int 0, .int (-1), .int 0, .int (-1), .int 0, .ref r5, .int 0, .ref r6, .ref r7, .ref r8, .ref r9, .ref r10, .int 0, .int 0, .int 0, .ref r11, .ref r12, .int 0, .ref r13, .ref r14, .ref r15, .ref r16, .ref r17, .int 0, .int 0, .int 0, .ref r18])), (a1, .inl (t0, 40, .inl (fun _ => 0)))] := hD
  have hPc := hP.sub (ws' := [(a0, .inr (4, [.int 0, .int 0, .ref r0, .int 1, .int 0, .ref r1, .ref a1, .ref r2, .ref r3, .ref r4, .int 0, .int 0, .int (-1), .int 0, .int (-1), .int 0, .ref r5, .int 0, .ref r6, .ref r7, .ref r8, .ref r9, .ref r10, .int 0, .int 0, .int 0, .ref r11, .ref r12, .int 0, .ref r13, .ref r14, .ref r15, .ref r16, .ref r17, .int 0, .int 0, .int 0, .ref r18]))]) [0] rfl
  have hDc := hD.sub (ws' := [(a0, .inr (4, [.int 0, .int 0, .ref r0, .int 1, .int 0, .ref r1, .ref a1, .ref r2, .ref r3, .ref r4, .int 0, .int 0, .int (-1), .int 0, .int (-1), .int 0, .ref r5, .int 0, .ref r6, .ref r7, .ref r8, .ref r9, .ref r10, .int 0, .int 0, .int 0, .ref r11, .ref r12, .int 0, .ref r13, .ref r14, .ref r15, .ref r16, .ref r17, .int 0, .int 0, .int 0, .ref r18]))]) [0] (by decide) rfl
  have hKc := hK.sub (tys' := []) [] rfl
  have hFc := va_free (wc := [(a0, .inr (4, [.int 0, .int 0, .ref r0, .int 1, .int 0, .ref r1, .ref a1, .ref r2, .ref r3, .ref r4, .int 0, .int 0, .int (-1), .int 0, .int (-1), .int 0, .ref r5, .int 0, .ref r6, .ref r7, .ref r8, .ref r9, .ref r10, .int 0, .int 0, .int 0, .ref r11, .ref r12, .int 0, .ref r13, .ref r14, .ref r15, .ref r16, .ref r17, .int 0, .int 0, .int 0, .ref r18]))]) hD hS hA [0] rfl
  refine va_calli (va_runV (As := [.int 0]) (rest := []) ⟨hx, hb, hml, hown, hts⟩ (c_M_breaks l dC dI a0 r0 r1 a1 r2 r3 r4 r5 r6 r7 r8 r9 r10 r11 r12 r13 r14 r15 r16 r17 r18 H.size) (cwV 1 hts (gd_v lk_475 lk_476 lk_477 lk_141 lk_474) rfl rfl rfl (by decide +kernel) ⟨Nat.le_of_ble_eq_true rfl, Nat.le_of_ble_eq_true rfl⟩) ⟨fun a U g mk q => by obtain ⟨q0, q1, qP, qK, qD⟩ := q; exact ⟨q0, q1, qP, va_K.moved (u := U) (U := U.calling g mk a) (Vm.Alike.refl U.vm) qK, qD⟩, va_recv (ci := 4) (q0 := 0) hK hP rfl rfl, fun U hU hW => ⟨rfl, by rw [hU], by rw [hU]; exact hPc, va_K.moved hW.alike hKc, hDc.weaken (fun _ _ _ _ => trivial)⟩⟩ rfl rfl hl.1 rfl (lv_room (Nat.le_of_ble_eq_true rfl)) d_M_line_5 ⟨Nat.le_of_ble_eq_true rfl, Nat.le_of_ble_eq_true rfl⟩) hS (fun q _ h => hFc q h) hFc (fun r u t H1 locs ht hvm hw hB hz1 hk1 hS => ?_)
  obtain ⟨hP1, hK1, hD1⟩ := hB
  rw [ht] at hP1
  have hK1 := va_K.moved hvm.symm hK1
  subst hw
  obtain ⟨hP, hD⟩ := va_join (wr := [(a1, .inl (t0, 40, .inl (fun _ => 0)))]) (w1 := [(a0, .inr (4, [.int 0, .int 0, .ref r0, .int 1, .int 0, .ref r1, .ref a1, .ref r2, .ref r3, .ref r4, .int 0, .int 0, .int (-1), .int 0, .int (-1), .int 0, .ref r5, .int 0, .ref r6, .ref r7, .ref r8, .ref r9, .ref r10, .int 0, .int 0, .int 0, .ref r11, .ref r12, .int 0, .ref r13, .ref r14, .ref r15, .ref r16, .ref r17, .int 0, .int 0, .int 0, .ref r18]))]) hP hD [0] [1] rfl rfl (by decide) (by decide) hk1 hFc hP1 hD1
  generalize H1 = H at hP hS ⊢
  have hP : va_P (dC, dI) vwCl [(a1, .inl (t0, 40, .inl (fun _ => 0))), (a0, .inr (4, [.int 0, .int 0, .ref r0, .int 1, .int 0, .ref r1, .ref a1, .ref r2, .ref r3, .ref r4, .int 0, .int 0, .int (-1), .int 0, .int (-1), .int 0, .ref r5, .int 0, .ref r6, .ref r7, .ref r8, .ref r9, .ref r10, .int 0, .int 0, .int 0, .ref r11, .ref r12, .int 0, .ref r13, .ref r14, .ref r15, .ref r16, .ref r17, .int 0, .int 0, .int 0, .ref r18]))] H := hP
  have hD : va_D A [(a1, .inl (t0, 40, .inl (fun _ => 0))), (a0, .inr (4, [.int 0, .int 0, .ref r0, .int 1, .int 0, .ref r1, .ref a1, .ref r2, .ref r3, .ref r4, .int 0, .int 0, .int (-1), .int 0, .int (-1), .int 0, .ref r5, .int 0, .ref r6, .ref r7, .ref r8, .ref r9, .ref r10, .int 0, .int 0, .int 0, .ref r11, .ref r12, .int 0, .ref r13, .ref r14, .ref r15, .ref r16, .ref r17, .int 0, .int 0, .int 0, .ref r18]))] := hD
  refine lv_iconst (v := 1) hx hb d_M_line_8 (by decide) ?_
  refine t_iadd (v := 1) hx hb d_M_line_9 (by decide +kernel) ?_
  refine lv_istore_n (lv' := [(3, .int 1), (0, .ref a0), (1, .int 0), (2, .int 0)]) hx hb d_M_line_10 rfl hl (by decide) rfl (fun ls hl => ?_)
  have hl : lv_has ls 7 [(3, .int 1), (0, .ref a0), (1, .int 0), (2, .int 0)] := hl
  refine lv_iload_n hx hb d_M_line_11 rfl (lv_at hl 2 rfl) ?_
  refine lv_if_eq (tgt := 44) hx hb d_M_line_12 (by decide) (fun _ => ?_) (fun h => absurd (by decide +kernel) h)
  refine lv_iconst (v := 1) hx hb d_M_line_44 (by decide) ?_
  refine lv_goto (tgt := 49) hx hb d_M_line_45 (by decide) ?_
  refine lv_istore (lv' := [(4, .int 1), (3, .int 1), (0, .ref a0), (1, .int 0), (2, .int 0)]) hx hb d_M_line_49 hl (by decide) rfl (fun ls hl => ?_)
  have hl : lv_has ls 7 [(4, .int 1), (3, .int 1), (0, .ref a0), (1, .int 0), (2, .int 0)] := hl
  refine lv_aload_n hx hb d_M_line_51 rfl (lv_at hl 2 rfl) ?_
  refine lv_iload_n hx hb d_M_line_52 rfl (lv_at hl 3 rfl) ?_
  refine lv_if_lt (tgt := 61) hx hb d_M_line_53 (by decide) (fun h => absurd h (by decide +kernel)) (fun _ => ?_)
  refine lv_iload_n hx hb d_M_line_56 rfl (lv_at hl 3 rfl) ?_
  refine lv_iconst (v := 3) hx hb d_M_line_57 (by decide) ?_
  refine lv_icmp_le (tgt := 65) hx hb d_M_line_58 (by decide) (fun _ => ?_) (fun h => absurd (by decide +kernel) h)
  refine lv_iload hx hb d_M_line_65 (lv_at hl 0 rfl) ?_
  refine lv_if_ne (tgt := 74) hx hb d_M_line_67 (by decide) (fun _ => ?_) (fun h => absurd h (by decide +kernel))
  refine lv_iconst (v := 0) hx hb d_M_line_74 (by decide) ?_
  refine va_put (D := (dC, dI)) (ci := 4) (v := .int 0) (ty := .int) (C := R_M) (T := F_M) (N := 38) hx hb hts (fun w h => List.mem_cons_of_mem _ (in_M w h)) t_M tk_M n_M hown hK hP hD hS 1 rfl rfl 0 (by decide) (hts _ (List.mem_cons_of_mem _ lk_175)) (fun _ h9 => h9) rfl (by decide +kernel) rfl rfl (Nat.le_of_ble_eq_true rfl) d_M_line_75 (fun H locs hP hD hS => ?_)
  have hP : va_P (dC, dI) vwCl [(a1, .inl (t0, 40, .inl (fun _ => 0))), (a0, .inr (4, [.int 0, .int 0, .ref r0, .int 1, .int 0, .ref r1, .ref a1, .ref r2, .ref r3, .ref r4, .int 0, .int 0, .int (-1), .int 0, .int (-1), .int 0, .ref r5, .int 0, .ref r6, .ref r7, .ref r8, .ref r9, .ref r10, .int 0, .int 0, .int 0, .ref r11, .ref r12, .int 0, .ref r13, .ref r14, .ref r15, .ref r16, .ref r17, .int 0, .int 0, .int 0, .ref r18]))] H := hP
  have hD : va_D A [(a1, .inl (t0, 40, .inl (fun _ => 0))), (a0, .inr (4, [.int 0, .int 0, .ref r0, .int 1, .int 0, .ref r1, .ref a1, .ref r2, .ref r3, .ref r4, .int 0, .int 0, .int (-1), .int 0, .int (-1), .int 0, .ref r5, .int 0, .ref r6, .ref r7, .ref r8, .ref r9, .ref r10, .int 0, .int 0, .int 0, .ref r11, .ref r12, .int 0, .ref r13, .ref r14, .ref r15, .ref r16, .ref r17, .int 0, .int 0, .int 0, .ref r18]))] := hD
  refine lv_aload_n hx hb d_M_line_78 rfl (lv_at hl 2 rfl) ?_
  refine va_get (D := (dC, dI)) (ci := 4) (v := .int 0) (C := R_M) (T := F_M) (N := 38) hx hb hts (fun w h => List.mem_cons_of_mem _ (in_M w h)) hown hK hP 1 rfl rfl 0 (by decide) (hts _ (List.mem_cons_of_mem _ lk_175)) (fun _ h9 => h9) rfl d_M_line_79 ?_
  refine lv_if_le (tgt := 87) hx hb d_M_line_82 (by decide) (fun _ => ?_) (fun h => absurd (by decide +kernel) h)
  refine lv_iload_n hx hb d_M_line_87 rfl (lv_at hl 3 rfl) ?_
  refine lv_iconst (v := 2) hx hb d_M_line_88 (by decide) ?_
  refine lv_icmp_ge (tgt := 106) hx hb d_M_line_89 (by decide) (fun h => absurd h (by decide +kernel)) (fun _ => ?_)
  refine lv_iload_n hx hb d_M_line_92 rfl (lv_at hl 3 rfl) ?_
  refine lv_if_ne (tgt := 100) hx hb d_M_line_93 (by decide) (fun h => absurd (by decide +kernel) h) (fun _ => ?_)
  refine lv_iload_n hx hb d_M_line_96 rfl (lv_at hl 1 rfl) ?_
  refine lv_goto (tgt := 105) hx hb d_M_line_97 (by decide) ?_
  have hP9 := hP.sub (ws' := [(a0, .inr (4, [.int 0, .int 0, .ref r0, .int 1, .int 0, .ref r1, .ref a1, .ref r2, .ref r3, .ref r4, .int 0, .int 0, .int (-1), .int 0, .int (-1), .int 0, .ref r5, .int 0, .ref r6, .ref r7, .ref r8, .ref r9, .ref r10, .int 0, .int 0, .int 0, .ref r11, .ref r12, .int 0, .ref r13, .ref r14, .ref r15, .ref r16, .ref r17, .int 0, .int 0, .int 0, .ref r18])), (a1, .inl (t0, 40, .inl (fun _ => 0)))]) [1, 0] rfl
  have hD9 := hD.sub (ws' := [(a0, .inr (4, [.int 0, .int 0, .ref r0, .int 1, .int 0, .ref r1, .ref a1, .ref r2, .ref r3, .ref r4, .int 0, .int 0, .int (-1), .int 0, .int (-1), .int 0, .ref r5, .int 0, .ref r6, .ref r7, .ref r8, .ref r9, .ref r10, .int 0, .int 0, .int 0, .ref r11, .ref r12, .int 0, .ref r13, .ref r14, .ref r15, .ref r16, .ref r17, .int 0, .int 0, .int 0, .ref r18])), (a1, .inl (t0, 40, .inl (fun _ => 0)))]) [1, 0] (by decide) rfl
  have hK9 := hK.sub (tys' := [(t0, .int)]) [0] rfl
  exact W.iret (v := 1) hx hb hr (fun t ht hW => ⟨⟨1, (), rfl, rfl, by rw [ht]; exact hP9, va_K.moved hW.alike hK9, hD9⟩, hS.F ht⟩) hS.2.2 d_M_line_105

set_option maxHeartbeats 4000000 in
set_option maxRecDepth 100000 in
theorem c_D_line_2 (l : Launch) (dC : Nat → ClassId) (dI : Nat → Nat → Nat) (a0 a1 r0 r1 r2 r3 r4 r5 : Nat) (t0 : ClassId) (sz : Nat) (k0 : Int32) (hh0 : ¬ k0.toInt = 0) : Met l y_D_line w_D_line ({ frames := 1, cells := 0, slots := 0, locals := 23 }) (va_Pc [.ref a0, .int 0, .int k0] (fun U => U.heap.size = sz ∧ va_P (dC, dI) vwCl [(a0, .inr (0, [.ref r0, .int 0, .ref r1, .int 1, .int 0, .ref a1, .int 0, .int (-1), .ref r2, .ref r3, .int 0, .int (-1), .ref r4, .ref r5])), (a1, .inl (t0, 0, .inl (fun _ => 0)))] U.heap ∧ va_K (dC, dI) vwCl [(t0, .char)] U ∧ va_D (fun _ => True) [(a0, .inr (0, [.ref r0, .int 0, .ref r1, .int 1, .int 0, .ref a1, .int 0, .int (-1), .ref r2, .ref r3, .int 0, .int (-1), .ref r4, .ref r5])), (a1, .inl (t0, 0, .inl (fun _ => 0)))])) (va_Qi (fun (r : Int32) (_ : Unit) => r = 1) (fun (_ : Unit) t => va_P (dC, dI) vwCl [(a0, .inr (0, [.ref r0, .int 0, .ref r1, .int 1, .int 0, .ref a1, .int 0, .int (-1), .ref r2, .ref r3, .int 0, .int (-1), .ref r4, .ref r5])), (a1, .inl (t0, 0, .inl (fun _ => 0)))] t.heap ∧ va_K (dC, dI) vwCl [(t0, .char)] t ∧ va_D (va_A [(a0, .inr (0, [.ref r0, .int 0, .ref r1, .int 1, .int 0, .ref a1, .int 0, .int (-1), .ref r2, .ref r3, .int 0, .int (-1), .ref r4, .ref r5])), (a1, .inl (t0, 0, .inl (fun _ => 0)))] sz) [(a0, .inr (0, [.ref r0, .int 0, .ref r1, .int 1, .int 0, .ref a1, .int 0, .int (-1), .ref r2, .ref r3, .int 0, .int (-1), .ref r4, .ref r5])), (a1, .inl (t0, 0, .inl (fun _ => 0)))]) (va_A [(a0, .inr (0, [.ref r0, .int 0, .ref r1, .int 1, .int 0, .ref a1, .int 0, .int (-1), .ref r2, .ref r3, .int 0, .int (-1), .ref r4, .ref r5])), (a1, .inl (t0, 0, .inl (fun _ => 0)))] sz)) 0 0 (va_A [(a0, .inr (0, [.ref r0, .int 0, .ref r1, .int 1, .int 0, .ref a1, .int 0, .int (-1), .ref r2, .ref r3, .int 0, .int (-1), .ref r4, .ref r5])), (a1, .inl (t0, 0, .inl (fun _ => 0)))] sz) := by
  refine Met.ofW (cc := prog_1_method_16_code) (maxL := 3) (ret := (some .int)) (by decide) rfl ?_
  intro p e s m args below meth c s₁ B hml hv
  obtain ⟨rfl, hsz, hP, hK, hD0⟩ := hv
  have hx := B.exec
  have hb := B.bytes
  have hr := B.returns
  have hts := atoms_spec (ws := w_D_line) B.pre
  have hown : s.vm.findClass R_D = some m.cls := findClass_of_methodNamed B.named
  have hlocks := B.notSynchronized
  subst hsz
  have hD := hD0.self (sz := s.heap.size)
  generalize hAe : va_A [(a0, .inr (0, [.ref r0, .int 0, .ref r1, .int 1, .int 0, .ref a1, .int 0, .int (-1), .ref r2, .ref r3, .int 0, .int (-1), .ref r4, .ref r5])), (a1, .inl (t0, 0, .inl (fun _ => 0)))] s.heap.size = A at hD ⊢
  have hA : ∀ q : Nat, s.heap.size ≤ q → A q := fun q h => by rw [← hAe]; exact Or.inr h
  have hS : va_S A s.heap s.heap [] := va_S.rf
  have hP : va_P (dC, dI) vwCl [(a0, .inr (0, [.ref r0, .int 0, .ref r1, .int 1, .int 0, .ref a1, .int 0, .int (-1), .ref r2, .ref r3, .int 0, .int (-1), .ref r4, .ref r5])), (a1, .inl (t0, 0, .inl (fun _ => 0)))] s.heap := hP
  have hl := lv_entry ([.ref a0, .int 0, .int k0]) (n := 3) (Nat.le_of_ble_eq_true rfl)
  rw [lg_entry_eq]
  generalize (lg_sl ([.ref a0, .int 0, .int k0]) ++ List.replicate (3 - (lg_sl ([.ref a0, .int 0, .int k0])).length) Slot.unset).toArray = ls at hl ⊢
  have hl : lv_has ls 3 [(0, .ref a0), (1, .int 0), (2, .int k0)] := hl
  refine lv_iload_n hx hb d_D_line_0 rfl (lv_at hl 1 rfl) ?_
  refine lv_tableIn (off := 31) (tgt := 32) hx hb d_D_line_1 (by decide) (by decide) (by decide) (by decide) ?_
  refine lv_aload_n hx hb d_D_line_32 rfl (lv_at hl 0 rfl) ?_
  refine lv_aload_n hx hb d_D_line_33 rfl (lv_at hl 0 rfl) ?_
  refine va_get (D := (dC, dI)) (ci := 0) (v := .ref a1) (C := R_D) (T := F_D) (N := 14) hx hb hts (fun w h => List.mem_cons_of_mem _ (in_D w h)) hown hK hP 0 rfl rfl 5 (by decide) (hts _ (List.mem_cons_of_mem _ lk_24)) (fun _ h9 => h9) rfl d_D_line_34 ?_
  refine va_alen (v := 0) hx hb hK hP 1 0 rfl rfl (by decide) d_D_line_37 ?_
  have hPc := hP.sub (ws' := [(a0, .inr (0, [.ref r0, .int 0, .ref r1, .int 1, .int 0, .ref a1, .int 0, .int (-1), .ref r2, .ref r3, .int 0, .int (-1), .ref r4, .ref r5]))]) [0] rfl
  have hDc := hD.sub (ws' := [(a0, .inr (0, [.ref r0, .int 0, .ref r1, .int 1, .int 0, .ref a1, .int 0, .int (-1), .ref r2, .ref r3, .int 0, .int (-1), .ref r4, .ref r5]))]) [0] (by decide) rfl
  have hKc := hK.sub (tys' := []) [] rfl
  have hFc := va_free (wc := [(a0, .inr (0, [.ref r0, .int 0, .ref r1, .int 1, .int 0, .ref a1, .int 0, .int (-1), .ref r2, .ref r3, .int 0, .int (-1), .ref r4, .ref r5]))]) hD hS hA [0] rfl
  refine va_calli (va_runV (As := [.int 0]) (rest := []) ⟨hx, hb, hml, hown, hts⟩ (c_D_breaksBefore l dC dI a0 r0 r1 a1 r2 r3 r4 r5 s.heap.size) (cwV 1 hts (gd_v lk_464 lk_465 lk_466 lk_16 lk_463) rfl rfl rfl (by decide +kernel) ⟨Nat.le_of_ble_eq_true rfl, Nat.le_of_ble_eq_true rfl⟩) ⟨fun a U g mk q => by obtain ⟨q0, q1, qP, qK, qD⟩ := q; exact ⟨q0, q1, qP, va_K.moved (u := U) (U := U.calling g mk a) (Vm.Alike.refl U.vm) qK, qD⟩, va_recv (ci := 0) (q0 := 0) hK hP rfl rfl, fun U hU hW => ⟨rfl, by rw [hU], by rw [hU]; exact hPc, va_K.moved hW.alike hKc, hDc.weaken (fun _ _ _ _ => trivial)⟩⟩ rfl rfl hl.1 rfl (lv_room (Nat.le_of_ble_eq_true rfl)) d_D_line_38 ⟨Nat.le_of_ble_eq_true rfl, Nat.le_of_ble_eq_true rfl⟩) hS (fun q _ h => hFc q h) hFc (fun r u t H1 locs ht hvm hw hB hz1 hk1 hS => ?_)
  obtain ⟨hP1, hK1, hD1⟩ := hB
  rw [ht] at hP1
  have hK1 := va_K.moved hvm.symm hK1
  subst hw
  obtain ⟨hP, hD⟩ := va_join (wr := [(a1, .inl (t0, 0, .inl (fun _ => 0)))]) (w1 := [(a0, .inr (0, [.ref r0, .int 0, .ref r1, .int 1, .int 0, .ref a1, .int 0, .int (-1), .ref r2, .ref r3, .int 0, .int (-1), .ref r4, .ref r5]))]) hP hD [0] [1] rfl rfl (by decide) (by decide) hk1 hFc hP1 hD1
  generalize H1 = H at hP hS ⊢
  have hP : va_P (dC, dI) vwCl [(a1, .inl (t0, 0, .inl (fun _ => 0))), (a0, .inr (0, [.ref r0, .int 0, .ref r1, .int 1, .int 0, .ref a1, .int 0, .int (-1), .ref r2, .ref r3, .int 0, .int (-1), .ref r4, .ref r5]))] H := hP
  have hD : va_D A [(a1, .inl (t0, 0, .inl (fun _ => 0))), (a0, .inr (0, [.ref r0, .int 0, .ref r1, .int 1, .int 0, .ref a1, .int 0, .int (-1), .ref r2, .ref r3, .int 0, .int (-1), .ref r4, .ref r5]))] := hD
  refine lv_iconst (v := 1) hx hb d_D_line_41 (by decide) ?_
  refine t_iadd (v := 1) hx hb d_D_line_42 (by decide +kernel) ?_
  have hP9 := hP.sub (ws' := [(a0, .inr (0, [.ref r0, .int 0, .ref r1, .int 1, .int 0, .ref a1, .int 0, .int (-1), .ref r2, .ref r3, .int 0, .int (-1), .ref r4, .ref r5])), (a1, .inl (t0, 0, .inl (fun _ => 0)))]) [1, 0] rfl
  have hD9 := hD.sub (ws' := [(a0, .inr (0, [.ref r0, .int 0, .ref r1, .int 1, .int 0, .ref a1, .int 0, .int (-1), .ref r2, .ref r3, .int 0, .int (-1), .ref r4, .ref r5])), (a1, .inl (t0, 0, .inl (fun _ => 0)))]) [1, 0] (by decide) rfl
  have hK9 := hK.sub (tys' := [(t0, .char)]) [0] rfl
  exact W.iret (v := 1) hx hb hr (fun t ht hW => ⟨⟨1, (), rfl, rfl, by rw [ht]; exact hP9, va_K.moved hW.alike hK9, hD9⟩, hS.F ht⟩) hS.2.2 d_D_line_43

set_option maxHeartbeats 4000000 in
set_option maxRecDepth 100000 in
theorem c_L_line_2 (l : Launch) (dC : Nat → ClassId) (dI : Nat → Nat → Nat) (a0 a1 a2 r0 r1 r2 r3 r4 r5 : Nat) (t0 t1 : ClassId) (sz : Nat) (k0 : Int32) (hh0 : ¬ k0.toInt = 0) : Met l y_L_line w_L_line ({ frames := 2, cells := 0, slots := 0, locals := 45 }) (va_Pc [.ref a0, .int 0, .int k0, .ref a2] (fun U => U.heap.size = sz ∧ va_P (dC, dI) vwCl [(a0, .inr (0, [.ref r0, .int 0, .ref r1, .int 1, .int 0, .ref a1, .int 0, .int (-1), .ref r2, .ref r3, .int 0, .int (-1), .ref r4, .ref r5])), (a1, .inl (t0, 0, .inl (fun _ => 0))), (a2, .inl (t1, 1, .inr (.inl (fun _ => 0))))] U.heap ∧ va_K (dC, dI) vwCl [(t0, .char), (t1, .long)] U ∧ va_D (fun _ => True) [(a0, .inr (0, [.ref r0, .int 0, .ref r1, .int 1, .int 0, .ref a1, .int 0, .int (-1), .ref r2, .ref r3, .int 0, .int (-1), .ref r4, .ref r5])), (a1, .inl (t0, 0, .inl (fun _ => 0))), (a2, .inl (t1, 1, .inr (.inl (fun _ => 0))))])) (va_Qi (fun (r : Int32) (_ : Unit) => r = 0) (fun (_ : Unit) t => va_P (dC, dI) vwCl [(a0, .inr (0, [.ref r0, .int 0, .ref r1, .int 1, .int 0, .ref a1, .int 0, .int (-1), .ref r2, .ref r3, .int 0, .int (-1), .ref r4, .ref r5])), (a1, .inl (t0, 0, .inl (fun _ => 0))), (a2, .inl (t1, 1, .inr (.inl (vp_updL (fun _ => 0) 0 1))))] t.heap ∧ va_K (dC, dI) vwCl [(t0, .char), (t1, .long)] t ∧ va_D (va_A [(a0, .inr (0, [.ref r0, .int 0, .ref r1, .int 1, .int 0, .ref a1, .int 0, .int (-1), .ref r2, .ref r3, .int 0, .int (-1), .ref r4, .ref r5])), (a1, .inl (t0, 0, .inl (fun _ => 0))), (a2, .inl (t1, 1, .inr (.inl (fun _ => 0))))] sz) [(a0, .inr (0, [.ref r0, .int 0, .ref r1, .int 1, .int 0, .ref a1, .int 0, .int (-1), .ref r2, .ref r3, .int 0, .int (-1), .ref r4, .ref r5])), (a1, .inl (t0, 0, .inl (fun _ => 0))), (a2, .inl (t1, 1, .inr (.inl (vp_updL (fun _ => 0) 0 1))))]) (va_A [(a0, .inr (0, [.ref r0, .int 0, .ref r1, .int 1, .int 0, .ref a1, .int 0, .int (-1), .ref r2, .ref r3, .int 0, .int (-1), .ref r4, .ref r5])), (a1, .inl (t0, 0, .inl (fun _ => 0))), (a2, .inl (t1, 1, .inr (.inl (fun _ => 0))))] sz)) 0 0 (va_A [(a0, .inr (0, [.ref r0, .int 0, .ref r1, .int 1, .int 0, .ref a1, .int 0, .int (-1), .ref r2, .ref r3, .int 0, .int (-1), .ref r4, .ref r5])), (a1, .inl (t0, 0, .inl (fun _ => 0))), (a2, .inl (t1, 1, .inr (.inl (fun _ => 0))))] sz) := by
  refine th_ofWw (tab := [(0, 10, 13, 28), (0, 10, 17, 23)]) (cc := method_13_code) (maxL := 5) (ret := (some .int)) (by decide) rfl ?_
  intro p e s m args below meth c s₁ B hml htab hv
  obtain ⟨rfl, hsz, hP, hK, hD0⟩ := hv
  have hx := B.exec
  have hb := B.bytes
  have hr := B.returns
  have hts := atoms_spec (ws := w_L_line) B.pre
  have hown : s.vm.findClass R_L = some m.cls := findClass_of_methodNamed B.named
  have hlocks := B.notSynchronized
  subst hsz
  have hD := hD0.self (sz := s.heap.size)
  generalize hAe : va_A [(a0, .inr (0, [.ref r0, .int 0, .ref r1, .int 1, .int 0, .ref a1, .int 0, .int (-1), .ref r2, .ref r3, .int 0, .int (-1), .ref r4, .ref r5])), (a1, .inl (t0, 0, .inl (fun _ => 0))), (a2, .inl (t1, 1, .inr (.inl (fun _ => 0))))] s.heap.size = A at hD ⊢
  have hA : ∀ q : Nat, s.heap.size ≤ q → A q := fun q h => by rw [← hAe]; exact Or.inr h
  have hS : va_S A s.heap s.heap [] := va_S.rf
  have hP : va_P (dC, dI) vwCl [(a0, .inr (0, [.ref r0, .int 0, .ref r1, .int 1, .int 0, .ref a1, .int 0, .int (-1), .ref r2, .ref r3, .int 0, .int (-1), .ref r4, .ref r5])), (a1, .inl (t0, 0, .inl (fun _ => 0))), (a2, .inl (t1, 1, .inr (.inl (fun _ => 0))))] s.heap := hP
  have hl := lv_entry ([.ref a0, .int 0, .int k0, .ref a2]) (n := 5) (Nat.le_of_ble_eq_true rfl)
  rw [lg_entry_eq]
  generalize (lg_sl ([.ref a0, .int 0, .int k0, .ref a2]) ++ List.replicate (5 - (lg_sl ([.ref a0, .int 0, .int k0, .ref a2])).length) Slot.unset).toArray = ls at hl ⊢
  have hl : lv_has ls 5 [(0, .ref a0), (1, .int 0), (2, .int k0), (3, .ref a2)] := hl
  refine lv_aload_n hx hb d_L_line_0 rfl (lv_at hl 3 rfl) ?_
  refine lv_iconst (v := 0) hx hb d_L_line_1 (by decide) ?_
  refine lv_aload_n hx hb d_L_line_2 rfl (lv_at hl 0 rfl) ?_
  refine lv_iload_n hx hb d_L_line_3 rfl (lv_at hl 1 rfl) ?_
  refine lv_iload_n hx hb d_L_line_4 rfl (lv_at hl 2 rfl) ?_
  have hPc := hP.sub (ws' := [(a0, .inr (0, [.ref r0, .int 0, .ref r1, .int 1, .int 0, .ref a1, .int 0, .int (-1), .ref r2, .ref r3, .int 0, .int (-1), .ref r4, .ref r5])), (a1, .inl (t0, 0, .inl (fun _ => 0)))]) [0, 1] rfl
  have hDc := hD.sub (ws' := [(a0, .inr (0, [.ref r0, .int 0, .ref r1, .int 1, .int 0, .ref a1, .int 0, .int (-1), .ref r2, .ref r3, .int 0, .int (-1), .ref r4, .ref r5])), (a1, .inl (t0, 0, .inl (fun _ => 0)))]) [0, 1] (by decide) rfl
  have hKc := hK.sub (tys' := [(t0, .char)]) [0] rfl
  have hFc := va_free (wc := [(a0, .inr (0, [.ref r0, .int 0, .ref r1, .int 1, .int 0, .ref a1, .int 0, .int (-1), .ref r2, .ref r3, .int 0, .int (-1), .ref r4, .ref r5])), (a1, .inl (t0, 0, .inl (fun _ => 0)))]) hD hS hA [0, 1] rfl
  refine va_calli (va_runV (As := [.int 0, .int k0]) (rest := [.int 0, .ref a2]) ⟨hx, hb, hml, hown, hts⟩ (c_D_line_2 l dC dI a0 a1 r0 r1 r2 r3 r4 r5 t0 s.heap.size k0 (by omega)) (cwV 2 hts (gd_v lk_468 lk_469 lk_470 lk_16 lk_467) rfl rfl rfl (by decide +kernel) ⟨Nat.le_of_ble_eq_true rfl, Nat.le_of_ble_eq_true rfl⟩) ⟨fun a U g mk q => by obtain ⟨q0, q1, qP, qK, qD⟩ := q; exact ⟨q0, q1, qP, va_K.moved (u := U) (U := U.calling g mk a) (Vm.Alike.refl U.vm) qK, qD⟩, va_recv (ci := 0) (q0 := 0) hK hP rfl rfl, fun U hU hW => ⟨rfl, by rw [hU], by rw [hU]; exact hPc, va_K.moved hW.alike hKc, hDc.weaken (fun _ _ _ _ => trivial)⟩⟩ rfl rfl hl.1 rfl (lv_room (Nat.le_of_ble_eq_true rfl)) d_L_line_5 ⟨Nat.le_of_ble_eq_true rfl, Nat.le_of_ble_eq_true rfl⟩) hS (fun q _ h => hFc q h) hFc (fun r u t H1 locs ht hvm hw hB hz1 hk1 hS => ?_)
  obtain ⟨hP1, hK1, hD1⟩ := hB
  rw [ht] at hP1
  have hK1 := va_K.moved hvm.symm hK1
  subst hw
  obtain ⟨hP, hD⟩ := va_join (wr := [(a2, .inl (t1, 1, .inr (.inl (fun _ => 0))))]) (w1 := [(a0, .inr (0, [.ref r0, .int 0, .ref r1, .int 1, .int 0, .ref a1, .int 0, .int (-1), .ref r2, .ref r3, .int 0, .int (-1), .ref r4, .ref r5])), (a1, .inl (t0, 0, .inl (fun _ => 0)))]) hP hD [0, 1] [2] rfl rfl (by decide) (by decide) hk1 hFc hP1 hD1
  generalize H1 = H at hP hS ⊢
  have hP : va_P (dC, dI) vwCl [(a2, .inl (t1, 1, .inr (.inl (fun _ => 0)))), (a0, .inr (0, [.ref r0, .int 0, .ref r1, .int 1, .int 0, .ref a1, .int 0, .int (-1), .ref r2, .ref r3, .int 0, .int (-1), .ref r4, .ref r5])), (a1, .inl (t0, 0, .inl (fun _ => 0)))] H := hP
  have hD : va_D A [(a2, .inl (t1, 1, .inr (.inl (fun _ => 0)))), (a0, .inr (0, [.ref r0, .int 0, .ref r1, .int 1, .int 0, .ref a1, .int 0, .int (-1), .ref r2, .ref r3, .int 0, .int (-1), .ref r4, .ref r5])), (a1, .inl (t0, 0, .inl (fun _ => 0)))] := hD
  refine lv_i2l (v := 1) hx hb d_L_line_8 (by decide +kernel) ?_
  refine va_last hx hb hK hP hD hS 0 1 rfl rfl (wk_in (by decide +kernel)) d_L_line_9 (fun H locs hP hD hS => ?_)
  have hP : va_P (dC, dI) vwCl [(a2, .inl (t1, 1, .inr (.inl (vp_updL (fun _ => 0) 0 1)))), (a0, .inr (0, [.ref r0, .int 0, .ref r1, .int 1, .int 0, .ref a1, .int 0, .int (-1), .ref r2, .ref r3, .int 0, .int (-1), .ref r4, .ref r5])), (a1, .inl (t0, 0, .inl (fun _ => 0)))] H := hP
  have hD : va_D A [(a2, .inl (t1, 1, .inr (.inl (vp_updL (fun _ => 0) 0 1)))), (a0, .inr (0, [.ref r0, .int 0, .ref r1, .int 1, .int 0, .ref a1, .int 0, .int (-1), .ref r2, .ref r3, .int 0, .int (-1), .ref r4, .ref r5])), (a1, .inl (t0, 0, .inl (fun _ => 0)))] := hD
  refine lv_goto (tgt := 21) hx hb d_L_line_10 (by decide) ?_
  refine lv_iconst (v := 0) hx hb d_L_line_21 (by decide) ?_
  have hP9 := hP.sub (ws' := [(a0, .inr (0, [.ref r0, .int 0, .ref r1, .int 1, .int 0, .ref a1, .int 0, .int (-1), .ref r2, .ref r3, .int 0, .int (-1), .ref r4, .ref r5])), (a1, .inl (t0, 0, .inl (fun _ => 0))), (a2, .inl (t1, 1, .inr (.inl (vp_updL (fun _ => 0) 0 1))))]) [1, 2, 0] rfl
  have hD9 := hD.sub (ws' := [(a0, .inr (0, [.ref r0, .int 0, .ref r1, .int 1, .int 0, .ref a1, .int 0, .int (-1), .ref r2, .ref r3, .int 0, .int (-1), .ref r4, .ref r5])), (a1, .inl (t0, 0, .inl (fun _ => 0))), (a2, .inl (t1, 1, .inr (.inl (vp_updL (fun _ => 0) 0 1))))]) [1, 2, 0] (by decide) rfl
  have hK9 := hK.sub (tys' := [(t0, .char), (t1, .long)]) [0, 1] rfl
  exact W.iret (v := 0) hx hb hr (fun t ht hW => ⟨⟨0, (), rfl, rfl, by rw [ht]; exact hP9, va_K.moved hW.alike hK9, hD9⟩, hS.F ht⟩) hS.2.2 d_L_line_22

set_option maxHeartbeats 4000000 in
set_option maxRecDepth 100000 in
theorem c_M_line_2 (l : Launch) (dC : Nat → ClassId) (dI : Nat → Nat → Nat) (a0 a1 r0 r1 r2 r3 r4 r5 r6 r7 r8 r9 r10 r11 r12 r13 r14 r15 r16 r17 r18 : Nat) (t0 : ClassId) (sz : Nat) (k0 : Int32) (hh0 : ¬ k0.toInt = 0) : Met l y_M_line w_M_line ({ frames := 1, cells := 0, slots := 0, locals := 23 }) (va_Pc [.ref a0, .int 0, .int k0] (fun U => U.heap.size = sz ∧ va_P (dC, dI) vwCl [(a0, .inr (4, [.int 0, .int 0, .ref r0, .int 1, .int 0, .ref r1, .ref a1, .ref r2, .ref r3, .ref r4, .int 0, .int 0, .int (-1), .int 0, .int (-1), .int 0, .ref r5, .int 0, .ref r6, .ref r7, .ref r8, .ref r9, .ref r10, .int 0, .int 0, .int 0, .ref r11, .ref r12, .int 0, .ref r13, .ref r14, .ref r15, .ref r16, .ref r17, .int 0, .int 0, .int 0, .ref r18])), (a1, .inl (t0, 40, .inl (fun _ => 0)))] U.heap ∧ va_K (dC, dI) vwCl [(t0, .int)] U ∧ va_D (fun _ => True) [(a0, .inr (4, [.int 0, .int 0, .ref r0, .int 1, .int 0, .ref r1, .ref a1, .ref r2, .ref r3, .ref r4, .int 0, .int 0, .int (-1), .int 0, .int (-1), .int 0, .ref r5, .int 0, .ref r6, .ref r7, .ref r8, .ref r9, .ref r10, .int 0, .int 0, .int 0, .ref r11, .ref r12, .int 0, .ref r13, .ref r14, .ref r15, .ref r16, .ref r17, .int 0, .int 0, .int 0, .ref r18])), (a1, .inl (t0, 40, .inl (fun _ => 0)))])) (va_Qi (fun (r : Int32) (_ : Unit) => r = 1) (fun (_ : Unit) t => va_P (dC, dI) vwCl [(a0, .inr (4, [.int 0, .int 0, .ref r0, .int 1, .int 0, .ref r1, .ref a1, .ref r2, .ref r3, .ref r4, .int 0, .int 0, .int (-1), .int 0, .int (-1), .int 0, .ref r5, .int 0, .ref r6, .ref r7, .ref r8, .ref r9, .ref r10, .int 0, .int 0, .int 0, .ref r11, .ref r12, .int 0, .ref r13, .ref r14, .ref r15, .ref r16, .ref r17, .int 0, .int 0, .int 0, .ref r18])), (a1, .inl (t0, 40, .inl (fun _ => 0)))] t.heap ∧ va_K (dC, dI) vwCl [(t0, .int)] t ∧ va_D (va_A [(a0, .inr (4, [.int 0, .int 0, .ref r0, .int 1, .int 0, .ref r1, .ref a1, .ref r2, .ref r3, .ref r4, .int 0, .int 0, .int (-1), .int 0, .int (-1), .int 0, .ref r5, .int 0, .ref r6, .ref r7, .ref r8, .ref r9, .ref r10, .int 0, .int 0, .int 0, .ref r11, .ref r12, .int 0, .ref r13, .ref r14, .ref r15, .ref r16, .ref r17, .int 0, .int 0, .int 0, .ref r18])), (a1, .inl (t0, 40, .inl (fun _ => 0)))] sz) [(a0, .inr (4, [.int 0, .int 0, .ref r0, .int 1, .int 0, .ref r1, .ref a1, .ref r2, .ref r3, .ref r4, .int 0, .int 0, .int (-1), .int 0, .int (-1), .int 0, .ref r5, .int 0, .ref r6, .ref r7, .ref r8, .ref r9, .ref r10, .int 0, .int 0, .int 0, .ref r11, .ref r12, .int 0, .ref r13, .ref r14, .ref r15, .ref r16, .ref r17, .int 0, .int 0, .int 0, .ref r18])), (a1, .inl (t0, 40, .inl (fun _ => 0)))]) (va_A [(a0, .inr (4, [.int 0, .int 0, .ref r0, .int 1, .int 0, .ref r1, .ref a1, .ref r2, .ref r3, .ref r4, .int 0, .int 0, .int (-1), .int 0, .int (-1), .int 0, .ref r5, .int 0, .ref r6, .ref r7, .ref r8, .ref r9, .ref r10, .int 0, .int 0, .int 0, .ref r11, .ref r12, .int 0, .ref r13, .ref r14, .ref r15, .ref r16, .ref r17, .int 0, .int 0, .int 0, .ref r18])), (a1, .inl (t0, 40, .inl (fun _ => 0)))] sz)) 0 0 (va_A [(a0, .inr (4, [.int 0, .int 0, .ref r0, .int 1, .int 0, .ref r1, .ref a1, .ref r2, .ref r3, .ref r4, .int 0, .int 0, .int (-1), .int 0, .int (-1), .int 0, .ref r5, .int 0, .ref r6, .ref r7, .ref r8, .ref r9, .ref r10, .int 0, .int 0, .int 0, .ref r11, .ref r12, .int 0, .ref r13, .ref r14, .ref r15, .ref r16, .ref r17, .int 0, .int 0, .int 0, .ref r18])), (a1, .inl (t0, 40, .inl (fun _ => 0)))] sz) := by
  refine Met.ofW (cc := prog_6_method_51_code) (maxL := 7) (ret := (some .int)) (by decide) rfl ?_
  intro p e s m args below meth c s₁ B hml hv
  obtain ⟨rfl, hsz, hP, hK, hD0⟩ := hv
  have hx := B.exec
  have hb := B.bytes
  have hr := B.returns
  have hts := atoms_spec (ws := w_M_line) B.pre
  have hown : s.vm.findClass R_M = some m.cls := findClass_of_methodNamed B.named
  have hlocks := B.notSynchronized
  subst hsz
  have hD := hD0.self (sz := s.heap.size)
  generalize hAe : va_A [(a0, .inr (4, [.int 0, .int 0, .ref r0, .int 1, .int 0, .ref r1, .ref a1, .ref r2, .ref r3, .ref r4, .int 0, .int 0, .int (-1), .int 0, .int (-1), .int 0, .ref r5, .int 0, .ref r6, .ref r7, .ref r8, .ref r9, .ref r10, .int 0, .int 0, .int 0, .ref r11, .ref r12, .int 0, .ref r13, .ref r14, .ref r15, .ref r16, .ref r17, .int 0, .int 0, .int 0, .ref r18])), (a1, .inl (t0, 40, .inl (fun _ => 0)))] s.heap.size = A at hD ⊢
  have hA : ∀ q : Nat, s.heap.size ≤ q → A q := fun q h => by rw [← hAe]; exact Or.inr h
  have hS : va_S A s.heap s.heap [] := va_S.rf
  have hP : va_P (dC, dI) vwCl [(a0, .inr (4, [.int 0, .int 0, .ref r0, .int 1, .int 0, .ref r1, .ref a1, .ref r2, .ref r3, .ref r4, .int 0, .int 0, .int (-1), .int 0, .int (-1), .int 0, .ref r5, .int 0, .ref r6, .ref r7, .ref r8, .ref r9, .ref r10, .int 0, .int 0, .int 0, .ref r11, .ref r12, .int 0, .ref r13, .ref r14, .ref r15, .ref r16, .ref r17, .int 0, .int 0, .int 0, .ref r18])), (a1, .inl (t0, 40, .inl (fun _ => 0)))] s.heap := hP
  have hl := lv_entry ([.ref a0, .int 0, .int k0]) (n := 7) (Nat.le_of_ble_eq_true rfl)
  rw [lg_entry_eq]
  generalize (lg_sl ([.ref a0, .int 0, .int k0]) ++ List.replicate (7 - (lg_sl ([.ref a0, .int 0, .int k0])).length) Slot.unset).toArray = ls at hl ⊢
  have hl : lv_has ls 7 [(0, .ref a0), (1, .int 0), (2, .int k0)] := hl
  refine lv_aload_n hx hb d_M_line_0 rfl (lv_at hl 0 rfl) ?_
  refine lv_aload_n hx hb d_M_line_1 rfl (lv_at hl 0 rfl) ?_
  have hPc := hP.sub (ws' := [(a0, .inr (4, [.int 0, .int 0, .ref r0, .int 1, .int 0, .ref r1, .ref a1, .ref r2, .ref r3, .ref r4, .int 0, .int 0, .int (-1), .int 0, .int (-1), .int 0, .ref r5, .int 0, .ref r6, .ref r7, .ref r8, .ref r9, .ref r10, .int 0, .int 0, .int 0, .ref r11, .ref r12, .int 0, .ref r13, .ref r14, .ref r15, .ref r16, .ref r17, .int 0, .int 0, .int 0, .ref r18])), (a1, .inl (t0, 40, .inl (fun _ => 0)))]) [0, 1] rfl
  have hDc := hD.sub (ws' := [(a0, .inr (4, [.int 0, .int 0, .ref r0, .int 1, .int 0, .ref r1, .ref a1, .ref r2, .ref r3, .ref r4, .int 0, .int 0, .int (-1), .int 0, .int (-1), .int 0, .ref r5, .int 0, .ref r6, .ref r7, .ref r8, .ref r9, .ref r10, .int 0, .int 0, .int 0, .ref r11, .ref r12, .int 0, .ref r13, .ref r14, .ref r15, .ref r16, .ref r17, .int 0, .int 0, .int 0, .ref r18])), (a1, .inl (t0, 40, .inl (fun _ => 0)))]) [0, 1] (by decide) rfl
  have hKc := hK.sub (tys' := [(t0, .int)]) [0] rfl
  have hFc := va_free (wc := [(a0, .inr (4, [.int 0, .int 0, .ref r0, .int 1, .int 0, .ref r1, .ref a1, .ref r2, .ref r3, .ref r4, .int 0, .int 0, .int (-1), .int 0, .int (-1), .int 0, .ref r5, .int 0, .ref r6, .ref r7, .ref r8, .ref r9, .ref r10, .int 0, .int 0, .int 0, .ref r11, .ref r12, .int 0, .ref r13, .ref r14, .ref r15, .ref r16, .ref r17, .int 0, .int 0, .int 0, .ref r18])), (a1, .inl (t0, 40, .inl (fun _ => 0)))]) hD hS hA [0, 1] rfl
  refine va_calli (va_runV (As := []) (rest := [.ref a0]) ⟨hx, hb, hml, hown, hts⟩ (c_M_textLength l dC dI a0 a1 r0 r1 r2 r3 r4 r5 r6 r7 r8 r9 r10 r11 r12 r13 r14 r15 r16 r17 r18 t0 s.heap.size) (cwV 0 hts (gd_v lk_240 lk_241 lk_242 lk_141 lk_239) rfl rfl rfl (by decide +kernel) ⟨Nat.le_of_ble_eq_true rfl, Nat.le_of_ble_eq_true rfl⟩) ⟨fun a U g mk q => by obtain ⟨q0, q1, qP, qK, qD⟩ := q; exact ⟨q0, q1, qP, va_K.moved (u := U) (U := U.calling g mk a) (Vm.Alike.refl U.vm) qK, qD⟩, va_recv (ci := 4) (q0 := 0) hK hP rfl rfl, fun U hU hW => ⟨rfl, by rw [hU], by rw [hU]; exact hPc, va_K.moved hW.alike hKc, hDc.weaken (fun _ _ _ _ => trivial)⟩⟩ rfl rfl hl.1 rfl (lv_room (Nat.le_of_ble_eq_true rfl)) d_M_line_2 ⟨Nat.le_of_ble_eq_true rfl, Nat.le_of_ble_eq_true rfl⟩) hS (fun q _ h => hFc q h) hFc (fun r u t H1 locs ht hvm hw hB hz1 hk1 hS => ?_)
  obtain ⟨hP1, hK1, hD1⟩ := hB
  rw [ht] at hP1
  have hK1 := va_K.moved hvm.symm hK1
  subst hw
  obtain ⟨hP, hD⟩ := va_join (wr := []) (w1 := [(a0, .inr (4, [.int 0, .int 0, .ref r0, .int 1, .int 0, .ref r1, .ref a1, .ref r2, .ref r3, .ref r4, .int 0, .int 0, .int (-1), .int 0, .int (-1), .int 0, .ref r5, .int 0, .ref r6, .ref r7, .ref r8, .ref r9, .ref r10, .int 0, .int 0, .int 0, .ref r11, .ref r12, .int 0, .ref r13, .ref r14, .ref r15, .ref r16, .ref r17, .int 0, .int 0, .int 0, .ref r18])), (a1, .inl (t0, 40, .inl (fun _ => 0)))]) hP hD [0, 1] [] rfl rfl (by decide) (by decide) hk1 hFc hP1 hD1
  generalize H1 = H at hP hS ⊢
  have hP : va_P (dC, dI) vwCl [(a0, .inr (4, [.int 0, .int 0, .ref r0, .int 1, .int 0, .ref r1, .ref a1, .ref r2, .ref r3, .ref r4, .int 0, .int 0, .int (-1), .int 0, .int (-1), .int 0, .ref r5, .int 0, .ref r6, .ref r7, .ref r8, .ref r9, .ref r10, .int 0, .int 0, .int 0, .ref r11, .ref r12, .int 0, .ref r13, .ref r14, .ref r15, .ref r16, .ref r17, .int 0, .int 0, .int 0, .ref r18])), (a1, .inl (t0, 40, .inl (fun _ => 0)))] H := hP
  have hD : va_D A [(a0, .inr (4, [.int 0, .int 0, .ref r0, .int 1, .int 0, .ref r1, .ref a1, .ref r2, .ref r3, .ref r4, .int 0, .int 0, .int (-1), .int 0, .int (-1), .int 0, .ref r5, .int 0, .ref r6, .ref r7, .ref r8, .ref r9, .ref r10, .int 0, .int 0, .int 0, .ref r11, .ref r12, .int 0, .ref r13, .ref r14, .ref r15, .ref r16, .ref r17, .int 0, .int 0, .int 0, .ref r18])), (a1, .inl (t0, 40, .inl (fun _ => 0)))] := hD
  have hPc := hP.sub (ws' := [(a0, .inr (4, [.int 0, .int 0, .ref r0, .int 1, .int 0, .ref r1, .ref a1, .ref r2, .ref r3, .ref r4, .int 0, .int 0, .int (-1), .int 0, .int (-1), .int 0, .ref r5, .int 0, .ref r6, .ref r7, .ref r8, .ref r9, .ref r10, .int 0, .int 0, .int 0, .ref r11, .ref r12, .int 0, .ref r13, .ref r14, .ref r15, .ref r16, .ref r17, .int 0, .int 0, .int 0, .ref r18]))]) [0] rfl
  have hDc := hD.sub (ws' := [(a0, .inr (4, [.int 0, .int 0, .ref r0, .int 1, .int 0, .ref r1, .ref a1, .ref r2, .ref r3, .ref r4, .int 0, .int 0, .int (-1), .int 0, .int (-1), .int 0, .ref r5, .int 0, .ref r6, .ref r7, .ref r8, .ref r9, .ref r10, .int 0, .int 0, .int 0, .ref r11, .ref r12, .int 0, .ref r13, .ref r14, .ref r15, .ref r16, .ref r17, .int 0, .int 0, .int 0, .ref r18]))]) [0] (by decide) rfl
  have hKc := hK.sub (tys' := []) [] rfl
  have hFc := va_free (wc := [(a0, .inr (4, [.int 0, .int 0, .ref r0, .int 1, .int 0, .ref r1, .ref a1, .ref r2, .ref r3, .ref r4, .int 0, .int 0, .int (-1), .int 0, .int (-1), .int 0, .ref r5, .int 0, .ref r6, .ref r7, .ref r8, .ref r9, .ref r10, .int 0, .int 0, .int 0, .ref r11, .ref r12, .int 0, .ref r13, .ref r14, .ref r15, .ref r16, .ref r17, .int 0, .int 0, .int 0, .ref r18]))]) hD hS hA [0] rfl
  refine va_calli (va_runV (As := [.int 0]) (rest := []) ⟨hx, hb, hml, hown, hts⟩ (c_M_breaks l dC dI a0 r0 r1 a1 r2 r3 r4 r5 r6 r7 r8 r9 r10 r11 r12 r13 r14 r15 r16 r17 r18 H.size) (cwV 1 hts (gd_v lk_475 lk_476 lk_477 lk_141 lk_474) rfl rfl rfl (by decide +kernel) ⟨Nat.le_of_ble_eq_true rfl, Nat.le_of_ble_eq_true rfl⟩) ⟨fun a U g mk q => by obtain ⟨q0, q1, qP, qK, qD⟩ := q; exact ⟨q0, q1, qP, va_K.moved (u := U) (U := U.calling g mk a) (Vm.Alike.refl U.vm) qK, qD⟩, va_recv (ci := 4) (q0 := 0) hK hP rfl rfl, fun U hU hW => ⟨rfl, by rw [hU], by rw [hU]; exact hPc, va_K.moved hW.alike hKc, hDc.weaken (fun _ _ _ _ => trivial)⟩⟩ rfl rfl hl.1 rfl (lv_room (Nat.le_of_ble_eq_true rfl)) d_M_line_5 ⟨Nat.le_of_ble_eq_true rfl, Nat.le_of_ble_eq_true rfl⟩) hS (fun q _ h => hFc q h) hFc (fun r u t H1 locs ht hvm hw hB hz1 hk1 hS => ?_)
  obtain ⟨hP1, hK1, hD1⟩ := hB
  rw [ht] at hP1
  have hK1 := va_K.moved hvm.symm hK1
  subst hw
  obtain ⟨hP, hD⟩ := va_join (wr := [(a1, .inl (t0, 40, .inl (fun _ => 0)))]) (w1 := [(a0, .inr (4, [.int 0, .int 0, .ref r0, .int 1, .int 0, .ref r1, .ref a1, .ref r2, .ref r3, .ref r4, .int 0, .int 0, .int (-1), .int 0, .int (-1), .int 0, .ref r5, .int 0, .ref r6, .ref r7, .ref r8, .ref r9, .ref r10, .int 0, .int 0, .int 0, .ref r11, .ref r12, .int 0, .ref r13, .ref r14, .ref r15, .ref r16, .ref r17, .int 0, .int 0, .int 0, .ref r18]))]) hP hD [0] [1] rfl rfl (by decide) (by decide) hk1 hFc hP1 hD1
  generalize H1 = H at hP hS ⊢
  have hP : va_P (dC, dI) vwCl [(a1, .inl (t0, 40, .inl (fun _ => 0))), (a0, .inr (4, [.int 0, .int 0, .ref r0, .int 1, .int 0, .ref r1, .ref a1, .ref r2, .ref r3, .ref r4, .int 0, .int 0, .int (-1), .int 0, .int (-1), .int 0, .ref r5, .int 0, .ref r6, .ref r7, .ref r8, .ref r9, .ref r10, .int 0, .int 0, .int 0, .ref r11, .ref r12, .int 0, .ref r13, .ref r14, .ref r15, .ref r16, .ref r17, .int 0, .int 0, .int 0, .ref r18]))] H := hP
  have hD : va_D A [(a1, .inl (t0, 40, .inl (fun _ => 0))), (a0, .inr (4, [.int 0, .int 0, .ref r0, .int 1, .int 0, .ref r1, .ref a1, .ref r2, .ref r3, .ref r4, .int 0, .int 0, .int (-1), .int 0, .int (-1), .int 0, .ref r5, .int 0, .ref r6, .ref r7, .ref r8, .ref r9, .ref r10, .int 0, .int 0, .int 0, .ref r11, .ref r12, .int 0, .ref r13, .ref r14, .ref r15, .ref r16, .ref r17, .int 0, .int 0, .int 0, .ref r18]))] := hD
  refine lv_iconst (v := 1) hx hb d_M_line_8 (by decide) ?_
  refine t_iadd (v := 1) hx hb d_M_line_9 (by decide +kernel) ?_
  refine lv_istore_n (lv' := [(3, .int 1), (0, .ref a0), (1, .int 0), (2, .int k0)]) hx hb d_M_line_10 rfl hl (by decide) rfl (fun ls hl => ?_)
  have hl : lv_has ls 7 [(3, .int 1), (0, .ref a0), (1, .int 0), (2, .int k0)] := hl
  refine lv_iload_n hx hb d_M_line_11 rfl (lv_at hl 2 rfl) ?_
  refine lv_if_eq (tgt := 44) hx hb d_M_line_12 (by decide) (fun _ => ?_) (fun h => absurd (by decide +kernel) h)
  refine lv_iconst (v := 1) hx hb d_M_line_44 (by decide) ?_
  refine lv_goto (tgt := 49) hx hb d_M_line_45 (by decide) ?_
  refine lv_istore (lv' := [(4, .int 1), (3, .int 1), (0, .ref a0), (1, .int 0), (2, .int k0)]) hx hb d_M_line_49 hl (by decide) rfl (fun ls hl => ?_)
  have hl : lv_has ls 7 [(4, .int 1), (3, .int 1), (0, .ref a0), (1, .int 0), (2, .int k0)] := hl
  refine lv_aload_n hx hb d_M_line_51 rfl (lv_at hl 2 rfl) ?_
  refine lv_iload_n hx hb d_M_line_52 rfl (lv_at hl 3 rfl) ?_
  refine lv_if_lt (tgt := 61) hx hb d_M_line_53 (by decide) (fun h => absurd h (by decide +kernel)) (fun _ => ?_)
  refine lv_iload_n hx hb d_M_line_56 rfl (lv_at hl 3 rfl) ?_
  refine lv_iconst (v := 3) hx hb d_M_line_57 (by decide) ?_
  refine lv_icmp_le (tgt := 65) hx hb d_M_line_58 (by decide) (fun _ => ?_) (fun h => absurd (by decide +kernel) h)
  refine lv_iload hx hb d_M_line_65 (lv_at hl 0 rfl) ?_
  refine lv_if_ne (tgt := 74) hx hb d_M_line_67 (by decide) (fun _ => ?_) (fun h => absurd h (by decide +kernel))
  refine lv_iconst (v := 0) hx hb d_M_line_74 (by decide) ?_
  refine va_put (D := (dC, dI)) (ci := 4) (v := .int 0) (ty := .int) (C := R_M) (T := F_M) (N := 38) hx hb hts (fun w h => List.mem_cons_of_mem _ (in_M w h)) t_M tk_M n_M hown hK hP hD hS 1 rfl rfl 0 (by decide) (hts _ (List.mem_cons_of_mem _ lk_175)) (fun _ h9 => h9) rfl (by decide +kernel) rfl rfl (Nat.le_of_ble_eq_true rfl) d_M_line_75 (fun H locs hP hD hS => ?_)
  have hP : va_P (dC, dI) vwCl [(a1, .inl (t0, 40, .inl (fun _ => 0))), (a0, .inr (4, [.int 0, .int 0, .ref r0, .int 1, .int 0, .ref r1, .ref a1, .ref r2, .ref r3, .ref r4, .int 0, .int 0, .int (-1), .int 0, .int (-1), .int 0, .ref r5, .int 0, .ref r6, .ref r7, .ref r8, .ref r9, .ref r10, .int 0, .int 0, .int 0, .ref r11, .ref r12, .int 0, .ref r13, .ref r14, .ref r15, .ref r16, .ref r17, .int 0, .int 0, .int 0, .ref r18]))] H := hP
  have hD : va_D A [(a1, .inl (t0, 40, .inl (fun _ => 0))), (a0, .inr (4, [.int 0, .int 0, .ref r0, .int 1, .int 0, .ref r1, .ref a1, .ref r2, .ref r3, .ref r4, .int 0, .int 0, .int (-1), .int 0, .int (-1), .int 0, .ref r5, .int 0, .ref r6, .ref r7, .ref r8, .ref r9, .ref r10, .int 0, .int 0, .int 0, .ref r11, .ref r12, .int 0, .ref r13, .ref r14, .ref r15, .ref r16, .ref r17, .int 0, .int 0, .int 0, .ref r18]))] := hD
  refine lv_aload_n hx hb d_M_line_78 rfl (lv_at hl 2 rfl) ?_
  refine va_get (D := (dC, dI)) (ci := 4) (v := .int 0) (C := R_M) (T := F_M) (N := 38) hx hb hts (fun w h => List.mem_cons_of_mem _ (in_M w h)) hown hK hP 1 rfl rfl 0 (by decide) (hts _ (List.mem_cons_of_mem _ lk_175)) (fun _ h9 => h9) rfl d_M_line_79 ?_
  refine lv_if_le (tgt := 87) hx hb d_M_line_82 (by decide) (fun _ => ?_) (fun h => absurd (by decide +kernel) h)
  refine lv_iload_n hx hb d_M_line_87 rfl (lv_at hl 3 rfl) ?_
  refine lv_iconst (v := 2) hx hb d_M_line_88 (by decide) ?_
  refine lv_icmp_ge (tgt := 106) hx hb d_M_line_89 (by decide) (fun h => absurd h (by decide +kernel)) (fun _ => ?_)
  refine lv_iload_n hx hb d_M_line_92 rfl (lv_at hl 3 rfl) ?_
  refine lv_if_ne (tgt := 100) hx hb d_M_line_93 (by decide) (fun h => absurd (by decide +kernel) h) (fun _ => ?_)
  refine lv_iload_n hx hb d_M_line_96 rfl (lv_at hl 1 rfl) ?_
  refine lv_goto (tgt := 105) hx hb d_M_line_97 (by decide) ?_
  have hP9 := hP.sub (ws' := [(a0, .inr (4, [.int 0, .int 0, .ref r0, .int 1, .int 0, .ref r1, .ref a1, .ref r2, .ref r3, .ref r4, .int 0, .int 0, .int (-1), .int 0, .int (-1), .int 0, .ref r5, .int 0, .ref r6, .ref r7, .ref r8, .ref r9, .ref r10, .int 0, .int 0, .int 0, .ref r11, .ref r12, .int 0, .ref r13, .ref r14, .ref r15, .ref r16, .ref r17, .int 0, .int 0, .int 0, .ref r18])), (a1, .inl (t0, 40, .inl (fun _ => 0)))]) [1, 0] rfl
  have hD9 := hD.sub (ws' := [(a0, .inr (4, [.int 0, .int 0, .ref r0, .int 1, .int 0, .ref r1, .ref a1, .ref r2, .ref r3, .ref r4, .int 0, .int 0, .int (-1), .int 0, .int (-1), .int 0, .ref r5, .int 0, .ref r6, .ref r7, .ref r8, .ref r9, .ref r10, .int 0, .int 0, .int 0, .ref r11, .ref r12, .int 0, .ref r13, .ref r14, .ref r15, .ref r16, .ref r17, .int 0, .int 0, .int 0, .ref r18])), (a1, .inl (t0, 40, .inl (fun _ => 0)))]) [1, 0] (by decide) rfl
  have hK9 := hK.sub (tys' := [(t0, .int)]) [0] rfl
  exact W.iret (v := 1) hx hb hr (fun t ht hW => ⟨⟨1, (), rfl, rfl, by rw [ht]; exact hP9, va_K.moved hW.alike hK9, hD9⟩, hS.F ht⟩) hS.2.2 d_M_line_105

set_option maxHeartbeats 4000000 in
set_option maxRecDepth 100000 in
theorem c_D_line_3 (l : Launch) (dC : Nat → ClassId) (dI : Nat → Nat → Nat) (a0 a1 r0 r1 r2 r3 r4 r5 : Nat) (t0 : ClassId) (sz : Nat)  : Met l y_D_line w_D_line ({ frames := 1, cells := 0, slots := 0, locals := 23 }) (va_Pc [.ref a0, .int 1, .int 0] (fun U => U.heap.size = sz ∧ va_P (dC, dI) vwCl [(a0, .inr (0, [.ref r0, .int 0, .ref r1, .int 1, .int 0, .ref a1, .int 0, .int (-1), .ref r2, .ref r3, .int 0, .int (-1), .ref r4, .ref r5])), (a1, .inl (t0, 0, .inl (fun _ => 0)))] U.heap ∧ va_K (dC, dI) vwCl [(t0, .char)] U ∧ va_D (fun _ => True) [(a0, .inr (0, [.ref r0, .int 0, .ref r1, .int 1, .int 0, .ref a1, .int 0, .int (-1), .ref r2, .ref r3, .int 0, .int (-1), .ref r4, .ref r5])), (a1, .inl (t0, 0, .inl (fun _ => 0)))])) (va_Qi (fun (r : Int32) (_ : Unit) => r = 0) (fun (_ : Unit) t => va_P (dC, dI) vwCl [(a0, .inr (0, [.ref r0, .int 0, .ref r1, .int 1, .int 0, .ref a1, .int 0, .int (-1), .ref r2, .ref r3, .int 0, .int (-1), .ref r4, .ref r5])), (a1, .inl (t0, 0, .inl (fun _ => 0)))] t.heap ∧ va_K (dC, dI) vwCl [(t0, .char)] t ∧ va_D (va_A [(a0, .inr (0, [.ref r0, .int 0, .ref r1, .int 1, .int 0, .ref a1, .int 0, .int (-1), .ref r2, .ref r3, .int 0, .int (-1), .ref r4, .ref r5])), (a1, .inl (t0, 0, .inl (fun _ => 0)))] sz) [(a0, .inr (0, [.ref r0, .int 0, .ref r1, .int 1, .int 0, .ref a1, .int 0, .int (-1), .ref r2, .ref r3, .int 0, .int (-1), .ref r4, .ref r5])), (a1, .inl (t0, 0, .inl (fun _ => 0)))]) (va_A [(a0, .inr (0, [.ref r0, .int 0, .ref r1, .int 1, .int 0, .ref a1, .int 0, .int (-1), .ref r2, .ref r3, .int 0, .int (-1), .ref r4, .ref r5])), (a1, .inl (t0, 0, .inl (fun _ => 0)))] sz)) 0 0 (va_A [(a0, .inr (0, [.ref r0, .int 0, .ref r1, .int 1, .int 0, .ref a1, .int 0, .int (-1), .ref r2, .ref r3, .int 0, .int (-1), .ref r4, .ref r5])), (a1, .inl (t0, 0, .inl (fun _ => 0)))] sz) := by
  refine Met.ofW (cc := prog_1_method_16_code) (maxL := 3) (ret := (some .int)) (by decide) rfl ?_
  intro p e s m args below meth c s₁ B hml hv
  obtain ⟨rfl, hsz, hP, hK, hD0⟩ := hv
  have hx := B.exec
  have hb := B.bytes
  have hr := B.returns
  have hts := atoms_spec (ws := w_D_line) B.pre
  have hown : s.vm.findClass R_D = some m.cls := findClass_of_methodNamed B.named
  have hlocks := B.notSynchronized
  subst hsz
  have hD := hD0.self (sz := s.heap.size)
  generalize hAe : va_A [(a0, .inr (0, [.ref r0, .int 0, .ref r1, .int 1, .int 0, .ref a1, .int 0, .int (-1), .ref r2, .ref r3, .int 0, .int (-1), .ref r4, .ref r5])), (a1, .inl (t0, 0, .inl (fun _ => 0)))] s.heap.size = A at hD ⊢
  have hA : ∀ q : Nat, s.heap.size ≤ q → A q := fun q h => by rw [← hAe]; exact Or.inr h
  have hS : va_S A s.heap s.heap [] := va_S.rf
  have hP : va_P (dC, dI) vwCl [(a0, .inr (0, [.ref r0, .int 0, .ref r1, .int 1, .int 0, .ref a1, .int 0, .int (-1), .ref r2, .ref r3, .int 0, .int (-1), .ref r4, .ref r5])), (a1, .inl (t0, 0, .inl (fun _ => 0)))] s.heap := hP
  have hl := lv_entry ([.ref a0, .int 1, .int 0]) (n := 3) (Nat.le_of_ble_eq_true rfl)
  rw [lg_entry_eq]
  generalize (lg_sl ([.ref a0, .int 1, .int 0]) ++ List.replicate (3 - (lg_sl ([.ref a0, .int 1, .int 0])).length) Slot.unset).toArray = ls at hl ⊢
  have hl : lv_has ls 3 [(0, .ref a0), (1, .int 1), (2, .int 0)] := hl
  refine lv_iload_n hx hb d_D_line_0 rfl (lv_at hl 1 rfl) ?_
  refine lv_tableIn (off := 43) (tgt := 44) hx hb d_D_line_1 (by decide) (by decide) (by decide) (by decide) ?_
  refine lv_aload_n hx hb d_D_line_44 rfl (lv_at hl 0 rfl) ?_
  refine lv_iload_n hx hb d_D_line_45 rfl (lv_at hl 2 rfl) ?_
  have hPc := hP.sub (ws' := [(a0, .inr (0, [.ref r0, .int 0, .ref r1, .int 1, .int 0, .ref a1, .int 0, .int (-1), .ref r2, .ref r3, .int 0, .int (-1), .ref r4, .ref r5])), (a1, .inl (t0, 0, .inl (fun _ => 0)))]) [0, 1] rfl
  have hDc := hD.sub (ws' := [(a0, .inr (0, [.ref r0, .int 0, .ref r1, .int 1, .int 0, .ref a1, .int 0, .int (-1), .ref r2, .ref r3, .int 0, .int (-1), .ref r4, .ref r5])), (a1, .inl (t0, 0, .inl (fun _ => 0)))]) [0, 1] (by decide) rfl
  have hKc := hK.sub (tys' := [(t0, .char)]) [0] rfl
  have hFc := va_free (wc := [(a0, .inr (0, [.ref r0, .int 0, .ref r1, .int 1, .int 0, .ref a1, .int 0, .int (-1), .ref r2, .ref r3, .int 0, .int (-1), .ref r4, .ref r5])), (a1, .inl (t0, 0, .inl (fun _ => 0)))]) hD hS hA [0, 1] rfl
  refine va_callv (va_runV (As := [.int 0]) (rest := []) ⟨hx, hb, hml, hown, hts⟩ (c_D_requirePlace l dC dI a0 a1 r0 r1 r2 r3 r4 r5 t0 s.heap.size) (cwV 1 hts (gd_v lk_251 lk_252 lk_253 lk_16 lk_250) rfl rfl rfl (by decide +kernel) ⟨Nat.le_of_ble_eq_true rfl, Nat.le_of_ble_eq_true rfl⟩) ⟨fun a U g mk q => by obtain ⟨q0, q1, qP, qK, qD⟩ := q; exact ⟨q0, q1, qP, va_K.moved (u := U) (U := U.calling g mk a) (Vm.Alike.refl U.vm) qK, qD⟩, va_recv (ci := 0) (q0 := 0) hK hP rfl rfl, fun U hU hW => ⟨rfl, by rw [hU], by rw [hU]; exact hPc, va_K.moved hW.alike hKc, hDc.weaken (fun _ _ _ _ => trivial)⟩⟩ rfl rfl hl.1 rfl (lv_room (Nat.le_of_ble_eq_true rfl)) d_D_line_46 ⟨Nat.le_of_ble_eq_true rfl, Nat.le_of_ble_eq_true rfl⟩) hS (fun q _ h => hFc q h) hFc (fun u t H1 locs ht hvm hw hB hz1 hk1 hS => ?_)
  obtain ⟨hP1, hK1, hD1⟩ := hB
  rw [ht] at hP1
  have hK1 := va_K.moved hvm.symm hK1
  obtain ⟨hP, hD⟩ := va_join (wr := []) (w1 := [(a0, .inr (0, [.ref r0, .int 0, .ref r1, .int 1, .int 0, .ref a1, .int 0, .int (-1), .ref r2, .ref r3, .int 0, .int (-1), .ref r4, .ref r5])), (a1, .inl (t0, 0, .inl (fun _ => 0)))]) hP hD [0, 1] [] rfl rfl (by decide) (by decide) hk1 hFc hP1 hD1
  generalize H1 = H at hP hS ⊢
  have hP : va_P (dC, dI) vwCl [(a0, .inr (0, [.ref r0, .int 0, .ref r1, .int 1, .int 0, .ref a1, .int 0, .int (-1), .ref r2, .ref r3, .int 0, .int (-1), .ref r4, .ref r5])), (a1, .inl (t0, 0, .inl (fun _ => 0)))] H := hP
  have hD : va_D A [(a0, .inr (0, [.ref r0, .int 0, .ref r1, .int 1, .int 0, .ref a1, .int 0, .int (-1), .ref r2, .ref r3, .int 0, .int (-1), .ref r4, .ref r5])), (a1, .inl (t0, 0, .inl (fun _ => 0)))] := hD
  refine lv_aload_n hx hb d_D_line_49 rfl (lv_at hl 0 rfl) ?_
  refine lv_iload_n hx hb d_D_line_50 rfl (lv_at hl 2 rfl) ?_
  have hPc := hP.sub (ws' := [(a0, .inr (0, [.ref r0, .int 0, .ref r1, .int 1, .int 0, .ref a1, .int 0, .int (-1), .ref r2, .ref r3, .int 0, .int (-1), .ref r4, .ref r5]))]) [0] rfl
  have hDc := hD.sub (ws' := [(a0, .inr (0, [.ref r0, .int 0, .ref r1, .int 1, .int 0, .ref a1, .int 0, .int (-1), .ref r2, .ref r3, .int 0, .int (-1), .ref r4, .ref r5]))]) [0] (by decide) rfl
  have hKc := hK.sub (tys' := []) [] rfl
  have hFc := va_free (wc := [(a0, .inr (0, [.ref r0, .int 0, .ref r1, .int 1, .int 0, .ref a1, .int 0, .int (-1), .ref r2, .ref r3, .int 0, .int (-1), .ref r4, .ref r5]))]) hD hS hA [0] rfl
  refine va_calli (va_runV (As := [.int 0]) (rest := []) ⟨hx, hb, hml, hown, hts⟩ (c_D_breaksBefore l dC dI a0 r0 r1 a1 r2 r3 r4 r5 H.size) (cwV 1 hts (gd_v lk_464 lk_465 lk_466 lk_16 lk_463) rfl rfl rfl (by decide +kernel) ⟨Nat.le_of_ble_eq_true rfl, Nat.le_of_ble_eq_true rfl⟩) ⟨fun a U g mk q => by obtain ⟨q0, q1, qP, qK, qD⟩ := q; exact ⟨q0, q1, qP, va_K.moved (u := U) (U := U.calling g mk a) (Vm.Alike.refl U.vm) qK, qD⟩, va_recv (ci := 0) (q0 := 0) hK hP rfl rfl, fun U hU hW => ⟨rfl, by rw [hU], by rw [hU]; exact hPc, va_K.moved hW.alike hKc, hDc.weaken (fun _ _ _ _ => trivial)⟩⟩ rfl rfl hl.1 rfl (lv_room (Nat.le_of_ble_eq_true rfl)) d_D_line_51 ⟨Nat.le_of_ble_eq_true rfl, Nat.le_of_ble_eq_true rfl⟩) hS (fun q _ h => hFc q h) hFc (fun r u t H1 locs ht hvm hw hB hz1 hk1 hS => ?_)
  obtain ⟨hP1, hK1, hD1⟩ := hB
  rw [ht] at hP1
  have hK1 := va_K.moved hvm.symm hK1
  subst hw
  obtain ⟨hP, hD⟩ := va_join (wr := [(a1, .inl (t0, 0, .inl (fun _ => 0)))]) (w1 := [(a0, .inr (0, [.ref r0, .int 0, .ref r1, .int 1, .int 0, .ref a1, .int 0, .int (-1), .ref r2, .ref r3, .int 0, .int (-1), .ref r4, .ref r5]))]) hP hD [0] [1] rfl rfl (by decide) (by decide) hk1 hFc hP1 hD1
  generalize H1 = H at hP hS ⊢
  have hP : va_P (dC, dI) vwCl [(a1, .inl (t0, 0, .inl (fun _ => 0))), (a0, .inr (0, [.ref r0, .int 0, .ref r1, .int 1, .int 0, .ref a1, .int 0, .int (-1), .ref r2, .ref r3, .int 0, .int (-1), .ref r4, .ref r5]))] H := hP
  have hD : va_D A [(a1, .inl (t0, 0, .inl (fun _ => 0))), (a0, .inr (0, [.ref r0, .int 0, .ref r1, .int 1, .int 0, .ref a1, .int 0, .int (-1), .ref r2, .ref r3, .int 0, .int (-1), .ref r4, .ref r5]))] := hD
  have hP9 := hP.sub (ws' := [(a0, .inr (0, [.ref r0, .int 0, .ref r1, .int 1, .int 0, .ref a1, .int 0, .int (-1), .ref r2, .ref r3, .int 0, .int (-1), .ref r4, .ref r5])), (a1, .inl (t0, 0, .inl (fun _ => 0)))]) [1, 0] rfl
  have hD9 := hD.sub (ws' := [(a0, .inr (0, [.ref r0, .int 0, .ref r1, .int 1, .int 0, .ref a1, .int 0, .int (-1), .ref r2, .ref r3, .int 0, .int (-1), .ref r4, .ref r5])), (a1, .inl (t0, 0, .inl (fun _ => 0)))]) [1, 0] (by decide) rfl
  have hK9 := hK.sub (tys' := [(t0, .char)]) [0] rfl
  exact W.iret (v := 0) hx hb hr (fun t ht hW => ⟨⟨0, (), rfl, rfl, by rw [ht]; exact hP9, va_K.moved hW.alike hK9, hD9⟩, hS.F ht⟩) hS.2.2 d_D_line_54

set_option maxHeartbeats 4000000 in
set_option maxRecDepth 100000 in
theorem c_L_line_3 (l : Launch) (dC : Nat → ClassId) (dI : Nat → Nat → Nat) (a0 a1 a2 r0 r1 r2 r3 r4 r5 : Nat) (t0 t1 : ClassId) (sz : Nat)  : Met l y_L_line w_L_line ({ frames := 2, cells := 0, slots := 0, locals := 45 }) (va_Pc [.ref a0, .int 1, .int 0, .ref a2] (fun U => U.heap.size = sz ∧ va_P (dC, dI) vwCl [(a0, .inr (0, [.ref r0, .int 0, .ref r1, .int 1, .int 0, .ref a1, .int 0, .int (-1), .ref r2, .ref r3, .int 0, .int (-1), .ref r4, .ref r5])), (a1, .inl (t0, 0, .inl (fun _ => 0))), (a2, .inl (t1, 1, .inr (.inl (fun _ => 0))))] U.heap ∧ va_K (dC, dI) vwCl [(t0, .char), (t1, .long)] U ∧ va_D (fun _ => True) [(a0, .inr (0, [.ref r0, .int 0, .ref r1, .int 1, .int 0, .ref a1, .int 0, .int (-1), .ref r2, .ref r3, .int 0, .int (-1), .ref r4, .ref r5])), (a1, .inl (t0, 0, .inl (fun _ => 0))), (a2, .inl (t1, 1, .inr (.inl (fun _ => 0))))])) (va_Qi (fun (r : Int32) (_ : Unit) => r = 0) (fun (_ : Unit) t => va_P (dC, dI) vwCl [(a0, .inr (0, [.ref r0, .int 0, .ref r1, .int 1, .int 0, .ref a1, .int 0, .int (-1), .ref r2, .ref r3, .int 0, .int (-1), .ref r4, .ref r5])), (a1, .inl (t0, 0, .inl (fun _ => 0))), (a2, .inl (t1, 1, .inr (.inl (vp_updL (fun _ => 0) 0 0))))] t.heap ∧ va_K (dC, dI) vwCl [(t0, .char), (t1, .long)] t ∧ va_D (va_A [(a0, .inr (0, [.ref r0, .int 0, .ref r1, .int 1, .int 0, .ref a1, .int 0, .int (-1), .ref r2, .ref r3, .int 0, .int (-1), .ref r4, .ref r5])), (a1, .inl (t0, 0, .inl (fun _ => 0))), (a2, .inl (t1, 1, .inr (.inl (fun _ => 0))))] sz) [(a0, .inr (0, [.ref r0, .int 0, .ref r1, .int 1, .int 0, .ref a1, .int 0, .int (-1), .ref r2, .ref r3, .int 0, .int (-1), .ref r4, .ref r5])), (a1, .inl (t0, 0, .inl (fun _ => 0))), (a2, .inl (t1, 1, .inr (.inl (vp_updL (fun _ => 0) 0 0))))]) (va_A [(a0, .inr (0, [.ref r0, .int 0, .ref r1, .int 1, .int 0, .ref a1, .int 0, .int (-1), .ref r2, .ref r3, .int 0, .int (-1), .ref r4, .ref r5])), (a1, .inl (t0, 0, .inl (fun _ => 0))), (a2, .inl (t1, 1, .inr (.inl (fun _ => 0))))] sz)) 0 0 (va_A [(a0, .inr (0, [.ref r0, .int 0, .ref r1, .int 1, .int 0, .ref a1, .int 0, .int (-1), .ref r2, .ref r3, .int 0, .int (-1), .ref r4, .ref r5])), (a1, .inl (t0, 0, .inl (fun _ => 0))), (a2, .inl (t1, 1, .inr (.inl (fun _ => 0))))] sz) := by
  refine th_ofWw (tab := [(0, 10, 13, 28), (0, 10, 17, 23)]) (cc := method_13_code) (maxL := 5) (ret := (some .int)) (by decide) rfl ?_
  intro p e s m args below meth c s₁ B hml htab hv
  obtain ⟨rfl, hsz, hP, hK, hD0⟩ := hv
  have hx := B.exec
  have hb := B.bytes
  have hr := B.returns
  have hts := atoms_spec (ws := w_L_line) B.pre
  have hown : s.vm.findClass R_L = some m.cls := findClass_of_methodNamed B.named
  have hlocks := B.notSynchronized
  subst hsz
  have hD := hD0.self (sz := s.heap.size)
  generalize hAe : va_A [(a0, .inr (0, [.ref r0, .int 0, .ref r1, .int 1, .int 0, .ref a1, .int 0, .int (-1), .ref r2, .ref r3, .int 0, .int (-1), .ref r4, .ref r5])), (a1, .inl (t0, 0, .inl (fun _ => 0))), (a2, .inl (t1, 1, .inr (.inl (fun _ => 0))))] s.heap.size = A at hD ⊢
  have hA : ∀ q : Nat, s.heap.size ≤ q → A q := fun q h => by rw [← hAe]; exact Or.inr h
  have hS : va_S A s.heap s.heap [] := va_S.rf
  have hP : va_P (dC, dI) vwCl [(a0, .inr (0, [.ref r0, .int 0, .ref r1, .int 1, .int 0, .ref a1, .int 0, .int (-1), .ref r2, .ref r3, .int 0, .int (-1), .ref r4, .ref r5])), (a1, .inl (t0, 0, .inl (fun _ => 0))), (a2, .inl (t1, 1, .inr (.inl (fun _ => 0))))] s.heap := hP
  have hl := lv_entry ([.ref a0, .int 1, .int 0, .ref a2]) (n := 5) (Nat.le_of_ble_eq_true rfl)
  rw [lg_entry_eq]
  generalize (lg_sl ([.ref a0, .int 1, .int 0, .ref a2]) ++ List.replicate (5 - (lg_sl ([.ref a0, .int 1, .int 0, .ref a2])).length) Slot.unset).toArray = ls at hl ⊢
  have hl : lv_has ls 5 [(0, .ref a0), (1, .int 1), (2, .int 0), (3, .ref a2)] := hl
  refine lv_aload_n hx hb d_L_line_0 rfl (lv_at hl 3 rfl) ?_
  refine lv_iconst (v := 0) hx hb d_L_line_1 (by decide) ?_
  refine lv_aload_n hx hb d_L_line_2 rfl (lv_at hl 0 rfl) ?_
  refine lv_iload_n hx hb d_L_line_3 rfl (lv_at hl 1 rfl) ?_
  refine lv_iload_n hx hb d_L_line_4 rfl (lv_at hl 2 rfl) ?_
  have hPc := hP.sub (ws' := [(a0, .inr (0, [.ref r0, .int 0, .ref r1, .int 1, .int 0, .ref a1, .int 0, .int (-1), .ref r2, .ref r3, .int 0, .int (-1), .ref r4, .ref r5])), (a1, .inl (t0, 0, .inl (fun _ => 0)))]) [0, 1] rfl
  have hDc := hD.sub (ws' := [(a0, .inr (0, [.ref r0, .int 0, .ref r1, .int 1, .int 0, .ref a1, .int 0, .int (-1), .ref r2, .ref r3, .int 0, .int (-1), .ref r4, .ref r5])), (a1, .inl (t0, 0, .inl (fun _ => 0)))]) [0, 1] (by decide) rfl
  have hKc := hK.sub (tys' := [(t0, .char)]) [0] rfl
  have hFc := va_free (wc := [(a0, .inr (0, [.ref r0, .int 0, .ref r1, .int 1, .int 0, .ref a1, .int 0, .int (-1), .ref r2, .ref r3, .int 0, .int (-1), .ref r4, .ref r5])), (a1, .inl (t0, 0, .inl (fun _ => 0)))]) hD hS hA [0, 1] rfl
  refine va_calli (va_runV (As := [.int 1, .int 0]) (rest := [.int 0, .ref a2]) ⟨hx, hb, hml, hown, hts⟩ (c_D_line_3 l dC dI a0 a1 r0 r1 r2 r3 r4 r5 t0 s.heap.size) (cwV 2 hts (gd_v lk_468 lk_469 lk_470 lk_16 lk_467) rfl rfl rfl (by decide +kernel) ⟨Nat.le_of_ble_eq_true rfl, Nat.le_of_ble_eq_true rfl⟩) ⟨fun a U g mk q => by obtain ⟨q0, q1, qP, qK, qD⟩ := q; exact ⟨q0, q1, qP, va_K.moved (u := U) (U := U.calling g mk a) (Vm.Alike.refl U.vm) qK, qD⟩, va_recv (ci := 0) (q0 := 0) hK hP rfl rfl, fun U hU hW => ⟨rfl, by rw [hU], by rw [hU]; exact hPc, va_K.moved hW.alike hKc, hDc.weaken (fun _ _ _ _ => trivial)⟩⟩ rfl rfl hl.1 rfl (lv_room (Nat.le_of_ble_eq_true rfl)) d_L_line_5 ⟨Nat.le_of_ble_eq_true rfl, Nat.le_of_ble_eq_true rfl⟩) hS (fun q _ h => hFc q h) hFc (fun r u t H1 locs ht hvm hw hB hz1 hk1 hS => ?_)
  obtain ⟨hP1, hK1, hD1⟩ := hB
  rw [ht] at hP1
  have hK1 := va_K.moved hvm.symm hK1
  subst hw
  obtain ⟨hP, hD⟩ := va_join (wr := [(a2, .inl (t1, 1, .inr (.inl (fun _ => 0))))]) (w1 := [(a0, .inr (0, [.ref r0, .int 0, .ref r1, .int 1, .int 0, .ref a1, .int 0, .int (-1), .ref r2, .ref r3, .int 0, .int (-1), .ref r4, .ref r5])), (a1, .inl (t0, 0, .inl (fun _ => 0)))]) hP hD [0, 1] [2] rfl rfl (by decide) (by decide) hk1 hFc hP1 hD1
  generalize H1 = H at hP hS ⊢
  have hP : va_P (dC, dI) vwCl [(a2, .inl (t1, 1, .inr (.inl (fun _ => 0)))), (a0, .inr (0, [.ref r0, .int 0, .ref r1, .int 1, .int 0, .ref a1, .int 0, .int (-1), .ref r2, .ref r3, .int 0, .int (-1), .ref r4, .ref r5])), (a1, .inl (t0, 0, .inl (fun _ => 0)))] H := hP
  have hD : va_D A [(a2, .inl (t1, 1, .inr (.inl (fun _ => 0)))), (a0, .inr (0, [.ref r0, .int 0, .ref r1, .int 1, .int 0, .ref a1, .int 0, .int (-1), .ref r2, .ref r3, .int 0, .int (-1), .ref r4, .ref r5])), (a1, .inl (t0, 0, .inl (fun _ => 0)))] := hD
  refine lv_i2l (v := 0) hx hb d_L_line_8 (by decide +kernel) ?_
  refine va_last hx hb hK hP hD hS 0 1 rfl rfl (wk_in (by decide +kernel)) d_L_line_9 (fun H locs hP hD hS => ?_)
  have hP : va_P (dC, dI) vwCl [(a2, .inl (t1, 1, .inr (.inl (vp_updL (fun _ => 0) 0 0)))), (a0, .inr (0, [.ref r0, .int 0, .ref r1, .int 1, .int 0, .ref a1, .int 0, .int (-1), .ref r2, .ref r3, .int 0, .int (-1), .ref r4, .ref r5])), (a1, .inl (t0, 0, .inl (fun _ => 0)))] H := hP
  have hD : va_D A [(a2, .inl (t1, 1, .inr (.inl (vp_updL (fun _ => 0) 0 0)))), (a0, .inr (0, [.ref r0, .int 0, .ref r1, .int 1, .int 0, .ref a1, .int 0, .int (-1), .ref r2, .ref r3, .int 0, .int (-1), .ref r4, .ref r5])), (a1, .inl (t0, 0, .inl (fun _ => 0)))] := hD
  refine lv_goto (tgt := 21) hx hb d_L_line_10 (by decide) ?_
  refine lv_iconst (v := 0) hx hb d_L_line_21 (by decide) ?_
  have hP9 := hP.sub (ws' := [(a0, .inr (0, [.ref r0, .int 0, .ref r1, .int 1, .int 0, .ref a1, .int 0, .int (-1), .ref r2, .ref r3, .int 0, .int (-1), .ref r4, .ref r5])), (a1, .inl (t0, 0, .inl (fun _ => 0))), (a2, .inl (t1, 1, .inr (.inl (vp_updL (fun _ => 0) 0 0))))]) [1, 2, 0] rfl
  have hD9 := hD.sub (ws' := [(a0, .inr (0, [.ref r0, .int 0, .ref r1, .int 1, .int 0, .ref a1, .int 0, .int (-1), .ref r2, .ref r3, .int 0, .int (-1), .ref r4, .ref r5])), (a1, .inl (t0, 0, .inl (fun _ => 0))), (a2, .inl (t1, 1, .inr (.inl (vp_updL (fun _ => 0) 0 0))))]) [1, 2, 0] (by decide) rfl
  have hK9 := hK.sub (tys' := [(t0, .char), (t1, .long)]) [0, 1] rfl
  exact W.iret (v := 0) hx hb hr (fun t ht hW => ⟨⟨0, (), rfl, rfl, by rw [ht]; exact hP9, va_K.moved hW.alike hK9, hD9⟩, hS.F ht⟩) hS.2.2 d_L_line_22

set_option maxHeartbeats 4000000 in
set_option maxRecDepth 100000 in
theorem c_M_line_3 (l : Launch) (dC : Nat → ClassId) (dI : Nat → Nat → Nat) (a0 a1 r0 r1 r2 r3 r4 r5 r6 r7 r8 r9 r10 r11 r12 r13 r14 r15 r16 r17 r18 : Nat) (t0 : ClassId) (sz : Nat)  : Met l y_M_line w_M_line ({ frames := 1, cells := 0, slots := 0, locals := 23 }) (va_Pc [.ref a0, .int 1, .int 0] (fun U => U.heap.size = sz ∧ va_P (dC, dI) vwCl [(a0, .inr (4, [.int 0, .int 0, .ref r0, .int 1, .int 0, .ref r1, .ref a1, .ref r2, .ref r3, .ref r4, .int 0, .int 0, .int (-1), .int 0, .int (-1), .int 0, .ref r5, .int 0, .ref r6, .ref r7, .ref r8, .ref r9, .ref r10, .int 0, .int 0, .int 0, .ref r11, .ref r12, .int 0, .ref r13, .ref r14, .ref r15, .ref r16, .ref r17, .int 0, .int 0, .int 0, .ref r18])), (a1, .inl (t0, 40, .inl (fun _ => 0)))] U.heap ∧ va_K (dC, dI) vwCl [(t0, .int)] U ∧ va_D (fun _ => True) [(a0, .inr (4, [.int 0, .int 0, .ref r0, .int 1, .int 0, .ref r1, .ref a1, .ref r2, .ref r3, .ref r4, .int 0, .int 0, .int (-1), .int 0, .int (-1), .int 0, .ref r5, .int 0, .ref r6, .ref r7, .ref r8, .ref r9, .ref r10, .int 0, .int 0, .int 0, .ref r11, .ref r12, .int 0, .ref r13, .ref r14, .ref r15, .ref r16, .ref r17, .int 0, .int 0, .int 0, .ref r18])), (a1, .inl (t0, 40, .inl (fun _ => 0)))])) (va_Qi (fun (r : Int32) (_ : Unit) => r = 0) (fun (_ : Unit) t => va_P (dC, dI) vwCl [(a0, .inr (4, [.int 0, .int 0, .ref r0, .int 1, .int 0, .ref r1, .ref a1, .ref r2, .ref r3, .ref r4, .int 0, .int 0, .int (-1), .int 0, .int (-1), .int 0, .ref r5, .int 0, .ref r6, .ref r7, .ref r8, .ref r9, .ref r10, .int 0, .int 0, .int 0, .ref r11, .ref r12, .int 0, .ref r13, .ref r14, .ref r15, .ref r16, .ref r17, .int 0, .int 0, .int 0, .ref r18])), (a1, .inl (t0, 40, .inl (fun _ => 0)))] t.heap ∧ va_K (dC, dI) vwCl [(t0, .int)] t ∧ va_D (va_A [(a0, .inr (4, [.int 0, .int 0, .ref r0, .int 1, .int 0, .ref r1, .ref a1, .ref r2, .ref r3, .ref r4, .int 0, .int 0, .int (-1), .int 0, .int (-1), .int 0, .ref r5, .int 0, .ref r6, .ref r7, .ref r8, .ref r9, .ref r10, .int 0, .int 0, .int 0, .ref r11, .ref r12, .int 0, .ref r13, .ref r14, .ref r15, .ref r16, .ref r17, .int 0, .int 0, .int 0, .ref r18])), (a1, .inl (t0, 40, .inl (fun _ => 0)))] sz) [(a0, .inr (4, [.int 0, .int 0, .ref r0, .int 1, .int 0, .ref r1, .ref a1, .ref r2, .ref r3, .ref r4, .int 0, .int 0, .int (-1), .int 0, .int (-1), .int 0, .ref r5, .int 0, .ref r6, .ref r7, .ref r8, .ref r9, .ref r10, .int 0, .int 0, .int 0, .ref r11, .ref r12, .int 0, .ref r13, .ref r14, .ref r15, .ref r16, .ref r17, .int 0, .int 0, .int 0, .ref r18])), (a1, .inl (t0, 40, .inl (fun _ => 0)))]) (va_A [(a0, .inr (4, [.int 0, .int 0, .ref r0, .int 1, .int 0, .ref r1, .ref a1, .ref r2, .ref r3, .ref r4, .int 0, .int 0, .int (-1), .int 0, .int (-1), .int 0, .ref r5, .int 0, .ref r6, .ref r7, .ref r8, .ref r9, .ref r10, .int 0, .int 0, .int 0, .ref r11, .ref r12, .int 0, .ref r13, .ref r14, .ref r15, .ref r16, .ref r17, .int 0, .int 0, .int 0, .ref r18])), (a1, .inl (t0, 40, .inl (fun _ => 0)))] sz)) 0 0 (va_A [(a0, .inr (4, [.int 0, .int 0, .ref r0, .int 1, .int 0, .ref r1, .ref a1, .ref r2, .ref r3, .ref r4, .int 0, .int 0, .int (-1), .int 0, .int (-1), .int 0, .ref r5, .int 0, .ref r6, .ref r7, .ref r8, .ref r9, .ref r10, .int 0, .int 0, .int 0, .ref r11, .ref r12, .int 0, .ref r13, .ref r14, .ref r15, .ref r16, .ref r17, .int 0, .int 0, .int 0, .ref r18])), (a1, .inl (t0, 40, .inl (fun _ => 0)))] sz) := by
  refine Met.ofW (cc := prog_6_method_51_code) (maxL := 7) (ret := (some .int)) (by decide) rfl ?_
  intro p e s m args below meth c s₁ B hml hv
  obtain ⟨rfl, hsz, hP, hK, hD0⟩ := hv
  have hx := B.exec
  have hb := B.bytes
  have hr := B.returns
  have hts := atoms_spec (ws := w_M_line) B.pre
  have hown : s.vm.findClass R_M = some m.cls := findClass_of_methodNamed B.named
  have hlocks := B.notSynchronized
  subst hsz
  have hD := hD0.self (sz := s.heap.size)
  generalize hAe : va_A [(a0, .inr (4, [.int 0, .int 0, .ref r0, .int 1, .int 0, .ref r1, .ref a1, .ref r2, .ref r3, .ref r4, .int 0, .int 0, .int (-1), .int 0, .int (-1), .int 0, .ref r5, .int 0, .ref r6, .ref r7, .ref r8, .ref r9, .ref r10, .int 0, .int 0, .int 0, .ref r11, .ref r12, .int 0, .ref r13, .ref r14, .ref r15, .ref r16, .ref r17, .int 0, .int 0, .int 0, .ref r18])), (a1, .inl (t0, 40, .inl (fun _ => 0)))] s.heap.size = A at hD ⊢
  have hA : ∀ q : Nat, s.heap.size ≤ q → A q := fun q h => by rw [← hAe]; exact Or.inr h
  have hS : va_S A s.heap s.heap [] := va_S.rf
  have hP : va_P (dC, dI) vwCl [(a0, .inr (4, [.int 0, .int 0, .ref r0, .int 1, .int 0, .ref r1, .ref a1, .ref r2, .ref r3, .ref r4, .int 0, .int 0, .int (-1), .int 0, .int (-1), .int 0, .ref r5, .int 0, .ref r6, .ref r7, .ref r8, .ref r9, .ref r10, .int 0, .int 0, .int 0, .ref r11, .ref r12, .int 0, .ref r13, .ref r14, .ref r15, .ref r16, .ref r17, .int 0, .int 0, .int 0, .ref r18])), (a1, .inl (t0, 40, .inl (fun _ => 0)))] s.heap := hP
  have hl := lv_entry ([.ref a0, .int 1, .int 0]) (n := 7) (Nat.le_of_ble_eq_true rfl)
  rw [lg_entry_eq]
  generalize (lg_sl ([.ref a0, .int 1, .int 0]) ++ List.replicate (7 - (lg_sl ([.ref a0, .int 1, .int 0])).length) Slot.unset).toArray = ls at hl ⊢
  have hl : lv_has ls 7 [(0, .ref a0), (1, .int 1), (2, .int 0)] := hl
  refine lv_aload_n hx hb d_M_line_0 rfl (lv_at hl 0 rfl) ?_
  refine lv_aload_n hx hb d_M_line_1 rfl (lv_at hl 0 rfl) ?_
  have hPc := hP.sub (ws' := [(a0, .inr (4, [.int 0, .int 0, .ref r0, .int 1, .int 0, .ref r1, .ref a1, .ref r2, .ref r3, .ref r4, .int 0, .int 0, .int (-1), .int 0, .int (-1), .int 0, .ref r5, .int 0, .ref r6, .ref r7, .ref r8, .ref r9, .ref r10, .int 0, .int 0, .int 0, .ref r11, .ref r12, .int 0, .ref r13, .ref r14, .ref r15, .ref r16, .ref r17, .int 0, .int 0, .int 0, .ref r18])), (a1, .inl (t0, 40, .inl (fun _ => 0)))]) [0, 1] rfl
  have hDc := hD.sub (ws' := [(a0, .inr (4, [.int 0, .int 0, .ref r0, .int 1, .int 0, .ref r1, .ref a1, .ref r2, .ref r3, .ref r4, .int 0, .int 0, .int (-1), .int 0, .int (-1), .int 0, .ref r5, .int 0, .ref r6, .ref r7, .ref r8, .ref r9, .ref r10, .int 0, .int 0, .int 0, .ref r11, .ref r12, .int 0, .ref r13, .ref r14, .ref r15, .ref r16, .ref r17, .int 0, .int 0, .int 0, .ref r18])), (a1, .inl (t0, 40, .inl (fun _ => 0)))]) [0, 1] (by decide) rfl
  have hKc := hK.sub (tys' := [(t0, .int)]) [0] rfl
  have hFc := va_free (wc := [(a0, .inr (4, [.int 0, .int 0, .ref r0, .int 1, .int 0, .ref r1, .ref a1, .ref r2, .ref r3, .ref r4, .int 0, .int 0, .int (-1), .int 0, .int (-1), .int 0, .ref r5, .int 0, .ref r6, .ref r7, .ref r8, .ref r9, .ref r10, .int 0, .int 0, .int 0, .ref r11, .ref r12, .int 0, .ref r13, .ref r14, .ref r15, .ref r16, .ref r17, .int 0, .int 0, .int 0, .ref r18])), (a1, .inl (t0, 40, .inl (fun _ => 0)))]) hD hS hA [0, 1] rfl
  refine va_calli (va_runV (As := []) (rest := [.ref a0]) ⟨hx, hb, hml, hown, hts⟩ (c_M_textLength l dC dI a0 a1 r0 r1 r2 r3 r4 r5 r6 r7 r8 r9 r10 r11 r12 r13 r14 r15 r16 r17 r18 t0 s.heap.size) (cwV 0 hts (gd_v lk_240 lk_241 lk_242 lk_141 lk_239) rfl rfl rfl (by decide +kernel) ⟨Nat.le_of_ble_eq_true rfl, Nat.le_of_ble_eq_true rfl⟩) ⟨fun a U g mk q => by obtain ⟨q0, q1, qP, qK, qD⟩ := q; exact ⟨q0, q1, qP, va_K.moved (u := U) (U := U.calling g mk a) (Vm.Alike.refl U.vm) qK, qD⟩, va_recv (ci := 4) (q0 := 0) hK hP rfl rfl, fun U hU hW => ⟨rfl, by rw [hU], by rw [hU]; exact hPc, va_K.moved hW.alike hKc, hDc.weaken (fun _ _ _ _ => trivial)⟩⟩ rfl rfl hl.1 rfl (lv_room (Nat.le_of_ble_eq_true rfl)) d_M_line_2 ⟨Nat.le_of_ble_eq_true rfl, Nat.le_of_ble_eq_true rfl⟩) hS (fun q _ h => hFc q h) hFc (fun r u t H1 locs ht hvm hw hB hz1 hk1 hS => ?_)
  obtain ⟨hP1, hK1, hD1⟩ := hB
  rw [ht] at hP1
  have hK1 := va_K.moved hvm.symm hK1
  subst hw
  obtain ⟨hP, hD⟩ := va_join (wr := []) (w1 := [(a0, .inr (4, [.int 0, .int 0, .ref r0, .int 1, .int 0, .ref r1, .ref a1, .ref r2, .ref r3, .ref r4, .int 0, .int 0, .int (-1), .int 0, .int (-1), .int 0, .ref r5, .int 0, .ref r6, .ref r7, .ref r8, .ref r9, .ref r10, .int 0, .int 0, .int 0, .ref r11, .ref r12, .int 0, .ref r13, .ref r14, .ref r15, .ref r16, .ref r17, .int 0, .int 0, .int 0, .ref r18])), (a1, .inl (t0, 40, .inl (fun _ => 0)))]) hP hD [0, 1] [] rfl rfl (by decide) (by decide) hk1 hFc hP1 hD1
  generalize H1 = H at hP hS ⊢
  have hP : va_P (dC, dI) vwCl [(a0, .inr (4, [.int 0, .int 0, .ref r0, .int 1, .int 0, .ref r1, .ref a1, .ref r2, .ref r3, .ref r4, .int 0, .int 0, .int (-1), .int 0, .int (-1), .int 0, .ref r5, .int 0, .ref r6, .ref r7, .ref r8, .ref r9, .ref r10, .int 0, .int 0, .int 0, .ref r11, .ref r12, .int 0, .ref r13, .ref r14, .ref r15, .ref r16, .ref r17, .int 0, .int 0, .int 0, .ref r18])), (a1, .inl (t0, 40, .inl (fun _ => 0)))] H := hP
  have hD : va_D A [(a0, .inr (4, [.int 0, .int 0, .ref r0, .int 1, .int 0, .ref r1, .ref a1, .ref r2, .ref r3, .ref r4, .int 0, .int 0, .int (-1), .int 0, .int (-1), .int 0, .ref r5, .int 0, .ref r6, .ref r7, .ref r8, .ref r9, .ref r10, .int 0, .int 0, .int 0, .ref r11, .ref r12, .int 0, .ref r13, .ref r14, .ref r15, .ref r16, .ref r17, .int 0, .int 0, .int 0, .ref r18])), (a1, .inl (t0, 40, .inl (fun _ => 0)))] := hD
  have hPc := hP.sub (ws' := [(a0, .inr (4, [.int 0, .int 0, .ref r0, .int 1, .int 0, .ref r1, .ref a1, .ref r2, .ref r3, .ref r4, .int 0, .int 0, .int (-1), .int 0, .int (-1), .int 0, .ref r5, .int 0, .ref r6, .ref r7, .ref r8, .ref r9, .ref r10, .int 0, .int 0, .int 0, .ref r11, .ref r12, .int 0, .ref r13, .ref r14, .ref r15, .ref r16, .ref r17, .int 0, .int 0, .int 0, .ref r18]))]) [0] rfl
  have hDc := hD.sub (ws' := [(a0, .inr (4, [.int 0, .int 0, .ref r0, .int 1, .int 0, .ref r1, .ref a1, .ref r2, .ref r3, .ref r4, .int 0, .int 0, .int (-1), .int 0, .int (-1), .int 0, .ref r5, .int 0, .ref r6, .ref r7, .ref r8, .ref r9, .ref r10, .int 0, .int 0, .int 0, .ref r11, .ref r12, .int 0, .ref r13, .ref r14, .ref r15, .ref r16, .ref r17, .int 0, .int 0, .int 0, .ref r18]))]) [0] (by decide) rfl
  have hKc := hK.sub (tys' := []) [] rfl
  have hFc := va_free (wc := [(a0, .inr (4, [.int 0, .int 0, .ref r0, .int 1, .int 0, .ref r1, .ref a1, .ref r2, .ref r3, .ref r4, .int 0, .int 0, .int (-1), .int 0, .int (-1), .int 0, .ref r5, .int 0, .ref r6, .ref r7, .ref r8, .ref r9, .ref r10, .int 0, .int 0, .int 0, .ref r11, .ref r12, .int 0, .ref r13, .ref r14, .ref r15, .ref r16, .ref r17, .int 0, .int 0, .int 0, .ref r18]))]) hD hS hA [0] rfl
  refine va_calli (va_runV (As := [.int 0]) (rest := []) ⟨hx, hb, hml, hown, hts⟩ (c_M_breaks l dC dI a0 r0 r1 a1 r2 r3 r4 r5 r6 r7 r8 r9 r10 r11 r12 r13 r14 r15 r16 r17 r18 H.size) (cwV 1 hts (gd_v lk_475 lk_476 lk_477 lk_141 lk_474) rfl rfl rfl (by decide +kernel) ⟨Nat.le_of_ble_eq_true rfl, Nat.le_of_ble_eq_true rfl⟩) ⟨fun a U g mk q => by obtain ⟨q0, q1, qP, qK, qD⟩ := q; exact ⟨q0, q1, qP, va_K.moved (u := U) (U := U.calling g mk a) (Vm.Alike.refl U.vm) qK, qD⟩, va_recv (ci := 4) (q0 := 0) hK hP rfl rfl, fun U hU hW => ⟨rfl, by rw [hU], by rw [hU]; exact hPc, va_K.moved hW.alike hKc, hDc.weaken (fun _ _ _ _ => trivial)⟩⟩ rfl rfl hl.1 rfl (lv_room (Nat.le_of_ble_eq_true rfl)) d_M_line_5 ⟨Nat.le_of_ble_eq_true rfl, Nat.le_of_ble_eq_true rfl⟩) hS (fun q _ h => hFc q h) hFc (fun r u t H1 locs ht hvm hw hB hz1 hk1 hS => ?_)
  obtain ⟨hP1, hK1, hD1⟩ := hB
  rw [ht] at hP1
  have hK1 := va_K.moved hvm.symm hK1
  subst hw
  obtain ⟨hP, hD⟩ := va_join (wr := [(a1, .inl (t0, 40, .inl (fun _ => 0)))]) (w1 := [(a0, .inr (4, [.int 0, .int 0, .ref r0, .int 1, .int 0, .ref r1, .ref a1, .ref r2, .ref r3, .ref r4, .int 0, .int 0, .int (-1), .int 0, .int (-1), .int 0, .ref r5, .int 0, .ref r6, .ref r7, .ref r8, .ref r9, .ref r10, .int 0, .int 0, .int 0, .ref r11, .ref r12, .int 0, .ref r13, .ref r14, .ref r15, .ref r16, .ref r17, .int 0, .int 0, .int 0, .ref r18]))]) hP hD [0] [1] rfl rfl (by decide) (by decide) hk1 hFc hP1 hD1
  generalize H1 = H at hP hS ⊢
  have hP : va_P (dC, dI) vwCl [(a1, .inl (t0, 40, .inl (fun _ => 0))), (a0, .inr (4, [.int 0, .int 0, .ref r0, .int 1, .int 0, .ref r1, .ref a1, .ref r2, .ref r3, .ref r4, .int 0, .int 0, .int (-1), .int 0, .int (-1), .int 0, .ref r5, .int 0, .ref r6, .ref r7, .ref r8, .ref r9, .ref r10, .int 0, .int 0, .int 0, .ref r11, .ref r12, .int 0, .ref r13, .ref r14, .ref r15, .ref r16, .ref r17, .int 0, .int 0, .int 0, .ref r18]))] H := hP
  have hD : va_D A [(a1, .inl (t0, 40, .inl (fun _ => 0))), (a0, .inr (4, [.int 0, .int 0, .ref r0, .int 1, .int 0, .ref r1, .ref a1, .ref r2, .ref r3, .ref r4, .int 0, .int 0, .int (-1), .int 0, .int (-1), .int 0, .ref r5, .int 0, .ref r6, .ref r7, .ref r8, .ref r9, .ref r10, .int 0, .int 0, .int 0, .ref r11, .ref r12, .int 0, .ref r13, .ref r14, .ref r15, .ref r16, .ref r17, .int 0, .int 0, .int 0, .ref r18]))] := hD
  refine lv_iconst (v := 1) hx hb d_M_line_8 (by decide) ?_
  refine t_iadd (v := 1) hx hb d_M_line_9 (by decide +kernel) ?_
  refine lv_istore_n (lv' := [(3, .int 1), (0, .ref a0), (1, .int 1), (2, .int 0)]) hx hb d_M_line_10 rfl hl (by decide) rfl (fun ls hl => ?_)
  have hl : lv_has ls 7 [(3, .int 1), (0, .ref a0), (1, .int 1), (2, .int 0)] := hl
  refine lv_iload_n hx hb d_M_line_11 rfl (lv_at hl 2 rfl) ?_
  refine lv_if_eq (tgt := 44) hx hb d_M_line_12 (by decide) (fun h => absurd h (by decide +kernel)) (fun _ => ?_)
  refine lv_iload_n hx hb d_M_line_15 rfl (lv_at hl 2 rfl) ?_
  refine lv_iconst (v := 1) hx hb d_M_line_16 (by decide) ?_
  refine lv_icmp_ne (tgt := 35) hx hb d_M_line_17 (by decide) (fun h => absurd (by decide +kernel) h) (fun _ => ?_)
  refine lv_iload_n hx hb d_M_line_20 rfl (lv_at hl 3 rfl) ?_
  refine lv_if_lt (tgt := 48) hx hb d_M_line_21 (by decide) (fun h => absurd h (by decide +kernel)) (fun _ => ?_)
  refine lv_iload_n hx hb d_M_line_24 rfl (lv_at hl 3 rfl) ?_
  refine lv_aload_n hx hb d_M_line_25 rfl (lv_at hl 1 rfl) ?_
  have hPc := hP.sub (ws' := [(a0, .inr (4, [.int 0, .int 0, .ref r0, .int 1, .int 0, .ref r1, .ref a1, .ref r2, .ref r3, .ref r4, .int 0, .int 0, .int (-1), .int 0, .int (-1), .int 0, .ref r5, .int 0, .ref r6, .ref r7, .ref r8, .ref r9, .ref r10, .int 0, .int 0, .int 0, .ref r11, .ref r12, .int 0, .ref r13, .ref r14, .ref r15, .ref r16, .ref r17, .int 0, .int 0, .int 0, .ref r18])), (a1, .inl (t0, 40, .inl (fun _ => 0)))]) [1, 0] rfl
  have hDc := hD.sub (ws' := [(a0, .inr (4, [.int 0, .int 0, .ref r0, .int 1, .int 0, .ref r1, .ref a1, .ref r2, .ref r3, .ref r4, .int 0, .int 0, .int (-1), .int 0, .int (-1), .int 0, .ref r5, .int 0, .ref r6, .ref r7, .ref r8, .ref r9, .ref r10, .int 0, .int 0, .int 0, .ref r11, .ref r12, .int 0, .ref r13, .ref r14, .ref r15, .ref r16, .ref r17, .int 0, .int 0, .int 0, .ref r18])), (a1, .inl (t0, 40, .inl (fun _ => 0)))]) [1, 0] (by decide) rfl
  have hKc := hK.sub (tys' := [(t0, .int)]) [0] rfl
  have hFc := va_free (wc := [(a0, .inr (4, [.int 0, .int 0, .ref r0, .int 1, .int 0, .ref r1, .ref a1, .ref r2, .ref r3, .ref r4, .int 0, .int 0, .int (-1), .int 0, .int (-1), .int 0, .ref r5, .int 0, .ref r6, .ref r7, .ref r8, .ref r9, .ref r10, .int 0, .int 0, .int 0, .ref r11, .ref r12, .int 0, .ref r13, .ref r14, .ref r15, .ref r16, .ref r17, .int 0, .int 0, .int 0, .ref r18])), (a1, .inl (t0, 40, .inl (fun _ => 0)))]) hD hS hA [1, 0] rfl
  refine va_calli (va_runV (As := []) (rest := [.int 0]) ⟨hx, hb, hml, hown, hts⟩ (c_M_textLength l dC dI a0 a1 r0 r1 r2 r3 r4 r5 r6 r7 r8 r9 r10 r11 r12 r13 r14 r15 r16 r17 r18 t0 H.size) (cwV 0 hts (gd_v lk_240 lk_241 lk_242 lk_141 lk_239) rfl rfl rfl (by decide +kernel) ⟨Nat.le_of_ble_eq_true rfl, Nat.le_of_ble_eq_true rfl⟩) ⟨fun a U g mk q => by obtain ⟨q0, q1, qP, qK, qD⟩ := q; exact ⟨q0, q1, qP, va_K.moved (u := U) (U := U.calling g mk a) (Vm.Alike.refl U.vm) qK, qD⟩, va_recv (ci := 4) (q0 := 1) hK hP rfl rfl, fun U hU hW => ⟨rfl, by rw [hU], by rw [hU]; exact hPc, va_K.moved hW.alike hKc, hDc.weaken (fun _ _ _ _ => trivial)⟩⟩ rfl rfl hl.1 rfl (lv_room (Nat.le_of_ble_eq_true rfl)) d_M_line_26 ⟨Nat.le_of_ble_eq_true rfl, Nat.le_of_ble_eq_true rfl⟩) hS (fun q _ h => hFc q h) hFc (fun r u t H1 locs ht hvm hw hB hz1 hk1 hS => ?_)
  obtain ⟨hP1, hK1, hD1⟩ := hB
  rw [ht] at hP1
  have hK1 := va_K.moved hvm.symm hK1
  subst hw
  obtain ⟨hP, hD⟩ := va_join (wr := []) (w1 := [(a0, .inr (4, [.int 0, .int 0, .ref r0, .int 1, .int 0, .ref r1, .ref a1, .ref r2, .ref r3, .ref r4, .int 0, .int 0, .int (-1), .int 0, .int (-1), .int 0, .ref r5, .int 0, .ref r6, .ref r7, .ref r8, .ref r9, .ref r10, .int 0, .int 0, .int 0, .ref r11, .ref r12, .int 0, .ref r13, .ref r14, .ref r15, .ref r16, .ref r17, .int 0, .int 0, .int 0, .ref r18])), (a1, .inl (t0, 40, .inl (fun _ => 0)))]) hP hD [1, 0] [] rfl rfl (by decide) (by decide) hk1 hFc hP1 hD1
  generalize H1 = H at hP hS ⊢
  have hP : va_P (dC, dI) vwCl [(a0, .inr (4, [.int 0, .int 0, .ref r0, .int 1, .int 0, .ref r1, .ref a1, .ref r2, .ref r3, .ref r4, .int 0, .int 0, .int (-1), .int 0, .int (-1), .int 0, .ref r5, .int 0, .ref r6, .ref r7, .ref r8, .ref r9, .ref r10, .int 0, .int 0, .int 0, .ref r11, .ref r12, .int 0, .ref r13, .ref r14, .ref r15, .ref r16, .ref r17, .int 0, .int 0, .int 0, .ref r18])), (a1, .inl (t0, 40, .inl (fun _ => 0)))] H := hP
  have hD : va_D A [(a0, .inr (4, [.int 0, .int 0, .ref r0, .int 1, .int 0, .ref r1, .ref a1, .ref r2, .ref r3, .ref r4, .int 0, .int 0, .int (-1), .int 0, .int (-1), .int 0, .ref r5, .int 0, .ref r6, .ref r7, .ref r8, .ref r9, .ref r10, .int 0, .int 0, .int 0, .ref r11, .ref r12, .int 0, .ref r13, .ref r14, .ref r15, .ref r16, .ref r17, .int 0, .int 0, .int 0, .ref r18])), (a1, .inl (t0, 40, .inl (fun _ => 0)))] := hD
  refine lv_icmp_gt (tgt := 48) hx hb d_M_line_29 (by decide) (fun h => absurd h (by decide +kernel)) (fun _ => ?_)
  refine lv_goto (tgt := 44) hx hb d_M_line_32 (by decide) ?_
  refine lv_iconst (v := 1) hx hb d_M_line_44 (by decide) ?_
  refine lv_goto (tgt := 49) hx hb d_M_line_45 (by decide) ?_
  refine lv_istore (lv' := [(4, .int 1), (3, .int 1), (0, .ref a0), (1, .int 1), (2, .int 0)]) hx hb d_M_line_49 hl (by decide) rfl (fun ls hl => ?_)
  have hl : lv_has ls 7 [(4, .int 1), (3, .int 1), (0, .ref a0), (1, .int 1), (2, .int 0)] := hl
  refine lv_aload_n hx hb d_M_line_51 rfl (lv_at hl 2 rfl) ?_
  refine lv_iload_n hx hb d_M_line_52 rfl (lv_at hl 3 rfl) ?_
  refine lv_if_lt (tgt := 61) hx hb d_M_line_53 (by decide) (fun h => absurd h (by decide +kernel)) (fun _ => ?_)
  refine lv_iload_n hx hb d_M_line_56 rfl (lv_at hl 3 rfl) ?_
  refine lv_iconst (v := 3) hx hb d_M_line_57 (by decide) ?_
  refine lv_icmp_le (tgt := 65) hx hb d_M_line_58 (by decide) (fun _ => ?_) (fun h => absurd (by decide +kernel) h)
  refine lv_iload hx hb d_M_line_65 (lv_at hl 0 rfl) ?_
  refine lv_if_ne (tgt := 74) hx hb d_M_line_67 (by decide) (fun _ => ?_) (fun h => absurd h (by decide +kernel))
  refine lv_iconst (v := 0) hx hb d_M_line_74 (by decide) ?_
  refine va_put (D := (dC, dI)) (ci := 4) (v := .int 0) (ty := .int) (C := R_M) (T := F_M) (N := 38) hx hb hts (fun w h => List.mem_cons_of_mem _ (in_M w h)) t_M tk_M n_M hown hK hP hD hS 0 rfl rfl 0 (by decide) (hts _ (List.mem_cons_of_mem _ lk_175)) (fun _ h9 => h9) rfl (by decide +kernel) rfl rfl (Nat.le_of_ble_eq_true rfl) d_M_line_75 (fun H locs hP hD hS => ?_)
  have hP : va_P (dC, dI) vwCl [(a0, .inr (4, [.int 0, .int 0, .ref r0, .int 1, .int 0, .ref r1, .ref a1, .ref r2, .ref r3, .ref r4, .int 0, .int 0, .int (-1), .int 0, .int (-1), .int 0, .ref r5, .int 0, .ref r6, .ref r7, .ref r8, .ref r9, .ref r10, .int 0, .int 0, .int 0, .ref r11, .ref r12, .int 0, .ref r13, .ref r14, .ref r15, .ref r16, .ref r17, .int 0, .int 0, .int 0, .ref r18])), (a1, .inl (t0, 40, .inl (fun _ => 0)))] H := hP
  have hD : va_D A [(a0, .inr (4, [.int 0, .int 0, .ref r0, .int 1, .int 0, .ref r1, .ref a1, .ref r2, .ref r3, .ref r4, .int 0, .int 0, .int (-1), .int 0, .int (-1), .int 0, .ref r5, .int 0, .ref r6, .ref r7, .ref r8, .ref r9, .ref r10, .int 0, .int 0, .int 0, .ref r11, .ref r12, .int 0, .ref r13, .ref r14, .ref r15, .ref r16, .ref r17, .int 0, .int 0, .int 0, .ref r18])), (a1, .inl (t0, 40, .inl (fun _ => 0)))] := hD
  refine lv_aload_n hx hb d_M_line_78 rfl (lv_at hl 2 rfl) ?_
  refine va_get (D := (dC, dI)) (ci := 4) (v := .int 0) (C := R_M) (T := F_M) (N := 38) hx hb hts (fun w h => List.mem_cons_of_mem _ (in_M w h)) hown hK hP 0 rfl rfl 0 (by decide) (hts _ (List.mem_cons_of_mem _ lk_175)) (fun _ h9 => h9) rfl d_M_line_79 ?_
  refine lv_if_le (tgt := 87) hx hb d_M_line_82 (by decide) (fun _ => ?_) (fun h => absurd (by decide +kernel) h)
  refine lv_iload_n hx hb d_M_line_87 rfl (lv_at hl 3 rfl) ?_
  refine lv_iconst (v := 2) hx hb d_M_line_88 (by decide) ?_
  refine lv_icmp_ge (tgt := 106) hx hb d_M_line_89 (by decide) (fun h => absurd h (by decide +kernel)) (fun _ => ?_)
  refine lv_iload_n hx hb d_M_line_92 rfl (lv_at hl 3 rfl) ?_
  refine lv_if_ne (tgt := 100) hx hb d_M_line_93 (by decide) (fun _ => ?_) (fun h => absurd h (by decide +kernel))
  refine lv_aload_n hx hb d_M_line_100 rfl (lv_at hl 2 rfl) ?_
  refine lv_iload_n hx hb d_M_line_101 rfl (lv_at hl 4 rfl) ?_
  have hPc := hP.sub (ws' := [(a0, .inr (4, [.int 0, .int 0, .ref r0, .int 1, .int 0, .ref r1, .ref a1, .ref r2, .ref r3, .ref r4, .int 0, .int 0, .int (-1), .int 0, .int (-1), .int 0, .ref r5, .int 0, .ref r6, .ref r7, .ref r8, .ref r9, .ref r10, .int 0, .int 0, .int 0, .ref r11, .ref r12, .int 0, .ref r13, .ref r14, .ref r15, .ref r16, .ref r17, .int 0, .int 0, .int 0, .ref r18]))]) [0] rfl
  have hDc := hD.sub (ws' := [(a0, .inr (4, [.int 0, .int 0, .ref r0, .int 1, .int 0, .ref r1, .ref a1, .ref r2, .ref r3, .ref r4, .int 0, .int 0, .int (-1), .int 0, .int (-1), .int 0, .ref r5, .int 0, .ref r6, .ref r7, .ref r8, .ref r9, .ref r10, .int 0, .int 0, .int 0, .ref r11, .ref r12, .int 0, .ref r13, .ref r14, .ref r15, .ref r16, .ref r17, .int 0, .int 0, .int 0, .ref r18]))]) [0] (by decide) rfl
  have hKc := hK.sub (tys' := []) [] rfl
  have hFc := va_free (wc := [(a0, .inr (4, [.int 0, .int 0, .ref r0, .int 1, .int 0, .ref r1, .ref a1, .ref r2, .ref r3, .ref r4, .int 0, .int 0, .int (-1), .int 0, .int (-1), .int 0, .ref r5, .int 0, .ref r6, .ref r7, .ref r8, .ref r9, .ref r10, .int 0, .int 0, .int 0, .ref r11, .ref r12, .int 0, .ref r13, .ref r14, .ref r15, .ref r16, .ref r17, .int 0, .int 0, .int 0, .ref r18]))]) hD hS hA [0] rfl
  refine va_calli (va_runV (As := [.int 0]) (rest := []) ⟨hx, hb, hml, hown, hts⟩ (c_M_breaks l dC dI a0 r0 r1 a1 r2 r3 r4 r5 r6 r7 r8 r9 r10 r11 r12 r13 r14 r15 r16 r17 r18 H.size) (cwV 1 hts (gd_v lk_475 lk_476 lk_477 lk_141 lk_474) rfl rfl rfl (by decide +kernel) ⟨Nat.le_of_ble_eq_true rfl, Nat.le_of_ble_eq_true rfl⟩) ⟨fun a U g mk q => by obtain ⟨q0, q1, qP, qK, qD⟩ := q; exact ⟨q0, q1, qP, va_K.moved (u := U) (U := U.calling g mk a) (Vm.Alike.refl U.vm) qK, qD⟩, va_recv (ci := 4) (q0 := 0) hK hP rfl rfl, fun U hU hW => ⟨rfl, by rw [hU], by rw [hU]; exact hPc, va_K.moved hW.alike hKc, hDc.weaken (fun _ _ _ _ => trivial)⟩⟩ rfl rfl hl.1 rfl (lv_room (Nat.le_of_ble_eq_true rfl)) d_M_line_102 ⟨Nat.le_of_ble_eq_true rfl, Nat.le_of_ble_eq_true rfl⟩) hS (fun q _ h => hFc q h) hFc (fun r u t H1 locs ht hvm hw hB hz1 hk1 hS => ?_)
  obtain ⟨hP1, hK1, hD1⟩ := hB
  rw [ht] at hP1
  have hK1 := va_K.moved hvm.symm hK1
  subst hw
  obtain ⟨hP, hD⟩ := va_join (wr := [(a1, .inl (t0, 40, .inl (fun _ => 0)))]) (w1 := [(a0, .inr (4, [.int 0, .int 0, .ref r0, .int 1, .int 0, .ref r1, .ref a1, .ref r2, .ref r3, .ref r4, .int 0, .int 0, .int (-1), .int 0, .int (-1), .int 0, .ref r5, .int 0, .ref r6, .ref r7, .ref r8, .ref r9, .ref r10, .int 0, .int 0, .int 0, .ref r11, .ref r12, .int 0, .ref r13, .ref r14, .ref r15, .ref r16, .ref r17, .int 0, .int 0, .int 0, .ref r18]))]) hP hD [0] [1] rfl rfl (by decide) (by decide) hk1 hFc hP1 hD1
  generalize H1 = H at hP hS ⊢
  have hP : va_P (dC, dI) vwCl [(a1, .inl (t0, 40, .inl (fun _ => 0))), (a0, .inr (4, [.int 0, .int 0, .ref r0, .int 1, .int 0, .ref r1, .ref a1, .ref r2, .ref r3, .ref r4, .int 0, .int 0, .int (-1), .int 0, .int (-1), .int 0, .ref r5, .int 0, .ref r6, .ref r7, .ref r8, .ref r9, .ref r10, .int 0, .int 0, .int 0, .ref r11, .ref r12, .int 0, .ref r13, .ref r14, .ref r15, .ref r16, .ref r17, .int 0, .int 0, .int 0, .ref r18]))] H := hP
  have hD : va_D A [(a1, .inl (t0, 40, .inl (fun _ => 0))), (a0, .inr (4, [.int 0, .int 0, .ref r0, .int 1, .int 0, .ref r1, .ref a1, .ref r2, .ref r3, .ref r4, .int 0, .int 0, .int (-1), .int 0, .int (-1), .int 0, .ref r5, .int 0, .ref r6, .ref r7, .ref r8, .ref r9, .ref r10, .int 0, .int 0, .int 0, .ref r11, .ref r12, .int 0, .ref r13, .ref r14, .ref r15, .ref r16, .ref r17, .int 0, .int 0, .int 0, .ref r18]))] := hD
  have hP9 := hP.sub (ws' := [(a0, .inr (4, [.int 0, .int 0, .ref r0, .int 1, .int 0, .ref r1, .ref a1, .ref r2, .ref r3, .ref r4, .int 0, .int 0, .int (-1), .int 0, .int (-1), .int 0, .ref r5, .int 0, .ref r6, .ref r7, .ref r8, .ref r9, .ref r10, .int 0, .int 0, .int 0, .ref r11, .ref r12, .int 0, .ref r13, .ref r14, .ref r15, .ref r16, .ref r17, .int 0, .int 0, .int 0, .ref r18])), (a1, .inl (t0, 40, .inl (fun _ => 0)))]) [1, 0] rfl
  have hD9 := hD.sub (ws' := [(a0, .inr (4, [.int 0, .int 0, .ref r0, .int 1, .int 0, .ref r1, .ref a1, .ref r2, .ref r3, .ref r4, .int 0, .int 0, .int (-1), .int 0, .int (-1), .int 0, .ref r5, .int 0, .ref r6, .ref r7, .ref r8, .ref r9, .ref r10, .int 0, .int 0, .int 0, .ref r11, .ref r12, .int 0, .ref r13, .ref r14, .ref r15, .ref r16, .ref r17, .int 0, .int 0, .int 0, .ref r18])), (a1, .inl (t0, 40, .inl (fun _ => 0)))]) [1, 0] (by decide) rfl
  have hK9 := hK.sub (tys' := [(t0, .int)]) [0] rfl
  exact W.iret (v := 0) hx hb hr (fun t ht hW => ⟨⟨0, (), rfl, rfl, by rw [ht]; exact hP9, va_K.moved hW.alike hK9, hD9⟩, hS.F ht⟩) hS.2.2 d_M_line_105

