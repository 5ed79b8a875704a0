set_option maxHeartbeats 4000000 in
set_option maxRecDepth 100000 in
theorem c_D_type_3 (l : Launch) (dC : Nat → ClassId) (dI : Nat → Nat → Nat) (a0 r0 r1 r2 r3 r4 r5 r6 : Nat) (sz : Nat) (k0 : Int32) (hh0 : 127 ≤ k0.toInt) : Met l y_D_type w_D_type ({ frames := 0, cells := 0, slots := 0, locals := 0 }) (va_Pc [.ref a0, .int k0] (fun U => U.heap.size = sz ∧ va_P (dC, dI) vwCl [(a0, .inr (0, [.ref r0, .int 0, .ref r1, .int 1, .int 0, .ref r2, .int 0, .int (-1), .ref r3, .ref r4, .int 0, .int (-1), .ref r5, .ref r6]))] U.heap ∧ va_K (dC, dI) vwCl [] U ∧ va_D (fun _ => True) [(a0, .inr (0, [.ref r0, .int 0, .ref r1, .int 1, .int 0, .ref r2, .int 0, .int (-1), .ref r3, .ref r4, .int 0, .int (-1), .ref r5, .ref r6]))])) (va_Qi (fun (r : Int32) (_ : Unit) => r = 0) (fun (_ : Unit) t => va_P (dC, dI) vwCl [(a0, .inr (0, [.ref r0, .int 0, .ref r1, .int 1, .int 0, .ref r2, .int 0, .int (-1), .ref r3, .ref r4, .int 0, .int (-1), .ref r5, .ref r6]))] t.heap ∧ va_K (dC, dI) vwCl [] t ∧ va_D (va_A [(a0, .inr (0, [.ref r0, .int 0, .ref r1, .int 1, .int 0, .ref r2, .int 0, .int (-1), .ref r3, .ref r4, .int 0, .int (-1), .ref r5, .ref r6]))] sz) [(a0, .inr (0, [.ref r0, .int 0, .ref r1, .int 1, .int 0, .ref r2, .int 0, .int (-1), .ref r3, .ref r4, .int 0, .int (-1), .ref r5, .ref r6]))]) (va_A [(a0, .inr (0, [.ref r0, .int 0, .ref r1, .int 1, .int 0, .ref r2, .int 0, .int (-1), .ref r3, .ref r4, .int 0, .int (-1), .ref r5, .ref r6]))] sz)) 0 0 (va_A [(a0, .inr (0, [.ref r0, .int 0, .ref r1, .int 1, .int 0, .ref r2, .int 0, .int (-1), .ref r3, .ref r4, .int 0, .int (-1), .ref r5, .ref r6]))] sz) := by
  refine Met.ofW (cc := prog_1_method_2_code) (maxL := 3) (ret := (some .boolean)) (by decide) rfl ?_
  intro p e s m args below meth c s₁ B hml hv
  obtain ⟨rfl, hsz, hP, hK, hD0⟩ := hv
  have hx := B.exec
  have hb := B.bytes
  have hr := B.returns
  have hts := atoms_spec (ws := w_D_type) B.pre
  have hown : s.vm.findClass R_D = some m.cls := findClass_of_methodNamed B.named
  have hlocks := B.notSynchronized
  subst hsz
  have hD := hD0.self (sz := s.heap.size)
  generalize hAe : va_A [(a0, .inr (0, [.ref r0, .int 0, .ref r1, .int 1, .int 0, .ref r2, .int 0, .int (-1), .ref r3, .ref r4, .int 0, .int (-1), .ref r5, .ref r6]))] s.heap.size = A at hD ⊢
  have hA : ∀ q : Nat, s.heap.size ≤ q → A q := fun q h => by rw [← hAe]; exact Or.inr h
  have hS : va_S A s.heap s.heap [] := va_S.rf
  have hP : va_P (dC, dI) vwCl [(a0, .inr (0, [.ref r0, .int 0, .ref r1, .int 1, .int 0, .ref r2, .int 0, .int (-1), .ref r3, .ref r4, .int 0, .int (-1), .ref r5, .ref r6]))] s.heap := hP
  have hl := lv_entry ([.ref a0, .int k0]) (n := 3) (Nat.le_of_ble_eq_true rfl)
  rw [lg_entry_eq]
  generalize (lg_sl ([.ref a0, .int k0]) ++ List.replicate (3 - (lg_sl ([.ref a0, .int k0])).length) Slot.unset).toArray = ls at hl ⊢
  have hl : lv_has ls 3 [(0, .ref a0), (1, .int k0)] := hl
  refine lv_iload_n hx hb d_D_type_0 rfl (lv_at hl 1 rfl) ?_
  refine lv_bipush (v := 10) hx hb d_D_type_1 (by decide) ?_
  refine lv_icmp_eq (tgt := 18) hx hb d_D_type_3 (by decide) (fun h => absurd h (fun z => absurd ((wk_eq 10 (by decide)).mp z) (by omega))) (fun _ => ?_)
  refine lv_iload_n hx hb d_D_type_6 rfl (lv_at hl 1 rfl) ?_
  refine lv_bipush (v := 32) hx hb d_D_type_7 (by decide) ?_
  refine lv_icmp_lt (tgt := 22) hx hb d_D_type_9 (by decide) (fun h => absurd h (fun z => absurd ((wk_lt 32 (by decide)).mp z) (by omega))) (fun _ => ?_)
  refine lv_iload_n hx hb d_D_type_12 rfl (lv_at hl 1 rfl) ?_
  refine lv_bipush (v := 126) hx hb d_D_type_13 (by decide) ?_
  refine lv_icmp_gt (tgt := 22) hx hb d_D_type_15 (by decide) (fun _ => ?_) (fun h => absurd ((wk_gt 126 (by decide)).mpr (by omega)) h)
  refine lv_iconst (v := 0) hx hb d_D_type_22 (by decide) ?_
  refine lv_istore_n (lv' := [(2, .int 0), (0, .ref a0), (1, .int k0)]) hx hb d_D_type_23 rfl hl (by decide) rfl (fun ls hl => ?_)
  have hl : lv_has ls 3 [(2, .int 0), (0, .ref a0), (1, .int k0)] := hl
  refine lv_iload_n hx hb d_D_type_24 rfl (lv_at hl 0 rfl) ?_
  refine lv_if_eq (tgt := 37) hx hb d_D_type_25 (by decide) (fun _ => ?_) (fun h => absurd (by decide +kernel) h)
  refine lv_iconst (v := 0) hx hb d_D_type_37 (by decide) ?_
  have hP9 := hP.sub (ws' := [(a0, .inr (0, [.ref r0, .int 0, .ref r1, .int 1, .int 0, .ref r2, .int 0, .int (-1), .ref r3, .ref r4, .int 0, .int (-1), .ref r5, .ref r6]))]) [0] rfl
  have hD9 := hD.sub (ws' := [(a0, .inr (0, [.ref r0, .int 0, .ref r1, .int 1, .int 0, .ref r2, .int 0, .int (-1), .ref r3, .ref r4, .int 0, .int (-1), .ref r5, .ref r6]))]) [0] (by decide) rfl
  have hK9 := hK.sub (tys' := []) [] rfl
  exact W.zret (v := 0) hx hb hr rfl (fun t ht hW => ⟨⟨0, (), rfl, rfl, by rw [ht]; exact hP9, va_K.moved hW.alike hK9, hD9⟩, hS.F ht⟩) hS.2.2 d_D_type_38

set_option maxHeartbeats 4000000 in
set_option maxRecDepth 100000 in
theorem c_M_isCharacter_3 (l : Launch) (dC : Nat → ClassId) (dI : Nat → Nat → Nat) (sz : Nat) (k0 : Int32) (hh0 : 127 ≤ k0.toInt) : Met l y_M_isCharacter w_M_isCharacter ({ frames := 0, cells := 0, slots := 0, locals := 0 }) (va_Pc [.int k0] (fun U => U.heap.size = sz ∧ va_P (dC, dI) vwCl [] U.heap ∧ va_K (dC, dI) vwCl [] U ∧ va_D (fun _ => True) [])) (va_Qi (fun (r : Int32) (_ : Unit) => r = 0) (fun (_ : Unit) t => va_P (dC, dI) vwCl [] t.heap ∧ va_K (dC, dI) vwCl [] t ∧ va_D (va_A [] sz) []) (va_A [] sz)) 0 0 (va_A [] sz) := by
  refine Met.ofW (cc := prog_6_method_3_code) (maxL := 1) (ret := (some .boolean)) (by decide) rfl ?_
  intro p e s m args below meth c s₁ B hml hv
  obtain ⟨rfl, hsz, hP, hK, hD0⟩ := hv
  have hx := B.exec
  have hb := B.bytes
  have hr := B.returns
  have hts := atoms_spec (ws := w_M_isCharacter) B.pre
  have hown : s.vm.findClass R_M = some m.cls := findClass_of_methodNamed B.named
  have hlocks := B.notSynchronized
  subst hsz
  have hD := hD0.self (sz := s.heap.size)
  generalize hAe : va_A [] s.heap.size = A at hD ⊢
  have hA : ∀ q : Nat, s.heap.size ≤ q → A q := fun q h => by rw [← hAe]; exact Or.inr h
  have hS : va_S A s.heap s.heap [] := va_S.rf
  have hP : va_P (dC, dI) vwCl [] s.heap := hP
  have hl := lv_entry ([.int k0]) (n := 1) (Nat.le_of_ble_eq_true rfl)
  rw [lg_entry_eq]
  generalize (lg_sl ([.int k0]) ++ List.replicate (1 - (lg_sl ([.int k0])).length) Slot.unset).toArray = ls at hl ⊢
  have hl : lv_has ls 1 [(0, .int k0)] := hl
  refine lv_iload_n hx hb d_M_isCharacter_0 rfl (lv_at hl 0 rfl) ?_
  refine lv_bipush (v := 10) hx hb d_M_isCharacter_1 (by decide) ?_
  refine lv_icmp_eq (tgt := 18) hx hb d_M_isCharacter_3 (by decide) (fun h => absurd h (fun z => absurd ((wk_eq 10 (by decide)).mp z) (by omega))) (fun _ => ?_)
  refine lv_iload_n hx hb d_M_isCharacter_6 rfl (lv_at hl 0 rfl) ?_
  refine lv_bipush (v := 32) hx hb d_M_isCharacter_7 (by decide) ?_
  refine lv_icmp_lt (tgt := 22) hx hb d_M_isCharacter_9 (by decide) (fun h => absurd h (fun z => absurd ((wk_lt 32 (by decide)).mp z) (by omega))) (fun _ => ?_)
  refine lv_iload_n hx hb d_M_isCharacter_12 rfl (lv_at hl 0 rfl) ?_
  refine lv_bipush (v := 126) hx hb d_M_isCharacter_13 (by decide) ?_
  refine lv_icmp_gt (tgt := 22) hx hb d_M_isCharacter_15 (by decide) (fun _ => ?_) (fun h => absurd ((wk_gt 126 (by decide)).mpr (by omega)) h)
  refine lv_iconst (v := 0) hx hb d_M_isCharacter_22 (by decide) ?_
  have hP9 := hP.sub (ws' := []) [] rfl
  have hD9 := hD.sub (ws' := []) [] (by decide) rfl
  have hK9 := hK.sub (tys' := []) [] rfl
  exact W.zret (v := 0) hx hb hr rfl (fun t ht hW => ⟨⟨0, (), rfl, rfl, by rw [ht]; exact hP9, va_K.moved hW.alike hK9, hD9⟩, hS.F ht⟩) hS.2.2 d_M_isCharacter_23

set_option maxHeartbeats 4000000 in
set_option maxRecDepth 100000 in
theorem c_M_type_3 (l : Launch) (dC : Nat → ClassId) (dI : Nat → Nat → Nat) (a0 r0 r1 r2 r3 r4 r5 r6 r7 r8 r9 r10 r11 r12 r13 r14 r15 r16 r17 r18 r19 : Nat) (sz : Nat) (k0 : Int32) (hh0 : 127 ≤ k0.toInt) : Met l y_M_type w_M_type ({ frames := 1, cells := 0, slots := 0, locals := 20 }) (va_Pc [.ref a0, .int k0] (fun U => U.heap.size = sz ∧ va_P (dC, dI) vwCl [(a0, .inr (4, [.int 0, .int 0, .ref r0, .int 1, .int 0, .ref r1, .ref r2, .ref r3, .ref r4, .ref r5, .int 0, .int 0, .int (-1), .int 0, .int (-1), .int 0, .ref r6, .int 0, .ref r7, .ref r8, .ref r9, .ref r10, .ref r11, .int 0, .int 0, .int 0, .ref r12, .ref r13, .int 0, .ref r14, .ref r15, .ref r16, .ref r17, .ref r18, .int 0, .int 0, .int 0, .ref r19]))] U.heap ∧ va_K (dC, dI) vwCl [] U ∧ va_D (fun _ => True) [(a0, .inr (4, [.int 0, .int 0, .ref r0, .int 1, .int 0, .ref r1, .ref r2, .ref r3, .ref r4, .ref r5, .int 0, .int 0, .int (-1), .int 0, .int (-1), .int 0, .ref r6, .int 0, .ref r7, .ref r8, .ref r9, .ref r10, .ref r11, .int 0, .int 0, .int 0, .ref r12, .ref r13, .int 0, .ref r14, .ref r15, .ref r16, .ref r17, .ref r18, .int 0, .int 0, .int 0, .ref r19]))])) (va_Qi (fun (r : Int32) (_ : Unit) => r = 0) (fun (_ : Unit) t => va_P (dC, dI) vwCl [(a0, .inr (4, [.int 0, .int 0, .ref r0, .int 1, .int 0, .ref r1, .ref r2, .ref r3, .ref r4, .ref r5, .int 0, .int 0, .int (-1), .int 0, .int (-1), .int 0, .ref r6, .int 0, .ref r7, .ref r8, .ref r9, .ref r10, .ref r11, .int 0, .int 0, .int 0, .ref r12, .ref r13, .int 0, .ref r14, .ref r15, .ref r16, .ref r17, .ref r18, .int 0, .int 0, .int 0, .ref r19]))] t.heap ∧ va_K (dC, dI) vwCl [] t ∧ va_D (va_A [(a0, .inr (4, [.int 0, .int 0, .ref r0, .int 1, .int 0, .ref r1, .ref r2, .ref r3, .ref r4, .ref r5, .int 0, .int 0, .int (-1), .int 0, .int (-1), .int 0, .ref r6, .int 0, .ref r7, .ref r8, .ref r9, .ref r10, .ref r11, .int 0, .int 0, .int 0, .ref r12, .ref r13, .int 0, .ref r14, .ref r15, .ref r16, .ref r17, .ref r18, .int 0, .int 0, .int 0, .ref r19]))] sz) [(a0, .inr (4, [.int 0, .int 0, .ref r0, .int 1, .int 0, .ref r1, .ref r2, .ref r3, .ref r4, .ref r5, .int 0, .int 0, .int (-1), .int 0, .int (-1), .int 0, .ref r6, .int 0, .ref r7, .ref r8, .ref r9, .ref r10, .ref r11, .int 0, .int 0, .int 0, .ref r12, .ref r13, .int 0, .ref r14, .ref r15, .ref r16, .ref r17, .ref r18, .int 0, .int 0, .int 0, .ref r19]))]) (va_A [(a0, .inr (4, [.int 0, .int 0, .ref r0, .int 1, .int 0, .ref r1, .ref r2, .ref r3, .ref r4, .ref r5, .int 0, .int 0, .int (-1), .int 0, .int (-1), .int 0, .ref r6, .int 0, .ref r7, .ref r8, .ref r9, .ref r10, .ref r11, .int 0, .int 0, .int 0, .ref r12, .ref r13, .int 0, .ref r14, .ref r15, .ref r16, .ref r17, .ref r18, .int 0, .int 0, .int 0, .ref r19]))] sz)) 0 0 (va_A [(a0, .inr (4, [.int 0, .int 0, .ref r0, .int 1, .int 0, .ref r1, .ref r2, .ref r3, .ref r4, .ref r5, .int 0, .int 0, .int (-1), .int 0, .int (-1), .int 0, .ref r6, .int 0, .ref r7, .ref r8, .ref r9, .ref r10, .ref r11, .int 0, .int 0, .int 0, .ref r12, .ref r13, .int 0, .ref r14, .ref r15, .ref r16, .ref r17, .ref r18, .int 0, .int 0, .int 0, .ref r19]))] sz) := by
  refine Met.ofW (cc := prog_6_method_4_code) (maxL := 2) (ret := (some .boolean)) (by decide) rfl ?_
  intro p e s m args below meth c s₁ B hml hv
  obtain ⟨rfl, hsz, hP, hK, hD0⟩ := hv
  have hx := B.exec
  have hb := B.bytes
  have hr := B.returns
  have hts := atoms_spec (ws := w_M_type) B.pre
  have hown : s.vm.findClass R_M = some m.cls := findClass_of_methodNamed B.named
  have hlocks := B.notSynchronized
  subst hsz
  have hD := hD0.self (sz := s.heap.size)
  generalize hAe : va_A [(a0, .inr (4, [.int 0, .int 0, .ref r0, .int 1, .int 0, .ref r1, .ref r2, .ref r3, .ref r4, .ref r5, .int 0, .int 0, .int (-1), .int 0, .int (-1), .int 0, .ref r6, .int 0, .ref r7, .ref r8, .ref r9, .ref r10, .ref r11, .int 0, .int 0, .int 0, .ref r12, .ref r13, .int 0, .ref r14, .ref r15, .ref r16, .ref r17, .ref r18, .int 0, .int 0, .int 0, .ref r19]))] s.heap.size = A at hD ⊢
  have hA : ∀ q : Nat, s.heap.size ≤ q → A q := fun q h => by rw [← hAe]; exact Or.inr h
  have hS : va_S A s.heap s.heap [] := va_S.rf
  have hP : va_P (dC, dI) vwCl [(a0, .inr (4, [.int 0, .int 0, .ref r0, .int 1, .int 0, .ref r1, .ref r2, .ref r3, .ref r4, .ref r5, .int 0, .int 0, .int (-1), .int 0, .int (-1), .int 0, .ref r6, .int 0, .ref r7, .ref r8, .ref r9, .ref r10, .ref r11, .int 0, .int 0, .int 0, .ref r12, .ref r13, .int 0, .ref r14, .ref r15, .ref r16, .ref r17, .ref r18, .int 0, .int 0, .int 0, .ref r19]))] s.heap := hP
  have hl := lv_entry ([.ref a0, .int k0]) (n := 2) (Nat.le_of_ble_eq_true rfl)
  rw [lg_entry_eq]
  generalize (lg_sl ([.ref a0, .int k0]) ++ List.replicate (2 - (lg_sl ([.ref a0, .int k0])).length) Slot.unset).toArray = ls at hl ⊢
  have hl : lv_has ls 2 [(0, .ref a0), (1, .int k0)] := hl
  refine lv_aload_n hx hb d_M_type_0 rfl (lv_at hl 0 rfl) ?_
  refine lv_iconst (v := 0) hx hb d_M_type_1 (by decide) ?_
  refine va_put (D := (dC, dI)) (ci := 4) (v := .int 0) (ty := .int) (C := R_M) (T := F_M) (N := 38) hx hb hts (fun w h => List.mem_cons_of_mem _ (in_M w h)) t_M tk_M n_M hown hK hP hD hS 0 rfl rfl 0 (by decide) (hts _ (List.mem_cons_of_mem _ lk_175)) (fun _ h9 => h9) rfl (by decide +kernel) rfl rfl (Nat.le_of_ble_eq_true rfl) d_M_type_2 (fun H locs hP hD hS => ?_)
  have hP : va_P (dC, dI) vwCl [(a0, .inr (4, [.int 0, .int 0, .ref r0, .int 1, .int 0, .ref r1, .ref r2, .ref r3, .ref r4, .ref r5, .int 0, .int 0, .int (-1), .int 0, .int (-1), .int 0, .ref r6, .int 0, .ref r7, .ref r8, .ref r9, .ref r10, .ref r11, .int 0, .int 0, .int 0, .ref r12, .ref r13, .int 0, .ref r14, .ref r15, .ref r16, .ref r17, .ref r18, .int 0, .int 0, .int 0, .ref r19]))] H := hP
  have hD : va_D A [(a0, .inr (4, [.int 0, .int 0, .ref r0, .int 1, .int 0, .ref r1, .ref r2, .ref r3, .ref r4, .ref r5, .int 0, .int 0, .int (-1), .int 0, .int (-1), .int 0, .ref r6, .int 0, .ref r7, .ref r8, .ref r9, .ref r10, .ref r11, .int 0, .int 0, .int 0, .ref r12, .ref r13, .int 0, .ref r14, .ref r15, .ref r16, .ref r17, .ref r18, .int 0, .int 0, .int 0, .ref r19]))] := hD
  refine lv_iload_n hx hb d_M_type_5 rfl (lv_at hl 1 rfl) ?_
  have hPc := hP.sub (ws' := []) [] rfl
  have hDc := hD.sub (ws' := []) [] (by decide) rfl
  have hKc := hK.sub (tys' := []) [] rfl
  have hFc := va_free (wc := []) hD hS hA [] rfl
  refine va_calli (va_runS (As := [.int k0]) (rest := []) ⟨hx, hb, hml, hown, hts⟩ (c_M_isCharacter_3 l dC dI H.size k0 (by omega)) (cwS 1 hts (gd_s lk_177 lk_178 lk_141 lk_176) rfl rfl rfl (by decide +kernel) ⟨Nat.le_of_ble_eq_true rfl, Nat.le_of_ble_eq_true rfl⟩) ⟨fun a U g mk q => by obtain ⟨q0, q1, qP, qK, qD⟩ := q; exact ⟨q0, q1, qP, va_K.moved (u := U) (U := U.calling g mk a) (Vm.Alike.refl U.vm) qK, qD⟩, fun U hU hW => ⟨rfl, by rw [hU], by rw [hU]; exact hPc, va_K.moved hW.alike hKc, hDc.weaken (fun _ _ _ _ => trivial)⟩⟩ rfl rfl hl.1 rfl (lv_room (Nat.le_of_ble_eq_true rfl)) d_M_type_6 ⟨Nat.le_of_ble_eq_true rfl, Nat.le_of_ble_eq_true rfl⟩) hS (fun q _ h => hFc q h) hFc (fun r u t H1 locs ht hvm hw hB hz1 hk1 hS => ?_)
  obtain ⟨hP1, hK1, hD1⟩ := hB
  rw [ht] at hP1
  have hK1 := va_K.moved hvm.symm hK1
  subst hw
  obtain ⟨hP, hD⟩ := va_join (wr := [(a0, .inr (4, [.int 0, .int 0, .ref r0, .int 1, .int 0, .ref r1, .ref r2, .ref r3, .ref r4, .ref r5, .int 0, .int 0, .int (-1), .int 0, .int (-1), .int 0, .ref r6, .int 0, .ref r7, .ref r8, .ref r9, .ref r10, .ref r11, .int 0, .int 0, .int 0, .ref r12, .ref r13, .int 0, .ref r14, .ref r15, .ref r16, .ref r17, .ref r18, .int 0, .int 0, .int 0, .ref r19]))]) (w1 := []) hP hD [] [0] rfl rfl (by decide) (by decide) hk1 hFc hP1 hD1
  generalize H1 = H at hP hS ⊢
  have hP : va_P (dC, dI) vwCl [(a0, .inr (4, [.int 0, .int 0, .ref r0, .int 1, .int 0, .ref r1, .ref r2, .ref r3, .ref r4, .ref r5, .int 0, .int 0, .int (-1), .int 0, .int (-1), .int 0, .ref r6, .int 0, .ref r7, .ref r8, .ref r9, .ref r10, .ref r11, .int 0, .int 0, .int 0, .ref r12, .ref r13, .int 0, .ref r14, .ref r15, .ref r16, .ref r17, .ref r18, .int 0, .int 0, .int 0, .ref r19]))] H := hP
  have hD : va_D A [(a0, .inr (4, [.int 0, .int 0, .ref r0, .int 1, .int 0, .ref r1, .ref r2, .ref r3, .ref r4, .ref r5, .int 0, .int 0, .int (-1), .int 0, .int (-1), .int 0, .ref r6, .int 0, .ref r7, .ref r8, .ref r9, .ref r10, .ref r11, .int 0, .int 0, .int 0, .ref r12, .ref r13, .int 0, .ref r14, .ref r15, .ref r16, .ref r17, .ref r18, .int 0, .int 0, .int 0, .ref r19]))] := hD
  refine lv_if_eq (tgt := 21) hx hb d_M_type_9 (by decide) (fun _ => ?_) (fun h => absurd (by decide +kernel) h)
  refine lv_iconst (v := 0) hx hb d_M_type_21 (by decide) ?_
  have hP9 := hP.sub (ws' := [(a0, .inr (4, [.int 0, .int 0, .ref r0, .int 1, .int 0, .ref r1, .ref r2, .ref r3, .ref r4, .ref r5, .int 0, .int 0, .int (-1), .int 0, .int (-1), .int 0, .ref r6, .int 0, .ref r7, .ref r8, .ref r9, .ref r10, .ref r11, .int 0, .int 0, .int 0, .ref r12, .ref r13, .int 0, .ref r14, .ref r15, .ref r16, .ref r17, .ref r18, .int 0, .int 0, .int 0, .ref r19]))]) [0] rfl
  have hD9 := hD.sub (ws' := [(a0, .inr (4, [.int 0, .int 0, .ref r0, .int 1, .int 0, .ref r1, .ref r2, .ref r3, .ref r4, .ref r5, .int 0, .int 0, .int (-1), .int 0, .int (-1), .int 0, .ref r6, .int 0, .ref r7, .ref r8, .ref r9, .ref r10, .ref r11, .int 0, .int 0, .int 0, .ref r12, .ref r13, .int 0, .ref r14, .ref r15, .ref r16, .ref r17, .ref r18, .int 0, .int 0, .int 0, .ref r19]))]) [0] (by decide) rfl
  have hK9 := hK.sub (tys' := []) [] rfl
  exact W.zret (v := 0) hx hb hr rfl (fun t ht hW => ⟨⟨0, (), rfl, rfl, by rw [ht]; exact hP9, va_K.moved hW.alike hK9, hD9⟩, hS.F ht⟩) hS.2.2 d_M_type_22

set_option maxHeartbeats 4000000 in
set_option maxRecDepth 100000 in
theorem c_D_type_4 (l : Launch) (dC : Nat → ClassId) (dI : Nat → Nat → Nat) (a0 a1 r0 r1 r2 r3 r4 r5 : Nat) (t0 : ClassId) (sz : Nat) (k0 : Int32) (hh0 : 32 ≤ k0.toInt) (hh1 : k0.toInt ≤ 126) : Met l y_D_type w_D_type ({ frames := 0, cells := 0, slots := 0, locals := 0 }) (va_Pc [.ref a0, .int k0] (fun U => U.heap.size = sz ∧ va_P (dC, dI) vwCl [(a0, .inr (0, [.ref a1, .int 0, .ref r0, .int 1, .int 0, .ref r1, .int 0, .int (-1), .ref r2, .ref r3, .int 0, .int (-1), .ref r4, .ref r5])), (a1, .inl (t0, 24, .inl (fun _ => 0)))] U.heap ∧ va_K (dC, dI) vwCl [(t0, .char)] U ∧ va_D (fun _ => True) [(a0, .inr (0, [.ref a1, .int 0, .ref r0, .int 1, .int 0, .ref r1, .int 0, .int (-1), .ref r2, .ref r3, .int 0, .int (-1), .ref r4, .ref r5])), (a1, .inl (t0, 24, .inl (fun _ => 0)))])) (va_Qi (fun (r : Int32) (_ : Unit) => r = 1) (fun (_ : Unit) t => va_P (dC, dI) vwCl [(a0, .inr (0, [.ref a1, .int 1, .ref r0, .int 1, .int 0, .ref r1, .int 0, .int (-1), .ref r2, .ref r3, .int 0, .int (-1), .ref r4, .ref r5])), (a1, .inl (t0, 24, .inl (upd (fun _ => 0) 0 (vp_nar .char k0))))] t.heap ∧ va_K (dC, dI) vwCl [(t0, .char)] t ∧ va_D (va_A [(a0, .inr (0, [.ref a1, .int 0, .ref r0, .int 1, .int 0, .ref r1, .int 0, .int (-1), .ref r2, .ref r3, .int 0, .int (-1), .ref r4, .ref r5])), (a1, .inl (t0, 24, .inl (fun _ => 0)))] sz) [(a0, .inr (0, [.ref a1, .int 1, .ref r0, .int 1, .int 0, .ref r1, .int 0, .int (-1), .ref r2, .ref r3, .int 0, .int (-1), .ref r4, .ref r5])), (a1, .inl (t0, 24, .inl (upd (fun _ => 0) 0 (vp_nar .char k0))))]) (va_A [(a0, .inr (0, [.ref a1, .int 0, .ref r0, .int 1, .int 0, .ref r1, .int 0, .int (-1), .ref r2, .ref r3, .int 0, .int (-1), .ref r4, .ref r5])), (a1, .inl (t0, 24, .inl (fun _ => 0)))] sz)) 0 0 (va_A [(a0, .inr (0, [.ref a1, .int 0, .ref r0, .int 1, .int 0, .ref r1, .int 0, .int (-1), .ref r2, .ref r3, .int 0, .int (-1), .ref r4, .ref r5])), (a1, .inl (t0, 24, .inl (fun _ => 0)))] sz) := by
  refine Met.ofW (cc := prog_1_method_2_code) (maxL := 3) (ret := (some .boolean)) (by decide) rfl ?_
  intro p e s m args below meth c s₁ B hml hv
  obtain ⟨rfl, hsz, hP, hK, hD0⟩ := hv
  have hx := B.exec
  have hb := B.bytes
  have hr := B.returns
  have hts := atoms_spec (ws := w_D_type) B.pre
  have hown : s.vm.findClass R_D = some m.cls := findClass_of_methodNamed B.named
  have hlocks := B.notSynchronized
  subst hsz
  have hD := hD0.self (sz := s.heap.size)
  generalize hAe : va_A [(a0, .inr (0, [.ref a1, .int 0, .ref r0, .int 1, .int 0, .ref r1, .int 0, .int (-1), .ref r2, .ref r3, .int 0, .int (-1), .ref r4, .ref r5])), (a1, .inl (t0, 24, .inl (fun _ => 0)))] s.heap.size = A at hD ⊢
  have hA : ∀ q : Nat, s.heap.size ≤ q → A q := fun q h => by rw [← hAe]; exact Or.inr h
  have hS : va_S A s.heap s.heap [] := va_S.rf
  have hP : va_P (dC, dI) vwCl [(a0, .inr (0, [.ref a1, .int 0, .ref r0, .int 1, .int 0, .ref r1, .int 0, .int (-1), .ref r2, .ref r3, .int 0, .int (-1), .ref r4, .ref r5])), (a1, .inl (t0, 24, .inl (fun _ => 0)))] s.heap := hP
  have hl := lv_entry ([.ref a0, .int k0]) (n := 3) (Nat.le_of_ble_eq_true rfl)
  rw [lg_entry_eq]
  generalize (lg_sl ([.ref a0, .int k0]) ++ List.replicate (3 - (lg_sl ([.ref a0, .int k0])).length) Slot.unset).toArray = ls at hl ⊢
  have hl : lv_has ls 3 [(0, .ref a0), (1, .int k0)] := hl
  refine lv_iload_n hx hb d_D_type_0 rfl (lv_at hl 1 rfl) ?_
  refine lv_bipush (v := 10) hx hb d_D_type_1 (by decide) ?_
  refine lv_icmp_eq (tgt := 18) hx hb d_D_type_3 (by decide) (fun h => absurd h (fun z => absurd ((wk_eq 10 (by decide)).mp z) (by omega))) (fun _ => ?_)
  refine lv_iload_n hx hb d_D_type_6 rfl (lv_at hl 1 rfl) ?_
  refine lv_bipush (v := 32) hx hb d_D_type_7 (by decide) ?_
  refine lv_icmp_lt (tgt := 22) hx hb d_D_type_9 (by decide) (fun h => absurd h (fun z => absurd ((wk_lt 32 (by decide)).mp z) (by omega))) (fun _ => ?_)
  refine lv_iload_n hx hb d_D_type_12 rfl (lv_at hl 1 rfl) ?_
  refine lv_bipush (v := 126) hx hb d_D_type_13 (by decide) ?_
  refine lv_icmp_gt (tgt := 22) hx hb d_D_type_15 (by decide) (fun h => absurd h (fun z => absurd ((wk_gt 126 (by decide)).mp z) (by omega))) (fun _ => ?_)
  refine lv_iconst (v := 1) hx hb d_D_type_18 (by decide) ?_
  refine lv_goto (tgt := 23) hx hb d_D_type_19 (by decide) ?_
  refine lv_istore_n (lv' := [(2, .int 1), (0, .ref a0), (1, .int k0)]) hx hb d_D_type_23 rfl hl (by decide) rfl (fun ls hl => ?_)
  have hl : lv_has ls 3 [(2, .int 1), (0, .ref a0), (1, .int k0)] := hl
  refine lv_iload_n hx hb d_D_type_24 rfl (lv_at hl 0 rfl) ?_
  refine lv_if_eq (tgt := 37) hx hb d_D_type_25 (by decide) (fun h => absurd h (by decide +kernel)) (fun _ => ?_)
  refine lv_aload_n hx hb d_D_type_28 rfl (lv_at hl 1 rfl) ?_
  refine va_get (D := (dC, dI)) (ci := 0) (v := .int 0) (C := R_D) (T := F_D) (N := 14) hx hb hts (fun w h => List.mem_cons_of_mem _ (in_D w h)) hown hK hP 0 rfl rfl 1 (by decide) (hts _ (List.mem_cons_of_mem _ lk_170)) (fun _ h9 => h9) rfl d_D_type_29 ?_
  refine lv_bipush (v := 24) hx hb d_D_type_32 (by decide) ?_
  refine lv_icmp_ne (tgt := 39) hx hb d_D_type_34 (by decide) (fun _ => ?_) (fun h => absurd h (by decide +kernel))
  refine lv_aload_n hx hb d_D_type_39 rfl (lv_at hl 1 rfl) ?_
  refine va_get (D := (dC, dI)) (ci := 0) (v := .ref a1) (C := R_D) (T := F_D) (N := 14) hx hb hts (fun w h => List.mem_cons_of_mem _ (in_D w h)) hown hK hP 0 rfl rfl 0 (by decide) (hts _ (List.mem_cons_of_mem _ lk_21)) (fun _ h9 => h9) rfl d_D_type_40 ?_
  refine lv_aload_n hx hb d_D_type_43 rfl (lv_at hl 1 rfl) ?_
  refine va_get (D := (dC, dI)) (ci := 0) (v := .int 0) (C := R_D) (T := F_D) (N := 14) hx hb hts (fun w h => List.mem_cons_of_mem _ (in_D w h)) hown hK hP 0 rfl rfl 1 (by decide) (hts _ (List.mem_cons_of_mem _ lk_170)) (fun _ h9 => h9) rfl d_D_type_44 ?_
  refine lv_iload_n hx hb d_D_type_47 rfl (lv_at hl 2 rfl) ?_
  refine va_cast hx hb hK hP hD hS 1 0 rfl rfl (wk_in (by decide +kernel)) d_D_type_48 (fun H locs hP hD hS => ?_)
  have hP : va_P (dC, dI) vwCl [(a0, .inr (0, [.ref a1, .int 0, .ref r0, .int 1, .int 0, .ref r1, .int 0, .int (-1), .ref r2, .ref r3, .int 0, .int (-1), .ref r4, .ref r5])), (a1, .inl (t0, 24, .inl (upd (fun _ => 0) 0 (vp_nar .char k0))))] H := hP
  have hD : va_D A [(a0, .inr (0, [.ref a1, .int 0, .ref r0, .int 1, .int 0, .ref r1, .int 0, .int (-1), .ref r2, .ref r3, .int 0, .int (-1), .ref r4, .ref r5])), (a1, .inl (t0, 24, .inl (upd (fun _ => 0) 0 (vp_nar .char k0))))] := hD
  refine lv_aload_n hx hb d_D_type_49 rfl (lv_at hl 1 rfl) ?_
  refine lv_dup hx hb d_D_type_50 rfl ?_
  refine va_get (D := (dC, dI)) (ci := 0) (v := .int 0) (C := R_D) (T := F_D) (N := 14) hx hb hts (fun w h => List.mem_cons_of_mem _ (in_D w h)) hown hK hP 0 rfl rfl 1 (by decide) (hts _ (List.mem_cons_of_mem _ lk_170)) (fun _ h9 => h9) rfl d_D_type_51 ?_
  refine lv_iconst (v := 1) hx hb d_D_type_54 (by decide) ?_
  refine t_iadd (v := 1) hx hb d_D_type_55 (by decide +kernel) ?_
  refine va_put (D := (dC, dI)) (ci := 0) (v := .int 1) (ty := .int) (C := R_D) (T := F_D) (N := 14) hx hb hts (fun w h => List.mem_cons_of_mem _ (in_D w h)) t_D tk_D n_D hown hK hP hD hS 0 rfl rfl 1 (by decide) (hts _ (List.mem_cons_of_mem _ lk_170)) (fun _ h9 => h9) rfl (by decide +kernel) rfl rfl (Nat.le_of_ble_eq_true rfl) d_D_type_56 (fun H locs hP hD hS => ?_)
  have hP : va_P (dC, dI) vwCl [(a0, .inr (0, [.ref a1, .int 1, .ref r0, .int 1, .int 0, .ref r1, .int 0, .int (-1), .ref r2, .ref r3, .int 0, .int (-1), .ref r4, .ref r5])), (a1, .inl (t0, 24, .inl (upd (fun _ => 0) 0 (vp_nar .char k0))))] H := hP
  have hD : va_D A [(a0, .inr (0, [.ref a1, .int 1, .ref r0, .int 1, .int 0, .ref r1, .int 0, .int (-1), .ref r2, .ref r3, .int 0, .int (-1), .ref r4, .ref r5])), (a1, .inl (t0, 24, .inl (upd (fun _ => 0) 0 (vp_nar .char k0))))] := hD
  refine lv_iconst (v := 1) hx hb d_D_type_59 (by decide) ?_
  have hP9 := hP.sub (ws' := [(a0, .inr (0, [.ref a1, .int 1, .ref r0, .int 1, .int 0, .ref r1, .int 0, .int (-1), .ref r2, .ref r3, .int 0, .int (-1), .ref r4, .ref r5])), (a1, .inl (t0, 24, .inl (upd (fun _ => 0) 0 (vp_nar .char k0))))]) [0, 1] rfl
  have hD9 := hD.sub (ws' := [(a0, .inr (0, [.ref a1, .int 1, .ref r0, .int 1, .int 0, .ref r1, .int 0, .int (-1), .ref r2, .ref r3, .int 0, .int (-1), .ref r4, .ref r5])), (a1, .inl (t0, 24, .inl (upd (fun _ => 0) 0 (vp_nar .char k0))))]) [0, 1] (by decide) rfl
  have hK9 := hK.sub (tys' := [(t0, .char)]) [0] rfl
  exact W.zret (v := 1) hx hb hr rfl (fun t ht hW => ⟨⟨1, (), rfl, rfl, by rw [ht]; exact hP9, va_K.moved hW.alike hK9, hD9⟩, hS.F ht⟩) hS.2.2 d_D_type_60

set_option maxHeartbeats 4000000 in
set_option maxRecDepth 100000 in
theorem c_M_isCharacter_4 (l : Launch) (dC : Nat → ClassId) (dI : Nat → Nat → Nat) (sz : Nat) (k0 : Int32) (hh0 : 32 ≤ k0.toInt) (hh1 : k0.toInt ≤ 126) : Met l y_M_isCharacter w_M_isCharacter ({ frames := 0, cells := 0, slots := 0, locals := 0 }) (va_Pc [.int k0] (fun U => U.heap.size = sz ∧ va_P (dC, dI) vwCl [] U.heap ∧ va_K (dC, dI) vwCl [] U ∧ va_D (fun _ => True) [])) (va_Qi (fun (r : Int32) (_ : Unit) => r = 1) (fun (_ : Unit) t => va_P (dC, dI) vwCl [] t.heap ∧ va_K (dC, dI) vwCl [] t ∧ va_D (va_A [] sz) []) (va_A [] sz)) 0 0 (va_A [] sz) := by
  refine Met.ofW (cc := prog_6_method_3_code) (maxL := 1) (ret := (some .boolean)) (by decide) rfl ?_
  intro p e s m args below meth c s₁ B hml hv
  obtain ⟨rfl, hsz, hP, hK, hD0⟩ := hv
  have hx := B.exec
  have hb := B.bytes
  have hr := B.returns
  have hts := atoms_spec (ws := w_M_isCharacter) B.pre
  have hown : s.vm.findClass R_M = some m.cls := findClass_of_methodNamed B.named
  have hlocks := B.notSynchronized
  subst hsz
  have hD := hD0.self (sz := s.heap.size)
  generalize hAe : va_A [] s.heap.size = A at hD ⊢
  have hA : ∀ q : Nat, s.heap.size ≤ q → A q := fun q h => by rw [← hAe]; exact Or.inr h
  have hS : va_S A s.heap s.heap [] := va_S.rf
  have hP : va_P (dC, dI) vwCl [] s.heap := hP
  have hl := lv_entry ([.int k0]) (n := 1) (Nat.le_of_ble_eq_true rfl)
  rw [lg_entry_eq]
  generalize (lg_sl ([.int k0]) ++ List.replicate (1 - (lg_sl ([.int k0])).length) Slot.unset).toArray = ls at hl ⊢
  have hl : lv_has ls 1 [(0, .int k0)] := hl
  refine lv_iload_n hx hb d_M_isCharacter_0 rfl (lv_at hl 0 rfl) ?_
  refine lv_bipush (v := 10) hx hb d_M_isCharacter_1 (by decide) ?_
  refine lv_icmp_eq (tgt := 18) hx hb d_M_isCharacter_3 (by decide) (fun h => absurd h (fun z => absurd ((wk_eq 10 (by decide)).mp z) (by omega))) (fun _ => ?_)
  refine lv_iload_n hx hb d_M_isCharacter_6 rfl (lv_at hl 0 rfl) ?_
  refine lv_bipush (v := 32) hx hb d_M_isCharacter_7 (by decide) ?_
  refine lv_icmp_lt (tgt := 22) hx hb d_M_isCharacter_9 (by decide) (fun h => absurd h (fun z => absurd ((wk_lt 32 (by decide)).mp z) (by omega))) (fun _ => ?_)
  refine lv_iload_n hx hb d_M_isCharacter_12 rfl (lv_at hl 0 rfl) ?_
  refine lv_bipush (v := 126) hx hb d_M_isCharacter_13 (by decide) ?_
  refine lv_icmp_gt (tgt := 22) hx hb d_M_isCharacter_15 (by decide) (fun h => absurd h (fun z => absurd ((wk_gt 126 (by decide)).mp z) (by omega))) (fun _ => ?_)
  refine lv_iconst (v := 1) hx hb d_M_isCharacter_18 (by decide) ?_
  refine lv_goto (tgt := 23) hx hb d_M_isCharacter_19 (by decide) ?_
  have hP9 := hP.sub (ws' := []) [] rfl
  have hD9 := hD.sub (ws' := []) [] (by decide) rfl
  have hK9 := hK.sub (tys' := []) [] rfl
  exact W.zret (v := 1) hx hb hr rfl (fun t ht hW => ⟨⟨1, (), rfl, rfl, by rw [ht]; exact hP9, va_K.moved hW.alike hK9, hD9⟩, hS.F ht⟩) hS.2.2 d_M_isCharacter_23

set_option maxHeartbeats 4000000 in
set_option maxRecDepth 100000 in
theorem c_M_type_4 (l : Launch) (dC : Nat → ClassId) (dI : Nat → Nat → Nat) (a0 a1 r0 r1 r2 r3 r4 r5 r6 r7 r8 r9 r10 r11 r12 r13 r14 r15 r16 r17 r18 : Nat) (t0 : ClassId) (sz : Nat) (k0 : Int32) (hh0 : 32 ≤ k0.toInt) (hh1 : k0.toInt ≤ 126) : Met l y_M_type w_M_type ({ frames := 1, cells := 0, slots := 0, locals := 20 }) (va_Pc [.ref a0, .int k0] (fun U => U.heap.size = sz ∧ va_P (dC, dI) vwCl [(a0, .inr (4, [.int 0, .int 0, .ref a1, .int 1, .int 0, .ref r0, .ref r1, .ref r2, .ref r3, .ref r4, .int 0, .int 0, .int (-1), .int 0, .int (-1), .int 0, .ref r5, .int 0, .ref r6, .ref r7, .ref r8, .ref r9, .ref r10, .int 0, .int 0, .int 0, .ref r11, .ref r12, .int 0, .ref r13, .ref r14, .ref r15, .ref r16, .ref r17, .int 0, .int 0, .int 0, .ref r18])), (a1, .inl (t0, 24, .inl (fun _ => 0)))] U.heap ∧ va_K (dC, dI) vwCl [(t0, .char)] U ∧ va_D (fun _ => True) [(a0, .inr (4, [.int 0, .int 0, .ref a1, .int 1, .int 0, .ref r0, .ref r1, .ref r2, .ref r3, .ref r4, .int 0, .int 0, .int (-1), .int 0, .int (-1), .int 0, .ref r5, .int 0, .ref r6, .ref r7, .ref r8, .ref r9, .ref r10, .int 0, .int 0, .int 0, .ref r11, .ref r12, .int 0, .ref r13, .ref r14, .ref r15, .ref r16, .ref r17, .int 0, .int 0, .int 0, .ref r18])), (a1, .inl (t0, 24, .inl (fun _ => 0)))])) (va_Qi (fun (r : Int32) (_ : Unit) => r = 1) (fun (_ : Unit) t => va_P (dC, dI) vwCl [(a0, .inr (4, [.int 0, .int 1, .ref a1, .int 1, .int 0, .ref r0, .ref r1, .ref r2, .ref r3, .ref r4, .int 0, .int 0, .int (-1), .int 0, .int (-1), .int 0, .ref r5, .int 0, .ref r6, .ref r7, .ref r8, .ref r9, .ref r10, .int 0, .int 0, .int 0, .ref r11, .ref r12, .int 0, .ref r13, .ref r14, .ref r15, .ref r16, .ref r17, .int 0, .int 0, .int 0, .ref r18])), (a1, .inl (t0, 24, .inl (upd (fun _ => 0) 0 (vp_nar .char k0))))] t.heap ∧ va_K (dC, dI) vwCl [(t0, .char)] t ∧ va_D (va_A [(a0, .inr (4, [.int 0, .int 0, .ref a1, .int 1, .int 0, .ref r0, .ref r1, .ref r2, .ref r3, .ref r4, .int 0, .int 0, .int (-1), .int 0, .int (-1), .int 0, .ref r5, .int 0, .ref r6, .ref r7, .ref r8, .ref r9, .ref r10, .int 0, .int 0, .int 0, .ref r11, .ref r12, .int 0, .ref r13, .ref r14, .ref r15, .ref r16, .ref r17, .int 0, .int 0, .int 0, .ref r18])), (a1, .inl (t0, 24, .inl (fun _ => 0)))] sz) [(a0, .inr (4, [.int 0, .int 1, .ref a1, .int 1, .int 0, .ref r0, .ref r1, .ref r2, .ref r3, .ref r4, .int 0, .int 0, .int (-1), .int 0, .int (-1), .int 0, .ref r5, .int 0, .ref r6, .ref r7, .ref r8, .ref r9, .ref r10, .int 0, .int 0, .int 0, .ref r11, .ref r12, .int 0, .ref r13, .ref r14, .ref r15, .ref r16, .ref r17, .int 0, .int 0, .int 0, .ref r18])), (a1, .inl (t0, 24, .inl (upd (fun _ => 0) 0 (vp_nar .char k0))))]) (va_A [(a0, .inr (4, [.int 0, .int 0, .ref a1, .int 1, .int 0, .ref r0, .ref r1, .ref r2, .ref r3, .ref r4, .int 0, .int 0, .int (-1), .int 0, .int (-1), .int 0, .ref r5, .int 0, .ref r6, .ref r7, .ref r8, .ref r9, .ref r10, .int 0, .int 0, .int 0, .ref r11, .ref r12, .int 0, .ref r13, .ref r14, .ref r15, .ref r16, .ref r17, .int 0, .int 0, .int 0, .ref r18])), (a1, .inl (t0, 24, .inl (fun _ => 0)))] sz)) 0 0 (va_A [(a0, .inr (4, [.int 0, .int 0, .ref a1, .int 1, .int 0, .ref r0, .ref r1, .ref r2, .ref r3, .ref r4, .int 0, .int 0, .int (-1), .int 0, .int (-1), .int 0, .ref r5, .int 0, .ref r6, .ref r7, .ref r8, .ref r9, .ref r10, .int 0, .int 0, .int 0, .ref r11, .ref r12, .int 0, .ref r13, .ref r14, .ref r15, .ref r16, .ref r17, .int 0, .int 0, .int 0, .ref r18])), (a1, .inl (t0, 24, .inl (fun _ => 0)))] sz) := by
  refine Met.ofW (cc := prog_6_method_4_code) (maxL := 2) (ret := (some .boolean)) (by decide) rfl ?_
  intro p e s m args below meth c s₁ B hml hv
  obtain ⟨rfl, hsz, hP, hK, hD0⟩ := hv
  have hx := B.exec
  have hb := B.bytes
  have hr := B.returns
  have hts := atoms_spec (ws := w_M_type) B.pre
  have hown : s.vm.findClass R_M = some m.cls := findClass_of_methodNamed B.named
  have hlocks := B.notSynchronized
  subst hsz
  have hD := hD0.self (sz := s.heap.size)
  generalize hAe : va_A [(a0, .inr (4, [.int 0, .int 0, .ref a1, .int 1, .int 0, .ref r0, .ref r1, .ref r2, .ref r3, .ref r4, .int 0, .int 0, .int (-1), .int 0, .int (-1), .int 0, .ref r5, .int 0, .ref r6, .ref r7, .ref r8, .ref r9, .ref r10, .int 0, .int 0, .int 0, .ref r11, .ref r12, .int 0, .ref r13, .ref r14, .ref r15, .ref r16, .ref r17, .int 0, .int 0, .int 0, .ref r18])), (a1, .inl (t0, 24, .inl (fun _ => 0)))] s.heap.size = A at hD ⊢
  have hA : ∀ q : Nat, s.heap.size ≤ q → A q := fun q h => by rw [← hAe]; exact Or.inr h
  have hS : va_S A s.heap s.heap [] := va_S.rf
  have hP : va_P (dC, dI) vwCl [(a0, .inr (4, [.int 0, .int 0, .ref a1, .int 1, .int 0, .ref r0, .ref r1, .ref r2, .ref r3, .ref r4, .int 0, .int 0, .int (-1), .int 0, .int (-1), .int 0, .ref r5, .int 0, .ref r6, .ref r7, .ref r8, .ref r9, .ref r10, .int 0, .int 0, .int 0, .ref r11, .ref r12, .int 0, .ref r13, .ref r14, .ref r15, .ref r16, .ref r17, .int 0, .int 0, .int 0, .ref r18])), (a1, .inl (t0, 24, .inl (fun _ => 0)))] s.heap := hP
  have hl := lv_entry ([.ref a0, .int k0]) (n := 2) (Nat.le_of_ble_eq_true rfl)
  rw [lg_entry_eq]
  generalize (lg_sl ([.ref a0, .int k0]) ++ List.replicate (2 - (lg_sl ([.ref a0, .int k0])).length) Slot.unset).toArray = ls at hl ⊢
  have hl : lv_has ls 2 [(0, .ref a0), (1, .int k0)] := hl
  refine lv_aload_n hx hb d_M_type_0 rfl (lv_at hl 0 rfl) ?_
  refine lv_iconst (v := 0) hx hb d_M_type_1 (by decide) ?_
  refine va_put (D := (dC, dI)) (ci := 4) (v := .int 0) (ty := .int) (C := R_M) (T := F_M) (N := 38) hx hb hts (fun w h => List.mem_cons_of_mem _ (in_M w h)) t_M tk_M n_M hown hK hP hD hS 0 rfl rfl 0 (by decide) (hts _ (List.mem_cons_of_mem _ lk_175)) (fun _ h9 => h9) rfl (by decide +kernel) rfl rfl (Nat.le_of_ble_eq_true rfl) d_M_type_2 (fun H locs hP hD hS => ?_)
  have hP : va_P (dC, dI) vwCl [(a0, .inr (4, [.int 0, .int 0, .ref a1, .int 1, .int 0, .ref r0, .ref r1, .ref r2, .ref r3, .ref r4, .int 0, .int 0, .int (-1), .int 0, .int (-1), .int 0, .ref r5, .int 0, .ref r6, .ref r7, .ref r8, .ref r9, .ref r10, .int 0, .int 0, .int 0, .ref r11, .ref r12, .int 0, .ref r13, .ref r14, .ref r15, .ref r16, .ref r17, .int 0, .int 0, .int 0, .ref r18])), (a1, .inl (t0, 24, .inl (fun _ => 0)))] H := hP
  have hD : va_D A [(a0, .inr (4, [.int 0, .int 0, .ref a1, .int 1, .int 0, .ref r0, .ref r1, .ref r2, .ref r3, .ref r4, .int 0, .int 0, .int (-1), .int 0, .int (-1), .int 0, .ref r5, .int 0, .ref r6, .ref r7, .ref r8, .ref r9, .ref r10, .int 0, .int 0, .int 0, .ref r11, .ref r12, .int 0, .ref r13, .ref r14, .ref r15, .ref r16, .ref r17, .int 0, .int 0, .int 0, .ref r18])), (a1, .inl (t0, 24, .inl (fun _ => 0)))] := hD
  refine lv_iload_n hx hb d_M_type_5 rfl (lv_at hl 1 rfl) ?_
  have hPc := hP.sub (ws' := []) [] rfl
  have hDc := hD.sub (ws' := []) [] (by decide) rfl
  have hKc := hK.sub (tys' := []) [] rfl
  have hFc := va_free (wc := []) hD hS hA [] rfl
  refine va_calli (va_runS (As := [.int k0]) (rest := []) ⟨hx, hb, hml, hown, hts⟩ (c_M_isCharacter_4 l dC dI H.size k0 (by omega) (by omega)) (cwS 1 hts (gd_s lk_177 lk_178 lk_141 lk_176) rfl rfl rfl (by decide +kernel) ⟨Nat.le_of_ble_eq_true rfl, Nat.le_of_ble_eq_true rfl⟩) ⟨fun a U g mk q => by obtain ⟨q0, q1, qP, qK, qD⟩ := q; exact ⟨q0, q1, qP, va_K.moved (u := U) (U := U.calling g mk a) (Vm.Alike.refl U.vm) qK, qD⟩, fun U hU hW => ⟨rfl, by rw [hU], by rw [hU]; exact hPc, va_K.moved hW.alike hKc, hDc.weaken (fun _ _ _ _ => trivial)⟩⟩ rfl rfl hl.1 rfl (lv_room (Nat.le_of_ble_eq_true rfl)) d_M_type_6 ⟨Nat.le_of_ble_eq_true rfl, Nat.le_of_ble_eq_true rfl⟩) hS (fun q _ h => hFc q h) hFc (fun r u t H1 locs ht hvm hw hB hz1 hk1 hS => ?_)
  obtain ⟨hP1, hK1, hD1⟩ := hB
  rw [ht] at hP1
  have hK1 := va_K.moved hvm.symm hK1
  subst hw
  obtain ⟨hP, hD⟩ := va_join (wr := [(a0, .inr (4, [.int 0, .int 0, .ref a1, .int 1, .int 0, .ref r0, .ref r1, .ref r2, .ref r3, .ref r4, .int 0, .int 0, .int (-1), .int 0, .int (-1), .int 0, .ref r5, .int 0, .ref r6, .ref r7, .ref r8, .ref r9, .ref r10, .int 0, .int 0, .int 0, .ref r11, .ref r12, .int 0, .ref r13, .ref r14, .ref r15, .ref r16, .ref r17, .int 0, .int 0, .int 0, .ref r18])), (a1, .inl (t0, 24, .inl (fun _ => 0)))]) (w1 := []) hP hD [] [0, 1] rfl rfl (by decide) (by decide) hk1 hFc hP1 hD1
  generalize H1 = H at hP hS ⊢
  have hP : va_P (dC, dI) vwCl [(a0, .inr (4, [.int 0, .int 0, .ref a1, .int 1, .int 0, .ref r0, .ref r1, .ref r2, .ref r3, .ref r4, .int 0, .int 0, .int (-1), .int 0, .int (-1), .int 0, .ref r5, .int 0, .ref r6, .ref r7, .ref r8, .ref r9, .ref r10, .int 0, .int 0, .int 0, .ref r11, .ref r12, .int 0, .ref r13, .ref r14, .ref r15, .ref r16, .ref r17, .int 0, .int 0, .int 0, .ref r18])), (a1, .inl (t0, 24, .inl (fun _ => 0)))] H := hP
  have hD : va_D A [(a0, .inr (4, [.int 0, .int 0, .ref a1, .int 1, .int 0, .ref r0, .ref r1, .ref r2, .ref r3, .ref r4, .int 0, .int 0, .int (-1), .int 0, .int (-1), .int 0, .ref r5, .int 0, .ref r6, .ref r7, .ref r8, .ref r9, .ref r10, .int 0, .int 0, .int 0, .ref r11, .ref r12, .int 0, .ref r13, .ref r14, .ref r15, .ref r16, .ref r17, .int 0, .int 0, .int 0, .ref r18])), (a1, .inl (t0, 24, .inl (fun _ => 0)))] := hD
  refine lv_if_eq (tgt := 21) hx hb d_M_type_9 (by decide) (fun h => absurd h (by decide +kernel)) (fun _ => ?_)
  refine lv_aload_n hx hb d_M_type_12 rfl (lv_at hl 0 rfl) ?_
  refine va_get (D := (dC, dI)) (ci := 4) (v := .int 0) (C := R_M) (T := F_M) (N := 38) hx hb hts (fun w h => List.mem_cons_of_mem _ (in_M w h)) hown hK hP 0 rfl rfl 1 (by decide) (hts _ (List.mem_cons_of_mem _ lk_179)) (fun _ h9 => h9) rfl d_M_type_13 ?_
  refine lv_bipush (v := 24) hx hb d_M_type_16 (by decide) ?_
  refine lv_icmp_ne (tgt := 23) hx hb d_M_type_18 (by decide) (fun _ => ?_) (fun h => absurd h (by decide +kernel))
  refine lv_aload_n hx hb d_M_type_23 rfl (lv_at hl 0 rfl) ?_
  refine va_get (D := (dC, dI)) (ci := 4) (v := .ref a1) (C := R_M) (T := F_M) (N := 38) hx hb hts (fun w h => List.mem_cons_of_mem _ (in_M w h)) hown hK hP 0 rfl rfl 2 (by decide) (hts _ (List.mem_cons_of_mem _ lk_143)) (fun _ h9 => h9) rfl d_M_type_24 ?_
  refine lv_aload_n hx hb d_M_type_27 rfl (lv_at hl 0 rfl) ?_
  refine va_get (D := (dC, dI)) (ci := 4) (v := .int 0) (C := R_M) (T := F_M) (N := 38) hx hb hts (fun w h => List.mem_cons_of_mem _ (in_M w h)) hown hK hP 0 rfl rfl 1 (by decide) (hts _ (List.mem_cons_of_mem _ lk_179)) (fun _ h9 => h9) rfl d_M_type_28 ?_
  refine lv_iload_n hx hb d_M_type_31 rfl (lv_at hl 1 rfl) ?_
  refine va_cast hx hb hK hP hD hS 1 0 rfl rfl (wk_in (by decide +kernel)) d_M_type_32 (fun H locs hP hD hS => ?_)
  have hP : va_P (dC, dI) vwCl [(a0, .inr (4, [.int 0, .int 0, .ref a1, .int 1, .int 0, .ref r0, .ref r1, .ref r2, .ref r3, .ref r4, .int 0, .int 0, .int (-1), .int 0, .int (-1), .int 0, .ref r5, .int 0, .ref r6, .ref r7, .ref r8, .ref r9, .ref r10, .int 0, .int 0, .int 0, .ref r11, .ref r12, .int 0, .ref r13, .ref r14, .ref r15, .ref r16, .ref r17, .int 0, .int 0, .int 0, .ref r18])), (a1, .inl (t0, 24, .inl (upd (fun _ => 0) 0 (vp_nar .char k0))))] H := hP
  have hD : va_D A [(a0, .inr (4, [.int 0, .int 0, .ref a1, .int 1, .int 0, .ref r0, .ref r1, .ref r2, .ref r3, .ref r4, .int 0, .int 0, .int (-1), .int 0, .int (-1), .int 0, .ref r5, .int 0, .ref r6, .ref r7, .ref r8, .ref r9, .ref r10, .int 0, .int 0, .int 0, .ref r11, .ref r12, .int 0, .ref r13, .ref r14, .ref r15, .ref r16, .ref r17, .int 0, .int 0, .int 0, .ref r18])), (a1, .inl (t0, 24, .inl (upd (fun _ => 0) 0 (vp_nar .char k0))))] := hD
  refine lv_aload_n hx hb d_M_type_33 rfl (lv_at hl 0 rfl) ?_
  refine lv_dup hx hb d_M_type_34 rfl ?_
  refine va_get (D := (dC, dI)) (ci := 4) (v := .int 0) (C := R_M) (T := F_M) (N := 38) hx hb hts (fun w h => List.mem_cons_of_mem _ (in_M w h)) hown hK hP 0 rfl rfl 1 (by decide) (hts _ (List.mem_cons_of_mem _ lk_179)) (fun _ h9 => h9) rfl d_M_type_35 ?_
  refine lv_iconst (v := 1) hx hb d_M_type_38 (by decide) ?_
  refine t_iadd (v := 1) hx hb d_M_type_39 (by decide +kernel) ?_
  refine va_put (D := (dC, dI)) (ci := 4) (v := .int 1) (ty := .int) (C := R_M) (T := F_M) (N := 38) hx hb hts (fun w h => List.mem_cons_of_mem _ (in_M w h)) t_M tk_M n_M hown hK hP hD hS 0 rfl rfl 1 (by decide) (hts _ (List.mem_cons_of_mem _ lk_179)) (fun _ h9 => h9) rfl (by decide +kernel) rfl rfl (Nat.le_of_ble_eq_true rfl) d_M_type_40 (fun H locs hP hD hS => ?_)
  have hP : va_P (dC, dI) vwCl [(a0, .inr (4, [.int 0, .int 1, .ref a1, .int 1, .int 0, .ref r0, .ref r1, .ref r2, .ref r3, .ref r4, .int 0, .int 0, .int (-1), .int 0, .int (-1), .int 0, .ref r5, .int 0, .ref r6, .ref r7, .ref r8, .ref r9, .ref r10, .int 0, .int 0, .int 0, .ref r11, .ref r12, .int 0, .ref r13, .ref r14, .ref r15, .ref r16, .ref r17, .int 0, .int 0, .int 0, .ref r18])), (a1, .inl (t0, 24, .inl (upd (fun _ => 0) 0 (vp_nar .char k0))))] H := hP
  have hD : va_D A [(a0, .inr (4, [.int 0, .int 1, .ref a1, .int 1, .int 0, .ref r0, .ref r1, .ref r2, .ref r3, .ref r4, .int 0, .int 0, .int (-1), .int 0, .int (-1), .int 0, .ref r5, .int 0, .ref r6, .ref r7, .ref r8, .ref r9, .ref r10, .int 0, .int 0, .int 0, .ref r11, .ref r12, .int 0, .ref r13, .ref r14, .ref r15, .ref r16, .ref r17, .int 0, .int 0, .int 0, .ref r18])), (a1, .inl (t0, 24, .inl (upd (fun _ => 0) 0 (vp_nar .char k0))))] := hD
  refine lv_iconst (v := 1) hx hb d_M_type_43 (by decide) ?_
  have hP9 := hP.sub (ws' := [(a0, .inr (4, [.int 0, .int 1, .ref a1, .int 1, .int 0, .ref r0, .ref r1, .ref r2, .ref r3, .ref r4, .int 0, .int 0, .int (-1), .int 0, .int (-1), .int 0, .ref r5, .int 0, .ref r6, .ref r7, .ref r8, .ref r9, .ref r10, .int 0, .int 0, .int 0, .ref r11, .ref r12, .int 0, .ref r13, .ref r14, .ref r15, .ref r16, .ref r17, .int 0, .int 0, .int 0, .ref r18])), (a1, .inl (t0, 24, .inl (upd (fun _ => 0) 0 (vp_nar .char k0))))]) [0, 1] rfl
  have hD9 := hD.sub (ws' := [(a0, .inr (4, [.int 0, .int 1, .ref a1, .int 1, .int 0, .ref r0, .ref r1, .ref r2, .ref r3, .ref r4, .int 0, .int 0, .int (-1), .int 0, .int (-1), .int 0, .ref r5, .int 0, .ref r6, .ref r7, .ref r8, .ref r9, .ref r10, .int 0, .int 0, .int 0, .ref r11, .ref r12, .int 0, .ref r13, .ref r14, .ref r15, .ref r16, .ref r17, .int 0, .int 0, .int 0, .ref r18])), (a1, .inl (t0, 24, .inl (upd (fun _ => 0) 0 (vp_nar .char k0))))]) [0, 1] (by decide) rfl
  have hK9 := hK.sub (tys' := [(t0, .char)]) [0] rfl
  exact W.zret (v := 1) hx hb hr rfl (fun t ht hW => ⟨⟨1, (), rfl, rfl, by rw [ht]; exact hP9, va_K.moved hW.alike hK9, hD9⟩, hS.F ht⟩) hS.2.2 d_M_type_44

set_option maxHeartbeats 4000000 in
set_option maxRecDepth 100000 in
theorem c_D_wipe (l : Launch) (dC : Nat → ClassId) (dI : Nat → Nat → Nat) (a0 r0 r1 r2 r3 r4 r5 r6 : Nat) (sz : Nat)  : Met l y_D_wipe w_D_wipe ({ frames := 0, cells := 0, slots := 0, locals := 0 }) (va_Pc [.ref a0] (fun U => U.heap.size = sz ∧ va_P (dC, dI) vwCl [(a0, .inr (0, [.ref r0, .int 0, .ref r1, .int 1, .int 0, .ref r2, .int 0, .int (-1), .ref r3, .ref r4, .int 0, .int (-1), .ref r5, .ref r6]))] U.heap ∧ va_K (dC, dI) vwCl [] U ∧ va_D (fun _ => True) [(a0, .inr (0, [.ref r0, .int 0, .ref r1, .int 1, .int 0, .ref r2, .int 0, .int (-1), .ref r3, .ref r4, .int 0, .int (-1), .ref r5, .ref r6]))])) (va_Qi (fun (r : Int32) (_ : Unit) => r = 0) (fun (_ : Unit) t => va_P (dC, dI) vwCl [(a0, .inr (0, [.ref r0, .int 0, .ref r1, .int 1, .int 0, .ref r2, .int 0, .int (-1), .ref r3, .ref r4, .int 0, .int (-1), .ref r5, .ref r6]))] t.heap ∧ va_K (dC, dI) vwCl [] t ∧ va_D (va_A [(a0, .inr (0, [.ref r0, .int 0, .ref r1, .int 1, .int 0, .ref r2, .int 0, .int (-1), .ref r3, .ref r4, .int 0, .int (-1), .ref r5, .ref r6]))] sz) [(a0, .inr (0, [.ref r0, .int 0, .ref r1, .int 1, .int 0, .ref r2, .int 0, .int (-1), .ref r3, .ref r4, .int 0, .int (-1), .ref r5, .ref r6]))]) (va_A [(a0, .inr (0, [.ref r0, .int 0, .ref r1, .int 1, .int 0, .ref r2, .int 0, .int (-1), .ref r3, .ref r4, .int 0, .int (-1), .ref r5, .ref r6]))] sz)) 0 0 (va_A [(a0, .inr (0, [.ref r0, .int 0, .ref r1, .int 1, .int 0, .ref r2, .int 0, .int (-1), .ref r3, .ref r4, .int 0, .int (-1), .ref r5, .ref r6]))] sz) := by
  refine Met.ofW (cc := prog_1_method_3_code) (maxL := 2) (ret := (some .int)) (by decide) rfl ?_
  intro p e s m args below meth c s₁ B hml hv
  obtain ⟨rfl, hsz, hP, hK, hD0⟩ := hv
  have hx := B.exec
  have hb := B.bytes
  have hr := B.returns
  have hts := atoms_spec (ws := w_D_wipe) B.pre
  have hown : s.vm.findClass R_D = some m.cls := findClass_of_methodNamed B.named
  have hlocks := B.notSynchronized
  subst hsz
  have hD := hD0.self (sz := s.heap.size)
  generalize hAe : va_A [(a0, .inr (0, [.ref r0, .int 0, .ref r1, .int 1, .int 0, .ref r2, .int 0, .int (-1), .ref r3, .ref r4, .int 0, .int (-1), .ref r5, .ref r6]))] s.heap.size = A at hD ⊢
  have hA : ∀ q : Nat, s.heap.size ≤ q → A q := fun q h => by rw [← hAe]; exact Or.inr h
  have hS : va_S A s.heap s.heap [] := va_S.rf
  have hP : va_P (dC, dI) vwCl [(a0, .inr (0, [.ref r0, .int 0, .ref r1, .int 1, .int 0, .ref r2, .int 0, .int (-1), .ref r3, .ref r4, .int 0, .int (-1), .ref r5, .ref r6]))] s.heap := hP
  have hl := lv_entry ([.ref a0]) (n := 2) (Nat.le_of_ble_eq_true rfl)
  rw [lg_entry_eq]
  generalize (lg_sl ([.ref a0]) ++ List.replicate (2 - (lg_sl ([.ref a0])).length) Slot.unset).toArray = ls at hl ⊢
  have hl : lv_has ls 2 [(0, .ref a0)] := hl
  refine lv_aload_n hx hb d_D_wipe_0 rfl (lv_at hl 0 rfl) ?_
  refine va_get (D := (dC, dI)) (ci := 0) (v := .int 0) (C := R_D) (T := F_D) (N := 14) hx hb hts (fun w h => List.mem_cons_of_mem _ (in_D w h)) hown hK hP 0 rfl rfl 1 (by decide) (hts _ (List.mem_cons_of_mem _ lk_170)) (fun _ h9 => h9) rfl d_D_wipe_1 ?_
  refine lv_istore_n (lv' := [(1, .int 0), (0, .ref a0)]) hx hb d_D_wipe_4 rfl hl (by decide) rfl (fun ls hl => ?_)
  have hl : lv_has ls 2 [(1, .int 0), (0, .ref a0)] := hl
  refine lv_aload_n hx hb d_D_wipe_5 rfl (lv_at hl 1 rfl) ?_
  refine lv_iconst (v := 0) hx hb d_D_wipe_6 (by decide) ?_
  refine va_put (D := (dC, dI)) (ci := 0) (v := .int 0) (ty := .int) (C := R_D) (T := F_D) (N := 14) hx hb hts (fun w h => List.mem_cons_of_mem _ (in_D w h)) t_D tk_D n_D hown hK hP hD hS 0 rfl rfl 1 (by decide) (hts _ (List.mem_cons_of_mem _ lk_170)) (fun _ h9 => h9) rfl (by decide +kernel) rfl rfl (Nat.le_of_ble_eq_true rfl) d_D_wipe_7 (fun H locs hP hD hS => ?_)
  have hP : va_P (dC, dI) vwCl [(a0, .inr (0, [.ref r0, .int 0, .ref r1, .int 1, .int 0, .ref r2, .int 0, .int (-1), .ref r3, .ref r4, .int 0, .int (-1), .ref r5, .ref r6]))] H := hP
  have hD : va_D A [(a0, .inr (0, [.ref r0, .int 0, .ref r1, .int 1, .int 0, .ref r2, .int 0, .int (-1), .ref r3, .ref r4, .int 0, .int (-1), .ref r5, .ref r6]))] := hD
  refine lv_iload_n hx hb d_D_wipe_10 rfl (lv_at hl 0 rfl) ?_
  have hP9 := hP.sub (ws' := [(a0, .inr (0, [.ref r0, .int 0, .ref r1, .int 1, .int 0, .ref r2, .int 0, .int (-1), .ref r3, .ref r4, .int 0, .int (-1), .ref r5, .ref r6]))]) [0] rfl
  have hD9 := hD.sub (ws' := [(a0, .inr (0, [.ref r0, .int 0, .ref r1, .int 1, .int 0, .ref r2, .int 0, .int (-1), .ref r3, .ref r4, .int 0, .int (-1), .ref r5, .ref r6]))]) [0] (by decide) rfl
  have hK9 := hK.sub (tys' := []) [] rfl
  exact W.iret (v := 0) hx hb hr (fun t ht hW => ⟨⟨0, (), rfl, rfl, by rw [ht]; exact hP9, va_K.moved hW.alike hK9, hD9⟩, hS.F ht⟩) hS.2.2 d_D_wipe_11

set_option maxHeartbeats 4000000 in
set_option maxRecDepth 100000 in
theorem c_M_wipe (l : Launch) (dC : Nat → ClassId) (dI : Nat → Nat → Nat) (a0 r0 r1 r2 r3 r4 r5 r6 r7 r8 r9 r10 r11 r12 r13 r14 r15 r16 r17 r18 r19 : Nat) (sz : Nat)  : Met l y_M_wipe w_M_wipe ({ frames := 0, cells := 0, slots := 0, locals := 0 }) (va_Pc [.ref a0] (fun U => U.heap.size = sz ∧ va_P (dC, dI) vwCl [(a0, .inr (4, [.int 0, .int 0, .ref r0, .int 1, .int 0, .ref r1, .ref r2, .ref r3, .ref r4, .ref r5, .int 0, .int 0, .int (-1), .int 0, .int (-1), .int 0, .ref r6, .int 0, .ref r7, .ref r8, .ref r9, .ref r10, .ref r11, .int 0, .int 0, .int 0, .ref r12, .ref r13, .int 0, .ref r14, .ref r15, .ref r16, .ref r17, .ref r18, .int 0, .int 0, .int 0, .ref r19]))] U.heap ∧ va_K (dC, dI) vwCl [] U ∧ va_D (fun _ => True) [(a0, .inr (4, [.int 0, .int 0, .ref r0, .int 1, .int 0, .ref r1, .ref r2, .ref r3, .ref r4, .ref r5, .int 0, .int 0, .int (-1), .int 0, .int (-1), .int 0, .ref r6, .int 0, .ref r7, .ref r8, .ref r9, .ref r10, .ref r11, .int 0, .int 0, .int 0, .ref r12, .ref r13, .int 0, .ref r14, .ref r15, .ref r16, .ref r17, .ref r18, .int 0, .int 0, .int 0, .ref r19]))])) (va_Qi (fun (r : Int32) (_ : Unit) => r = 0) (fun (_ : Unit) t => va_P (dC, dI) vwCl [(a0, .inr (4, [.int 0, .int 0, .ref r0, .int 1, .int 0, .ref r1, .ref r2, .ref r3, .ref r4, .ref r5, .int 0, .int 0, .int (-1), .int 0, .int (-1), .int 0, .ref r6, .int 0, .ref r7, .ref r8, .ref r9, .ref r10, .ref r11, .int 0, .int 0, .int 0, .ref r12, .ref r13, .int 0, .ref r14, .ref r15, .ref r16, .ref r17, .ref r18, .int 0, .int 0, .int 0, .ref r19]))] t.heap ∧ va_K (dC, dI) vwCl [] t ∧ va_D (va_A [(a0, .inr (4, [.int 0, .int 0, .ref r0, .int 1, .int 0, .ref r1, .ref r2, .ref r3, .ref r4, .ref r5, .int 0, .int 0, .int (-1), .int 0, .int (-1), .int 0, .ref r6, .int 0, .ref r7, .ref r8, .ref r9, .ref r10, .ref r11, .int 0, .int 0, .int 0, .ref r12, .ref r13, .int 0, .ref r14, .ref r15, .ref r16, .ref r17, .ref r18, .int 0, .int 0, .int 0, .ref r19]))] sz) [(a0, .inr (4, [.int 0, .int 0, .ref r0, .int 1, .int 0, .ref r1, .ref r2, .ref r3, .ref r4, .ref r5, .int 0, .int 0, .int (-1), .int 0, .int (-1), .int 0, .ref r6, .int 0, .ref r7, .ref r8, .ref r9, .ref r10, .ref r11, .int 0, .int 0, .int 0, .ref r12, .ref r13, .int 0, .ref r14, .ref r15, .ref r16, .ref r17, .ref r18, .int 0, .int 0, .int 0, .ref r19]))]) (va_A [(a0, .inr (4, [.int 0, .int 0, .ref r0, .int 1, .int 0, .ref r1, .ref r2, .ref r3, .ref r4, .ref r5, .int 0, .int 0, .int (-1), .int 0, .int (-1), .int 0, .ref r6, .int 0, .ref r7, .ref r8, .ref r9, .ref r10, .ref r11, .int 0, .int 0, .int 0, .ref r12, .ref r13, .int 0, .ref r14, .ref r15, .ref r16, .ref r17, .ref r18, .int 0, .int 0, .int 0, .ref r19]))] sz)) 0 0 (va_A [(a0, .inr (4, [.int 0, .int 0, .ref r0, .int 1, .int 0, .ref r1, .ref r2, .ref r3, .ref r4, .ref r5, .int 0, .int 0, .int (-1), .int 0, .int (-1), .int 0, .ref r6, .int 0, .ref r7, .ref r8, .ref r9, .ref r10, .ref r11, .int 0, .int 0, .int 0, .ref r12, .ref r13, .int 0, .ref r14, .ref r15, .ref r16, .ref r17, .ref r18, .int 0, .int 0, .int 0, .ref r19]))] sz) := by
  refine Met.ofW (cc := prog_6_method_5_code) (maxL := 2) (ret := (some .int)) (by decide) rfl ?_
  intro p e s m args below meth c s₁ B hml hv
  obtain ⟨rfl, hsz, hP, hK, hD0⟩ := hv
  have hx := B.exec
  have hb := B.bytes
  have hr := B.returns
  have hts := atoms_spec (ws := w_M_wipe) B.pre
  have hown : s.vm.findClass R_M = some m.cls := findClass_of_methodNamed B.named
  have hlocks := B.notSynchronized
  subst hsz
  have hD := hD0.self (sz := s.heap.size)
  generalize hAe : va_A [(a0, .inr (4, [.int 0, .int 0, .ref r0, .int 1, .int 0, .ref r1, .ref r2, .ref r3, .ref r4, .ref r5, .int 0, .int 0, .int (-1), .int 0, .int (-1), .int 0, .ref r6, .int 0, .ref r7, .ref r8, .ref r9, .ref r10, .ref r11, .int 0, .int 0, .int 0, .ref r12, .ref r13, .int 0, .ref r14, .ref r15, .ref r16, .ref r17, .ref r18, .int 0, .int 0, .int 0, .ref r19]))] s.heap.size = A at hD ⊢
  have hA : ∀ q : Nat, s.heap.size ≤ q → A q := fun q h => by rw [← hAe]; exact Or.inr h
  have hS : va_S A s.heap s.heap [] := va_S.rf
  have hP : va_P (dC, dI) vwCl [(a0, .inr (4, [.int 0, .int 0, .ref r0, .int 1, .int 0, .ref r1, .ref r2, .ref r3, .ref r4, .ref r5, .int 0, .int 0, .int (-1), .int 0, .int (-1), .int 0, .ref r6, .int 0, .ref r7, .ref r8, .ref r9, .ref r10, .ref r11, .int 0, .int 0, .int 0, .ref r12, .ref r13, .int 0, .ref r14, .ref r15, .ref r16, .ref r17, .ref r18, .int 0, .int 0, .int 0, .ref r19]))] s.heap := hP
  have hl := lv_entry ([.ref a0]) (n := 2) (Nat.le_of_ble_eq_true rfl)
  rw [lg_entry_eq]
  generalize (lg_sl ([.ref a0]) ++ List.replicate (2 - (lg_sl ([.ref a0])).length) Slot.unset).toArray = ls at hl ⊢
  have hl : lv_has ls 2 [(0, .ref a0)] := hl
  refine lv_aload_n hx hb d_M_wipe_0 rfl (lv_at hl 0 rfl) ?_
  refine lv_iconst (v := 0) hx hb d_M_wipe_1 (by decide) ?_
  refine va_put (D := (dC, dI)) (ci := 4) (v := .int 0) (ty := .int) (C := R_M) (T := F_M) (N := 38) hx hb hts (fun w h => List.mem_cons_of_mem _ (in_M w h)) t_M tk_M n_M hown hK hP hD hS 0 rfl rfl 0 (by decide) (hts _ (List.mem_cons_of_mem _ lk_175)) (fun _ h9 => h9) rfl (by decide +kernel) rfl rfl (Nat.le_of_ble_eq_true rfl) d_M_wipe_2 (fun H locs hP hD hS => ?_)
  have hP : va_P (dC, dI) vwCl [(a0, .inr (4, [.int 0, .int 0, .ref r0, .int 1, .int 0, .ref r1, .ref r2, .ref r3, .ref r4, .ref r5, .int 0, .int 0, .int (-1), .int 0, .int (-1), .int 0, .ref r6, .int 0, .ref r7, .ref r8, .ref r9, .ref r10, .ref r11, .int 0, .int 0, .int 0, .ref r12, .ref r13, .int 0, .ref r14, .ref r15, .ref r16, .ref r17, .ref r18, .int 0, .int 0, .int 0, .ref r19]))] H := hP
  have hD : va_D A [(a0, .inr (4, [.int 0, .int 0, .ref r0, .int 1, .int 0, .ref r1, .ref r2, .ref r3, .ref r4, .ref r5, .int 0, .int 0, .int (-1), .int 0, .int (-1), .int 0, .ref r6, .int 0, .ref r7, .ref r8, .ref r9, .ref r10, .ref r11, .int 0, .int 0, .int 0, .ref r12, .ref r13, .int 0, .ref r14, .ref r15, .ref r16, .ref r17, .ref r18, .int 0, .int 0, .int 0, .ref r19]))] := hD
  refine lv_aload_n hx hb d_M_wipe_5 rfl (lv_at hl 0 rfl) ?_
  refine va_get (D := (dC, dI)) (ci := 4) (v := .int 0) (C := R_M) (T := F_M) (N := 38) hx hb hts (fun w h => List.mem_cons_of_mem _ (in_M w h)) hown hK hP 0 rfl rfl 1 (by decide) (hts _ (List.mem_cons_of_mem _ lk_179)) (fun _ h9 => h9) rfl d_M_wipe_6 ?_
  refine lv_istore_n (lv' := [(1, .int 0), (0, .ref a0)]) hx hb d_M_wipe_9 rfl hl (by decide) rfl (fun ls hl => ?_)
  have hl : lv_has ls 2 [(1, .int 0), (0, .ref a0)] := hl
  refine lv_aload_n hx hb d_M_wipe_10 rfl (lv_at hl 1 rfl) ?_
  refine lv_iconst (v := 0) hx hb d_M_wipe_11 (by decide) ?_
  refine va_put (D := (dC, dI)) (ci := 4) (v := .int 0) (ty := .int) (C := R_M) (T := F_M) (N := 38) hx hb hts (fun w h => List.mem_cons_of_mem _ (in_M w h)) t_M tk_M n_M hown hK hP hD hS 0 rfl rfl 1 (by decide) (hts _ (List.mem_cons_of_mem _ lk_179)) (fun _ h9 => h9) rfl (by decide +kernel) rfl rfl (Nat.le_of_ble_eq_true rfl) d_M_wipe_12 (fun H locs hP hD hS => ?_)
  have hP : va_P (dC, dI) vwCl [(a0, .inr (4, [.int 0, .int 0, .ref r0, .int 1, .int 0, .ref r1, .ref r2, .ref r3, .ref r4, .ref r5, .int 0, .int 0, .int (-1), .int 0, .int (-1), .int 0, .ref r6, .int 0, .ref r7, .ref r8, .ref r9, .ref r10, .ref r11, .int 0, .int 0, .int 0, .ref r12, .ref r13, .int 0, .ref r14, .ref r15, .ref r16, .ref r17, .ref r18, .int 0, .int 0, .int 0, .ref r19]))] H := hP
  have hD : va_D A [(a0, .inr (4, [.int 0, .int 0, .ref r0, .int 1, .int 0, .ref r1, .ref r2, .ref r3, .ref r4, .ref r5, .int 0, .int 0, .int (-1), .int 0, .int (-1), .int 0, .ref r6, .int 0, .ref r7, .ref r8, .ref r9, .ref r10, .ref r11, .int 0, .int 0, .int 0, .ref r12, .ref r13, .int 0, .ref r14, .ref r15, .ref r16, .ref r17, .ref r18, .int 0, .int 0, .int 0, .ref r19]))] := hD
  refine lv_iload_n hx hb d_M_wipe_15 rfl (lv_at hl 0 rfl) ?_
  have hP9 := hP.sub (ws' := [(a0, .inr (4, [.int 0, .int 0, .ref r0, .int 1, .int 0, .ref r1, .ref r2, .ref r3, .ref r4, .ref r5, .int 0, .int 0, .int (-1), .int 0, .int (-1), .int 0, .ref r6, .int 0, .ref r7, .ref r8, .ref r9, .ref r10, .ref r11, .int 0, .int 0, .int 0, .ref r12, .ref r13, .int 0, .ref r14, .ref r15, .ref r16, .ref r17, .ref r18, .int 0, .int 0, .int 0, .ref r19]))]) [0] rfl
  have hD9 := hD.sub (ws' := [(a0, .inr (4, [.int 0, .int 0, .ref r0, .int 1, .int 0, .ref r1, .ref r2, .ref r3, .ref r4, .ref r5, .int 0, .int 0, .int (-1), .int 0, .int (-1), .int 0, .ref r6, .int 0, .ref r7, .ref r8, .ref r9, .ref r10, .ref r11, .int 0, .int 0, .int 0, .ref r12, .ref r13, .int 0, .ref r14, .ref r15, .ref r16, .ref r17, .ref r18, .int 0, .int 0, .int 0, .ref r19]))]) [0] (by decide) rfl
  have hK9 := hK.sub (tys' := []) [] rfl
  exact W.iret (v := 0) hx hb hr (fun t ht hW => ⟨⟨0, (), rfl, rfl, by rw [ht]; exact hP9, va_K.moved hW.alike hK9, hD9⟩, hS.F ht⟩) hS.2.2 d_M_wipe_16

set_option maxHeartbeats 4000000 in
set_option maxRecDepth 100000 in
theorem c_D_selectionStart (l : Launch) (dC : Nat → ClassId) (dI : Nat → Nat → Nat) (a0 r0 r1 r2 r3 r4 r5 r6 : Nat) (sz : Nat)  : Met l y_D_selectionStart w_D_selectionStart ({ frames := 0, cells := 0, slots := 0, locals := 0 }) (va_Pc [.ref a0] (fun U => U.heap.size = sz ∧ va_P (dC, dI) vwCl [(a0, .inr (0, [.ref r0, .int 0, .ref r1, .int 1, .int 0, .ref r2, .int 0, .int (-1), .ref r3, .ref r4, .int 0, .int (-1), .ref r5, .ref r6]))] U.heap ∧ va_K (dC, dI) vwCl [] U ∧ va_D (fun _ => True) [(a0, .inr (0, [.ref r0, .int 0, .ref r1, .int 1, .int 0, .ref r2, .int 0, .int (-1), .ref r3, .ref r4, .int 0, .int (-1), .ref r5, .ref r6]))])) (va_Qi (fun (r : Int32) (_ : Unit) => r = 0) (fun (_ : Unit) t => va_P (dC, dI) vwCl [(a0, .inr (0, [.ref r0, .int 0, .ref r1, .int 1, .int 0, .ref r2, .int 0, .int (-1), .ref r3, .ref r4, .int 0, .int (-1), .ref r5, .ref r6]))] t.heap ∧ va_K (dC, dI) vwCl [] t ∧ va_D (va_A [(a0, .inr (0, [.ref r0, .int 0, .ref r1, .int 1, .int 0, .ref r2, .int 0, .int (-1), .ref r3, .ref r4, .int 0, .int (-1), .ref r5, .ref r6]))] sz) [(a0, .inr (0, [.ref r0, .int 0, .ref r1, .int 1, .int 0, .ref r2, .int 0, .int (-1), .ref r3, .ref r4, .int 0, .int (-1), .ref r5, .ref r6]))]) (va_A [(a0, .inr (0, [.ref r0, .int 0, .ref r1, .int 1, .int 0, .ref r2, .int 0, .int (-1), .ref r3, .ref r4, .int 0, .int (-1), .ref r5, .ref r6]))] sz)) 0 0 (va_A [(a0, .inr (0, [.ref r0, .int 0, .ref r1, .int 1, .int 0, .ref r2, .int 0, .int (-1), .ref r3, .ref r4, .int 0, .int (-1), .ref r5, .ref r6]))] sz) := by
  refine Met.ofW (cc := prog_1_method_21_code) (maxL := 1) (ret := (some .int)) (by decide) rfl ?_
  intro p e s m args below meth c s₁ B hml hv
  obtain ⟨rfl, hsz, hP, hK, hD0⟩ := hv
  have hx := B.exec
  have hb := B.bytes
  have hr := B.returns
  have hts := atoms_spec (ws := w_D_selectionStart) B.pre
  have hown : s.vm.findClass R_D = some m.cls := findClass_of_methodNamed B.named
  have hlocks := B.notSynchronized
  subst hsz
  have hD := hD0.self (sz := s.heap.size)
  generalize hAe : va_A [(a0, .inr (0, [.ref r0, .int 0, .ref r1, .int 1, .int 0, .ref r2, .int 0, .int (-1), .ref r3, .ref r4, .int 0, .int (-1), .ref r5, .ref r6]))] s.heap.size = A at hD ⊢
  have hA : ∀ q : Nat, s.heap.size ≤ q → A q := fun q h => by rw [← hAe]; exact Or.inr h
  have hS : va_S A s.heap s.heap [] := va_S.rf
  have hP : va_P (dC, dI) vwCl [(a0, .inr (0, [.ref r0, .int 0, .ref r1, .int 1, .int 0, .ref r2, .int 0, .int (-1), .ref r3, .ref r4, .int 0, .int (-1), .ref r5, .ref r6]))] s.heap := hP
  have hl := lv_entry ([.ref a0]) (n := 1) (Nat.le_of_ble_eq_true rfl)
  rw [lg_entry_eq]
  generalize (lg_sl ([.ref a0]) ++ List.replicate (1 - (lg_sl ([.ref a0])).length) Slot.unset).toArray = ls at hl ⊢
  have hl : lv_has ls 1 [(0, .ref a0)] := hl
  refine lv_aload_n hx hb d_D_selectionStart_0 rfl (lv_at hl 0 rfl) ?_
  refine va_get (D := (dC, dI)) (ci := 0) (v := .int (-1)) (C := R_D) (T := F_D) (N := 14) hx hb hts (fun w h => List.mem_cons_of_mem _ (in_D w h)) hown hK hP 0 rfl rfl 7 (by decide) (hts _ (List.mem_cons_of_mem _ lk_40)) (fun _ h9 => h9) rfl d_D_selectionStart_1 ?_
  refine lv_iconst (v := (-1)) hx hb d_D_selectionStart_4 (by decide) ?_
  refine lv_icmp_ne (tgt := 15) hx hb d_D_selectionStart_5 (by decide) (fun h => absurd (by decide +kernel) h) (fun _ => ?_)
  refine lv_aload_n hx hb d_D_selectionStart_8 rfl (lv_at hl 0 rfl) ?_
  refine va_get (D := (dC, dI)) (ci := 0) (v := .int 0) (C := R_D) (T := F_D) (N := 14) hx hb hts (fun w h => List.mem_cons_of_mem _ (in_D w h)) hown hK hP 0 rfl rfl 6 (by decide) (hts _ (List.mem_cons_of_mem _ lk_192)) (fun _ h9 => h9) rfl d_D_selectionStart_9 ?_
  refine lv_goto (tgt := 26) hx hb d_D_selectionStart_12 (by decide) ?_
  have hP9 := hP.sub (ws' := [(a0, .inr (0, [.ref r0, .int 0, .ref r1, .int 1, .int 0, .ref r2, .int 0, .int (-1), .ref r3, .ref r4, .int 0, .int (-1), .ref r5, .ref r6]))]) [0] rfl
  have hD9 := hD.sub (ws' := [(a0, .inr (0, [.ref r0, .int 0, .ref r1, .int 1, .int 0, .ref r2, .int 0, .int (-1), .ref r3, .ref r4, .int 0, .int (-1), .ref r5, .ref r6]))]) [0] (by decide) rfl
  have hK9 := hK.sub (tys' := []) [] rfl
  exact W.iret (v := 0) hx hb hr (fun t ht hW => ⟨⟨0, (), rfl, rfl, by rw [ht]; exact hP9, va_K.moved hW.alike hK9, hD9⟩, hS.F ht⟩) hS.2.2 d_D_selectionStart_26

set_option maxHeartbeats 4000000 in
set_option maxRecDepth 100000 in
theorem c_D_selectionEnd (l : Launch) (dC : Nat → ClassId) (dI : Nat → Nat → Nat) (a0 r0 r1 r2 r3 r4 r5 r6 : Nat) (sz : Nat)  : Met l y_D_selectionEnd w_D_selectionEnd ({ frames := 0, cells := 0, slots := 0, locals := 0 }) (va_Pc [.ref a0] (fun U => U.heap.size = sz ∧ va_P (dC, dI) vwCl [(a0, .inr (0, [.ref r0, .int 0, .ref r1, .int 1, .int 0, .ref r2, .int 0, .int (-1), .ref r3, .ref r4, .int 0, .int (-1), .ref r5, .ref r6]))] U.heap ∧ va_K (dC, dI) vwCl [] U ∧ va_D (fun _ => True) [(a0, .inr (0, [.ref r0, .int 0, .ref r1, .int 1, .int 0, .ref r2, .int 0, .int (-1), .ref r3, .ref r4, .int 0, .int (-1), .ref r5, .ref r6]))])) (va_Qi (fun (r : Int32) (_ : Unit) => r = 0) (fun (_ : Unit) t => va_P (dC, dI) vwCl [(a0, .inr (0, [.ref r0, .int 0, .ref r1, .int 1, .int 0, .ref r2, .int 0, .int (-1), .ref r3, .ref r4, .int 0, .int (-1), .ref r5, .ref r6]))] t.heap ∧ va_K (dC, dI) vwCl [] t ∧ va_D (va_A [(a0, .inr (0, [.ref r0, .int 0, .ref r1, .int 1, .int 0, .ref r2, .int 0, .int (-1), .ref r3, .ref r4, .int 0, .int (-1), .ref r5, .ref r6]))] sz) [(a0, .inr (0, [.ref r0, .int 0, .ref r1, .int 1, .int 0, .ref r2, .int 0, .int (-1), .ref r3, .ref r4, .int 0, .int (-1), .ref r5, .ref r6]))]) (va_A [(a0, .inr (0, [.ref r0, .int 0, .ref r1, .int 1, .int 0, .ref r2, .int 0, .int (-1), .ref r3, .ref r4, .int 0, .int (-1), .ref r5, .ref r6]))] sz)) 0 0 (va_A [(a0, .inr (0, [.ref r0, .int 0, .ref r1, .int 1, .int 0, .ref r2, .int 0, .int (-1), .ref r3, .ref r4, .int 0, .int (-1), .ref r5, .ref r6]))] sz) := by
  refine Met.ofW (cc := prog_1_method_22_code) (maxL := 1) (ret := (some .int)) (by decide) rfl ?_
  intro p e s m args below meth c s₁ B hml hv
  obtain ⟨rfl, hsz, hP, hK, hD0⟩ := hv
  have hx := B.exec
  have hb := B.bytes
  have hr := B.returns
  have hts := atoms_spec (ws := w_D_selectionEnd) B.pre
  have hown : s.vm.findClass R_D = some m.cls := findClass_of_methodNamed B.named
  have hlocks := B.notSynchronized
  subst hsz
  have hD := hD0.self (sz := s.heap.size)
  generalize hAe : va_A [(a0, .inr (0, [.ref r0, .int 0, .ref r1, .int 1, .int 0, .ref r2, .int 0, .int (-1), .ref r3, .ref r4, .int 0, .int (-1), .ref r5, .ref r6]))] s.heap.size = A at hD ⊢
  have hA : ∀ q : Nat, s.heap.size ≤ q → A q := fun q h => by rw [← hAe]; exact Or.inr h
  have hS : va_S A s.heap s.heap [] := va_S.rf
  have hP : va_P (dC, dI) vwCl [(a0, .inr (0, [.ref r0, .int 0, .ref r1, .int 1, .int 0, .ref r2, .int 0, .int (-1), .ref r3, .ref r4, .int 0, .int (-1), .ref r5, .ref r6]))] s.heap := hP
  have hl := lv_entry ([.ref a0]) (n := 1) (Nat.le_of_ble_eq_true rfl)
  rw [lg_entry_eq]
  generalize (lg_sl ([.ref a0]) ++ List.replicate (1 - (lg_sl ([.ref a0])).length) Slot.unset).toArray = ls at hl ⊢
  have hl : lv_has ls 1 [(0, .ref a0)] := hl
  refine lv_aload_n hx hb d_D_selectionEnd_0 rfl (lv_at hl 0 rfl) ?_
  refine va_get (D := (dC, dI)) (ci := 0) (v := .int (-1)) (C := R_D) (T := F_D) (N := 14) hx hb hts (fun w h => List.mem_cons_of_mem _ (in_D w h)) hown hK hP 0 rfl rfl 7 (by decide) (hts _ (List.mem_cons_of_mem _ lk_40)) (fun _ h9 => h9) rfl d_D_selectionEnd_1 ?_
  refine lv_iconst (v := (-1)) hx hb d_D_selectionEnd_4 (by decide) ?_
  refine lv_icmp_ne (tgt := 15) hx hb d_D_selectionEnd_5 (by decide) (fun h => absurd (by decide +kernel) h) (fun _ => ?_)
  refine lv_aload_n hx hb d_D_selectionEnd_8 rfl (lv_at hl 0 rfl) ?_
  refine va_get (D := (dC, dI)) (ci := 0) (v := .int 0) (C := R_D) (T := F_D) (N := 14) hx hb hts (fun w h => List.mem_cons_of_mem _ (in_D w h)) hown hK hP 0 rfl rfl 6 (by decide) (hts _ (List.mem_cons_of_mem _ lk_192)) (fun _ h9 => h9) rfl d_D_selectionEnd_9 ?_
  refine lv_goto (tgt := 26) hx hb d_D_selectionEnd_12 (by decide) ?_
  have hP9 := hP.sub (ws' := [(a0, .inr (0, [.ref r0, .int 0, .ref r1, .int 1, .int 0, .ref r2, .int 0, .int (-1), .ref r3, .ref r4, .int 0, .int (-1), .ref r5, .ref r6]))]) [0] rfl
  have hD9 := hD.sub (ws' := [(a0, .inr (0, [.ref r0, .int 0, .ref r1, .int 1, .int 0, .ref r2, .int 0, .int (-1), .ref r3, .ref r4, .int 0, .int (-1), .ref r5, .ref r6]))]) [0] (by decide) rfl
  have hK9 := hK.sub (tys' := []) [] rfl
  exact W.iret (v := 0) hx hb hr (fun t ht hW => ⟨⟨0, (), rfl, rfl, by rw [ht]; exact hP9, va_K.moved hW.alike hK9, hD9⟩, hS.F ht⟩) hS.2.2 d_D_selectionEnd_26

set_option maxHeartbeats 4000000 in
set_option maxRecDepth 100000 in
theorem c_D_insert (l : Launch) (dC : Nat → ClassId) (dI : Nat → Nat → Nat) (a0 a1 r0 r1 r2 r3 r4 r5 : Nat) (t0 : ClassId) (sz : Nat)  : Met l y_D_insert w_D_insert ({ frames := 1, cells := 0, slots := 0, locals := 20 }) (va_Pc [.ref a0] (fun U => U.heap.size = sz ∧ va_P (dC, dI) vwCl [(a0, .inr (0, [.ref r0, .int 0, .ref r1, .int 1, .int 0, .ref a1, .int 0, .int (-1), .ref r2, .ref r3, .int 0, .int (-1), .ref r4, .ref r5])), (a1, .inl (t0, 0, .inl (fun _ => 0)))] U.heap ∧ va_K (dC, dI) vwCl [(t0, .char)] U ∧ va_D (fun _ => True) [(a0, .inr (0, [.ref r0, .int 0, .ref r1, .int 1, .int 0, .ref a1, .int 0, .int (-1), .ref r2, .ref r3, .int 0, .int (-1), .ref r4, .ref r5])), (a1, .inl (t0, 0, .inl (fun _ => 0)))])) (va_Qi (fun (r : Int32) (_ : Unit) => r = 0) (fun (_ : Unit) t => va_P (dC, dI) vwCl [(a0, .inr (0, [.ref r0, .int 0, .ref r1, .int 1, .int 0, .ref a1, .int 0, .int (-1), .ref r2, .ref r3, .int 0, .int (-1), .ref r4, .ref r5])), (a1, .inl (t0, 0, .inl (fun _ => 0)))] t.heap ∧ va_K (dC, dI) vwCl [(t0, .char)] t ∧ va_D (va_A [(a0, .inr (0, [.ref r0, .int 0, .ref r1, .int 1, .int 0, .ref a1, .int 0, .int (-1), .ref r2, .ref r3, .int 0, .int (-1), .ref r4, .ref r5])), (a1, .inl (t0, 0, .inl (fun _ => 0)))] sz) [(a0, .inr (0, [.ref r0, .int 0, .ref r1, .int 1, .int 0, .ref a1, .int 0, .int (-1), .ref r2, .ref r3, .int 0, .int (-1), .ref r4, .ref r5])), (a1, .inl (t0, 0, .inl (fun _ => 0)))]) (va_A [(a0, .inr (0, [.ref r0, .int 0, .ref r1, .int 1, .int 0, .ref a1, .int 0, .int (-1), .ref r2, .ref r3, .int 0, .int (-1), .ref r4, .ref r5])), (a1, .inl (t0, 0, .inl (fun _ => 0)))] sz)) 0 0 (va_A [(a0, .inr (0, [.ref r0, .int 0, .ref r1, .int 1, .int 0, .ref a1, .int 0, .int (-1), .ref r2, .ref r3, .int 0, .int (-1), .ref r4, .ref r5])), (a1, .inl (t0, 0, .inl (fun _ => 0)))] sz) := by
  refine Met.ofW (cc := prog_1_method_4_code) (maxL := 3) (ret := (some .int)) (by decide) rfl ?_
  intro p e s m args below meth c s₁ B hml hv
  obtain ⟨rfl, hsz, hP, hK, hD0⟩ := hv
  have hx := B.exec
  have hb := B.bytes
  have hr := B.returns
  have hts := atoms_spec (ws := w_D_insert) B.pre
  have hown : s.vm.findClass R_D = some m.cls := findClass_of_methodNamed B.named
  have hlocks := B.notSynchronized
  subst hsz
  have hD := hD0.self (sz := s.heap.size)
  generalize hAe : va_A [(a0, .inr (0, [.ref r0, .int 0, .ref r1, .int 1, .int 0, .ref a1, .int 0, .int (-1), .ref r2, .ref r3, .int 0, .int (-1), .ref r4, .ref r5])), (a1, .inl (t0, 0, .inl (fun _ => 0)))] s.heap.size = A at hD ⊢
  have hA : ∀ q : Nat, s.heap.size ≤ q → A q := fun q h => by rw [← hAe]; exact Or.inr h
  have hS : va_S A s.heap s.heap [] := va_S.rf
  have hP : va_P (dC, dI) vwCl [(a0, .inr (0, [.ref r0, .int 0, .ref r1, .int 1, .int 0, .ref a1, .int 0, .int (-1), .ref r2, .ref r3, .int 0, .int (-1), .ref r4, .ref r5])), (a1, .inl (t0, 0, .inl (fun _ => 0)))] s.heap := hP
  have hl := lv_entry ([.ref a0]) (n := 3) (Nat.le_of_ble_eq_true rfl)
  rw [lg_entry_eq]
  generalize (lg_sl ([.ref a0]) ++ List.replicate (3 - (lg_sl ([.ref a0])).length) Slot.unset).toArray = ls at hl ⊢
  have hl : lv_has ls 3 [(0, .ref a0)] := hl
  refine lv_aload_n hx hb d_D_insert_0 rfl (lv_at hl 0 rfl) ?_
  have hPc := hP.sub (ws' := [(a0, .inr (0, [.ref r0, .int 0, .ref r1, .int 1, .int 0, .ref a1, .int 0, .int (-1), .ref r2, .ref r3, .int 0, .int (-1), .ref r4, .ref r5]))]) [0] rfl
  have hDc := hD.sub (ws' := [(a0, .inr (0, [.ref r0, .int 0, .ref r1, .int 1, .int 0, .ref a1, .int 0, .int (-1), .ref r2, .ref r3, .int 0, .int (-1), .ref r4, .ref r5]))]) [0] (by decide) rfl
  have hKc := hK.sub (tys' := []) [] rfl
  have hFc := va_free (wc := [(a0, .inr (0, [.ref r0, .int 0, .ref r1, .int 1, .int 0, .ref a1, .int 0, .int (-1), .ref r2, .ref r3, .int 0, .int (-1), .ref r4, .ref r5]))]) hD hS hA [0] rfl
  refine va_calli (va_runV (As := []) (rest := []) ⟨hx, hb, hml, hown, hts⟩ (c_D_selectionStart l dC dI a0 r0 r1 a1 r2 r3 r4 r5 s.heap.size) (cwV 0 hts (gd_v lk_194 lk_195 lk_196 lk_16 lk_193) rfl rfl rfl (by decide +kernel) ⟨Nat.le_of_ble_eq_true rfl, Nat.le_of_ble_eq_true rfl⟩) ⟨fun a U g mk q => by obtain ⟨q0, q1, qP, qK, qD⟩ := q; exact ⟨q0, q1, qP, va_K.moved (u := U) (U := U.calling g mk a) (Vm.Alike.refl U.vm) qK, qD⟩, va_recv (ci := 0) (q0 := 0) hK hP rfl rfl, fun U hU hW => ⟨rfl, by rw [hU], by rw [hU]; exact hPc, va_K.moved hW.alike hKc, hDc.weaken (fun _ _ _ _ => trivial)⟩⟩ rfl rfl hl.1 rfl (lv_room (Nat.le_of_ble_eq_true rfl)) d_D_insert_1 ⟨Nat.le_of_ble_eq_true rfl, Nat.le_of_ble_eq_true rfl⟩) hS (fun q _ h => hFc q h) hFc (fun r u t H1 locs ht hvm hw hB hz1 hk1 hS => ?_)
  obtain ⟨hP1, hK1, hD1⟩ := hB
  rw [ht] at hP1
  have hK1 := va_K.moved hvm.symm hK1
  subst hw
  obtain ⟨hP, hD⟩ := va_join (wr := [(a1, .inl (t0, 0, .inl (fun _ => 0)))]) (w1 := [(a0, .inr (0, [.ref r0, .int 0, .ref r1, .int 1, .int 0, .ref a1, .int 0, .int (-1), .ref r2, .ref r3, .int 0, .int (-1), .ref r4, .ref r5]))]) hP hD [0] [1] rfl rfl (by decide) (by decide) hk1 hFc hP1 hD1
  generalize H1 = H at hP hS ⊢
  have hP : va_P (dC, dI) vwCl [(a1, .inl (t0, 0, .inl (fun _ => 0))), (a0, .inr (0, [.ref r0, .int 0, .ref r1, .int 1, .int 0, .ref a1, .int 0, .int (-1), .ref r2, .ref r3, .int 0, .int (-1), .ref r4, .ref r5]))] H := hP
  have hD : va_D A [(a1, .inl (t0, 0, .inl (fun _ => 0))), (a0, .inr (0, [.ref r0, .int 0, .ref r1, .int 1, .int 0, .ref a1, .int 0, .int (-1), .ref r2, .ref r3, .int 0, .int (-1), .ref r4, .ref r5]))] := hD
  refine lv_istore_n (lv' := [(1, .int 0), (0, .ref a0)]) hx hb d_D_insert_4 rfl hl (by decide) rfl (fun ls hl => ?_)
  have hl : lv_has ls 3 [(1, .int 0), (0, .ref a0)] := hl
  refine lv_aload_n hx hb d_D_insert_5 rfl (lv_at hl 1 rfl) ?_
  have hPc := hP.sub (ws' := [(a0, .inr (0, [.ref r0, .int 0, .ref r1, .int 1, .int 0, .ref a1, .int 0, .int (-1), .ref r2, .ref r3, .int 0, .int (-1), .ref r4, .ref r5]))]) [1] rfl
  have hDc := hD.sub (ws' := [(a0, .inr (0, [.ref r0, .int 0, .ref r1, .int 1, .int 0, .ref a1, .int 0, .int (-1), .ref r2, .ref r3, .int 0, .int (-1), .ref r4, .ref r5]))]) [1] (by decide) rfl
  have hKc := hK.sub (tys' := []) [] rfl
  have hFc := va_free (wc := [(a0, .inr (0, [.ref r0, .int 0, .ref r1, .int 1, .int 0, .ref a1, .int 0, .int (-1), .ref r2, .ref r3, .int 0, .int (-1), .ref r4, .ref r5]))]) hD hS hA [1] rfl
  refine va_calli (va_runV (As := []) (rest := []) ⟨hx, hb, hml, hown, hts⟩ (c_D_selectionEnd l dC dI a0 r0 r1 a1 r2 r3 r4 r5 H.size) (cwV 0 hts (gd_v lk_198 lk_199 lk_200 lk_16 lk_197) rfl rfl rfl (by decide +kernel) ⟨Nat.le_of_ble_eq_true rfl, Nat.le_of_ble_eq_true rfl⟩) ⟨fun a U g mk q => by obtain ⟨q0, q1, qP, qK, qD⟩ := q; exact ⟨q0, q1, qP, va_K.moved (u := U) (U := U.calling g mk a) (Vm.Alike.refl U.vm) qK, qD⟩, va_recv (ci := 0) (q0 := 1) hK hP rfl rfl, fun U hU hW => ⟨rfl, by rw [hU], by rw [hU]; exact hPc, va_K.moved hW.alike hKc, hDc.weaken (fun _ _ _ _ => trivial)⟩⟩ rfl rfl hl.1 rfl (lv_room (Nat.le_of_ble_eq_true rfl)) d_D_insert_6 ⟨Nat.le_of_ble_eq_true rfl, Nat.le_of_ble_eq_true rfl⟩) hS (fun q _ h => hFc q h) hFc (fun r u t H1 locs ht hvm hw hB hz1 hk1 hS => ?_)
  obtain ⟨hP1, hK1, hD1⟩ := hB
  rw [ht] at hP1
  have hK1 := va_K.moved hvm.symm hK1
  subst hw
  obtain ⟨hP, hD⟩ := va_join (wr := [(a1, .inl (t0, 0, .inl (fun _ => 0)))]) (w1 := [(a0, .inr (0, [.ref r0, .int 0, .ref r1, .int 1, .int 0, .ref a1, .int 0, .int (-1), .ref r2, .ref r3, .int 0, .int (-1), .ref r4, .ref r5]))]) hP hD [1] [0] rfl rfl (by decide) (by decide) hk1 hFc hP1 hD1
  generalize H1 = H at hP hS ⊢
  have hP : va_P (dC, dI) vwCl [(a1, .inl (t0, 0, .inl (fun _ => 0))), (a0, .inr (0, [.ref r0, .int 0, .ref r1, .int 1, .int 0, .ref a1, .int 0, .int (-1), .ref r2, .ref r3, .int 0, .int (-1), .ref r4, .ref r5]))] H := hP
  have hD : va_D A [(a1, .inl (t0, 0, .inl (fun _ => 0))), (a0, .inr (0, [.ref r0, .int 0, .ref r1, .int 1, .int 0, .ref a1, .int 0, .int (-1), .ref r2, .ref r3, .int 0, .int (-1), .ref r4, .ref r5]))] := hD
  refine lv_istore_n (lv' := [(2, .int 0), (1, .int 0), (0, .ref a0)]) hx hb d_D_insert_9 rfl hl (by decide) rfl (fun ls hl => ?_)
  have hl : lv_has ls 3 [(2, .int 0), (1, .int 0), (0, .ref a0)] := hl
  refine lv_aload_n hx hb d_D_insert_10 rfl (lv_at hl 2 rfl) ?_
  refine va_get (D := (dC, dI)) (ci := 0) (v := .int 1) (C := R_D) (T := F_D) (N := 14) hx hb hts (fun w h => List.mem_cons_of_mem _ (in_D w h)) hown hK hP 1 rfl rfl 3 (by decide) (hts _ (List.mem_cons_of_mem _ lk_39)) (fun _ h9 => h9) rfl d_D_insert_11 ?_
  refine lv_bipush (v := 40) hx hb d_D_insert_14 (by decide) ?_
  refine lv_icmp_eq (tgt := 39) hx hb d_D_insert_16 (by decide) (fun h => absurd h (by decide +kernel)) (fun _ => ?_)
  refine lv_aload_n hx hb d_D_insert_19 rfl (lv_at hl 2 rfl) ?_
  refine va_get (D := (dC, dI)) (ci := 0) (v := .ref a1) (C := R_D) (T := F_D) (N := 14) hx hb hts (fun w h => List.mem_cons_of_mem _ (in_D w h)) hown hK hP 1 rfl rfl 5 (by decide) (hts _ (List.mem_cons_of_mem _ lk_24)) (fun _ h9 => h9) rfl d_D_insert_20 ?_
  refine va_alen (v := 0) hx hb hK hP 0 0 rfl rfl (by decide) d_D_insert_23 ?_
  refine lv_iload_n hx hb d_D_insert_24 rfl (lv_at hl 0 rfl) ?_
  refine lv_iload_n hx hb d_D_insert_25 rfl (lv_at hl 1 rfl) ?_
  refine t_isub (v := 0) hx hb d_D_insert_26 (by decide +kernel) ?_
  refine t_isub (v := 0) hx hb d_D_insert_27 (by decide +kernel) ?_
  refine lv_aload_n hx hb d_D_insert_28 rfl (lv_at hl 2 rfl) ?_
  refine va_get (D := (dC, dI)) (ci := 0) (v := .int 0) (C := R_D) (T := F_D) (N := 14) hx hb hts (fun w h => List.mem_cons_of_mem _ (in_D w h)) hown hK hP 1 rfl rfl 1 (by decide) (hts _ (List.mem_cons_of_mem _ lk_170)) (fun _ h9 => h9) rfl d_D_insert_29 ?_
  refine t_iadd (v := 0) hx hb d_D_insert_32 (by decide +kernel) ?_
  refine lv_sipush (v := 160) hx hb d_D_insert_33 (by decide) ?_
  refine lv_icmp_le (tgt := 47) hx hb d_D_insert_36 (by decide) (fun _ => ?_) (fun h => absurd (by decide +kernel) h)
  refine lv_iload_n hx hb d_D_insert_47 rfl (lv_at hl 1 rfl) ?_
  refine lv_iload_n hx hb d_D_insert_48 rfl (lv_at hl 0 rfl) ?_
  refine lv_icmp_lt (tgt := 59) hx hb d_D_insert_49 (by decide) (fun h => absurd h (by decide +kernel)) (fun _ => ?_)
  refine lv_aload_n hx hb d_D_insert_52 rfl (lv_at hl 2 rfl) ?_
  refine va_get (D := (dC, dI)) (ci := 0) (v := .int 0) (C := R_D) (T := F_D) (N := 14) hx hb hts (fun w h => List.mem_cons_of_mem _ (in_D w h)) hown hK hP 1 rfl rfl 1 (by decide) (hts _ (List.mem_cons_of_mem _ lk_170)) (fun _ h9 => h9) rfl d_D_insert_53 ?_
  refine lv_if_le (tgt := 74) hx hb d_D_insert_56 (by decide) (fun _ => ?_) (fun h => absurd (by decide +kernel) h)
  refine lv_aload_n hx hb d_D_insert_74 rfl (lv_at hl 2 rfl) ?_
  refine va_get (D := (dC, dI)) (ci := 0) (v := .int 0) (C := R_D) (T := F_D) (N := 14) hx hb hts (fun w h => List.mem_cons_of_mem _ (in_D w h)) hown hK hP 1 rfl rfl 4 (by decide) (hts _ (List.mem_cons_of_mem _ lk_201)) (fun _ h9 => h9) rfl d_D_insert_75 ?_
  have hP9 := hP.sub (ws' := [(a0, .inr (0, [.ref r0, .int 0, .ref r1, .int 1, .int 0, .ref a1, .int 0, .int (-1), .ref r2, .ref r3, .int 0, .int (-1), .ref r4, .ref r5])), (a1, .inl (t0, 0, .inl (fun _ => 0)))]) [1, 0] rfl
  have hD9 := hD.sub (ws' := [(a0, .inr (0, [.ref r0, .int 0, .ref r1, .int 1, .int 0, .ref a1, .int 0, .int (-1), .ref r2, .ref r3, .int 0, .int (-1), .ref r4, .ref r5])), (a1, .inl (t0, 0, .inl (fun _ => 0)))]) [1, 0] (by decide) rfl
  have hK9 := hK.sub (tys' := [(t0, .char)]) [0] rfl
  exact W.iret (v := 0) hx hb hr (fun t ht hW => ⟨⟨0, (), rfl, rfl, by rw [ht]; exact hP9, va_K.moved hW.alike hK9, hD9⟩, hS.F ht⟩) hS.2.2 d_D_insert_78

set_option maxHeartbeats 4000000 in
set_option maxRecDepth 100000 in
theorem c_L_insert (l : Launch) (dC : Nat → ClassId) (dI : Nat → Nat → Nat) (a0 a1 a2 r0 r1 r2 r3 r4 r5 : Nat) (t0 t1 : ClassId) (sz : Nat)  : Met l y_L_insert w_L_insert ({ frames := 2, cells := 0, slots := 0, locals := 42 }) (va_Pc [.ref a0, .ref a2] (fun U => U.heap.size = sz ∧ va_P (dC, dI) vwCl [(a0, .inr (0, [.ref r0, .int 0, .ref r1, .int 1, .int 0, .ref a1, .int 0, .int (-1), .ref r2, .ref r3, .int 0, .int (-1), .ref r4, .ref r5])), (a1, .inl (t0, 0, .inl (fun _ => 0))), (a2, .inl (t1, 1, .inr (.inl (fun _ => 0))))] U.heap ∧ va_K (dC, dI) vwCl [(t0, .char), (t1, .long)] U ∧ va_D (fun _ => True) [(a0, .inr (0, [.ref r0, .int 0, .ref r1, .int 1, .int 0, .ref a1, .int 0, .int (-1), .ref r2, .ref r3, .int 0, .int (-1), .ref r4, .ref r5])), (a1, .inl (t0, 0, .inl (fun _ => 0))), (a2, .inl (t1, 1, .inr (.inl (fun _ => 0))))])) (va_Qi (fun (r : Int32) (_ : Unit) => r = 0) (fun (_ : Unit) t => va_P (dC, dI) vwCl [(a0, .inr (0, [.ref r0, .int 0, .ref r1, .int 1, .int 0, .ref a1, .int 0, .int (-1), .ref r2, .ref r3, .int 0, .int (-1), .ref r4, .ref r5])), (a1, .inl (t0, 0, .inl (fun _ => 0))), (a2, .inl (t1, 1, .inr (.inl (vp_updL (fun _ => 0) 0 0))))] t.heap ∧ va_K (dC, dI) vwCl [(t0, .char), (t1, .long)] t ∧ va_D (va_A [(a0, .inr (0, [.ref r0, .int 0, .ref r1, .int 1, .int 0, .ref a1, .int 0, .int (-1), .ref r2, .ref r3, .int 0, .int (-1), .ref r4, .ref r5])), (a1, .inl (t0, 0, .inl (fun _ => 0))), (a2, .inl (t1, 1, .inr (.inl (fun _ => 0))))] sz) [(a0, .inr (0, [.ref r0, .int 0, .ref r1, .int 1, .int 0, .ref a1, .int 0, .int (-1), .ref r2, .ref r3, .int 0, .int (-1), .ref r4, .ref r5])), (a1, .inl (t0, 0, .inl (fun _ => 0))), (a2, .inl (t1, 1, .inr (.inl (vp_updL (fun _ => 0) 0 0))))]) (va_A [(a0, .inr (0, [.ref r0, .int 0, .ref r1, .int 1, .int 0, .ref a1, .int 0, .int (-1), .ref r2, .ref r3, .int 0, .int (-1), .ref r4, .ref r5])), (a1, .inl (t0, 0, .inl (fun _ => 0))), (a2, .inl (t1, 1, .inr (.inl (fun _ => 0))))] sz)) 0 0 (va_A [(a0, .inr (0, [.ref r0, .int 0, .ref r1, .int 1, .int 0, .ref a1, .int 0, .int (-1), .ref r2, .ref r3, .int 0, .int (-1), .ref r4, .ref r5])), (a1, .inl (t0, 0, .inl (fun _ => 0))), (a2, .inl (t1, 1, .inr (.inl (fun _ => 0))))] sz) := by
  refine th_ofWw (tab := [(0, 8, 11, 13)]) (cc := method_3_code) (maxL := 3) (ret := (some .int)) (by decide) rfl ?_
  intro p e s m args below meth c s₁ B hml htab hv
  obtain ⟨rfl, hsz, hP, hK, hD0⟩ := hv
  have hx := B.exec
  have hb := B.bytes
  have hr := B.returns
  have hts := atoms_spec (ws := w_L_insert) B.pre
  have hown : s.vm.findClass R_L = some m.cls := findClass_of_methodNamed B.named
  have hlocks := B.notSynchronized
  subst hsz
  have hD := hD0.self (sz := s.heap.size)
  generalize hAe : va_A [(a0, .inr (0, [.ref r0, .int 0, .ref r1, .int 1, .int 0, .ref a1, .int 0, .int (-1), .ref r2, .ref r3, .int 0, .int (-1), .ref r4, .ref r5])), (a1, .inl (t0, 0, .inl (fun _ => 0))), (a2, .inl (t1, 1, .inr (.inl (fun _ => 0))))] s.heap.size = A at hD ⊢
  have hA : ∀ q : Nat, s.heap.size ≤ q → A q := fun q h => by rw [← hAe]; exact Or.inr h
  have hS : va_S A s.heap s.heap [] := va_S.rf
  have hP : va_P (dC, dI) vwCl [(a0, .inr (0, [.ref r0, .int 0, .ref r1, .int 1, .int 0, .ref a1, .int 0, .int (-1), .ref r2, .ref r3, .int 0, .int (-1), .ref r4, .ref r5])), (a1, .inl (t0, 0, .inl (fun _ => 0))), (a2, .inl (t1, 1, .inr (.inl (fun _ => 0))))] s.heap := hP
  have hl := lv_entry ([.ref a0, .ref a2]) (n := 3) (Nat.le_of_ble_eq_true rfl)
  rw [lg_entry_eq]
  generalize (lg_sl ([.ref a0, .ref a2]) ++ List.replicate (3 - (lg_sl ([.ref a0, .ref a2])).length) Slot.unset).toArray = ls at hl ⊢
  have hl : lv_has ls 3 [(0, .ref a0), (1, .ref a2)] := hl
  refine lv_aload_n hx hb d_L_insert_0 rfl (lv_at hl 1 rfl) ?_
  refine lv_iconst (v := 0) hx hb d_L_insert_1 (by decide) ?_
  refine lv_aload_n hx hb d_L_insert_2 rfl (lv_at hl 0 rfl) ?_
  have hPc := hP.sub (ws' := [(a0, .inr (0, [.ref r0, .int 0, .ref r1, .int 1, .int 0, .ref a1, .int 0, .int (-1), .ref r2, .ref r3, .int 0, .int (-1), .ref r4, .ref r5])), (a1, .inl (t0, 0, .inl (fun _ => 0)))]) [0, 1] rfl
  have hDc := hD.sub (ws' := [(a0, .inr (0, [.ref r0, .int 0, .ref r1, .int 1, .int 0, .ref a1, .int 0, .int (-1), .ref r2, .ref r3, .int 0, .int (-1), .ref r4, .ref r5])), (a1, .inl (t0, 0, .inl (fun _ => 0)))]) [0, 1] (by decide) rfl
  have hKc := hK.sub (tys' := [(t0, .char)]) [0] rfl
  have hFc := va_free (wc := [(a0, .inr (0, [.ref r0, .int 0, .ref r1, .int 1, .int 0, .ref a1, .int 0, .int (-1), .ref r2, .ref r3, .int 0, .int (-1), .ref r4, .ref r5])), (a1, .inl (t0, 0, .inl (fun _ => 0)))]) hD hS hA [0, 1] rfl
  refine va_calli (va_runV (As := []) (rest := [.int 0, .ref a2]) ⟨hx, hb, hml, hown, hts⟩ (c_D_insert l dC dI a0 a1 r0 r1 r2 r3 r4 r5 t0 s.heap.size) (cwV 0 hts (gd_v lk_203 lk_204 lk_205 lk_16 lk_202) rfl rfl rfl (by decide +kernel) ⟨Nat.le_of_ble_eq_true rfl, Nat.le_of_ble_eq_true rfl⟩) ⟨fun a U g mk q => by obtain ⟨q0, q1, qP, qK, qD⟩ := q; exact ⟨q0, q1, qP, va_K.moved (u := U) (U := U.calling g mk a) (Vm.Alike.refl U.vm) qK, qD⟩, va_recv (ci := 0) (q0 := 0) hK hP rfl rfl, fun U hU hW => ⟨rfl, by rw [hU], by rw [hU]; exact hPc, va_K.moved hW.alike hKc, hDc.weaken (fun _ _ _ _ => trivial)⟩⟩ rfl rfl hl.1 rfl (lv_room (Nat.le_of_ble_eq_true rfl)) d_L_insert_3 ⟨Nat.le_of_ble_eq_true rfl, Nat.le_of_ble_eq_true rfl⟩) hS (fun q _ h => hFc q h) hFc (fun r u t H1 locs ht hvm hw hB hz1 hk1 hS => ?_)
  obtain ⟨hP1, hK1, hD1⟩ := hB
  rw [ht] at hP1
  have hK1 := va_K.moved hvm.symm hK1
  subst hw
  obtain ⟨hP, hD⟩ := va_join (wr := [(a2, .inl (t1, 1, .inr (.inl (fun _ => 0))))]) (w1 := [(a0, .inr (0, [.ref r0, .int 0, .ref r1, .int 1, .int 0, .ref a1, .int 0, .int (-1), .ref r2, .ref r3, .int 0, .int (-1), .ref r4, .ref r5])), (a1, .inl (t0, 0, .inl (fun _ => 0)))]) hP hD [0, 1] [2] rfl rfl (by decide) (by decide) hk1 hFc hP1 hD1
  generalize H1 = H at hP hS ⊢
  have hP : va_P (dC, dI) vwCl [(a2, .inl (t1, 1, .inr (.inl (fun _ => 0)))), (a0, .inr (0, [.ref r0, .int 0, .ref r1, .int 1, .int 0, .ref a1, .int 0, .int (-1), .ref r2, .ref r3, .int 0, .int (-1), .ref r4, .ref r5])), (a1, .inl (t0, 0, .inl (fun _ => 0)))] H := hP
  have hD : va_D A [(a2, .inl (t1, 1, .inr (.inl (fun _ => 0)))), (a0, .inr (0, [.ref r0, .int 0, .ref r1, .int 1, .int 0, .ref a1, .int 0, .int (-1), .ref r2, .ref r3, .int 0, .int (-1), .ref r4, .ref r5])), (a1, .inl (t0, 0, .inl (fun _ => 0)))] := hD
  refine lv_i2l (v := 0) hx hb d_L_insert_6 (by decide +kernel) ?_
  refine va_last hx hb hK hP hD hS 0 1 rfl rfl (wk_in (by decide +kernel)) d_L_insert_7 (fun H locs hP hD hS => ?_)
  have hP : va_P (dC, dI) vwCl [(a2, .inl (t1, 1, .inr (.inl (vp_updL (fun _ => 0) 0 0)))), (a0, .inr (0, [.ref r0, .int 0, .ref r1, .int 1, .int 0, .ref a1, .int 0, .int (-1), .ref r2, .ref r3, .int 0, .int (-1), .ref r4, .ref r5])), (a1, .inl (t0, 0, .inl (fun _ => 0)))] H := hP
  have hD : va_D A [(a2, .inl (t1, 1, .inr (.inl (vp_updL (fun _ => 0) 0 0)))), (a0, .inr (0, [.ref r0, .int 0, .ref r1, .int 1, .int 0, .ref a1, .int 0, .int (-1), .ref r2, .ref r3, .int 0, .int (-1), .ref r4, .ref r5])), (a1, .inl (t0, 0, .inl (fun _ => 0)))] := hD
  refine lv_goto (tgt := 14) hx hb d_L_insert_8 (by decide) ?_
  refine lv_iconst (v := 0) hx hb d_L_insert_14 (by decide) ?_
  have hP9 := hP.sub (ws' := [(a0, .inr (0, [.ref r0, .int 0, .ref r1, .int 1, .int 0, .ref a1, .int 0, .int (-1), .ref r2, .ref r3, .int 0, .int (-1), .ref r4, .ref r5])), (a1, .inl (t0, 0, .inl (fun _ => 0))), (a2, .inl (t1, 1, .inr (.inl (vp_updL (fun _ => 0) 0 0))))]) [1, 2, 0] rfl
  have hD9 := hD.sub (ws' := [(a0, .inr (0, [.ref r0, .int 0, .ref r1, .int 1, .int 0, .ref a1, .int 0, .int (-1), .ref r2, .ref r3, .int 0, .int (-1), .ref r4, .ref r5])), (a1, .inl (t0, 0, .inl (fun _ => 0))), (a2, .inl (t1, 1, .inr (.inl (vp_updL (fun _ => 0) 0 0))))]) [1, 2, 0] (by decide) rfl
  have hK9 := hK.sub (tys' := [(t0, .char), (t1, .long)]) [0, 1] rfl
  exact W.iret (v := 0) hx hb hr (fun t ht hW => ⟨⟨0, (), rfl, rfl, by rw [ht]; exact hP9, va_K.moved hW.alike hK9, hD9⟩, hS.F ht⟩) hS.2.2 d_L_insert_15

set_option maxHeartbeats 4000000 in
set_option maxRecDepth 100000 in
theorem c_M_low (l : Launch) (dC : Nat → ClassId) (dI : Nat → Nat → Nat) (a0 r0 r1 r2 r3 r4 r5 r6 r7 r8 r9 r10 r11 r12 r13 r14 r15 r16 r17 r18 r19 : Nat) (sz : Nat)  : Met l y_M_low w_M_low ({ frames := 0, cells := 0, slots := 0, locals := 0 }) (va_Pc [.ref a0] (fun U => U.heap.size = sz ∧ va_P (dC, dI) vwCl [(a0, .inr (4, [.int 0, .int 0, .ref r0, .int 1, .int 0, .ref r1, .ref r2, .ref r3, .ref r4, .ref r5, .int 0, .int 0, .int (-1), .int 0, .int (-1), .int 0, .ref r6, .int 0, .ref r7, .ref r8, .ref r9, .ref r10, .ref r11, .int 0, .int 0, .int 0, .ref r12, .ref r13, .int 0, .ref r14, .ref r15, .ref r16, .ref r17, .ref r18, .int 0, .int 0, .int 0, .ref r19]))] U.heap ∧ va_K (dC, dI) vwCl [] U ∧ va_D (fun _ => True) [(a0, .inr (4, [.int 0, .int 0, .ref r0, .int 1, .int 0, .ref r1, .ref r2, .ref r3, .ref r4, .ref r5, .int 0, .int 0, .int (-1), .int 0, .int (-1), .int 0, .ref r6, .int 0, .ref r7, .ref r8, .ref r9, .ref r10, .ref r11, .int 0, .int 0, .int 0, .ref r12, .ref r13, .int 0, .ref r14, .ref r15, .ref r16, .ref r17, .ref r18, .int 0, .int 0, .int 0, .ref r19]))])) (va_Qi (fun (r : Int32) (_ : Unit) => r = 0) (fun (_ : Unit) t => va_P (dC, dI) vwCl [(a0, .inr (4, [.int 0, .int 0, .ref r0, .int 1, .int 0, .ref r1, .ref r2, .ref r3, .ref r4, .ref r5, .int 0, .int 0, .int (-1), .int 0, .int (-1), .int 0, .ref r6, .int 0, .ref r7, .ref r8, .ref r9, .ref r10, .ref r11, .int 0, .int 0, .int 0, .ref r12, .ref r13, .int 0, .ref r14, .ref r15, .ref r16, .ref r17, .ref r18, .int 0, .int 0, .int 0, .ref r19]))] t.heap ∧ va_K (dC, dI) vwCl [] t ∧ va_D (va_A [(a0, .inr (4, [.int 0, .int 0, .ref r0, .int 1, .int 0, .ref r1, .ref r2, .ref r3, .ref r4, .ref r5, .int 0, .int 0, .int (-1), .int 0, .int (-1), .int 0, .ref r6, .int 0, .ref r7, .ref r8, .ref r9, .ref r10, .ref r11, .int 0, .int 0, .int 0, .ref r12, .ref r13, .int 0, .ref r14, .ref r15, .ref r16, .ref r17, .ref r18, .int 0, .int 0, .int 0, .ref r19]))] sz) [(a0, .inr (4, [.int 0, .int 0, .ref r0, .int 1, .int 0, .ref r1, .ref r2, .ref r3, .ref r4, .ref r5, .int 0, .int 0, .int (-1), .int 0, .int (-1), .int 0, .ref r6, .int 0, .ref r7, .ref r8, .ref r9, .ref r10, .ref r11, .int 0, .int 0, .int 0, .ref r12, .ref r13, .int 0, .ref r14, .ref r15, .ref r16, .ref r17, .ref r18, .int 0, .int 0, .int 0, .ref r19]))]) (va_A [(a0, .inr (4, [.int 0, .int 0, .ref r0, .int 1, .int 0, .ref r1, .ref r2, .ref r3, .ref r4, .ref r5, .int 0, .int 0, .int (-1), .int 0, .int (-1), .int 0, .ref r6, .int 0, .ref r7, .ref r8, .ref r9, .ref r10, .ref r11, .int 0, .int 0, .int 0, .ref r12, .ref r13, .int 0, .ref r14, .ref r15, .ref r16, .ref r17, .ref r18, .int 0, .int 0, .int 0, .ref r19]))] sz)) 0 0 (va_A [(a0, .inr (4, [.int 0, .int 0, .ref r0, .int 1, .int 0, .ref r1, .ref r2, .ref r3, .ref r4, .ref r5, .int 0, .int 0, .int (-1), .int 0, .int (-1), .int 0, .ref r6, .int 0, .ref r7, .ref r8, .ref r9, .ref r10, .ref r11, .int 0, .int 0, .int 0, .ref r12, .ref r13, .int 0, .ref r14, .ref r15, .ref r16, .ref r17, .ref r18, .int 0, .int 0, .int 0, .ref r19]))] sz) := by
  refine Met.ofW (cc := prog_6_method_13_code) (maxL := 1) (ret := (some .int)) (by decide) rfl ?_
  intro p e s m args below meth c s₁ B hml hv
  obtain ⟨rfl, hsz, hP, hK, hD0⟩ := hv
  have hx := B.exec
  have hb := B.bytes
  have hr := B.returns
  have hts := atoms_spec (ws := w_M_low) B.pre
  have hown : s.vm.findClass R_M = some m.cls := findClass_of_methodNamed B.named
  have hlocks := B.notSynchronized
  subst hsz
  have hD := hD0.self (sz := s.heap.size)
  generalize hAe : va_A [(a0, .inr (4, [.int 0, .int 0, .ref r0, .int 1, .int 0, .ref r1, .ref r2, .ref r3, .ref r4, .ref r5, .int 0, .int 0, .int (-1), .int 0, .int (-1), .int 0, .ref r6, .int 0, .ref r7, .ref r8, .ref r9, .ref r10, .ref r11, .int 0, .int 0, .int 0, .ref r12, .ref r13, .int 0, .ref r14, .ref r15, .ref r16, .ref r17, .ref r18, .int 0, .int 0, .int 0, .ref r19]))] s.heap.size = A at hD ⊢
  have hA : ∀ q : Nat, s.heap.size ≤ q → A q := fun q h => by rw [← hAe]; exact Or.inr h
  have hS : va_S A s.heap s.heap [] := va_S.rf
  have hP : va_P (dC, dI) vwCl [(a0, .inr (4, [.int 0, .int 0, .ref r0, .int 1, .int 0, .ref r1, .ref r2, .ref r3, .ref r4, .ref r5, .int 0, .int 0, .int (-1), .int 0, .int (-1), .int 0, .ref r6, .int 0, .ref r7, .ref r8, .ref r9, .ref r10, .ref r11, .int 0, .int 0, .int 0, .ref r12, .ref r13, .int 0, .ref r14, .ref r15, .ref r16, .ref r17, .ref r18, .int 0, .int 0, .int 0, .ref r19]))] s.heap := hP
  have hl := lv_entry ([.ref a0]) (n := 1) (Nat.le_of_ble_eq_true rfl)
  rw [lg_entry_eq]
  generalize (lg_sl ([.ref a0]) ++ List.replicate (1 - (lg_sl ([.ref a0])).length) Slot.unset).toArray = ls at hl ⊢
  have hl : lv_has ls 1 [(0, .ref a0)] := hl
  refine lv_aload_n hx hb d_M_low_0 rfl (lv_at hl 0 rfl) ?_
  refine va_get (D := (dC, dI)) (ci := 4) (v := .int (-1)) (C := R_M) (T := F_M) (N := 38) hx hb hts (fun w h => List.mem_cons_of_mem _ (in_M w h)) hown hK hP 0 rfl rfl 12 (by decide) (hts _ (List.mem_cons_of_mem _ lk_150)) (fun _ h9 => h9) rfl d_M_low_1 ?_
  refine lv_if_lt (tgt := 25) hx hb d_M_low_4 (by decide) (fun _ => ?_) (fun h => absurd (by decide +kernel) h)
  refine lv_aload_n hx hb d_M_low_25 rfl (lv_at hl 0 rfl) ?_
  refine va_get (D := (dC, dI)) (ci := 4) (v := .int 0) (C := R_M) (T := F_M) (N := 38) hx hb hts (fun w h => List.mem_cons_of_mem _ (in_M w h)) hown hK hP 0 rfl rfl 11 (by decide) (hts _ (List.mem_cons_of_mem _ lk_210)) (fun _ h9 => h9) rfl d_M_low_26 ?_
  have hP9 := hP.sub (ws' := [(a0, .inr (4, [.int 0, .int 0, .ref r0, .int 1, .int 0, .ref r1, .ref r2, .ref r3, .ref r4, .ref r5, .int 0, .int 0, .int (-1), .int 0, .int (-1), .int 0, .ref r6, .int 0, .ref r7, .ref r8, .ref r9, .ref r10, .ref r11, .int 0, .int 0, .int 0, .ref r12, .ref r13, .int 0, .ref r14, .ref r15, .ref r16, .ref r17, .ref r18, .int 0, .int 0, .int 0, .ref r19]))]) [0] rfl
  have hD9 := hD.sub (ws' := [(a0, .inr (4, [.int 0, .int 0, .ref r0, .int 1, .int 0, .ref r1, .ref r2, .ref r3, .ref r4, .ref r5, .int 0, .int 0, .int (-1), .int 0, .int (-1), .int 0, .ref r6, .int 0, .ref r7, .ref r8, .ref r9, .ref r10, .ref r11, .int 0, .int 0, .int 0, .ref r12, .ref r13, .int 0, .ref r14, .ref r15, .ref r16, .ref r17, .ref r18, .int 0, .int 0, .int 0, .ref r19]))]) [0] (by decide) rfl
  have hK9 := hK.sub (tys' := []) [] rfl
  exact W.iret (v := 0) hx hb hr (fun t ht hW => ⟨⟨0, (), rfl, rfl, by rw [ht]; exact hP9, va_K.moved hW.alike hK9, hD9⟩, hS.F ht⟩) hS.2.2 d_M_low_29

set_option maxHeartbeats 4000000 in
set_option maxRecDepth 100000 in
theorem c_M_high (l : Launch) (dC : Nat → ClassId) (dI : Nat → Nat → Nat) (a0 r0 r1 r2 r3 r4 r5 r6 r7 r8 r9 r10 r11 r12 r13 r14 r15 r16 r17 r18 r19 : Nat) (sz : Nat)  : Met l y_M_high w_M_high ({ frames := 0, cells := 0, slots := 0, locals := 0 }) (va_Pc [.ref a0] (fun U => U.heap.size = sz ∧ va_P (dC, dI) vwCl [(a0, .inr (4, [.int 0, .int 0, .ref r0, .int 1, .int 0, .ref r1, .ref r2, .ref r3, .ref r4, .ref r5, .int 0, .int 0, .int (-1), .int 0, .int (-1), .int 0, .ref r6, .int 0, .ref r7, .ref r8, .ref r9, .ref r10, .ref r11, .int 0, .int 0, .int 0, .ref r12, .ref r13, .int 0, .ref r14, .ref r15, .ref r16, .ref r17, .ref r18, .int 0, .int 0, .int 0, .ref r19]))] U.heap ∧ va_K (dC, dI) vwCl [] U ∧ va_D (fun _ => True) [(a0, .inr (4, [.int 0, .int 0, .ref r0, .int 1, .int 0, .ref r1, .ref r2, .ref r3, .ref r4, .ref r5, .int 0, .int 0, .int (-1), .int 0, .int (-1), .int 0, .ref r6, .int 0, .ref r7, .ref r8, .ref r9, .ref r10, .ref r11, .int 0, .int 0, .int 0, .ref r12, .ref r13, .int 0, .ref r14, .ref r15, .ref r16, .ref r17, .ref r18, .int 0, .int 0, .int 0, .ref r19]))])) (va_Qi (fun (r : Int32) (_ : Unit) => r = 0) (fun (_ : Unit) t => va_P (dC, dI) vwCl [(a0, .inr (4, [.int 0, .int 0, .ref r0, .int 1, .int 0, .ref r1, .ref r2, .ref r3, .ref r4, .ref r5, .int 0, .int 0, .int (-1), .int 0, .int (-1), .int 0, .ref r6, .int 0, .ref r7, .ref r8, .ref r9, .ref r10, .ref r11, .int 0, .int 0, .int 0, .ref r12, .ref r13, .int 0, .ref r14, .ref r15, .ref r16, .ref r17, .ref r18, .int 0, .int 0, .int 0, .ref r19]))] t.heap ∧ va_K (dC, dI) vwCl [] t ∧ va_D (va_A [(a0, .inr (4, [.int 0, .int 0, .ref r0, .int 1, .int 0, .ref r1, .ref r2, .ref r3, .ref r4, .ref r5, .int 0, .int 0, .int (-1), .int 0, .int (-1), .int 0, .ref r6, .int 0, .ref r7, .ref r8, .ref r9, .ref r10, .ref r11, .int 0, .int 0, .int 0, .ref r12, .ref r13, .int 0, .ref r14, .ref r15, .ref r16, .ref r17, .ref r18, .int 0, .int 0, .int 0, .ref r19]))] sz) [(a0, .inr (4, [.int 0, .int 0, .ref r0, .int 1, .int 0, .ref r1, .ref r2, .ref r3, .ref r4, .ref r5, .int 0, .int 0, .int (-1), .int 0, .int (-1), .int 0, .ref r6, .int 0, .ref r7, .ref r8, .ref r9, .ref r10, .ref r11, .int 0, .int 0, .int 0, .ref r12, .ref r13, .int 0, .ref r14, .ref r15, .ref r16, .ref r17, .ref r18, .int 0, .int 0, .int 0, .ref r19]))]) (va_A [(a0, .inr (4, [.int 0, .int 0, .ref r0, .int 1, .int 0, .ref r1, .ref r2, .ref r3, .ref r4, .ref r5, .int 0, .int 0, .int (-1), .int 0, .int (-1), .int 0, .ref r6, .int 0, .ref r7, .ref r8, .ref r9, .ref r10, .ref r11, .int 0, .int 0, .int 0, .ref r12, .ref r13, .int 0, .ref r14, .ref r15, .ref r16, .ref r17, .ref r18, .int 0, .int 0, .int 0, .ref r19]))] sz)) 0 0 (va_A [(a0, .inr (4, [.int 0, .int 0, .ref r0, .int 1, .int 0, .ref r1, .ref r2, .ref r3, .ref r4, .ref r5, .int 0, .int 0, .int (-1), .int 0, .int (-1), .int 0, .ref r6, .int 0, .ref r7, .ref r8, .ref r9, .ref r10, .ref r11, .int 0, .int 0, .int 0, .ref r12, .ref r13, .int 0, .ref r14, .ref r15, .ref r16, .ref r17, .ref r18, .int 0, .int 0, .int 0, .ref r19]))] sz) := by
  refine Met.ofW (cc := prog_6_method_14_code) (maxL := 1) (ret := (some .int)) (by decide) rfl ?_
  intro p e s m args below meth c s₁ B hml hv
  obtain ⟨rfl, hsz, hP, hK, hD0⟩ := hv
  have hx := B.exec
  have hb := B.bytes
  have hr := B.returns
  have hts := atoms_spec (ws := w_M_high) B.pre
  have hown : s.vm.findClass R_M = some m.cls := findClass_of_methodNamed B.named
  have hlocks := B.notSynchronized
  subst hsz
  have hD := hD0.self (sz := s.heap.size)
  generalize hAe : va_A [(a0, .inr (4, [.int 0, .int 0, .ref r0, .int 1, .int 0, .ref r1, .ref r2, .ref r3, .ref r4, .ref r5, .int 0, .int 0, .int (-1), .int 0, .int (-1), .int 0, .ref r6, .int 0, .ref r7, .ref r8, .ref r9, .ref r10, .ref r11, .int 0, .int 0, .int 0, .ref r12, .ref r13, .int 0, .ref r14, .ref r15, .ref r16, .ref r17, .ref r18, .int 0, .int 0, .int 0, .ref r19]))] s.heap.size = A at hD ⊢
  have hA : ∀ q : Nat, s.heap.size ≤ q → A q := fun q h => by rw [← hAe]; exact Or.inr h
  have hS : va_S A s.heap s.heap [] := va_S.rf
  have hP : va_P (dC, dI) vwCl [(a0, .inr (4, [.int 0, .int 0, .ref r0, .int 1, .int 0, .ref r1, .ref r2, .ref r3, .ref r4, .ref r5, .int 0, .int 0, .int (-1), .int 0, .int (-1), .int 0, .ref r6, .int 0, .ref r7, .ref r8, .ref r9, .ref r10, .ref r11, .int 0, .int 0, .int 0, .ref r12, .ref r13, .int 0, .ref r14, .ref r15, .ref r16, .ref r17, .ref r18, .int 0, .int 0, .int 0, .ref r19]))] s.heap := hP
  have hl := lv_entry ([.ref a0]) (n := 1) (Nat.le_of_ble_eq_true rfl)
  rw [lg_entry_eq]
  generalize (lg_sl ([.ref a0]) ++ List.replicate (1 - (lg_sl ([.ref a0])).length) Slot.unset).toArray = ls at hl ⊢
  have hl : lv_has ls 1 [(0, .ref a0)] := hl
  refine lv_aload_n hx hb d_M_high_0 rfl (lv_at hl 0 rfl) ?_
  refine va_get (D := (dC, dI)) (ci := 4) (v := .int (-1)) (C := R_M) (T := F_M) (N := 38) hx hb hts (fun w h => List.mem_cons_of_mem _ (in_M w h)) hown hK hP 0 rfl rfl 12 (by decide) (hts _ (List.mem_cons_of_mem _ lk_150)) (fun _ h9 => h9) rfl d_M_high_1 ?_
  refine lv_aload_n hx hb d_M_high_4 rfl (lv_at hl 0 rfl) ?_
  refine va_get (D := (dC, dI)) (ci := 4) (v := .int 0) (C := R_M) (T := F_M) (N := 38) hx hb hts (fun w h => List.mem_cons_of_mem _ (in_M w h)) hown hK hP 0 rfl rfl 11 (by decide) (hts _ (List.mem_cons_of_mem _ lk_210)) (fun _ h9 => h9) rfl d_M_high_5 ?_
  refine lv_icmp_le (tgt := 18) hx hb d_M_high_8 (by decide) (fun _ => ?_) (fun h => absurd (by decide +kernel) h)
  refine lv_aload_n hx hb d_M_high_18 rfl (lv_at hl 0 rfl) ?_
  refine va_get (D := (dC, dI)) (ci := 4) (v := .int 0) (C := R_M) (T := F_M) (N := 38) hx hb hts (fun w h => List.mem_cons_of_mem _ (in_M w h)) hown hK hP 0 rfl rfl 11 (by decide) (hts _ (List.mem_cons_of_mem _ lk_210)) (fun _ h9 => h9) rfl d_M_high_19 ?_
  have hP9 := hP.sub (ws' := [(a0, .inr (4, [.int 0, .int 0, .ref r0, .int 1, .int 0, .ref r1, .ref r2, .ref r3, .ref r4, .ref r5, .int 0, .int 0, .int (-1), .int 0, .int (-1), .int 0, .ref r6, .int 0, .ref r7, .ref r8, .ref r9, .ref r10, .ref r11, .int 0, .int 0, .int 0, .ref r12, .ref r13, .int 0, .ref r14, .ref r15, .ref r16, .ref r17, .ref r18, .int 0, .int 0, .int 0, .ref r19]))]) [0] rfl
  have hD9 := hD.sub (ws' := [(a0, .inr (4, [.int 0, .int 0, .ref r0, .int 1, .int 0, .ref r1, .ref r2, .ref r3, .ref r4, .ref r5, .int 0, .int 0, .int (-1), .int 0, .int (-1), .int 0, .ref r6, .int 0, .ref r7, .ref r8, .ref r9, .ref r10, .ref r11, .int 0, .int 0, .int 0, .ref r12, .ref r13, .int 0, .ref r14, .ref r15, .ref r16, .ref r17, .ref r18, .int 0, .int 0, .int 0, .ref r19]))]) [0] (by decide) rfl
  have hK9 := hK.sub (tys' := []) [] rfl
  exact W.iret (v := 0) hx hb hr (fun t ht hW => ⟨⟨0, (), rfl, rfl, by rw [ht]; exact hP9, va_K.moved hW.alike hK9, hD9⟩, hS.F ht⟩) hS.2.2 d_M_high_22

set_option maxHeartbeats 4000000 in
set_option maxRecDepth 100000 in
theorem c_M_insert (l : Launch) (dC : Nat → ClassId) (dI : Nat → Nat → Nat) (a0 r0 r1 r2 r3 r4 r5 r6 r7 r8 r9 r10 r11 r12 r13 r14 r15 r16 r17 r18 r19 : Nat) (sz : Nat)  : Met l y_M_insert w_M_insert ({ frames := 1, cells := 0, slots := 0, locals := 20 }) (va_Pc [.ref a0] (fun U => U.heap.size = sz ∧ va_P (dC, dI) vwCl [(a0, .inr (4, [.int 0, .int 0, .ref r0, .int 1, .int 0, .ref r1, .ref r2, .ref r3, .ref r4, .ref r5, .int 0, .int 0, .int (-1), .int 0, .int (-1), .int 0, .ref r6, .int 0, .ref r7, .ref r8, .ref r9, .ref r10, .ref r11, .int 0, .int 0, .int 0, .ref r12, .ref r13, .int 0, .ref r14, .ref r15, .ref r16, .ref r17, .ref r18, .int 0, .int 0, .int 0, .ref r19]))] U.heap ∧ va_K (dC, dI) vwCl [] U ∧ va_D (fun _ => True) [(a0, .inr (4, [.int 0, .int 0, .ref r0, .int 1, .int 0, .ref r1, .ref r2, .ref r3, .ref r4, .ref r5, .int 0, .int 0, .int (-1), .int 0, .int (-1), .int 0, .ref r6, .int 0, .ref r7, .ref r8, .ref r9, .ref r10, .ref r11, .int 0, .int 0, .int 0, .ref r12, .ref r13, .int 0, .ref r14, .ref r15, .ref r16, .ref r17, .ref r18, .int 0, .int 0, .int 0, .ref r19]))])) (va_Qi (fun (r : Int32) (_ : Unit) => r = 0) (fun (_ : Unit) t => va_P (dC, dI) vwCl [(a0, .inr (4, [.int 0, .int 0, .ref r0, .int 1, .int 0, .ref r1, .ref r2, .ref r3, .ref r4, .ref r5, .int 0, .int 0, .int (-1), .int 0, .int (-1), .int 0, .ref r6, .int 0, .ref r7, .ref r8, .ref r9, .ref r10, .ref r11, .int 0, .int 0, .int 0, .ref r12, .ref r13, .int 0, .ref r14, .ref r15, .ref r16, .ref r17, .ref r18, .int 0, .int 0, .int 0, .ref r19]))] t.heap ∧ va_K (dC, dI) vwCl [] t ∧ va_D (va_A [(a0, .inr (4, [.int 0, .int 0, .ref r0, .int 1, .int 0, .ref r1, .ref r2, .ref r3, .ref r4, .ref r5, .int 0, .int 0, .int (-1), .int 0, .int (-1), .int 0, .ref r6, .int 0, .ref r7, .ref r8, .ref r9, .ref r10, .ref r11, .int 0, .int 0, .int 0, .ref r12, .ref r13, .int 0, .ref r14, .ref r15, .ref r16, .ref r17, .ref r18, .int 0, .int 0, .int 0, .ref r19]))] sz) [(a0, .inr (4, [.int 0, .int 0, .ref r0, .int 1, .int 0, .ref r1, .ref r2, .ref r3, .ref r4, .ref r5, .int 0, .int 0, .int (-1), .int 0, .int (-1), .int 0, .ref r6, .int 0, .ref r7, .ref r8, .ref r9, .ref r10, .ref r11, .int 0, .int 0, .int 0, .ref r12, .ref r13, .int 0, .ref r14, .ref r15, .ref r16, .ref r17, .ref r18, .int 0, .int 0, .int 0, .ref r19]))]) (va_A [(a0, .inr (4, [.int 0, .int 0, .ref r0, .int 1, .int 0, .ref r1, .ref r2, .ref r3, .ref r4, .ref r5, .int 0, .int 0, .int (-1), .int 0, .int (-1), .int 0, .ref r6, .int 0, .ref r7, .ref r8, .ref r9, .ref r10, .ref r11, .int 0, .int 0, .int 0, .ref r12, .ref r13, .int 0, .ref r14, .ref r15, .ref r16, .ref r17, .ref r18, .int 0, .int 0, .int 0, .ref r19]))] sz)) 0 0 (va_A [(a0, .inr (4, [.int 0, .int 0, .ref r0, .int 1, .int 0, .ref r1, .ref r2, .ref r3, .ref r4, .ref r5, .int 0, .int 0, .int (-1), .int 0, .int (-1), .int 0, .ref r6, .int 0, .ref r7, .ref r8, .ref r9, .ref r10, .ref r11, .int 0, .int 0, .int 0, .ref r12, .ref r13, .int 0, .ref r14, .ref r15, .ref r16, .ref r17, .ref r18, .int 0, .int 0, .int 0, .ref r19]))] sz) := by
  refine Met.ofW (cc := prog_6_method_15_code) (maxL := 5) (ret := (some .int)) (by decide) rfl ?_
  intro p e s m args below meth c s₁ B hml hv
  obtain ⟨rfl, hsz, hP, hK, hD0⟩ := hv
  have hx := B.exec
  have hb := B.bytes
  have hr := B.returns
  have hts := atoms_spec (ws := w_M_insert) B.pre
  have hown : s.vm.findClass R_M = some m.cls := findClass_of_methodNamed B.named
  have hlocks := B.notSynchronized
  subst hsz
  have hD := hD0.self (sz := s.heap.size)
  generalize hAe : va_A [(a0, .inr (4, [.int 0, .int 0, .ref r0, .int 1, .int 0, .ref r1, .ref r2, .ref r3, .ref r4, .ref r5, .int 0, .int 0, .int (-1), .int 0, .int (-1), .int 0, .ref r6, .int 0, .ref r7, .ref r8, .ref r9, .ref r10, .ref r11, .int 0, .int 0, .int 0, .ref r12, .ref r13, .int 0, .ref r14, .ref r15, .ref r16, .ref r17, .ref r18, .int 0, .int 0, .int 0, .ref r19]))] s.heap.size = A at hD ⊢
  have hA : ∀ q : Nat, s.heap.size ≤ q → A q := fun q h => by rw [← hAe]; exact Or.inr h
  have hS : va_S A s.heap s.heap [] := va_S.rf
  have hP : va_P (dC, dI) vwCl [(a0, .inr (4, [.int 0, .int 0, .ref r0, .int 1, .int 0, .ref r1, .ref r2, .ref r3, .ref r4, .ref r5, .int 0, .int 0, .int (-1), .int 0, .int (-1), .int 0, .ref r6, .int 0, .ref r7, .ref r8, .ref r9, .ref r10, .ref r11, .int 0, .int 0, .int 0, .ref r12, .ref r13, .int 0, .ref r14, .ref r15, .ref r16, .ref r17, .ref r18, .int 0, .int 0, .int 0, .ref r19]))] s.heap := hP
  have hl := lv_entry ([.ref a0]) (n := 5) (Nat.le_of_ble_eq_true rfl)
  rw [lg_entry_eq]
  generalize (lg_sl ([.ref a0]) ++ List.replicate (5 - (lg_sl ([.ref a0])).length) Slot.unset).toArray = ls at hl ⊢
  have hl : lv_has ls 5 [(0, .ref a0)] := hl
  refine lv_aload_n hx hb d_M_insert_0 rfl (lv_at hl 0 rfl) ?_
  have hPc := hP.sub (ws' := [(a0, .inr (4, [.int 0, .int 0, .ref r0, .int 1, .int 0, .ref r1, .ref r2, .ref r3, .ref r4, .ref r5, .int 0, .int 0, .int (-1), .int 0, .int (-1), .int 0, .ref r6, .int 0, .ref r7, .ref r8, .ref r9, .ref r10, .ref r11, .int 0, .int 0, .int 0, .ref r12, .ref r13, .int 0, .ref r14, .ref r15, .ref r16, .ref r17, .ref r18, .int 0, .int 0, .int 0, .ref r19]))]) [0] rfl
  have hDc := hD.sub (ws' := [(a0, .inr (4, [.int 0, .int 0, .ref r0, .int 1, .int 0, .ref r1, .ref r2, .ref r3, .ref r4, .ref r5, .int 0, .int 0, .int (-1), .int 0, .int (-1), .int 0, .ref r6, .int 0, .ref r7, .ref r8, .ref r9, .ref r10, .ref r11, .int 0, .int 0, .int 0, .ref r12, .ref r13, .int 0, .ref r14, .ref r15, .ref r16, .ref r17, .ref r18, .int 0, .int 0, .int 0, .ref r19]))]) [0] (by decide) rfl
  have hKc := hK.sub (tys' := []) [] rfl
  have hFc := va_free (wc := [(a0, .inr (4, [.int 0, .int 0, .ref r0, .int 1, .int 0, .ref r1, .ref r2, .ref r3, .ref r4, .ref r5, .int 0, .int 0, .int (-1), .int 0, .int (-1), .int 0, .ref r6, .int 0, .ref r7, .ref r8, .ref r9, .ref r10, .ref r11, .int 0, .int 0, .int 0, .ref r12, .ref r13, .int 0, .ref r14, .ref r15, .ref r16, .ref r17, .ref r18, .int 0, .int 0, .int 0, .ref r19]))]) hD hS hA [0] rfl
  refine va_calli (va_runV (As := []) (rest := []) ⟨hx, hb, hml, hown, hts⟩ (c_M_low l dC dI a0 r0 r1 r2 r3 r4 r5 r6 r7 r8 r9 r10 r11 r12 r13 r14 r15 r16 r17 r18 r19 s.heap.size) (cwV 0 hts (gd_v lk_212 lk_213 lk_214 lk_141 lk_211) rfl rfl rfl (by decide +kernel) ⟨Nat.le_of_ble_eq_true rfl, Nat.le_of_ble_eq_true rfl⟩) ⟨fun a U g mk q => by obtain ⟨q0, q1, qP, qK, qD⟩ := q; exact ⟨q0, q1, qP, va_K.moved (u := U) (U := U.calling g mk a) (Vm.Alike.refl U.vm) qK, qD⟩, va_recv (ci := 4) (q0 := 0) hK hP rfl rfl, fun U hU hW => ⟨rfl, by rw [hU], by rw [hU]; exact hPc, va_K.moved hW.alike hKc, hDc.weaken (fun _ _ _ _ => trivial)⟩⟩ rfl rfl hl.1 rfl (lv_room (Nat.le_of_ble_eq_true rfl)) d_M_insert_1 ⟨Nat.le_of_ble_eq_true rfl, Nat.le_of_ble_eq_true rfl⟩) hS (fun q _ h => hFc q h) hFc (fun r u t H1 locs ht hvm hw hB hz1 hk1 hS => ?_)
  obtain ⟨hP1, hK1, hD1⟩ := hB
  rw [ht] at hP1
  have hK1 := va_K.moved hvm.symm hK1
  subst hw
  obtain ⟨hP, hD⟩ := va_join (wr := []) (w1 := [(a0, .inr (4, [.int 0, .int 0, .ref r0, .int 1, .int 0, .ref r1, .ref r2, .ref r3, .ref r4, .ref r5, .int 0, .int 0, .int (-1), .int 0, .int (-1), .int 0, .ref r6, .int 0, .ref r7, .ref r8, .ref r9, .ref r10, .ref r11, .int 0, .int 0, .int 0, .ref r12, .ref r13, .int 0, .ref r14, .ref r15, .ref r16, .ref r17, .ref r18, .int 0, .int 0, .int 0, .ref r19]))]) hP hD [0] [] rfl rfl (by decide) (by decide) hk1 hFc hP1 hD1
  generalize H1 = H at hP hS ⊢
  have hP : va_P (dC, dI) vwCl [(a0, .inr (4, [.int 0, .int 0, .ref r0, .int 1, .int 0, .ref r1, .ref r2, .ref r3, .ref r4, .ref r5, .int 0, .int 0, .int (-1), .int 0, .int (-1), .int 0, .ref r6, .int 0, .ref r7, .ref r8, .ref r9, .ref r10, .ref r11, .int 0, .int 0, .int 0, .ref r12, .ref r13, .int 0, .ref r14, .ref r15, .ref r16, .ref r17, .ref r18, .int 0, .int 0, .int 0, .ref r19]))] H := hP
  have hD : va_D A [(a0, .inr (4, [.int 0, .int 0, .ref r0, .int 1, .int 0, .ref r1, .ref r2, .ref r3, .ref r4, .ref r5, .int 0, .int 0, .int (-1), .int 0, .int (-1), .int 0, .ref r6, .int 0, .ref r7, .ref r8, .ref r9, .ref r10, .ref r11, .int 0, .int 0, .int 0, .ref r12, .ref r13, .int 0, .ref r14, .ref r15, .ref r16, .ref r17, .ref r18, .int 0, .int 0, .int 0, .ref r19]))] := hD
  refine lv_istore_n (lv' := [(1, .int 0), (0, .ref a0)]) hx hb d_M_insert_4 rfl hl (by decide) rfl (fun ls hl => ?_)
  have hl : lv_has ls 5 [(1, .int 0), (0, .ref a0)] := hl
  refine lv_aload_n hx hb d_M_insert_5 rfl (lv_at hl 1 rfl) ?_
  have hPc := hP.sub (ws' := [(a0, .inr (4, [.int 0, .int 0, .ref r0, .int 1, .int 0, .ref r1, .ref r2, .ref r3, .ref r4, .ref r5, .int 0, .int 0, .int (-1), .int 0, .int (-1), .int 0, .ref r6, .int 0, .ref r7, .ref r8, .ref r9, .ref r10, .ref r11, .int 0, .int 0, .int 0, .ref r12, .ref r13, .int 0, .ref r14, .ref r15, .ref r16, .ref r17, .ref r18, .int 0, .int 0, .int 0, .ref r19]))]) [0] rfl
  have hDc := hD.sub (ws' := [(a0, .inr (4, [.int 0, .int 0, .ref r0, .int 1, .int 0, .ref r1, .ref r2, .ref r3, .ref r4, .ref r5, .int 0, .int 0, .int (-1), .int 0, .int (-1), .int 0, .ref r6, .int 0, .ref r7, .ref r8, .ref r9, .ref r10, .ref r11, .int 0, .int 0, .int 0, .ref r12, .ref r13, .int 0, .ref r14, .ref r15, .ref r16, .ref r17, .ref r18, .int 0, .int 0, .int 0, .ref r19]))]) [0] (by decide) rfl
  have hKc := hK.sub (tys' := []) [] rfl
  have hFc := va_free (wc := [(a0, .inr (4, [.int 0, .int 0, .ref r0, .int 1, .int 0, .ref r1, .ref r2, .ref r3, .ref r4, .ref r5, .int 0, .int 0, .int (-1), .int 0, .int (-1), .int 0, .ref r6, .int 0, .ref r7, .ref r8, .ref r9, .ref r10, .ref r11, .int 0, .int 0, .int 0, .ref r12, .ref r13, .int 0, .ref r14, .ref r15, .ref r16, .ref r17, .ref r18, .int 0, .int 0, .int 0, .ref r19]))]) hD hS hA [0] rfl
  refine va_calli (va_runV (As := []) (rest := []) ⟨hx, hb, hml, hown, hts⟩ (c_M_high l dC dI a0 r0 r1 r2 r3 r4 r5 r6 r7 r8 r9 r10 r11 r12 r13 r14 r15 r16 r17 r18 r19 H.size) (cwV 0 hts (gd_v lk_216 lk_217 lk_218 lk_141 lk_215) rfl rfl rfl (by decide +kernel) ⟨Nat.le_of_ble_eq_true rfl, Nat.le_of_ble_eq_true rfl⟩) ⟨fun a U g mk q => by obtain ⟨q0, q1, qP, qK, qD⟩ := q; exact ⟨q0, q1, qP, va_K.moved (u := U) (U := U.calling g mk a) (Vm.Alike.refl U.vm) qK, qD⟩, va_recv (ci := 4) (q0 := 0) hK hP rfl rfl, fun U hU hW => ⟨rfl, by rw [hU], by rw [hU]; exact hPc, va_K.moved hW.alike hKc, hDc.weaken (fun _ _ _ _ => trivial)⟩⟩ rfl rfl hl.1 rfl (lv_room (Nat.le_of_ble_eq_true rfl)) d_M_insert_6 ⟨Nat.le_of_ble_eq_true rfl, Nat.le_of_ble_eq_true rfl⟩) hS (fun q _ h => hFc q h) hFc (fun r u t H1 locs ht hvm hw hB hz1 hk1 hS => ?_)
  obtain ⟨hP1, hK1, hD1⟩ := hB
  rw [ht] at hP1
  have hK1 := va_K.moved hvm.symm hK1
  subst hw
  obtain ⟨hP, hD⟩ := va_join (wr := []) (w1 := [(a0, .inr (4, [.int 0, .int 0, .ref r0, .int 1, .int 0, .ref r1, .ref r2, .ref r3, .ref r4, .ref r5, .int 0, .int 0, .int (-1), .int 0, .int (-1), .int 0, .ref r6, .int 0, .ref r7, .ref r8, .ref r9, .ref r10, .ref r11, .int 0, .int 0, .int 0, .ref r12, .ref r13, .int 0, .ref r14, .ref r15, .ref r16, .ref r17, .ref r18, .int 0, .int 0, .int 0, .ref r19]))]) hP hD [0] [] rfl rfl (by decide) (by decide) hk1 hFc hP1 hD1
  generalize H1 = H at hP hS ⊢
  have hP : va_P (dC, dI) vwCl [(a0, .inr (4, [.int 0, .int 0, .ref r0, .int 1, .int 0, .ref r1, .ref r2, .ref r3, .ref r4, .ref r5, .int 0, .int 0, .int (-1), .int 0, .int (-1), .int 0, .ref r6, .int 0, .ref r7, .ref r8, .ref r9, .ref r10, .ref r11, .int 0, .int 0, .int 0, .ref r12, .ref r13, .int 0, .ref r14, .ref r15, .ref r16, .ref r17, .ref r18, .int 0, .int 0, .int 0, .ref r19]))] H := hP
  have hD : va_D A [(a0, .inr (4, [.int 0, .int 0, .ref r0, .int 1, .int 0, .ref r1, .ref r2, .ref r3, .ref r4, .ref r5, .int 0, .int 0, .int (-1), .int 0, .int (-1), .int 0, .ref r6, .int 0, .ref r7, .ref r8, .ref r9, .ref r10, .ref r11, .int 0, .int 0, .int 0, .ref r12, .ref r13, .int 0, .ref r14, .ref r15, .ref r16, .ref r17, .ref r18, .int 0, .int 0, .int 0, .ref r19]))] := hD
  refine lv_istore_n (lv' := [(2, .int 0), (1, .int 0), (0, .ref a0)]) hx hb d_M_insert_9 rfl hl (by decide) rfl (fun ls hl => ?_)
  have hl : lv_has ls 5 [(2, .int 0), (1, .int 0), (0, .ref a0)] := hl
  refine lv_iload_n hx hb d_M_insert_10 rfl (lv_at hl 0 rfl) ?_
  refine lv_iload_n hx hb d_M_insert_11 rfl (lv_at hl 1 rfl) ?_
  refine lv_icmp_gt (tgt := 22) hx hb d_M_insert_12 (by decide) (fun h => absurd h (by decide +kernel)) (fun _ => ?_)
  refine lv_aload_n hx hb d_M_insert_15 rfl (lv_at hl 2 rfl) ?_
  refine va_get (D := (dC, dI)) (ci := 4) (v := .int 0) (C := R_M) (T := F_M) (N := 38) hx hb hts (fun w h => List.mem_cons_of_mem _ (in_M w h)) hown hK hP 0 rfl rfl 1 (by decide) (hts _ (List.mem_cons_of_mem _ lk_179)) (fun _ h9 => h9) rfl d_M_insert_16 ?_
  refine lv_if_le (tgt := 26) hx hb d_M_insert_19 (by decide) (fun _ => ?_) (fun h => absurd (by decide +kernel) h)
  refine lv_iconst (v := 0) hx hb d_M_insert_26 (by decide) ?_
  refine lv_istore_n (lv' := [(3, .int 0), (2, .int 0), (1, .int 0), (0, .ref a0)]) hx hb d_M_insert_27 rfl hl (by decide) rfl (fun ls hl => ?_)
  have hl : lv_has ls 5 [(3, .int 0), (2, .int 0), (1, .int 0), (0, .ref a0)] := hl
  refine lv_aload_n hx hb d_M_insert_28 rfl (lv_at hl 3 rfl) ?_
  refine lv_iload_n hx hb d_M_insert_29 rfl (lv_at hl 0 rfl) ?_
  refine lv_if_eq (tgt := 65) hx hb d_M_insert_30 (by decide) (fun _ => ?_) (fun h => absurd (by decide +kernel) h)
  refine lv_iconst (v := 0) hx hb d_M_insert_65 (by decide) ?_
  refine va_put (D := (dC, dI)) (ci := 4) (v := .int 0) (ty := .int) (C := R_M) (T := F_M) (N := 38) hx hb hts (fun w h => List.mem_cons_of_mem _ (in_M w h)) t_M tk_M n_M hown hK hP hD hS 0 rfl rfl 0 (by decide) (hts _ (List.mem_cons_of_mem _ lk_175)) (fun _ h9 => h9) rfl (by decide +kernel) rfl rfl (Nat.le_of_ble_eq_true rfl) d_M_insert_66 (fun H locs hP hD hS => ?_)
  have hP : va_P (dC, dI) vwCl [(a0, .inr (4, [.int 0, .int 0, .ref r0, .int 1, .int 0, .ref r1, .ref r2, .ref r3, .ref r4, .ref r5, .int 0, .int 0, .int (-1), .int 0, .int (-1), .int 0, .ref r6, .int 0, .ref r7, .ref r8, .ref r9, .ref r10, .ref r11, .int 0, .int 0, .int 0, .ref r12, .ref r13, .int 0, .ref r14, .ref r15, .ref r16, .ref r17, .ref r18, .int 0, .int 0, .int 0, .ref r19]))] H := hP
  have hD : va_D A [(a0, .inr (4, [.int 0, .int 0, .ref r0, .int 1, .int 0, .ref r1, .ref r2, .ref r3, .ref r4, .ref r5, .int 0, .int 0, .int (-1), .int 0, .int (-1), .int 0, .ref r6, .int 0, .ref r7, .ref r8, .ref r9, .ref r10, .ref r11, .int 0, .int 0, .int 0, .ref r12, .ref r13, .int 0, .ref r14, .ref r15, .ref r16, .ref r17, .ref r18, .int 0, .int 0, .int 0, .ref r19]))] := hD
  refine lv_aload_n hx hb d_M_insert_69 rfl (lv_at hl 3 rfl) ?_
  refine va_get (D := (dC, dI)) (ci := 4) (v := .int 0) (C := R_M) (T := F_M) (N := 38) hx hb hts (fun w h => List.mem_cons_of_mem _ (in_M w h)) hown hK hP 0 rfl rfl 0 (by decide) (hts _ (List.mem_cons_of_mem _ lk_175)) (fun _ h9 => h9) rfl d_M_insert_70 ?_
  refine lv_if_le (tgt := 78) hx hb d_M_insert_73 (by decide) (fun _ => ?_) (fun h => absurd (by decide +kernel) h)
  refine lv_iload_n hx hb d_M_insert_78 rfl (lv_at hl 0 rfl) ?_
  refine lv_if_eq (tgt := 118) hx hb d_M_insert_79 (by decide) (fun _ => ?_) (fun h => absurd (by decide +kernel) h)
  refine lv_aload_n hx hb d_M_insert_118 rfl (lv_at hl 3 rfl) ?_
  refine lv_iconst (v := 0) hx hb d_M_insert_119 (by decide) ?_
  refine va_put (D := (dC, dI)) (ci := 4) (v := .int 0) (ty := .int) (C := R_M) (T := F_M) (N := 38) hx hb hts (fun w h => List.mem_cons_of_mem _ (in_M w h)) t_M tk_M n_M hown hK hP hD hS 0 rfl rfl 1 (by decide) (hts _ (List.mem_cons_of_mem _ lk_179)) (fun _ h9 => h9) rfl (by decide +kernel) rfl rfl (Nat.le_of_ble_eq_true rfl) d_M_insert_120 (fun H locs hP hD hS => ?_)
  have hP : va_P (dC, dI) vwCl [(a0, .inr (4, [.int 0, .int 0, .ref r0, .int 1, .int 0, .ref r1, .ref r2, .ref r3, .ref r4, .ref r5, .int 0, .int 0, .int (-1), .int 0, .int (-1), .int 0, .ref r6, .int 0, .ref r7, .ref r8, .ref r9, .ref r10, .ref r11, .int 0, .int 0, .int 0, .ref r12, .ref r13, .int 0, .ref r14, .ref r15, .ref r16, .ref r17, .ref r18, .int 0, .int 0, .int 0, .ref r19]))] H := hP
  have hD : va_D A [(a0, .inr (4, [.int 0, .int 0, .ref r0, .int 1, .int 0, .ref r1, .ref r2, .ref r3, .ref r4, .ref r5, .int 0, .int 0, .int (-1), .int 0, .int (-1), .int 0, .ref r6, .int 0, .ref r7, .ref r8, .ref r9, .ref r10, .ref r11, .int 0, .int 0, .int 0, .ref r12, .ref r13, .int 0, .ref r14, .ref r15, .ref r16, .ref r17, .ref r18, .int 0, .int 0, .int 0, .ref r19]))] := hD
  refine lv_aload_n hx hb d_M_insert_123 rfl (lv_at hl 3 rfl) ?_
  refine va_get (D := (dC, dI)) (ci := 4) (v := .int 0) (C := R_M) (T := F_M) (N := 38) hx hb hts (fun w h => List.mem_cons_of_mem _ (in_M w h)) hown hK hP 0 rfl rfl 4 (by decide) (hts _ (List.mem_cons_of_mem _ lk_219)) (fun _ h9 => h9) rfl d_M_insert_124 ?_
  have hP9 := hP.sub (ws' := [(a0, .inr (4, [.int 0, .int 0, .ref r0, .int 1, .int 0, .ref r1, .ref r2, .ref r3, .ref r4, .ref r5, .int 0, .int 0, .int (-1), .int 0, .int (-1), .int 0, .ref r6, .int 0, .ref r7, .ref r8, .ref r9, .ref r10, .ref r11, .int 0, .int 0, .int 0, .ref r12, .ref r13, .int 0, .ref r14, .ref r15, .ref r16, .ref r17, .ref r18, .int 0, .int 0, .int 0, .ref r19]))]) [0] rfl
  have hD9 := hD.sub (ws' := [(a0, .inr (4, [.int 0, .int 0, .ref r0, .int 1, .int 0, .ref r1, .ref r2, .ref r3, .ref r4, .ref r5, .int 0, .int 0, .int (-1), .int 0, .int (-1), .int 0, .ref r6, .int 0, .ref r7, .ref r8, .ref r9, .ref r10, .ref r11, .int 0, .int 0, .int 0, .ref r12, .ref r13, .int 0, .ref r14, .ref r15, .ref r16, .ref r17, .ref r18, .int 0, .int 0, .int 0, .ref r19]))]) [0] (by decide) rfl
  have hK9 := hK.sub (tys' := []) [] rfl
  exact W.iret (v := 0) hx hb hr (fun t ht hW => ⟨⟨0, (), rfl, rfl, by rw [ht]; exact hP9, va_K.moved hW.alike hK9, hD9⟩, hS.F ht⟩) hS.2.2 d_M_insert_127

set_option maxHeartbeats 4000000 in
set_option maxRecDepth 100000 in
theorem c_M_thrown (l : Launch) (dC : Nat → ClassId) (dI : Nat → Nat → Nat) (a0 r0 r1 r2 r3 r4 r5 r6 r7 r8 r9 r10 r11 r12 r13 r14 r15 r16 r17 r18 r19 : Nat) (sz : Nat)  : Met l y_M_thrown w_M_thrown ({ frames := 0, cells := 0, slots := 0, locals := 0 }) (va_Pc [.ref a0] (fun U => U.heap.size = sz ∧ va_P (dC, dI) vwCl [(a0, .inr (4, [.int 0, .int 0, .ref r0, .int 1, .int 0, .ref r1, .ref r2, .ref r3, .ref r4, .ref r5, .int 0, .int 0, .int (-1), .int 0, .int (-1), .int 0, .ref r6, .int 0, .ref r7, .ref r8, .ref r9, .ref r10, .ref r11, .int 0, .int 0, .int 0, .ref r12, .ref r13, .int 0, .ref r14, .ref r15, .ref r16, .ref r17, .ref r18, .int 0, .int 0, .int 0, .ref r19]))] U.heap ∧ va_K (dC, dI) vwCl [] U ∧ va_D (fun _ => True) [(a0, .inr (4, [.int 0, .int 0, .ref r0, .int 1, .int 0, .ref r1, .ref r2, .ref r3, .ref r4, .ref r5, .int 0, .int 0, .int (-1), .int 0, .int (-1), .int 0, .ref r6, .int 0, .ref r7, .ref r8, .ref r9, .ref r10, .ref r11, .int 0, .int 0, .int 0, .ref r12, .ref r13, .int 0, .ref r14, .ref r15, .ref r16, .ref r17, .ref r18, .int 0, .int 0, .int 0, .ref r19]))])) (va_Qi (fun (r : Int32) (_ : Unit) => r = 0) (fun (_ : Unit) t => va_P (dC, dI) vwCl [(a0, .inr (4, [.int 0, .int 0, .ref r0, .int 1, .int 0, .ref r1, .ref r2, .ref r3, .ref r4, .ref r5, .int 0, .int 0, .int (-1), .int 0, .int (-1), .int 0, .ref r6, .int 0, .ref r7, .ref r8, .ref r9, .ref r10, .ref r11, .int 0, .int 0, .int 0, .ref r12, .ref r13, .int 0, .ref r14, .ref r15, .ref r16, .ref r17, .ref r18, .int 0, .int 0, .int 0, .ref r19]))] t.heap ∧ va_K (dC, dI) vwCl [] t ∧ va_D (va_A [(a0, .inr (4, [.int 0, .int 0, .ref r0, .int 1, .int 0, .ref r1, .ref r2, .ref r3, .ref r4, .ref r5, .int 0, .int 0, .int (-1), .int 0, .int (-1), .int 0, .ref r6, .int 0, .ref r7, .ref r8, .ref r9, .ref r10, .ref r11, .int 0, .int 0, .int 0, .ref r12, .ref r13, .int 0, .ref r14, .ref r15, .ref r16, .ref r17, .ref r18, .int 0, .int 0, .int 0, .ref r19]))] sz) [(a0, .inr (4, [.int 0, .int 0, .ref r0, .int 1, .int 0, .ref r1, .ref r2, .ref r3, .ref r4, .ref r5, .int 0, .int 0, .int (-1), .int 0, .int (-1), .int 0, .ref r6, .int 0, .ref r7, .ref r8, .ref r9, .ref r10, .ref r11, .int 0, .int 0, .int 0, .ref r12, .ref r13, .int 0, .ref r14, .ref r15, .ref r16, .ref r17, .ref r18, .int 0, .int 0, .int 0, .ref r19]))]) (va_A [(a0, .inr (4, [.int 0, .int 0, .ref r0, .int 1, .int 0, .ref r1, .ref r2, .ref r3, .ref r4, .ref r5, .int 0, .int 0, .int (-1), .int 0, .int (-1), .int 0, .ref r6, .int 0, .ref r7, .ref r8, .ref r9, .ref r10, .ref r11, .int 0, .int 0, .int 0, .ref r12, .ref r13, .int 0, .ref r14, .ref r15, .ref r16, .ref r17, .ref r18, .int 0, .int 0, .int 0, .ref r19]))] sz)) 0 0 (va_A [(a0, .inr (4, [.int 0, .int 0, .ref r0, .int 1, .int 0, .ref r1, .ref r2, .ref r3, .ref r4, .ref r5, .int 0, .int 0, .int (-1), .int 0, .int (-1), .int 0, .ref r6, .int 0, .ref r7, .ref r8, .ref r9, .ref r10, .ref r11, .int 0, .int 0, .int 0, .ref r12, .ref r13, .int 0, .ref r14, .ref r15, .ref r16, .ref r17, .ref r18, .int 0, .int 0, .int 0, .ref r19]))] sz) := by
  refine Met.ofW (cc := prog_6_method_2_code) (maxL := 1) (ret := (some .int)) (by decide) rfl ?_
  intro p e s m args below meth c s₁ B hml hv
  obtain ⟨rfl, hsz, hP, hK, hD0⟩ := hv
  have hx := B.exec
  have hb := B.bytes
  have hr := B.returns
  have hts := atoms_spec (ws := w_M_thrown) B.pre
  have hown : s.vm.findClass R_M = some m.cls := findClass_of_methodNamed B.named
  have hlocks := B.notSynchronized
  subst hsz
  have hD := hD0.self (sz := s.heap.size)
  generalize hAe : va_A [(a0, .inr (4, [.int 0, .int 0, .ref r0, .int 1, .int 0, .ref r1, .ref r2, .ref r3, .ref r4, .ref r5, .int 0, .int 0, .int (-1), .int 0, .int (-1), .int 0, .ref r6, .int 0, .ref r7, .ref r8, .ref r9, .ref r10, .ref r11, .int 0, .int 0, .int 0, .ref r12, .ref r13, .int 0, .ref r14, .ref r15, .ref r16, .ref r17, .ref r18, .int 0, .int 0, .int 0, .ref r19]))] s.heap.size = A at hD ⊢
  have hA : ∀ q : Nat, s.heap.size ≤ q → A q := fun q h => by rw [← hAe]; exact Or.inr h
  have hS : va_S A s.heap s.heap [] := va_S.rf
  have hP : va_P (dC, dI) vwCl [(a0, .inr (4, [.int 0, .int 0, .ref r0, .int 1, .int 0, .ref r1, .ref r2, .ref r3, .ref r4, .ref r5, .int 0, .int 0, .int (-1), .int 0, .int (-1), .int 0, .ref r6, .int 0, .ref r7, .ref r8, .ref r9, .ref r10, .ref r11, .int 0, .int 0, .int 0, .ref r12, .ref r13, .int 0, .ref r14, .ref r15, .ref r16, .ref r17, .ref r18, .int 0, .int 0, .int 0, .ref r19]))] s.heap := hP
  have hl := lv_entry ([.ref a0]) (n := 1) (Nat.le_of_ble_eq_true rfl)
  rw [lg_entry_eq]
  generalize (lg_sl ([.ref a0]) ++ List.replicate (1 - (lg_sl ([.ref a0])).length) Slot.unset).toArray = ls at hl ⊢
  have hl : lv_has ls 1 [(0, .ref a0)] := hl
  refine lv_aload_n hx hb d_M_thrown_0 rfl (lv_at hl 0 rfl) ?_
  refine va_get (D := (dC, dI)) (ci := 4) (v := .int 0) (C := R_M) (T := F_M) (N := 38) hx hb hts (fun w h => List.mem_cons_of_mem _ (in_M w h)) hown hK hP 0 rfl rfl 0 (by decide) (hts _ (List.mem_cons_of_mem _ lk_175)) (fun _ h9 => h9) rfl d_M_thrown_1 ?_
  have hP9 := hP.sub (ws' := [(a0, .inr (4, [.int 0, .int 0, .ref r0, .int 1, .int 0, .ref r1, .ref r2, .ref r3, .ref r4, .ref r5, .int 0, .int 0, .int (-1), .int 0, .int (-1), .int 0, .ref r6, .int 0, .ref r7, .ref r8, .ref r9, .ref r10, .ref r11, .int 0, .int 0, .int 0, .ref r12, .ref r13, .int 0, .ref r14, .ref r15, .ref r16, .ref r17, .ref r18, .int 0, .int 0, .int 0, .ref r19]))]) [0] rfl
  have hD9 := hD.sub (ws' := [(a0, .inr (4, [.int 0, .int 0, .ref r0, .int 1, .int 0, .ref r1, .ref r2, .ref r3, .ref r4, .ref r5, .int 0, .int 0, .int (-1), .int 0, .int (-1), .int 0, .ref r6, .int 0, .ref r7, .ref r8, .ref r9, .ref r10, .ref r11, .int 0, .int 0, .int 0, .ref r12, .ref r13, .int 0, .ref r14, .ref r15, .ref r16, .ref r17, .ref r18, .int 0, .int 0, .int 0, .ref r19]))]) [0] (by decide) rfl
  have hK9 := hK.sub (tys' := []) [] rfl
  exact W.iret (v := 0) hx hb hr (fun t ht hW => ⟨⟨0, (), rfl, rfl, by rw [ht]; exact hP9, va_K.moved hW.alike hK9, hD9⟩, hS.F ht⟩) hS.2.2 d_M_thrown_4

set_option maxHeartbeats 4000000 in
set_option maxRecDepth 100000 in
theorem c_D_erase (l : Launch) (dC : Nat → ClassId) (dI : Nat → Nat → Nat) (a0 r0 r1 r2 r3 r4 r5 r6 : Nat) (sz : Nat) (k0 : Int32) (hh0 : k0.toInt ≤ (-1)) : Met l y_D_erase w_D_erase ({ frames := 1, cells := 0, slots := 0, locals := 20 }) (va_Pc [.ref a0, .int k0] (fun U => U.heap.size = sz ∧ va_P (dC, dI) vwCl [(a0, .inr (0, [.ref r0, .int 0, .ref r1, .int 1, .int 0, .ref r2, .int 0, .int (-1), .ref r3, .ref r4, .int 0, .int (-1), .ref r5, .ref r6]))] U.heap ∧ va_K (dC, dI) vwCl [] U ∧ va_D (fun _ => True) [(a0, .inr (0, [.ref r0, .int 0, .ref r1, .int 1, .int 0, .ref r2, .int 0, .int (-1), .ref r3, .ref r4, .int 0, .int (-1), .ref r5, .ref r6]))])) (va_Qi (fun (r : Int32) (_ : Unit) => r = 0) (fun (_ : Unit) t => va_P (dC, dI) vwCl [(a0, .inr (0, [.ref r0, .int 0, .ref r1, .int 1, .int 0, .ref r2, .int 0, .int (-1), .ref r3, .ref r4, .int 0, .int (-1), .ref r5, .ref r6]))] t.heap ∧ va_K (dC, dI) vwCl [] t ∧ va_D (va_A [(a0, .inr (0, [.ref r0, .int 0, .ref r1, .int 1, .int 0, .ref r2, .int 0, .int (-1), .ref r3, .ref r4, .int 0, .int (-1), .ref r5, .ref r6]))] sz) [(a0, .inr (0, [.ref r0, .int 0, .ref r1, .int 1, .int 0, .ref r2, .int 0, .int (-1), .ref r3, .ref r4, .int 0, .int (-1), .ref r5, .ref r6]))]) (va_A [(a0, .inr (0, [.ref r0, .int 0, .ref r1, .int 1, .int 0, .ref r2, .int 0, .int (-1), .ref r3, .ref r4, .int 0, .int (-1), .ref r5, .ref r6]))] sz)) 0 0 (va_A [(a0, .inr (0, [.ref r0, .int 0, .ref r1, .int 1, .int 0, .ref r2, .int 0, .int (-1), .ref r3, .ref r4, .int 0, .int (-1), .ref r5, .ref r6]))] sz) := by
  refine Met.ofW (cc := prog_1_method_5_code) (maxL := 4) (ret := (some .int)) (by decide) rfl ?_
  intro p e s m args below meth c s₁ B hml hv
  obtain ⟨rfl, hsz, hP, hK, hD0⟩ := hv
  have hx := B.exec
  have hb := B.bytes
  have hr := B.returns
  have hts := atoms_spec (ws := w_D_erase) B.pre
  have hown : s.vm.findClass R_D = some m.cls := findClass_of_methodNamed B.named
  have hlocks := B.notSynchronized
  subst hsz
  have hD := hD0.self (sz := s.heap.size)
  generalize hAe : va_A [(a0, .inr (0, [.ref r0, .int 0, .ref r1, .int 1, .int 0, .ref r2, .int 0, .int (-1), .ref r3, .ref r4, .int 0, .int (-1), .ref r5, .ref r6]))] s.heap.size = A at hD ⊢
  have hA : ∀ q : Nat, s.heap.size ≤ q → A q := fun q h => by rw [← hAe]; exact Or.inr h
  have hS : va_S A s.heap s.heap [] := va_S.rf
  have hP : va_P (dC, dI) vwCl [(a0, .inr (0, [.ref r0, .int 0, .ref r1, .int 1, .int 0, .ref r2, .int 0, .int (-1), .ref r3, .ref r4, .int 0, .int (-1), .ref r5, .ref r6]))] s.heap := hP
  have hl := lv_entry ([.ref a0, .int k0]) (n := 4) (Nat.le_of_ble_eq_true rfl)
  rw [lg_entry_eq]
  generalize (lg_sl ([.ref a0, .int k0]) ++ List.replicate (4 - (lg_sl ([.ref a0, .int k0])).length) Slot.unset).toArray = ls at hl ⊢
  have hl : lv_has ls 4 [(0, .ref a0), (1, .int k0)] := hl
  refine lv_aload_n hx hb d_D_erase_0 rfl (lv_at hl 0 rfl) ?_
  have hPc := hP.sub (ws' := [(a0, .inr (0, [.ref r0, .int 0, .ref r1, .int 1, .int 0, .ref r2, .int 0, .int (-1), .ref r3, .ref r4, .int 0, .int (-1), .ref r5, .ref r6]))]) [0] rfl
  have hDc := hD.sub (ws' := [(a0, .inr (0, [.ref r0, .int 0, .ref r1, .int 1, .int 0, .ref r2, .int 0, .int (-1), .ref r3, .ref r4, .int 0, .int (-1), .ref r5, .ref r6]))]) [0] (by decide) rfl
  have hKc := hK.sub (tys' := []) [] rfl
  have hFc := va_free (wc := [(a0, .inr (0, [.ref r0, .int 0, .ref r1, .int 1, .int 0, .ref r2, .int 0, .int (-1), .ref r3, .ref r4, .int 0, .int (-1), .ref r5, .ref r6]))]) hD hS hA [0] rfl
  refine va_calli (va_runV (As := []) (rest := []) ⟨hx, hb, hml, hown, hts⟩ (c_D_selectionStart l dC dI a0 r0 r1 r2 r3 r4 r5 r6 s.heap.size) (cwV 0 hts (gd_v lk_194 lk_195 lk_196 lk_16 lk_193) rfl rfl rfl (by decide +kernel) ⟨Nat.le_of_ble_eq_true rfl, Nat.le_of_ble_eq_true rfl⟩) ⟨fun a U g mk q => by obtain ⟨q0, q1, qP, qK, qD⟩ := q; exact ⟨q0, q1, qP, va_K.moved (u := U) (U := U.calling g mk a) (Vm.Alike.refl U.vm) qK, qD⟩, va_recv (ci := 0) (q0 := 0) hK hP rfl rfl, fun U hU hW => ⟨rfl, by rw [hU], by rw [hU]; exact hPc, va_K.moved hW.alike hKc, hDc.weaken (fun _ _ _ _ => trivial)⟩⟩ rfl rfl hl.1 rfl (lv_room (Nat.le_of_ble_eq_true rfl)) d_D_erase_1 ⟨Nat.le_of_ble_eq_true rfl, Nat.le_of_ble_eq_true rfl⟩) hS (fun q _ h => hFc q h) hFc (fun r u t H1 locs ht hvm hw hB hz1 hk1 hS => ?_)
  obtain ⟨hP1, hK1, hD1⟩ := hB
  rw [ht] at hP1
  have hK1 := va_K.moved hvm.symm hK1
  subst hw
  obtain ⟨hP, hD⟩ := va_join (wr := []) (w1 := [(a0, .inr (0, [.ref r0, .int 0, .ref r1, .int 1, .int 0, .ref r2, .int 0, .int (-1), .ref r3, .ref r4, .int 0, .int (-1), .ref r5, .ref r6]))]) hP hD [0] [] rfl rfl (by decide) (by decide) hk1 hFc hP1 hD1
  generalize H1 = H at hP hS ⊢
  have hP : va_P (dC, dI) vwCl [(a0, .inr (0, [.ref r0, .int 0, .ref r1, .int 1, .int 0, .ref r2, .int 0, .int (-1), .ref r3, .ref r4, .int 0, .int (-1), .ref r5, .ref r6]))] H := hP
  have hD : va_D A [(a0, .inr (0, [.ref r0, .int 0, .ref r1, .int 1, .int 0, .ref r2, .int 0, .int (-1), .ref r3, .ref r4, .int 0, .int (-1), .ref r5, .ref r6]))] := hD
  refine lv_istore_n (lv' := [(2, .int 0), (0, .ref a0), (1, .int k0)]) hx hb d_D_erase_4 rfl hl (by decide) rfl (fun ls hl => ?_)
  have hl : lv_has ls 4 [(2, .int 0), (0, .ref a0), (1, .int k0)] := hl
  refine lv_aload_n hx hb d_D_erase_5 rfl (lv_at hl 1 rfl) ?_
  have hPc := hP.sub (ws' := [(a0, .inr (0, [.ref r0, .int 0, .ref r1, .int 1, .int 0, .ref r2, .int 0, .int (-1), .ref r3, .ref r4, .int 0, .int (-1), .ref r5, .ref r6]))]) [0] rfl
  have hDc := hD.sub (ws' := [(a0, .inr (0, [.ref r0, .int 0, .ref r1, .int 1, .int 0, .ref r2, .int 0, .int (-1), .ref r3, .ref r4, .int 0, .int (-1), .ref r5, .ref r6]))]) [0] (by decide) rfl
  have hKc := hK.sub (tys' := []) [] rfl
  have hFc := va_free (wc := [(a0, .inr (0, [.ref r0, .int 0, .ref r1, .int 1, .int 0, .ref r2, .int 0, .int (-1), .ref r3, .ref r4, .int 0, .int (-1), .ref r5, .ref r6]))]) hD hS hA [0] rfl
  refine va_calli (va_runV (As := []) (rest := []) ⟨hx, hb, hml, hown, hts⟩ (c_D_selectionEnd l dC dI a0 r0 r1 r2 r3 r4 r5 r6 H.size) (cwV 0 hts (gd_v lk_198 lk_199 lk_200 lk_16 lk_197) rfl rfl rfl (by decide +kernel) ⟨Nat.le_of_ble_eq_true rfl, Nat.le_of_ble_eq_true rfl⟩) ⟨fun a U g mk q => by obtain ⟨q0, q1, qP, qK, qD⟩ := q; exact ⟨q0, q1, qP, va_K.moved (u := U) (U := U.calling g mk a) (Vm.Alike.refl U.vm) qK, qD⟩, va_recv (ci := 0) (q0 := 0) hK hP rfl rfl, fun U hU hW => ⟨rfl, by rw [hU], by rw [hU]; exact hPc, va_K.moved hW.alike hKc, hDc.weaken (fun _ _ _ _ => trivial)⟩⟩ rfl rfl hl.1 rfl (lv_room (Nat.le_of_ble_eq_true rfl)) d_D_erase_6 ⟨Nat.le_of_ble_eq_true rfl, Nat.le_of_ble_eq_true rfl⟩) hS (fun q _ h => hFc q h) hFc (fun r u t H1 locs ht hvm hw hB hz1 hk1 hS => ?_)
  obtain ⟨hP1, hK1, hD1⟩ := hB
  rw [ht] at hP1
  have hK1 := va_K.moved hvm.symm hK1
  subst hw
  obtain ⟨hP, hD⟩ := va_join (wr := []) (w1 := [(a0, .inr (0, [.ref r0, .int 0, .ref r1, .int 1, .int 0, .ref r2, .int 0, .int (-1), .ref r3, .ref r4, .int 0, .int (-1), .ref r5, .ref r6]))]) hP hD [0] [] rfl rfl (by decide) (by decide) hk1 hFc hP1 hD1
  generalize H1 = H at hP hS ⊢
  have hP : va_P (dC, dI) vwCl [(a0, .inr (0, [.ref r0, .int 0, .ref r1, .int 1, .int 0, .ref r2, .int 0, .int (-1), .ref r3, .ref r4, .int 0, .int (-1), .ref r5, .ref r6]))] H := hP
  have hD : va_D A [(a0, .inr (0, [.ref r0, .int 0, .ref r1, .int 1, .int 0, .ref r2, .int 0, .int (-1), .ref r3, .ref r4, .int 0, .int (-1), .ref r5, .ref r6]))] := hD
  refine lv_istore_n (lv' := [(3, .int 0), (2, .int 0), (0, .ref a0), (1, .int k0)]) hx hb d_D_erase_9 rfl hl (by decide) rfl (fun ls hl => ?_)
  have hl : lv_has ls 4 [(3, .int 0), (2, .int 0), (0, .ref a0), (1, .int k0)] := hl
  refine lv_iload_n hx hb d_D_erase_10 rfl (lv_at hl 1 rfl) ?_
  refine lv_iload_n hx hb d_D_erase_11 rfl (lv_at hl 0 rfl) ?_
  refine lv_icmp_ne (tgt := 33) hx hb d_D_erase_12 (by decide) (fun h => absurd (by decide +kernel) h) (fun _ => ?_)
  refine lv_iload_n hx hb d_D_erase_15 rfl (lv_at hl 3 rfl) ?_
  refine lv_if_ge (tgt := 33) hx hb d_D_erase_16 (by decide) (fun h => absurd h (fun z => absurd ((wk_ge 0 (by decide)).mp z) (by omega))) (fun _ => ?_)
  refine lv_iconst (v := 0) hx hb d_D_erase_19 (by decide) ?_
  refine lv_aload_n hx hb d_D_erase_20 rfl (lv_at hl 2 rfl) ?_
  refine va_get (D := (dC, dI)) (ci := 0) (v := .int 0) (C := R_D) (T := F_D) (N := 14) hx hb hts (fun w h => List.mem_cons_of_mem _ (in_D w h)) hown hK hP 0 rfl rfl 6 (by decide) (hts _ (List.mem_cons_of_mem _ lk_192)) (fun _ h9 => h9) rfl d_D_erase_21 ?_
  refine lv_iload_n hx hb d_D_erase_24 rfl (lv_at hl 3 rfl) ?_
  refine t_iadd (v := k0) hx hb d_D_erase_25 (Int32.zero_add _) ?_
  refine va_mmax hx hb (by rw [hml, hl.1]) hown (hts _ (List.mem_cons_of_mem _ lk_228)) (hts _ (List.mem_cons_of_mem _ lk_229)) (hts _ (List.mem_cons_of_mem _ lk_230)) (hts _ (List.mem_cons_of_mem _ lk_231)) (Nat.le_of_ble_eq_true rfl) (Nat.le_of_ble_eq_true rfl) (Nat.le_of_ble_eq_true rfl) (Nat.le_of_ble_eq_true rfl) d_D_erase_26 ?_
  refine wk_top (w := .int 0) (congrArg _ (if_neg (fun z => absurd ((wk_gt 0 (by decide)).mp z) (by omega)))) ?_
  refine lv_istore_n (lv' := [(2, .int 0), (3, .int 0), (0, .ref a0), (1, .int k0)]) hx hb d_D_erase_29 rfl hl (by decide) rfl (fun ls hl => ?_)
  have hl : lv_has ls 4 [(2, .int 0), (3, .int 0), (0, .ref a0), (1, .int k0)] := hl
  refine lv_goto (tgt := 58) hx hb d_D_erase_30 (by decide) ?_
  refine lv_iload_n hx hb d_D_erase_58 rfl (lv_at hl 0 rfl) ?_
  refine lv_iload_n hx hb d_D_erase_59 rfl (lv_at hl 1 rfl) ?_
  refine lv_icmp_ge (tgt := 87) hx hb d_D_erase_60 (by decide) (fun _ => ?_) (fun h => absurd (by decide +kernel) h)
  refine lv_iload_n hx hb d_D_erase_87 rfl (lv_at hl 1 rfl) ?_
  refine lv_iload_n hx hb d_D_erase_88 rfl (lv_at hl 0 rfl) ?_
  refine t_isub (v := 0) hx hb d_D_erase_89 (by decide +kernel) ?_
  have hP9 := hP.sub (ws' := [(a0, .inr (0, [.ref r0, .int 0, .ref r1, .int 1, .int 0, .ref r2, .int 0, .int (-1), .ref r3, .ref r4, .int 0, .int (-1), .ref r5, .ref r6]))]) [0] rfl
  have hD9 := hD.sub (ws' := [(a0, .inr (0, [.ref r0, .int 0, .ref r1, .int 1, .int 0, .ref r2, .int 0, .int (-1), .ref r3, .ref r4, .int 0, .int (-1), .ref r5, .ref r6]))]) [0] (by decide) rfl
  have hK9 := hK.sub (tys' := []) [] rfl
  exact W.iret (v := 0) hx hb hr (fun t ht hW => ⟨⟨0, (), rfl, rfl, by rw [ht]; exact hP9, va_K.moved hW.alike hK9, hD9⟩, hS.F ht⟩) hS.2.2 d_D_erase_90

set_option maxHeartbeats 4000000 in
set_option maxRecDepth 100000 in
theorem c_L_erase (l : Launch) (dC : Nat → ClassId) (dI : Nat → Nat → Nat) (a0 a1 r0 r1 r2 r3 r4 r5 r6 : Nat) (t0 : ClassId) (sz : Nat) (k0 : Int32) (hh0 : k0.toInt ≤ (-1)) : Met l y_L_erase w_L_erase ({ frames := 2, cells := 0, slots := 0, locals := 43 }) (va_Pc [.ref a0, .int k0, .ref a1] (fun U => U.heap.size = sz ∧ va_P (dC, dI) vwCl [(a0, .inr (0, [.ref r0, .int 0, .ref r1, .int 1, .int 0, .ref r2, .int 0, .int (-1), .ref r3, .ref r4, .int 0, .int (-1), .ref r5, .ref r6])), (a1, .inl (t0, 1, .inr (.inl (fun _ => 0))))] U.heap ∧ va_K (dC, dI) vwCl [(t0, .long)] U ∧ va_D (fun _ => True) [(a0, .inr (0, [.ref r0, .int 0, .ref r1, .int 1, .int 0, .ref r2, .int 0, .int (-1), .ref r3, .ref r4, .int 0, .int (-1), .ref r5, .ref r6])), (a1, .inl (t0, 1, .inr (.inl (fun _ => 0))))])) (va_Qi (fun (r : Int32) (_ : Unit) => r = 0) (fun (_ : Unit) t => va_P (dC, dI) vwCl [(a0, .inr (0, [.ref r0, .int 0, .ref r1, .int 1, .int 0, .ref r2, .int 0, .int (-1), .ref r3, .ref r4, .int 0, .int (-1), .ref r5, .ref r6])), (a1, .inl (t0, 1, .inr (.inl (vp_updL (fun _ => 0) 0 0))))] t.heap ∧ va_K (dC, dI) vwCl [(t0, .long)] t ∧ va_D (va_A [(a0, .inr (0, [.ref r0, .int 0, .ref r1, .int 1, .int 0, .ref r2, .int 0, .int (-1), .ref r3, .ref r4, .int 0, .int (-1), .ref r5, .ref r6])), (a1, .inl (t0, 1, .inr (.inl (fun _ => 0))))] sz) [(a0, .inr (0, [.ref r0, .int 0, .ref r1, .int 1, .int 0, .ref r2, .int 0, .int (-1), .ref r3, .ref r4, .int 0, .int (-1), .ref r5, .ref r6])), (a1, .inl (t0, 1, .inr (.inl (vp_updL (fun _ => 0) 0 0))))]) (va_A [(a0, .inr (0, [.ref r0, .int 0, .ref r1, .int 1, .int 0, .ref r2, .int 0, .int (-1), .ref r3, .ref r4, .int 0, .int (-1), .ref r5, .ref r6])), (a1, .inl (t0, 1, .inr (.inl (fun _ => 0))))] sz)) 0 0 (va_A [(a0, .inr (0, [.ref r0, .int 0, .ref r1, .int 1, .int 0, .ref r2, .int 0, .int (-1), .ref r3, .ref r4, .int 0, .int (-1), .ref r5, .ref r6])), (a1, .inl (t0, 1, .inr (.inl (fun _ => 0))))] sz) := by
  refine th_ofWw (tab := [(0, 9, 12, 13)]) (cc := method_4_code) (maxL := 4) (ret := (some .int)) (by decide) rfl ?_
  intro p e s m args below meth c s₁ B hml htab hv
  obtain ⟨rfl, hsz, hP, hK, hD0⟩ := hv
  have hx := B.exec
  have hb := B.bytes
  have hr := B.returns
  have hts := atoms_spec (ws := w_L_erase) B.pre
  have hown : s.vm.findClass R_L = some m.cls := findClass_of_methodNamed B.named
  have hlocks := B.notSynchronized
  subst hsz
  have hD := hD0.self (sz := s.heap.size)
  generalize hAe : va_A [(a0, .inr (0, [.ref r0, .int 0, .ref r1, .int 1, .int 0, .ref r2, .int 0, .int (-1), .ref r3, .ref r4, .int 0, .int (-1), .ref r5, .ref r6])), (a1, .inl (t0, 1, .inr (.inl (fun _ => 0))))] s.heap.size = A at hD ⊢
  have hA : ∀ q : Nat, s.heap.size ≤ q → A q := fun q h => by rw [← hAe]; exact Or.inr h
  have hS : va_S A s.heap s.heap [] := va_S.rf
  have hP : va_P (dC, dI) vwCl [(a0, .inr (0, [.ref r0, .int 0, .ref r1, .int 1, .int 0, .ref r2, .int 0, .int (-1), .ref r3, .ref r4, .int 0, .int (-1), .ref r5, .ref r6])), (a1, .inl (t0, 1, .inr (.inl (fun _ => 0))))] s.heap := hP
  have hl := lv_entry ([.ref a0, .int k0, .ref a1]) (n := 4) (Nat.le_of_ble_eq_true rfl)
  rw [lg_entry_eq]
  generalize (lg_sl ([.ref a0, .int k0, .ref a1]) ++ List.replicate (4 - (lg_sl ([.ref a0, .int k0, .ref a1])).length) Slot.unset).toArray = ls at hl ⊢
  have hl : lv_has ls 4 [(0, .ref a0), (1, .int k0), (2, .ref a1)] := hl
  refine lv_aload_n hx hb d_L_erase_0 rfl (lv_at hl 2 rfl) ?_
  refine lv_iconst (v := 0) hx hb d_L_erase_1 (by decide) ?_
  refine lv_aload_n hx hb d_L_erase_2 rfl (lv_at hl 0 rfl) ?_
  refine lv_iload_n hx hb d_L_erase_3 rfl (lv_at hl 1 rfl) ?_
  have hPc := hP.sub (ws' := [(a0, .inr (0, [.ref r0, .int 0, .ref r1, .int 1, .int 0, .ref r2, .int 0, .int (-1), .ref r3, .ref r4, .int 0, .int (-1), .ref r5, .ref r6]))]) [0] rfl
  have hDc := hD.sub (ws' := [(a0, .inr (0, [.ref r0, .int 0, .ref r1, .int 1, .int 0, .ref r2, .int 0, .int (-1), .ref r3, .ref r4, .int 0, .int (-1), .ref r5, .ref r6]))]) [0] (by decide) rfl
  have hKc := hK.sub (tys' := []) [] rfl
  have hFc := va_free (wc := [(a0, .inr (0, [.ref r0, .int 0, .ref r1, .int 1, .int 0, .ref r2, .int 0, .int (-1), .ref r3, .ref r4, .int 0, .int (-1), .ref r5, .ref r6]))]) hD hS hA [0] rfl
  refine va_calli (va_runV (As := [.int k0]) (rest := [.int 0, .ref a1]) ⟨hx, hb, hml, hown, hts⟩ (c_D_erase l dC dI a0 r0 r1 r2 r3 r4 r5 r6 s.heap.size k0 (by omega)) (cwV 1 hts (gd_v lk_233 lk_234 lk_235 lk_16 lk_232) rfl rfl rfl (by decide +kernel) ⟨Nat.le_of_ble_eq_true rfl, Nat.le_of_ble_eq_true rfl⟩) ⟨fun a U g mk q => by obtain ⟨q0, q1, qP, qK, qD⟩ := q; exact ⟨q0, q1, qP, va_K.moved (u := U) (U := U.calling g mk a) (Vm.Alike.refl U.vm) qK, qD⟩, va_recv (ci := 0) (q0 := 0) hK hP rfl rfl, fun U hU hW => ⟨rfl, by rw [hU], by rw [hU]; exact hPc, va_K.moved hW.alike hKc, hDc.weaken (fun _ _ _ _ => trivial)⟩⟩ rfl rfl hl.1 rfl (lv_room (Nat.le_of_ble_eq_true rfl)) d_L_erase_4 ⟨Nat.le_of_ble_eq_true rfl, Nat.le_of_ble_eq_true rfl⟩) hS (fun q _ h => hFc q h) hFc (fun r u t H1 locs ht hvm hw hB hz1 hk1 hS => ?_)
  obtain ⟨hP1, hK1, hD1⟩ := hB
  rw [ht] at hP1
  have hK1 := va_K.moved hvm.symm hK1
  subst hw
  obtain ⟨hP, hD⟩ := va_join (wr := [(a1, .inl (t0, 1, .inr (.inl (fun _ => 0))))]) (w1 := [(a0, .inr (0, [.ref r0, .int 0, .ref r1, .int 1, .int 0, .ref r2, .int 0, .int (-1), .ref r3, .ref r4, .int 0, .int (-1), .ref r5, .ref r6]))]) hP hD [0] [1] rfl rfl (by decide) (by decide) hk1 hFc hP1 hD1
  generalize H1 = H at hP hS ⊢
  have hP : va_P (dC, dI) vwCl [(a1, .inl (t0, 1, .inr (.inl (fun _ => 0)))), (a0, .inr (0, [.ref r0, .int 0, .ref r1, .int 1, .int 0, .ref r2, .int 0, .int (-1), .ref r3, .ref r4, .int 0, .int (-1), .ref r5, .ref r6]))] H := hP
  have hD : va_D A [(a1, .inl (t0, 1, .inr (.inl (fun _ => 0)))), (a0, .inr (0, [.ref r0, .int 0, .ref r1, .int 1, .int 0, .ref r2, .int 0, .int (-1), .ref r3, .ref r4, .int 0, .int (-1), .ref r5, .ref r6]))] := hD
  refine lv_i2l (v := 0) hx hb d_L_erase_7 (by decide +kernel) ?_
  refine va_last hx hb hK hP hD hS 0 0 rfl rfl (wk_in (by decide +kernel)) d_L_erase_8 (fun H locs hP hD hS => ?_)
  have hP : va_P (dC, dI) vwCl [(a1, .inl (t0, 1, .inr (.inl (vp_updL (fun _ => 0) 0 0)))), (a0, .inr (0, [.ref r0, .int 0, .ref r1, .int 1, .int 0, .ref r2, .int 0, .int (-1), .ref r3, .ref r4, .int 0, .int (-1), .ref r5, .ref r6]))] H := hP
  have hD : va_D A [(a1, .inl (t0, 1, .inr (.inl (vp_updL (fun _ => 0) 0 0)))), (a0, .inr (0, [.ref r0, .int 0, .ref r1, .int 1, .int 0, .ref r2, .int 0, .int (-1), .ref r3, .ref r4, .int 0, .int (-1), .ref r5, .ref r6]))] := hD
  refine lv_goto (tgt := 15) hx hb d_L_erase_9 (by decide) ?_
  refine lv_iconst (v := 0) hx hb d_L_erase_15 (by decide) ?_
  have hP9 := hP.sub (ws' := [(a0, .inr (0, [.ref r0, .int 0, .ref r1, .int 1, .int 0, .ref r2, .int 0, .int (-1), .ref r3, .ref r4, .int 0, .int (-1), .ref r5, .ref r6])), (a1, .inl (t0, 1, .inr (.inl (vp_updL (fun _ => 0) 0 0))))]) [1, 0] rfl
  have hD9 := hD.sub (ws' := [(a0, .inr (0, [.ref r0, .int 0, .ref r1, .int 1, .int 0, .ref r2, .int 0, .int (-1), .ref r3, .ref r4, .int 0, .int (-1), .ref r5, .ref r6])), (a1, .inl (t0, 1, .inr (.inl (vp_updL (fun _ => 0) 0 0))))]) [1, 0] (by decide) rfl
  have hK9 := hK.sub (tys' := [(t0, .long)]) [0] rfl
  exact W.iret (v := 0) hx hb hr (fun t ht hW => ⟨⟨0, (), rfl, rfl, by rw [ht]; exact hP9, va_K.moved hW.alike hK9, hD9⟩, hS.F ht⟩) hS.2.2 d_L_erase_16

set_option maxHeartbeats 4000000 in
set_option maxRecDepth 100000 in
theorem c_M_textLength (l : Launch) (dC : Nat → ClassId) (dI : Nat → Nat → Nat) (a0 a1 r0 r1 r2 r3 r4 r5 r6 r7 r8 r9 r10 r11 r12 r13 r14 r15 r16 r17 r18 : Nat) (t0 : ClassId) (sz : Nat)  : Met l y_M_textLength w_M_textLength ({ frames := 0, cells := 0, slots := 0, locals := 0 }) (va_Pc [.ref a0] (fun U => U.heap.size = sz ∧ va_P (dC, dI) vwCl [(a0, .inr (4, [.int 0, .int 0, .ref r0, .int 1, .int 0, .ref r1, .ref a1, .ref r2, .ref r3, .ref r4, .int 0, .int 0, .int (-1), .int 0, .int (-1), .int 0, .ref r5, .int 0, .ref r6, .ref r7, .ref r8, .ref r9, .ref r10, .int 0, .int 0, .int 0, .ref r11, .ref r12, .int 0, .ref r13, .ref r14, .ref r15, .ref r16, .ref r17, .int 0, .int 0, .int 0, .ref r18])), (a1, .inl (t0, 40, .inl (fun _ => 0)))] U.heap ∧ va_K (dC, dI) vwCl [(t0, .int)] U ∧ va_D (fun _ => True) [(a0, .inr (4, [.int 0, .int 0, .ref r0, .int 1, .int 0, .ref r1, .ref a1, .ref r2, .ref r3, .ref r4, .int 0, .int 0, .int (-1), .int 0, .int (-1), .int 0, .ref r5, .int 0, .ref r6, .ref r7, .ref r8, .ref r9, .ref r10, .int 0, .int 0, .int 0, .ref r11, .ref r12, .int 0, .ref r13, .ref r14, .ref r15, .ref r16, .ref r17, .int 0, .int 0, .int 0, .ref r18])), (a1, .inl (t0, 40, .inl (fun _ => 0)))])) (va_Qi (fun (r : Int32) (_ : Unit) => r = 0) (fun (_ : Unit) t => va_P (dC, dI) vwCl [(a0, .inr (4, [.int 0, .int 0, .ref r0, .int 1, .int 0, .ref r1, .ref a1, .ref r2, .ref r3, .ref r4, .int 0, .int 0, .int (-1), .int 0, .int (-1), .int 0, .ref r5, .int 0, .ref r6, .ref r7, .ref r8, .ref r9, .ref r10, .int 0, .int 0, .int 0, .ref r11, .ref r12, .int 0, .ref r13, .ref r14, .ref r15, .ref r16, .ref r17, .int 0, .int 0, .int 0, .ref r18])), (a1, .inl (t0, 40, .inl (fun _ => 0)))] t.heap ∧ va_K (dC, dI) vwCl [(t0, .int)] t ∧ va_D (va_A [(a0, .inr (4, [.int 0, .int 0, .ref r0, .int 1, .int 0, .ref r1, .ref a1, .ref r2, .ref r3, .ref r4, .int 0, .int 0, .int (-1), .int 0, .int (-1), .int 0, .ref r5, .int 0, .ref r6, .ref r7, .ref r8, .ref r9, .ref r10, .int 0, .int 0, .int 0, .ref r11, .ref r12, .int 0, .ref r13, .ref r14, .ref r15, .ref r16, .ref r17, .int 0, .int 0, .int 0, .ref r18])), (a1, .inl (t0, 40, .inl (fun _ => 0)))] sz) [(a0, .inr (4, [.int 0, .int 0, .ref r0, .int 1, .int 0, .ref r1, .ref a1, .ref r2, .ref r3, .ref r4, .int 0, .int 0, .int (-1), .int 0, .int (-1), .int 0, .ref r5, .int 0, .ref r6, .ref r7, .ref r8, .ref r9, .ref r10, .int 0, .int 0, .int 0, .ref r11, .ref r12, .int 0, .ref r13, .ref r14, .ref r15, .ref r16, .ref r17, .int 0, .int 0, .int 0, .ref r18])), (a1, .inl (t0, 40, .inl (fun _ => 0)))]) (va_A [(a0, .inr (4, [.int 0, .int 0, .ref r0, .int 1, .int 0, .ref r1, .ref a1, .ref r2, .ref r3, .ref r4, .int 0, .int 0, .int (-1), .int 0, .int (-1), .int 0, .ref r5, .int 0, .ref r6, .ref r7, .ref r8, .ref r9, .ref r10, .int 0, .int 0, .int 0, .ref r11, .ref r12, .int 0, .ref r13, .ref r14, .ref r15, .ref r16, .ref r17, .int 0, .int 0, .int 0, .ref r18])), (a1, .inl (t0, 40, .inl (fun _ => 0)))] sz)) 0 0 (va_A [(a0, .inr (4, [.int 0, .int 0, .ref r0, .int 1, .int 0, .ref r1, .ref a1, .ref r2, .ref r3, .ref r4, .int 0, .int 0, .int (-1), .int 0, .int (-1), .int 0, .ref r5, .int 0, .ref r6, .ref r7, .ref r8, .ref r9, .ref r10, .int 0, .int 0, .int 0, .ref r11, .ref r12, .int 0, .ref r13, .ref r14, .ref r15, .ref r16, .ref r17, .int 0, .int 0, .int 0, .ref r18])), (a1, .inl (t0, 40, .inl (fun _ => 0)))] sz) := by
  refine Met.ofW (cc := prog_6_method_7_code) (maxL := 1) (ret := (some .int)) (by decide) rfl ?_
  intro p e s m args below meth c s₁ B hml hv
  obtain ⟨rfl, hsz, hP, hK, hD0⟩ := hv
  have hx := B.exec
  have hb := B.bytes
  have hr := B.returns
  have hts := atoms_spec (ws := w_M_textLength) B.pre
  have hown : s.vm.findClass R_M = some m.cls := findClass_of_methodNamed B.named
  have hlocks := B.notSynchronized
  subst hsz
  have hD := hD0.self (sz := s.heap.size)
  generalize hAe : va_A [(a0, .inr (4, [.int 0, .int 0, .ref r0, .int 1, .int 0, .ref r1, .ref a1, .ref r2, .ref r3, .ref r4, .int 0, .int 0, .int (-1), .int 0, .int (-1), .int 0, .ref r5, .int 0, .ref r6, .ref r7, .ref r8, .ref r9, .ref r10, .int 0, .int 0, .int 0, .ref r11, .ref r12, .int 0, .ref r13, .ref r14, .ref r15, .ref r16, .ref r17, .int 0, .int 0, .int 0, .ref r18])), (a1, .inl (t0, 40, .inl (fun _ => 0)))] s.heap.size = A at hD ⊢
  have hA : ∀ q : Nat, s.heap.size ≤ q → A q := fun q h => by rw [← hAe]; exact Or.inr h
  have hS : va_S A s.heap s.heap [] := va_S.rf
  have hP : va_P (dC, dI) vwCl [(a0, .inr (4, [.int 0, .int 0, .ref r0, .int 1, .int 0, .ref r1, .ref a1, .ref r2, .ref r3, .ref r4, .int 0, .int 0, .int (-1), .int 0, .int (-1), .int 0, .ref r5, .int 0, .ref r6, .ref r7, .ref r8, .ref r9, .ref r10, .int 0, .int 0, .int 0, .ref r11, .ref r12, .int 0, .ref r13, .ref r14, .ref r15, .ref r16, .ref r17, .int 0, .int 0, .int 0, .ref r18])), (a1, .inl (t0, 40, .inl (fun _ => 0)))] s.heap := hP
  have hl := lv_entry ([.ref a0]) (n := 1) (Nat.le_of_ble_eq_true rfl)
  rw [lg_entry_eq]
  generalize (lg_sl ([.ref a0]) ++ List.replicate (1 - (lg_sl ([.ref a0])).length) Slot.unset).toArray = ls at hl ⊢
  have hl : lv_has ls 1 [(0, .ref a0)] := hl
  refine lv_aload_n hx hb d_M_textLength_0 rfl (lv_at hl 0 rfl) ?_
  refine va_get (D := (dC, dI)) (ci := 4) (v := .ref a1) (C := R_M) (T := F_M) (N := 38) hx hb hts (fun w h => List.mem_cons_of_mem _ (in_M w h)) hown hK hP 0 rfl rfl 6 (by decide) (hts _ (List.mem_cons_of_mem _ lk_146)) (fun _ h9 => h9) rfl d_M_textLength_1 ?_
  refine lv_aload_n hx hb d_M_textLength_4 rfl (lv_at hl 0 rfl) ?_
  refine va_get (D := (dC, dI)) (ci := 4) (v := .int 0) (C := R_M) (T := F_M) (N := 38) hx hb hts (fun w h => List.mem_cons_of_mem _ (in_M w h)) hown hK hP 0 rfl rfl 4 (by decide) (hts _ (List.mem_cons_of_mem _ lk_219)) (fun _ h9 => h9) rfl d_M_textLength_5 ?_
  refine va_iald hx hb hK hP 1 0 rfl rfl (wk_in (by decide +kernel)) d_M_textLength_8 ?_
  refine wk_top (w := .int 0) (congrArg _ (by decide +kernel)) ?_
  have hP9 := hP.sub (ws' := [(a0, .inr (4, [.int 0, .int 0, .ref r0, .int 1, .int 0, .ref r1, .ref a1, .ref r2, .ref r3, .ref r4, .int 0, .int 0, .int (-1), .int 0, .int (-1), .int 0, .ref r5, .int 0, .ref r6, .ref r7, .ref r8, .ref r9, .ref r10, .int 0, .int 0, .int 0, .ref r11, .ref r12, .int 0, .ref r13, .ref r14, .ref r15, .ref r16, .ref r17, .int 0, .int 0, .int 0, .ref r18])), (a1, .inl (t0, 40, .inl (fun _ => 0)))]) [0, 1] rfl
  have hD9 := hD.sub (ws' := [(a0, .inr (4, [.int 0, .int 0, .ref r0, .int 1, .int 0, .ref r1, .ref a1, .ref r2, .ref r3, .ref r4, .int 0, .int 0, .int (-1), .int 0, .int (-1), .int 0, .ref r5, .int 0, .ref r6, .ref r7, .ref r8, .ref r9, .ref r10, .int 0, .int 0, .int 0, .ref r11, .ref r12, .int 0, .ref r13, .ref r14, .ref r15, .ref r16, .ref r17, .int 0, .int 0, .int 0, .ref r18])), (a1, .inl (t0, 40, .inl (fun _ => 0)))]) [0, 1] (by decide) rfl
  have hK9 := hK.sub (tys' := [(t0, .int)]) [0] rfl
  exact W.iret (v := 0) hx hb hr (fun t ht hW => ⟨⟨0, (), rfl, rfl, by rw [ht]; exact hP9, va_K.moved hW.alike hK9, hD9⟩, hS.F ht⟩) hS.2.2 d_M_textLength_9

