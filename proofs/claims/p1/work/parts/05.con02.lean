set_option maxHeartbeats 4000000 in
set_option maxRecDepth 100000 in
theorem c_M_erase (l : Launch) (dC : Nat → ClassId) (dI : Nat → Nat → Nat) (a0 a1 r0 r1 r2 r3 r4 r5 r6 r7 r8 r9 r10 r11 r12 r13 r14 r15 r16 r17 r18 : Nat) (t0 : ClassId) (sz : Nat) (k0 : Int32) (hh0 : k0.toInt ≤ (-1)) : Met l y_M_erase w_M_erase ({ frames := 1, cells := 0, slots := 0, locals := 20 }) (va_Pc [.ref a0, .int k0] (fun U => U.heap.size = sz ∧ va_P (dC, dI) vwCl [(a0, .inr (4, [.int 0, .int 0, .ref r0, .int 1, .int 0, .ref r1, .ref a1, .ref r2, .ref r3, .ref r4, .int 0, .int 0, .int (-1), .int 0, .int (-1), .int 0, .ref r5, .int 0, .ref r6, .ref r7, .ref r8, .ref r9, .ref r10, .int 0, .int 0, .int 0, .ref r11, .ref r12, .int 0, .ref r13, .ref r14, .ref r15, .ref r16, .ref r17, .int 0, .int 0, .int 0, .ref r18])), (a1, .inl (t0, 40, .inl (fun _ => 0)))] U.heap ∧ va_K (dC, dI) vwCl [(t0, .int)] U ∧ va_D (fun _ => True) [(a0, .inr (4, [.int 0, .int 0, .ref r0, .int 1, .int 0, .ref r1, .ref a1, .ref r2, .ref r3, .ref r4, .int 0, .int 0, .int (-1), .int 0, .int (-1), .int 0, .ref r5, .int 0, .ref r6, .ref r7, .ref r8, .ref r9, .ref r10, .int 0, .int 0, .int 0, .ref r11, .ref r12, .int 0, .ref r13, .ref r14, .ref r15, .ref r16, .ref r17, .int 0, .int 0, .int 0, .ref r18])), (a1, .inl (t0, 40, .inl (fun _ => 0)))])) (va_Qi (fun (r : Int32) (_ : Unit) => r = 0) (fun (_ : Unit) t => va_P (dC, dI) vwCl [(a0, .inr (4, [.int 0, .int 0, .ref r0, .int 1, .int 0, .ref r1, .ref a1, .ref r2, .ref r3, .ref r4, .int 0, .int 0, .int (-1), .int 0, .int (-1), .int 0, .ref r5, .int 0, .ref r6, .ref r7, .ref r8, .ref r9, .ref r10, .int 0, .int 0, .int 0, .ref r11, .ref r12, .int 0, .ref r13, .ref r14, .ref r15, .ref r16, .ref r17, .int 0, .int 0, .int 0, .ref r18])), (a1, .inl (t0, 40, .inl (fun _ => 0)))] t.heap ∧ va_K (dC, dI) vwCl [(t0, .int)] t ∧ va_D (va_A [(a0, .inr (4, [.int 0, .int 0, .ref r0, .int 1, .int 0, .ref r1, .ref a1, .ref r2, .ref r3, .ref r4, .int 0, .int 0, .int (-1), .int 0, .int (-1), .int 0, .ref r5, .int 0, .ref r6, .ref r7, .ref r8, .ref r9, .ref r10, .int 0, .int 0, .int 0, .ref r11, .ref r12, .int 0, .ref r13, .ref r14, .ref r15, .ref r16, .ref r17, .int 0, .int 0, .int 0, .ref r18])), (a1, .inl (t0, 40, .inl (fun _ => 0)))] sz) [(a0, .inr (4, [.int 0, .int 0, .ref r0, .int 1, .int 0, .ref r1, .ref a1, .ref r2, .ref r3, .ref r4, .int 0, .int 0, .int (-1), .int 0, .int (-1), .int 0, .ref r5, .int 0, .ref r6, .ref r7, .ref r8, .ref r9, .ref r10, .int 0, .int 0, .int 0, .ref r11, .ref r12, .int 0, .ref r13, .ref r14, .ref r15, .ref r16, .ref r17, .int 0, .int 0, .int 0, .ref r18])), (a1, .inl (t0, 40, .inl (fun _ => 0)))]) (va_A [(a0, .inr (4, [.int 0, .int 0, .ref r0, .int 1, .int 0, .ref r1, .ref a1, .ref r2, .ref r3, .ref r4, .int 0, .int 0, .int (-1), .int 0, .int (-1), .int 0, .ref r5, .int 0, .ref r6, .ref r7, .ref r8, .ref r9, .ref r10, .int 0, .int 0, .int 0, .ref r11, .ref r12, .int 0, .ref r13, .ref r14, .ref r15, .ref r16, .ref r17, .int 0, .int 0, .int 0, .ref r18])), (a1, .inl (t0, 40, .inl (fun _ => 0)))] sz)) 0 0 (va_A [(a0, .inr (4, [.int 0, .int 0, .ref r0, .int 1, .int 0, .ref r1, .ref a1, .ref r2, .ref r3, .ref r4, .int 0, .int 0, .int (-1), .int 0, .int (-1), .int 0, .ref r5, .int 0, .ref r6, .ref r7, .ref r8, .ref r9, .ref r10, .int 0, .int 0, .int 0, .ref r11, .ref r12, .int 0, .ref r13, .ref r14, .ref r15, .ref r16, .ref r17, .int 0, .int 0, .int 0, .ref r18])), (a1, .inl (t0, 40, .inl (fun _ => 0)))] sz) := by
  refine Met.ofW (cc := prog_6_method_16_code) (maxL := 5) (ret := (some .int)) (by decide) rfl ?_
  intro p e s m args below meth c s₁ B hml hv
  obtain ⟨rfl, hsz, hP, hK, hD0⟩ := hv
  have hx := B.exec
  have hb := B.bytes
  have hr := B.returns
  have hts := atoms_spec (ws := w_M_erase) B.pre
  have hown : s.vm.findClass R_M = some m.cls := findClass_of_methodNamed B.named
  have hlocks := B.notSynchronized
  subst hsz
  have hD := hD0.self (sz := s.heap.size)
  generalize hAe : va_A [(a0, .inr (4, [.int 0, .int 0, .ref r0, .int 1, .int 0, .ref r1, .ref a1, .ref r2, .ref r3, .ref r4, .int 0, .int 0, .int (-1), .int 0, .int (-1), .int 0, .ref r5, .int 0, .ref r6, .ref r7, .ref r8, .ref r9, .ref r10, .int 0, .int 0, .int 0, .ref r11, .ref r12, .int 0, .ref r13, .ref r14, .ref r15, .ref r16, .ref r17, .int 0, .int 0, .int 0, .ref r18])), (a1, .inl (t0, 40, .inl (fun _ => 0)))] s.heap.size = A at hD ⊢
  have hA : ∀ q : Nat, s.heap.size ≤ q → A q := fun q h => by rw [← hAe]; exact Or.inr h
  have hS : va_S A s.heap s.heap [] := va_S.rf
  have hP : va_P (dC, dI) vwCl [(a0, .inr (4, [.int 0, .int 0, .ref r0, .int 1, .int 0, .ref r1, .ref a1, .ref r2, .ref r3, .ref r4, .int 0, .int 0, .int (-1), .int 0, .int (-1), .int 0, .ref r5, .int 0, .ref r6, .ref r7, .ref r8, .ref r9, .ref r10, .int 0, .int 0, .int 0, .ref r11, .ref r12, .int 0, .ref r13, .ref r14, .ref r15, .ref r16, .ref r17, .int 0, .int 0, .int 0, .ref r18])), (a1, .inl (t0, 40, .inl (fun _ => 0)))] s.heap := hP
  have hl := lv_entry ([.ref a0, .int k0]) (n := 5) (Nat.le_of_ble_eq_true rfl)
  rw [lg_entry_eq]
  generalize (lg_sl ([.ref a0, .int k0]) ++ List.replicate (5 - (lg_sl ([.ref a0, .int k0])).length) Slot.unset).toArray = ls at hl ⊢
  have hl : lv_has ls 5 [(0, .ref a0), (1, .int k0)] := hl
  refine lv_aload_n hx hb d_M_erase_0 rfl (lv_at hl 0 rfl) ?_
  have hPc := hP.sub (ws' := [(a0, .inr (4, [.int 0, .int 0, .ref r0, .int 1, .int 0, .ref r1, .ref a1, .ref r2, .ref r3, .ref r4, .int 0, .int 0, .int (-1), .int 0, .int (-1), .int 0, .ref r5, .int 0, .ref r6, .ref r7, .ref r8, .ref r9, .ref r10, .int 0, .int 0, .int 0, .ref r11, .ref r12, .int 0, .ref r13, .ref r14, .ref r15, .ref r16, .ref r17, .int 0, .int 0, .int 0, .ref r18]))]) [0] rfl
  have hDc := hD.sub (ws' := [(a0, .inr (4, [.int 0, .int 0, .ref r0, .int 1, .int 0, .ref r1, .ref a1, .ref r2, .ref r3, .ref r4, .int 0, .int 0, .int (-1), .int 0, .int (-1), .int 0, .ref r5, .int 0, .ref r6, .ref r7, .ref r8, .ref r9, .ref r10, .int 0, .int 0, .int 0, .ref r11, .ref r12, .int 0, .ref r13, .ref r14, .ref r15, .ref r16, .ref r17, .int 0, .int 0, .int 0, .ref r18]))]) [0] (by decide) rfl
  have hKc := hK.sub (tys' := []) [] rfl
  have hFc := va_free (wc := [(a0, .inr (4, [.int 0, .int 0, .ref r0, .int 1, .int 0, .ref r1, .ref a1, .ref r2, .ref r3, .ref r4, .int 0, .int 0, .int (-1), .int 0, .int (-1), .int 0, .ref r5, .int 0, .ref r6, .ref r7, .ref r8, .ref r9, .ref r10, .int 0, .int 0, .int 0, .ref r11, .ref r12, .int 0, .ref r13, .ref r14, .ref r15, .ref r16, .ref r17, .int 0, .int 0, .int 0, .ref r18]))]) hD hS hA [0] rfl
  refine va_calli (va_runV (As := []) (rest := []) ⟨hx, hb, hml, hown, hts⟩ (c_M_low l dC dI a0 r0 r1 a1 r2 r3 r4 r5 r6 r7 r8 r9 r10 r11 r12 r13 r14 r15 r16 r17 r18 s.heap.size) (cwV 0 hts (gd_v lk_212 lk_213 lk_214 lk_141 lk_211) rfl rfl rfl (by decide +kernel) ⟨Nat.le_of_ble_eq_true rfl, Nat.le_of_ble_eq_true rfl⟩) ⟨fun a U g mk q => by obtain ⟨q0, q1, qP, qK, qD⟩ := q; exact ⟨q0, q1, qP, va_K.moved (u := U) (U := U.calling g mk a) (Vm.Alike.refl U.vm) qK, qD⟩, va_recv (ci := 4) (q0 := 0) hK hP rfl rfl, fun U hU hW => ⟨rfl, by rw [hU], by rw [hU]; exact hPc, va_K.moved hW.alike hKc, hDc.weaken (fun _ _ _ _ => trivial)⟩⟩ rfl rfl hl.1 rfl (lv_room (Nat.le_of_ble_eq_true rfl)) d_M_erase_1 ⟨Nat.le_of_ble_eq_true rfl, Nat.le_of_ble_eq_true rfl⟩) hS (fun q _ h => hFc q h) hFc (fun r u t H1 locs ht hvm hw hB hz1 hk1 hS => ?_)
  obtain ⟨hP1, hK1, hD1⟩ := hB
  rw [ht] at hP1
  have hK1 := va_K.moved hvm.symm hK1
  subst hw
  obtain ⟨hP, hD⟩ := va_join (wr := [(a1, .inl (t0, 40, .inl (fun _ => 0)))]) (w1 := [(a0, .inr (4, [.int 0, .int 0, .ref r0, .int 1, .int 0, .ref r1, .ref a1, .ref r2, .ref r3, .ref r4, .int 0, .int 0, .int (-1), .int 0, .int (-1), .int 0, .ref r5, .int 0, .ref r6, .ref r7, .ref r8, .ref r9, .ref r10, .int 0, .int 0, .int 0, .ref r11, .ref r12, .int 0, .ref r13, .ref r14, .ref r15, .ref r16, .ref r17, .int 0, .int 0, .int 0, .ref r18]))]) hP hD [0] [1] rfl rfl (by decide) (by decide) hk1 hFc hP1 hD1
  generalize H1 = H at hP hS ⊢
  have hP : va_P (dC, dI) vwCl [(a1, .inl (t0, 40, .inl (fun _ => 0))), (a0, .inr (4, [.int 0, .int 0, .ref r0, .int 1, .int 0, .ref r1, .ref a1, .ref r2, .ref r3, .ref r4, .int 0, .int 0, .int (-1), .int 0, .int (-1), .int 0, .ref r5, .int 0, .ref r6, .ref r7, .ref r8, .ref r9, .ref r10, .int 0, .int 0, .int 0, .ref r11, .ref r12, .int 0, .ref r13, .ref r14, .ref r15, .ref r16, .ref r17, .int 0, .int 0, .int 0, .ref r18]))] H := hP
  have hD : va_D A [(a1, .inl (t0, 40, .inl (fun _ => 0))), (a0, .inr (4, [.int 0, .int 0, .ref r0, .int 1, .int 0, .ref r1, .ref a1, .ref r2, .ref r3, .ref r4, .int 0, .int 0, .int (-1), .int 0, .int (-1), .int 0, .ref r5, .int 0, .ref r6, .ref r7, .ref r8, .ref r9, .ref r10, .int 0, .int 0, .int 0, .ref r11, .ref r12, .int 0, .ref r13, .ref r14, .ref r15, .ref r16, .ref r17, .int 0, .int 0, .int 0, .ref r18]))] := hD
  refine lv_istore_n (lv' := [(2, .int 0), (0, .ref a0), (1, .int k0)]) hx hb d_M_erase_4 rfl hl (by decide) rfl (fun ls hl => ?_)
  have hl : lv_has ls 5 [(2, .int 0), (0, .ref a0), (1, .int k0)] := hl
  refine lv_aload_n hx hb d_M_erase_5 rfl (lv_at hl 1 rfl) ?_
  have hPc := hP.sub (ws' := [(a0, .inr (4, [.int 0, .int 0, .ref r0, .int 1, .int 0, .ref r1, .ref a1, .ref r2, .ref r3, .ref r4, .int 0, .int 0, .int (-1), .int 0, .int (-1), .int 0, .ref r5, .int 0, .ref r6, .ref r7, .ref r8, .ref r9, .ref r10, .int 0, .int 0, .int 0, .ref r11, .ref r12, .int 0, .ref r13, .ref r14, .ref r15, .ref r16, .ref r17, .int 0, .int 0, .int 0, .ref r18]))]) [1] rfl
  have hDc := hD.sub (ws' := [(a0, .inr (4, [.int 0, .int 0, .ref r0, .int 1, .int 0, .ref r1, .ref a1, .ref r2, .ref r3, .ref r4, .int 0, .int 0, .int (-1), .int 0, .int (-1), .int 0, .ref r5, .int 0, .ref r6, .ref r7, .ref r8, .ref r9, .ref r10, .int 0, .int 0, .int 0, .ref r11, .ref r12, .int 0, .ref r13, .ref r14, .ref r15, .ref r16, .ref r17, .int 0, .int 0, .int 0, .ref r18]))]) [1] (by decide) rfl
  have hKc := hK.sub (tys' := []) [] rfl
  have hFc := va_free (wc := [(a0, .inr (4, [.int 0, .int 0, .ref r0, .int 1, .int 0, .ref r1, .ref a1, .ref r2, .ref r3, .ref r4, .int 0, .int 0, .int (-1), .int 0, .int (-1), .int 0, .ref r5, .int 0, .ref r6, .ref r7, .ref r8, .ref r9, .ref r10, .int 0, .int 0, .int 0, .ref r11, .ref r12, .int 0, .ref r13, .ref r14, .ref r15, .ref r16, .ref r17, .int 0, .int 0, .int 0, .ref r18]))]) hD hS hA [1] rfl
  refine va_calli (va_runV (As := []) (rest := []) ⟨hx, hb, hml, hown, hts⟩ (c_M_high l dC dI a0 r0 r1 a1 r2 r3 r4 r5 r6 r7 r8 r9 r10 r11 r12 r13 r14 r15 r16 r17 r18 H.size) (cwV 0 hts (gd_v lk_216 lk_217 lk_218 lk_141 lk_215) rfl rfl rfl (by decide +kernel) ⟨Nat.le_of_ble_eq_true rfl, Nat.le_of_ble_eq_true rfl⟩) ⟨fun a U g mk q => by obtain ⟨q0, q1, qP, qK, qD⟩ := q; exact ⟨q0, q1, qP, va_K.moved (u := U) (U := U.calling g mk a) (Vm.Alike.refl U.vm) qK, qD⟩, va_recv (ci := 4) (q0 := 1) hK hP rfl rfl, fun U hU hW => ⟨rfl, by rw [hU], by rw [hU]; exact hPc, va_K.moved hW.alike hKc, hDc.weaken (fun _ _ _ _ => trivial)⟩⟩ rfl rfl hl.1 rfl (lv_room (Nat.le_of_ble_eq_true rfl)) d_M_erase_6 ⟨Nat.le_of_ble_eq_true rfl, Nat.le_of_ble_eq_true rfl⟩) hS (fun q _ h => hFc q h) hFc (fun r u t H1 locs ht hvm hw hB hz1 hk1 hS => ?_)
  obtain ⟨hP1, hK1, hD1⟩ := hB
  rw [ht] at hP1
  have hK1 := va_K.moved hvm.symm hK1
  subst hw
  obtain ⟨hP, hD⟩ := va_join (wr := [(a1, .inl (t0, 40, .inl (fun _ => 0)))]) (w1 := [(a0, .inr (4, [.int 0, .int 0, .ref r0, .int 1, .int 0, .ref r1, .ref a1, .ref r2, .ref r3, .ref r4, .int 0, .int 0, .int (-1), .int 0, .int (-1), .int 0, .ref r5, .int 0, .ref r6, .ref r7, .ref r8, .ref r9, .ref r10, .int 0, .int 0, .int 0, .ref r11, .ref r12, .int 0, .ref r13, .ref r14, .ref r15, .ref r16, .ref r17, .int 0, .int 0, .int 0, .ref r18]))]) hP hD [1] [0] rfl rfl (by decide) (by decide) hk1 hFc hP1 hD1
  generalize H1 = H at hP hS ⊢
  have hP : va_P (dC, dI) vwCl [(a1, .inl (t0, 40, .inl (fun _ => 0))), (a0, .inr (4, [.int 0, .int 0, .ref r0, .int 1, .int 0, .ref r1, .ref a1, .ref r2, .ref r3, .ref r4, .int 0, .int 0, .int (-1), .int 0, .int (-1), .int 0, .ref r5, .int 0, .ref r6, .ref r7, .ref r8, .ref r9, .ref r10, .int 0, .int 0, .int 0, .ref r11, .ref r12, .int 0, .ref r13, .ref r14, .ref r15, .ref r16, .ref r17, .int 0, .int 0, .int 0, .ref r18]))] H := hP
  have hD : va_D A [(a1, .inl (t0, 40, .inl (fun _ => 0))), (a0, .inr (4, [.int 0, .int 0, .ref r0, .int 1, .int 0, .ref r1, .ref a1, .ref r2, .ref r3, .ref r4, .int 0, .int 0, .int (-1), .int 0, .int (-1), .int 0, .ref r5, .int 0, .ref r6, .ref r7, .ref r8, .ref r9, .ref r10, .int 0, .int 0, .int 0, .ref r11, .ref r12, .int 0, .ref r13, .ref r14, .ref r15, .ref r16, .ref r17, .int 0, .int 0, .int 0, .ref r18]))] := hD
  refine lv_istore_n (lv' := [(3, .int 0), (2, .int 0), (0, .ref a0), (1, .int k0)]) hx hb d_M_erase_9 rfl hl (by decide) rfl (fun ls hl => ?_)
  have hl : lv_has ls 5 [(3, .int 0), (2, .int 0), (0, .ref a0), (1, .int k0)] := hl
  refine lv_iload_n hx hb d_M_erase_10 rfl (lv_at hl 1 rfl) ?_
  refine lv_iload_n hx hb d_M_erase_11 rfl (lv_at hl 0 rfl) ?_
  refine lv_icmp_ne (tgt := 88) hx hb d_M_erase_12 (by decide) (fun h => absurd (by decide +kernel) h) (fun _ => ?_)
  refine lv_aload_n hx hb d_M_erase_15 rfl (lv_at hl 2 rfl) ?_
  have hPc := hP.sub (ws' := [(a0, .inr (4, [.int 0, .int 0, .ref r0, .int 1, .int 0, .ref r1, .ref a1, .ref r2, .ref r3, .ref r4, .int 0, .int 0, .int (-1), .int 0, .int (-1), .int 0, .ref r5, .int 0, .ref r6, .ref r7, .ref r8, .ref r9, .ref r10, .int 0, .int 0, .int 0, .ref r11, .ref r12, .int 0, .ref r13, .ref r14, .ref r15, .ref r16, .ref r17, .int 0, .int 0, .int 0, .ref r18])), (a1, .inl (t0, 40, .inl (fun _ => 0)))]) [1, 0] rfl
  have hDc := hD.sub (ws' := [(a0, .inr (4, [.int 0, .int 0, .ref r0, .int 1, .int 0, .ref r1, .ref a1, .ref r2, .ref r3, .ref r4, .int 0, .int 0, .int (-1), .int 0, .int (-1), .int 0, .ref r5, .int 0, .ref r6, .ref r7, .ref r8, .ref r9, .ref r10, .int 0, .int 0, .int 0, .ref r11, .ref r12, .int 0, .ref r13, .ref r14, .ref r15, .ref r16, .ref r17, .int 0, .int 0, .int 0, .ref r18])), (a1, .inl (t0, 40, .inl (fun _ => 0)))]) [1, 0] (by decide) rfl
  have hKc := hK.sub (tys' := [(t0, .int)]) [0] rfl
  have hFc := va_free (wc := [(a0, .inr (4, [.int 0, .int 0, .ref r0, .int 1, .int 0, .ref r1, .ref a1, .ref r2, .ref r3, .ref r4, .int 0, .int 0, .int (-1), .int 0, .int (-1), .int 0, .ref r5, .int 0, .ref r6, .ref r7, .ref r8, .ref r9, .ref r10, .int 0, .int 0, .int 0, .ref r11, .ref r12, .int 0, .ref r13, .ref r14, .ref r15, .ref r16, .ref r17, .int 0, .int 0, .int 0, .ref r18])), (a1, .inl (t0, 40, .inl (fun _ => 0)))]) hD hS hA [1, 0] rfl
  refine va_calli (va_runV (As := []) (rest := []) ⟨hx, hb, hml, hown, hts⟩ (c_M_textLength l dC dI a0 a1 r0 r1 r2 r3 r4 r5 r6 r7 r8 r9 r10 r11 r12 r13 r14 r15 r16 r17 r18 t0 H.size) (cwV 0 hts (gd_v lk_240 lk_241 lk_242 lk_141 lk_239) rfl rfl rfl (by decide +kernel) ⟨Nat.le_of_ble_eq_true rfl, Nat.le_of_ble_eq_true rfl⟩) ⟨fun a U g mk q => by obtain ⟨q0, q1, qP, qK, qD⟩ := q; exact ⟨q0, q1, qP, va_K.moved (u := U) (U := U.calling g mk a) (Vm.Alike.refl U.vm) qK, qD⟩, va_recv (ci := 4) (q0 := 1) hK hP rfl rfl, fun U hU hW => ⟨rfl, by rw [hU], by rw [hU]; exact hPc, va_K.moved hW.alike hKc, hDc.weaken (fun _ _ _ _ => trivial)⟩⟩ rfl rfl hl.1 rfl (lv_room (Nat.le_of_ble_eq_true rfl)) d_M_erase_16 ⟨Nat.le_of_ble_eq_true rfl, Nat.le_of_ble_eq_true rfl⟩) hS (fun q _ h => hFc q h) hFc (fun r u t H1 locs ht hvm hw hB hz1 hk1 hS => ?_)
  obtain ⟨hP1, hK1, hD1⟩ := hB
  rw [ht] at hP1
  have hK1 := va_K.moved hvm.symm hK1
  subst hw
  obtain ⟨hP, hD⟩ := va_join (wr := []) (w1 := [(a0, .inr (4, [.int 0, .int 0, .ref r0, .int 1, .int 0, .ref r1, .ref a1, .ref r2, .ref r3, .ref r4, .int 0, .int 0, .int (-1), .int 0, .int (-1), .int 0, .ref r5, .int 0, .ref r6, .ref r7, .ref r8, .ref r9, .ref r10, .int 0, .int 0, .int 0, .ref r11, .ref r12, .int 0, .ref r13, .ref r14, .ref r15, .ref r16, .ref r17, .int 0, .int 0, .int 0, .ref r18])), (a1, .inl (t0, 40, .inl (fun _ => 0)))]) hP hD [1, 0] [] rfl rfl (by decide) (by decide) hk1 hFc hP1 hD1
  generalize H1 = H at hP hS ⊢
  have hP : va_P (dC, dI) vwCl [(a0, .inr (4, [.int 0, .int 0, .ref r0, .int 1, .int 0, .ref r1, .ref a1, .ref r2, .ref r3, .ref r4, .int 0, .int 0, .int (-1), .int 0, .int (-1), .int 0, .ref r5, .int 0, .ref r6, .ref r7, .ref r8, .ref r9, .ref r10, .int 0, .int 0, .int 0, .ref r11, .ref r12, .int 0, .ref r13, .ref r14, .ref r15, .ref r16, .ref r17, .int 0, .int 0, .int 0, .ref r18])), (a1, .inl (t0, 40, .inl (fun _ => 0)))] H := hP
  have hD : va_D A [(a0, .inr (4, [.int 0, .int 0, .ref r0, .int 1, .int 0, .ref r1, .ref a1, .ref r2, .ref r3, .ref r4, .int 0, .int 0, .int (-1), .int 0, .int (-1), .int 0, .ref r5, .int 0, .ref r6, .ref r7, .ref r8, .ref r9, .ref r10, .int 0, .int 0, .int 0, .ref r11, .ref r12, .int 0, .ref r13, .ref r14, .ref r15, .ref r16, .ref r17, .int 0, .int 0, .int 0, .ref r18])), (a1, .inl (t0, 40, .inl (fun _ => 0)))] := hD
  refine lv_aload_n hx hb d_M_erase_19 rfl (lv_at hl 2 rfl) ?_
  refine va_get (D := (dC, dI)) (ci := 4) (v := .int 0) (C := R_M) (T := F_M) (N := 38) hx hb hts (fun w h => List.mem_cons_of_mem _ (in_M w h)) hown hK hP 0 rfl rfl 11 (by decide) (hts _ (List.mem_cons_of_mem _ lk_210)) (fun _ h9 => h9) rfl d_M_erase_20 ?_
  refine t_isub (v := 0) hx hb d_M_erase_23 (by decide +kernel) ?_
  refine lv_istore (lv' := [(4, .int 0), (3, .int 0), (2, .int 0), (0, .ref a0), (1, .int k0)]) hx hb d_M_erase_24 hl (by decide) rfl (fun ls hl => ?_)
  have hl : lv_has ls 5 [(4, .int 0), (3, .int 0), (2, .int 0), (0, .ref a0), (1, .int k0)] := hl
  refine lv_iload_n hx hb d_M_erase_26 rfl (lv_at hl 4 rfl) ?_
  refine lv_if_lt (tgt := 37) hx hb d_M_erase_27 (by decide) (fun _ => ?_) (fun h => absurd ((wk_lt 0 (by decide)).mpr (by omega)) h)
  refine lv_iload_n hx hb d_M_erase_37 rfl (lv_at hl 4 rfl) ?_
  refine lv_aload_n hx hb d_M_erase_38 rfl (lv_at hl 3 rfl) ?_
  refine va_get (D := (dC, dI)) (ci := 4) (v := .int 0) (C := R_M) (T := F_M) (N := 38) hx hb hts (fun w h => List.mem_cons_of_mem _ (in_M w h)) hown hK hP 0 rfl rfl 11 (by decide) (hts _ (List.mem_cons_of_mem _ lk_210)) (fun _ h9 => h9) rfl d_M_erase_39 ?_
  refine lv_ineg hx hb d_M_erase_42 ?_
  refine wk_top (w := .int 0) (by decide +kernel) ?_
  refine lv_icmp_ge (tgt := 50) hx hb d_M_erase_43 (by decide) (fun h => absurd h (fun z => absurd ((wk_ge 0 (by decide)).mp z) (by omega))) (fun _ => ?_)
  refine lv_iconst (v := 0) hx hb d_M_erase_46 (by decide) ?_
  refine lv_goto (tgt := 56) hx hb d_M_erase_47 (by decide) ?_
  refine lv_istore_n (lv' := [(2, .int 0), (4, .int 0), (3, .int 0), (0, .ref a0), (1, .int k0)]) hx hb d_M_erase_56 rfl hl (by decide) rfl (fun ls hl => ?_)
  have hl : lv_has ls 5 [(2, .int 0), (4, .int 0), (3, .int 0), (0, .ref a0), (1, .int k0)] := hl
  refine lv_iload_n hx hb d_M_erase_57 rfl (lv_at hl 4 rfl) ?_
  refine lv_if_ge (tgt := 68) hx hb d_M_erase_58 (by decide) (fun h => absurd h (fun z => absurd ((wk_ge 0 (by decide)).mp z) (by omega))) (fun _ => ?_)
  refine lv_aload_n hx hb d_M_erase_61 rfl (lv_at hl 3 rfl) ?_
  refine va_get (D := (dC, dI)) (ci := 4) (v := .int 0) (C := R_M) (T := F_M) (N := 38) hx hb hts (fun w h => List.mem_cons_of_mem _ (in_M w h)) hown hK hP 0 rfl rfl 11 (by decide) (hts _ (List.mem_cons_of_mem _ lk_210)) (fun _ h9 => h9) rfl d_M_erase_62 ?_
  refine lv_goto (tgt := 87) hx hb d_M_erase_65 (by decide) ?_
  refine lv_istore_n (lv' := [(3, .int 0), (2, .int 0), (4, .int 0), (0, .ref a0), (1, .int k0)]) hx hb d_M_erase_87 rfl hl (by decide) rfl (fun ls hl => ?_)
  have hl : lv_has ls 5 [(3, .int 0), (2, .int 0), (4, .int 0), (0, .ref a0), (1, .int k0)] := hl
  refine lv_aload_n hx hb d_M_erase_88 rfl (lv_at hl 3 rfl) ?_
  refine lv_iload_n hx hb d_M_erase_89 rfl (lv_at hl 0 rfl) ?_
  refine lv_iload_n hx hb d_M_erase_90 rfl (lv_at hl 1 rfl) ?_
  refine lv_icmp_le (tgt := 107) hx hb d_M_erase_91 (by decide) (fun _ => ?_) (fun h => absurd (by decide +kernel) h)
  refine lv_iconst (v := 0) hx hb d_M_erase_107 (by decide) ?_
  refine va_put (D := (dC, dI)) (ci := 4) (v := .int 0) (ty := .int) (C := R_M) (T := F_M) (N := 38) hx hb hts (fun w h => List.mem_cons_of_mem _ (in_M w h)) t_M tk_M n_M hown hK hP hD hS 0 rfl rfl 0 (by decide) (hts _ (List.mem_cons_of_mem _ lk_175)) (fun _ h9 => h9) rfl (by decide +kernel) rfl rfl (Nat.le_of_ble_eq_true rfl) d_M_erase_108 (fun H locs hP hD hS => ?_)
  have hP : va_P (dC, dI) vwCl [(a0, .inr (4, [.int 0, .int 0, .ref r0, .int 1, .int 0, .ref r1, .ref a1, .ref r2, .ref r3, .ref r4, .int 0, .int 0, .int (-1), .int 0, .int (-1), .int 0, .ref r5, .int 0, .ref r6, .ref r7, .ref r8, .ref r9, .ref r10, .int 0, .int 0, .int 0, .ref r11, .ref r12, .int 0, .ref r13, .ref r14, .ref r15, .ref r16, .ref r17, .int 0, .int 0, .int 0, .ref r18])), (a1, .inl (t0, 40, .inl (fun _ => 0)))] H := hP
  have hD : va_D A [(a0, .inr (4, [.int 0, .int 0, .ref r0, .int 1, .int 0, .ref r1, .ref a1, .ref r2, .ref r3, .ref r4, .int 0, .int 0, .int (-1), .int 0, .int (-1), .int 0, .ref r5, .int 0, .ref r6, .ref r7, .ref r8, .ref r9, .ref r10, .int 0, .int 0, .int 0, .ref r11, .ref r12, .int 0, .ref r13, .ref r14, .ref r15, .ref r16, .ref r17, .int 0, .int 0, .int 0, .ref r18])), (a1, .inl (t0, 40, .inl (fun _ => 0)))] := hD
  refine lv_aload_n hx hb d_M_erase_111 rfl (lv_at hl 3 rfl) ?_
  refine va_get (D := (dC, dI)) (ci := 4) (v := .int 0) (C := R_M) (T := F_M) (N := 38) hx hb hts (fun w h => List.mem_cons_of_mem _ (in_M w h)) hown hK hP 0 rfl rfl 0 (by decide) (hts _ (List.mem_cons_of_mem _ lk_175)) (fun _ h9 => h9) rfl d_M_erase_112 ?_
  refine lv_if_gt (tgt := 123) hx hb d_M_erase_115 (by decide) (fun h => absurd h (by decide +kernel)) (fun _ => ?_)
  refine lv_iload_n hx hb d_M_erase_118 rfl (lv_at hl 1 rfl) ?_
  refine lv_iload_n hx hb d_M_erase_119 rfl (lv_at hl 0 rfl) ?_
  refine lv_icmp_ne (tgt := 125) hx hb d_M_erase_120 (by decide) (fun h => absurd (by decide +kernel) h) (fun _ => ?_)
  refine lv_iconst (v := 0) hx hb d_M_erase_123 (by decide) ?_
  have hP9 := hP.sub (ws' := [(a0, .inr (4, [.int 0, .int 0, .ref r0, .int 1, .int 0, .ref r1, .ref a1, .ref r2, .ref r3, .ref r4, .int 0, .int 0, .int (-1), .int 0, .int (-1), .int 0, .ref r5, .int 0, .ref r6, .ref r7, .ref r8, .ref r9, .ref r10, .int 0, .int 0, .int 0, .ref r11, .ref r12, .int 0, .ref r13, .ref r14, .ref r15, .ref r16, .ref r17, .int 0, .int 0, .int 0, .ref r18])), (a1, .inl (t0, 40, .inl (fun _ => 0)))]) [0, 1] rfl
  have hD9 := hD.sub (ws' := [(a0, .inr (4, [.int 0, .int 0, .ref r0, .int 1, .int 0, .ref r1, .ref a1, .ref r2, .ref r3, .ref r4, .int 0, .int 0, .int (-1), .int 0, .int (-1), .int 0, .ref r5, .int 0, .ref r6, .ref r7, .ref r8, .ref r9, .ref r10, .int 0, .int 0, .int 0, .ref r11, .ref r12, .int 0, .ref r13, .ref r14, .ref r15, .ref r16, .ref r17, .int 0, .int 0, .int 0, .ref r18])), (a1, .inl (t0, 40, .inl (fun _ => 0)))]) [0, 1] (by decide) rfl
  have hK9 := hK.sub (tys' := [(t0, .int)]) [0] rfl
  exact W.iret (v := 0) hx hb hr (fun t ht hW => ⟨⟨0, (), rfl, rfl, by rw [ht]; exact hP9, va_K.moved hW.alike hK9, hD9⟩, hS.F ht⟩) hS.2.2 d_M_erase_124

set_option maxHeartbeats 4000000 in
set_option maxRecDepth 100000 in
theorem c_D_erase_2 (l : Launch) (dC : Nat → ClassId) (dI : Nat → Nat → Nat) (a0 a1 r0 r1 r2 r3 r4 r5 : Nat) (t0 : ClassId) (sz : Nat) (k0 : Int32) (hh0 : 1 ≤ k0.toInt) : Met l y_D_erase w_D_erase ({ frames := 1, cells := 0, slots := 0, locals := 20 }) (va_Pc [.ref a0, .int k0] (fun U => U.heap.size = sz ∧ va_P (dC, dI) vwCl [(a0, .inr (0, [.ref r0, .int 0, .ref r1, .int 1, .int 0, .ref a1, .int 0, .int (-1), .ref r2, .ref r3, .int 0, .int (-1), .ref r4, .ref r5])), (a1, .inl (t0, 0, .inl (fun _ => 0)))] U.heap ∧ va_K (dC, dI) vwCl [(t0, .char)] U ∧ va_D (fun _ => True) [(a0, .inr (0, [.ref r0, .int 0, .ref r1, .int 1, .int 0, .ref a1, .int 0, .int (-1), .ref r2, .ref r3, .int 0, .int (-1), .ref r4, .ref r5])), (a1, .inl (t0, 0, .inl (fun _ => 0)))])) (va_Qi (fun (r : Int32) (_ : Unit) => r = 0) (fun (_ : Unit) t => va_P (dC, dI) vwCl [(a0, .inr (0, [.ref r0, .int 0, .ref r1, .int 1, .int 0, .ref a1, .int 0, .int (-1), .ref r2, .ref r3, .int 0, .int (-1), .ref r4, .ref r5])), (a1, .inl (t0, 0, .inl (fun _ => 0)))] t.heap ∧ va_K (dC, dI) vwCl [(t0, .char)] t ∧ va_D (va_A [(a0, .inr (0, [.ref r0, .int 0, .ref r1, .int 1, .int 0, .ref a1, .int 0, .int (-1), .ref r2, .ref r3, .int 0, .int (-1), .ref r4, .ref r5])), (a1, .inl (t0, 0, .inl (fun _ => 0)))] sz) [(a0, .inr (0, [.ref r0, .int 0, .ref r1, .int 1, .int 0, .ref a1, .int 0, .int (-1), .ref r2, .ref r3, .int 0, .int (-1), .ref r4, .ref r5])), (a1, .inl (t0, 0, .inl (fun _ => 0)))]) (va_A [(a0, .inr (0, [.ref r0, .int 0, .ref r1, .int 1, .int 0, .ref a1, .int 0, .int (-1), .ref r2, .ref r3, .int 0, .int (-1), .ref r4, .ref r5])), (a1, .inl (t0, 0, .inl (fun _ => 0)))] sz)) 0 0 (va_A [(a0, .inr (0, [.ref r0, .int 0, .ref r1, .int 1, .int 0, .ref a1, .int 0, .int (-1), .ref r2, .ref r3, .int 0, .int (-1), .ref r4, .ref r5])), (a1, .inl (t0, 0, .inl (fun _ => 0)))] sz) := by
  refine Met.ofW (cc := prog_1_method_5_code) (maxL := 4) (ret := (some .int)) (by decide) rfl ?_
  intro p e s m args below meth c s₁ B hml hv
  obtain ⟨rfl, hsz, hP, hK, hD0⟩ := hv
  have hx := B.exec
  have hb := B.bytes
  have hr := B.returns
  have hts := atoms_spec (ws := w_D_erase) B.pre
  have hown : s.vm.findClass R_D = some m.cls := findClass_of_methodNamed B.named
  have hlocks := B.notSynchronized
  subst hsz
  have hD := hD0.self (sz := s.heap.size)
  generalize hAe : va_A [(a0, .inr (0, [.ref r0, .int 0, .ref r1, .int 1, .int 0, .ref a1, .int 0, .int (-1), .ref r2, .ref r3, .int 0, .int (-1), .ref r4, .ref r5])), (a1, .inl (t0, 0, .inl (fun _ => 0)))] s.heap.size = A at hD ⊢
  have hA : ∀ q : Nat, s.heap.size ≤ q → A q := fun q h => by rw [← hAe]; exact Or.inr h
  have hS : va_S A s.heap s.heap [] := va_S.rf
  have hP : va_P (dC, dI) vwCl [(a0, .inr (0, [.ref r0, .int 0, .ref r1, .int 1, .int 0, .ref a1, .int 0, .int (-1), .ref r2, .ref r3, .int 0, .int (-1), .ref r4, .ref r5])), (a1, .inl (t0, 0, .inl (fun _ => 0)))] s.heap := hP
  have hl := lv_entry ([.ref a0, .int k0]) (n := 4) (Nat.le_of_ble_eq_true rfl)
  rw [lg_entry_eq]
  generalize (lg_sl ([.ref a0, .int k0]) ++ List.replicate (4 - (lg_sl ([.ref a0, .int k0])).length) Slot.unset).toArray = ls at hl ⊢
  have hl : lv_has ls 4 [(0, .ref a0), (1, .int k0)] := hl
  refine lv_aload_n hx hb d_D_erase_0 rfl (lv_at hl 0 rfl) ?_
  have hPc := hP.sub (ws' := [(a0, .inr (0, [.ref r0, .int 0, .ref r1, .int 1, .int 0, .ref a1, .int 0, .int (-1), .ref r2, .ref r3, .int 0, .int (-1), .ref r4, .ref r5]))]) [0] rfl
  have hDc := hD.sub (ws' := [(a0, .inr (0, [.ref r0, .int 0, .ref r1, .int 1, .int 0, .ref a1, .int 0, .int (-1), .ref r2, .ref r3, .int 0, .int (-1), .ref r4, .ref r5]))]) [0] (by decide) rfl
  have hKc := hK.sub (tys' := []) [] rfl
  have hFc := va_free (wc := [(a0, .inr (0, [.ref r0, .int 0, .ref r1, .int 1, .int 0, .ref a1, .int 0, .int (-1), .ref r2, .ref r3, .int 0, .int (-1), .ref r4, .ref r5]))]) hD hS hA [0] rfl
  refine va_calli (va_runV (As := []) (rest := []) ⟨hx, hb, hml, hown, hts⟩ (c_D_selectionStart l dC dI a0 r0 r1 a1 r2 r3 r4 r5 s.heap.size) (cwV 0 hts (gd_v lk_194 lk_195 lk_196 lk_16 lk_193) rfl rfl rfl (by decide +kernel) ⟨Nat.le_of_ble_eq_true rfl, Nat.le_of_ble_eq_true rfl⟩) ⟨fun a U g mk q => by obtain ⟨q0, q1, qP, qK, qD⟩ := q; exact ⟨q0, q1, qP, va_K.moved (u := U) (U := U.calling g mk a) (Vm.Alike.refl U.vm) qK, qD⟩, va_recv (ci := 0) (q0 := 0) hK hP rfl rfl, fun U hU hW => ⟨rfl, by rw [hU], by rw [hU]; exact hPc, va_K.moved hW.alike hKc, hDc.weaken (fun _ _ _ _ => trivial)⟩⟩ rfl rfl hl.1 rfl (lv_room (Nat.le_of_ble_eq_true rfl)) d_D_erase_1 ⟨Nat.le_of_ble_eq_true rfl, Nat.le_of_ble_eq_true rfl⟩) hS (fun q _ h => hFc q h) hFc (fun r u t H1 locs ht hvm hw hB hz1 hk1 hS => ?_)
  obtain ⟨hP1, hK1, hD1⟩ := hB
  rw [ht] at hP1
  have hK1 := va_K.moved hvm.symm hK1
  subst hw
  obtain ⟨hP, hD⟩ := va_join (wr := [(a1, .inl (t0, 0, .inl (fun _ => 0)))]) (w1 := [(a0, .inr (0, [.ref r0, .int 0, .ref r1, .int 1, .int 0, .ref a1, .int 0, .int (-1), .ref r2, .ref r3, .int 0, .int (-1), .ref r4, .ref r5]))]) hP hD [0] [1] rfl rfl (by decide) (by decide) hk1 hFc hP1 hD1
  generalize H1 = H at hP hS ⊢
  have hP : va_P (dC, dI) vwCl [(a1, .inl (t0, 0, .inl (fun _ => 0))), (a0, .inr (0, [.ref r0, .int 0, .ref r1, .int 1, .int 0, .ref a1, .int 0, .int (-1), .ref r2, .ref r3, .int 0, .int (-1), .ref r4, .ref r5]))] H := hP
  have hD : va_D A [(a1, .inl (t0, 0, .inl (fun _ => 0))), (a0, .inr (0, [.ref r0, .int 0, .ref r1, .int 1, .int 0, .ref a1, .int 0, .int (-1), .ref r2, .ref r3, .int 0, .int (-1), .ref r4, .ref r5]))] := hD
  refine lv_istore_n (lv' := [(2, .int 0), (0, .ref a0), (1, .int k0)]) hx hb d_D_erase_4 rfl hl (by decide) rfl (fun ls hl => ?_)
  have hl : lv_has ls 4 [(2, .int 0), (0, .ref a0), (1, .int k0)] := hl
  refine lv_aload_n hx hb d_D_erase_5 rfl (lv_at hl 1 rfl) ?_
  have hPc := hP.sub (ws' := [(a0, .inr (0, [.ref r0, .int 0, .ref r1, .int 1, .int 0, .ref a1, .int 0, .int (-1), .ref r2, .ref r3, .int 0, .int (-1), .ref r4, .ref r5]))]) [1] rfl
  have hDc := hD.sub (ws' := [(a0, .inr (0, [.ref r0, .int 0, .ref r1, .int 1, .int 0, .ref a1, .int 0, .int (-1), .ref r2, .ref r3, .int 0, .int (-1), .ref r4, .ref r5]))]) [1] (by decide) rfl
  have hKc := hK.sub (tys' := []) [] rfl
  have hFc := va_free (wc := [(a0, .inr (0, [.ref r0, .int 0, .ref r1, .int 1, .int 0, .ref a1, .int 0, .int (-1), .ref r2, .ref r3, .int 0, .int (-1), .ref r4, .ref r5]))]) hD hS hA [1] rfl
  refine va_calli (va_runV (As := []) (rest := []) ⟨hx, hb, hml, hown, hts⟩ (c_D_selectionEnd l dC dI a0 r0 r1 a1 r2 r3 r4 r5 H.size) (cwV 0 hts (gd_v lk_198 lk_199 lk_200 lk_16 lk_197) rfl rfl rfl (by decide +kernel) ⟨Nat.le_of_ble_eq_true rfl, Nat.le_of_ble_eq_true rfl⟩) ⟨fun a U g mk q => by obtain ⟨q0, q1, qP, qK, qD⟩ := q; exact ⟨q0, q1, qP, va_K.moved (u := U) (U := U.calling g mk a) (Vm.Alike.refl U.vm) qK, qD⟩, va_recv (ci := 0) (q0 := 1) hK hP rfl rfl, fun U hU hW => ⟨rfl, by rw [hU], by rw [hU]; exact hPc, va_K.moved hW.alike hKc, hDc.weaken (fun _ _ _ _ => trivial)⟩⟩ rfl rfl hl.1 rfl (lv_room (Nat.le_of_ble_eq_true rfl)) d_D_erase_6 ⟨Nat.le_of_ble_eq_true rfl, Nat.le_of_ble_eq_true rfl⟩) hS (fun q _ h => hFc q h) hFc (fun r u t H1 locs ht hvm hw hB hz1 hk1 hS => ?_)
  obtain ⟨hP1, hK1, hD1⟩ := hB
  rw [ht] at hP1
  have hK1 := va_K.moved hvm.symm hK1
  subst hw
  obtain ⟨hP, hD⟩ := va_join (wr := [(a1, .inl (t0, 0, .inl (fun _ => 0)))]) (w1 := [(a0, .inr (0, [.ref r0, .int 0, .ref r1, .int 1, .int 0, .ref a1, .int 0, .int (-1), .ref r2, .ref r3, .int 0, .int (-1), .ref r4, .ref r5]))]) hP hD [1] [0] rfl rfl (by decide) (by decide) hk1 hFc hP1 hD1
  generalize H1 = H at hP hS ⊢
  have hP : va_P (dC, dI) vwCl [(a1, .inl (t0, 0, .inl (fun _ => 0))), (a0, .inr (0, [.ref r0, .int 0, .ref r1, .int 1, .int 0, .ref a1, .int 0, .int (-1), .ref r2, .ref r3, .int 0, .int (-1), .ref r4, .ref r5]))] H := hP
  have hD : va_D A [(a1, .inl (t0, 0, .inl (fun _ => 0))), (a0, .inr (0, [.ref r0, .int 0, .ref r1, .int 1, .int 0, .ref a1, .int 0, .int (-1), .ref r2, .ref r3, .int 0, .int (-1), .ref r4, .ref r5]))] := hD
  refine lv_istore_n (lv' := [(3, .int 0), (2, .int 0), (0, .ref a0), (1, .int k0)]) hx hb d_D_erase_9 rfl hl (by decide) rfl (fun ls hl => ?_)
  have hl : lv_has ls 4 [(3, .int 0), (2, .int 0), (0, .ref a0), (1, .int k0)] := hl
  refine lv_iload_n hx hb d_D_erase_10 rfl (lv_at hl 1 rfl) ?_
  refine lv_iload_n hx hb d_D_erase_11 rfl (lv_at hl 0 rfl) ?_
  refine lv_icmp_ne (tgt := 33) hx hb d_D_erase_12 (by decide) (fun h => absurd (by decide +kernel) h) (fun _ => ?_)
  refine lv_iload_n hx hb d_D_erase_15 rfl (lv_at hl 3 rfl) ?_
  refine lv_if_ge (tgt := 33) hx hb d_D_erase_16 (by decide) (fun _ => ?_) (fun h => absurd ((wk_ge 0 (by decide)).mpr (by omega)) h)
  refine lv_iload_n hx hb d_D_erase_33 rfl (lv_at hl 1 rfl) ?_
  refine lv_iload_n hx hb d_D_erase_34 rfl (lv_at hl 0 rfl) ?_
  refine lv_icmp_ne (tgt := 58) hx hb d_D_erase_35 (by decide) (fun h => absurd (by decide +kernel) h) (fun _ => ?_)
  refine lv_aload_n hx hb d_D_erase_38 rfl (lv_at hl 2 rfl) ?_
  refine va_get (D := (dC, dI)) (ci := 0) (v := .int 0) (C := R_D) (T := F_D) (N := 14) hx hb hts (fun w h => List.mem_cons_of_mem _ (in_D w h)) hown hK hP 1 rfl rfl 6 (by decide) (hts _ (List.mem_cons_of_mem _ lk_192)) (fun _ h9 => h9) rfl d_D_erase_39 ?_
  refine lv_iload_n hx hb d_D_erase_42 rfl (lv_at hl 3 rfl) ?_
  refine lv_aload_n hx hb d_D_erase_43 rfl (lv_at hl 2 rfl) ?_
  refine va_get (D := (dC, dI)) (ci := 0) (v := .ref a1) (C := R_D) (T := F_D) (N := 14) hx hb hts (fun w h => List.mem_cons_of_mem _ (in_D w h)) hown hK hP 1 rfl rfl 5 (by decide) (hts _ (List.mem_cons_of_mem _ lk_24)) (fun _ h9 => h9) rfl d_D_erase_44 ?_
  refine va_alen (v := 0) hx hb hK hP 0 0 rfl rfl (by decide) d_D_erase_47 ?_
  refine lv_aload_n hx hb d_D_erase_48 rfl (lv_at hl 2 rfl) ?_
  refine va_get (D := (dC, dI)) (ci := 0) (v := .int 0) (C := R_D) (T := F_D) (N := 14) hx hb hts (fun w h => List.mem_cons_of_mem _ (in_D w h)) hown hK hP 1 rfl rfl 6 (by decide) (hts _ (List.mem_cons_of_mem _ lk_192)) (fun _ h9 => h9) rfl d_D_erase_49 ?_
  refine t_isub (v := 0) hx hb d_D_erase_52 (by decide +kernel) ?_
  refine va_mmin hx hb (by rw [hml, hl.1]) hown (hts _ (List.mem_cons_of_mem _ lk_247)) (hts _ (List.mem_cons_of_mem _ lk_248)) (hts _ (List.mem_cons_of_mem _ lk_230)) (hts _ (List.mem_cons_of_mem _ lk_249)) (Nat.le_of_ble_eq_true rfl) (Nat.le_of_ble_eq_true rfl) (Nat.le_of_ble_eq_true rfl) (Nat.le_of_ble_eq_true rfl) d_D_erase_53 ?_
  refine wk_top (w := .int 0) (congrArg _ (if_pos ((wk_gt 0 (by decide)).mpr (by omega)))) ?_
  refine t_iadd (v := 0) hx hb d_D_erase_56 (by decide +kernel) ?_
  refine lv_istore_n (lv' := [(3, .int 0), (2, .int 0), (0, .ref a0), (1, .int k0)]) hx hb d_D_erase_57 rfl hl (by decide) rfl (fun ls hl => ?_)
  have hl : lv_has ls 4 [(3, .int 0), (2, .int 0), (0, .ref a0), (1, .int k0)] := hl
  refine lv_iload_n hx hb d_D_erase_58 rfl (lv_at hl 1 rfl) ?_
  refine lv_iload_n hx hb d_D_erase_59 rfl (lv_at hl 0 rfl) ?_
  refine lv_icmp_ge (tgt := 87) hx hb d_D_erase_60 (by decide) (fun _ => ?_) (fun h => absurd (by decide +kernel) h)
  refine lv_iload_n hx hb d_D_erase_87 rfl (lv_at hl 0 rfl) ?_
  refine lv_iload_n hx hb d_D_erase_88 rfl (lv_at hl 1 rfl) ?_
  refine t_isub (v := 0) hx hb d_D_erase_89 (by decide +kernel) ?_
  have hP9 := hP.sub (ws' := [(a0, .inr (0, [.ref r0, .int 0, .ref r1, .int 1, .int 0, .ref a1, .int 0, .int (-1), .ref r2, .ref r3, .int 0, .int (-1), .ref r4, .ref r5])), (a1, .inl (t0, 0, .inl (fun _ => 0)))]) [1, 0] rfl
  have hD9 := hD.sub (ws' := [(a0, .inr (0, [.ref r0, .int 0, .ref r1, .int 1, .int 0, .ref a1, .int 0, .int (-1), .ref r2, .ref r3, .int 0, .int (-1), .ref r4, .ref r5])), (a1, .inl (t0, 0, .inl (fun _ => 0)))]) [1, 0] (by decide) rfl
  have hK9 := hK.sub (tys' := [(t0, .char)]) [0] rfl
  exact W.iret (v := 0) hx hb hr (fun t ht hW => ⟨⟨0, (), rfl, rfl, by rw [ht]; exact hP9, va_K.moved hW.alike hK9, hD9⟩, hS.F ht⟩) hS.2.2 d_D_erase_90

set_option maxHeartbeats 4000000 in
set_option maxRecDepth 100000 in
theorem c_L_erase_2 (l : Launch) (dC : Nat → ClassId) (dI : Nat → Nat → Nat) (a0 a1 a2 r0 r1 r2 r3 r4 r5 : Nat) (t0 t1 : ClassId) (sz : Nat) (k0 : Int32) (hh0 : 1 ≤ k0.toInt) : Met l y_L_erase w_L_erase ({ frames := 2, cells := 0, slots := 0, locals := 43 }) (va_Pc [.ref a0, .int k0, .ref a2] (fun U => U.heap.size = sz ∧ va_P (dC, dI) vwCl [(a0, .inr (0, [.ref r0, .int 0, .ref r1, .int 1, .int 0, .ref a1, .int 0, .int (-1), .ref r2, .ref r3, .int 0, .int (-1), .ref r4, .ref r5])), (a1, .inl (t0, 0, .inl (fun _ => 0))), (a2, .inl (t1, 1, .inr (.inl (fun _ => 0))))] U.heap ∧ va_K (dC, dI) vwCl [(t0, .char), (t1, .long)] U ∧ va_D (fun _ => True) [(a0, .inr (0, [.ref r0, .int 0, .ref r1, .int 1, .int 0, .ref a1, .int 0, .int (-1), .ref r2, .ref r3, .int 0, .int (-1), .ref r4, .ref r5])), (a1, .inl (t0, 0, .inl (fun _ => 0))), (a2, .inl (t1, 1, .inr (.inl (fun _ => 0))))])) (va_Qi (fun (r : Int32) (_ : Unit) => r = 0) (fun (_ : Unit) t => va_P (dC, dI) vwCl [(a0, .inr (0, [.ref r0, .int 0, .ref r1, .int 1, .int 0, .ref a1, .int 0, .int (-1), .ref r2, .ref r3, .int 0, .int (-1), .ref r4, .ref r5])), (a1, .inl (t0, 0, .inl (fun _ => 0))), (a2, .inl (t1, 1, .inr (.inl (vp_updL (fun _ => 0) 0 0))))] t.heap ∧ va_K (dC, dI) vwCl [(t0, .char), (t1, .long)] t ∧ va_D (va_A [(a0, .inr (0, [.ref r0, .int 0, .ref r1, .int 1, .int 0, .ref a1, .int 0, .int (-1), .ref r2, .ref r3, .int 0, .int (-1), .ref r4, .ref r5])), (a1, .inl (t0, 0, .inl (fun _ => 0))), (a2, .inl (t1, 1, .inr (.inl (fun _ => 0))))] sz) [(a0, .inr (0, [.ref r0, .int 0, .ref r1, .int 1, .int 0, .ref a1, .int 0, .int (-1), .ref r2, .ref r3, .int 0, .int (-1), .ref r4, .ref r5])), (a1, .inl (t0, 0, .inl (fun _ => 0))), (a2, .inl (t1, 1, .inr (.inl (vp_updL (fun _ => 0) 0 0))))]) (va_A [(a0, .inr (0, [.ref r0, .int 0, .ref r1, .int 1, .int 0, .ref a1, .int 0, .int (-1), .ref r2, .ref r3, .int 0, .int (-1), .ref r4, .ref r5])), (a1, .inl (t0, 0, .inl (fun _ => 0))), (a2, .inl (t1, 1, .inr (.inl (fun _ => 0))))] sz)) 0 0 (va_A [(a0, .inr (0, [.ref r0, .int 0, .ref r1, .int 1, .int 0, .ref a1, .int 0, .int (-1), .ref r2, .ref r3, .int 0, .int (-1), .ref r4, .ref r5])), (a1, .inl (t0, 0, .inl (fun _ => 0))), (a2, .inl (t1, 1, .inr (.inl (fun _ => 0))))] sz) := by
  refine th_ofWw (tab := [(0, 9, 12, 13)]) (cc := method_4_code) (maxL := 4) (ret := (some .int)) (by decide) rfl ?_
  intro p e s m args below meth c s₁ B hml htab hv
  obtain ⟨rfl, hsz, hP, hK, hD0⟩ := hv
  have hx := B.exec
  have hb := B.bytes
  have hr := B.returns
  have hts := atoms_spec (ws := w_L_erase) B.pre
  have hown : s.vm.findClass R_L = some m.cls := findClass_of_methodNamed B.named
  have hlocks := B.notSynchronized
  subst hsz
  have hD := hD0.self (sz := s.heap.size)
  generalize hAe : va_A [(a0, .inr (0, [.ref r0, .int 0, .ref r1, .int 1, .int 0, .ref a1, .int 0, .int (-1), .ref r2, .ref r3, .int 0, .int (-1), .ref r4, .ref r5])), (a1, .inl (t0, 0, .inl (fun _ => 0))), (a2, .inl (t1, 1, .inr (.inl (fun _ => 0))))] s.heap.size = A at hD ⊢
  have hA : ∀ q : Nat, s.heap.size ≤ q → A q := fun q h => by rw [← hAe]; exact Or.inr h
  have hS : va_S A s.heap s.heap [] := va_S.rf
  have hP : va_P (dC, dI) vwCl [(a0, .inr (0, [.ref r0, .int 0, .ref r1, .int 1, .int 0, .ref a1, .int 0, .int (-1), .ref r2, .ref r3, .int 0, .int (-1), .ref r4, .ref r5])), (a1, .inl (t0, 0, .inl (fun _ => 0))), (a2, .inl (t1, 1, .inr (.inl (fun _ => 0))))] s.heap := hP
  have hl := lv_entry ([.ref a0, .int k0, .ref a2]) (n := 4) (Nat.le_of_ble_eq_true rfl)
  rw [lg_entry_eq]
  generalize (lg_sl ([.ref a0, .int k0, .ref a2]) ++ List.replicate (4 - (lg_sl ([.ref a0, .int k0, .ref a2])).length) Slot.unset).toArray = ls at hl ⊢
  have hl : lv_has ls 4 [(0, .ref a0), (1, .int k0), (2, .ref a2)] := hl
  refine lv_aload_n hx hb d_L_erase_0 rfl (lv_at hl 2 rfl) ?_
  refine lv_iconst (v := 0) hx hb d_L_erase_1 (by decide) ?_
  refine lv_aload_n hx hb d_L_erase_2 rfl (lv_at hl 0 rfl) ?_
  refine lv_iload_n hx hb d_L_erase_3 rfl (lv_at hl 1 rfl) ?_
  have hPc := hP.sub (ws' := [(a0, .inr (0, [.ref r0, .int 0, .ref r1, .int 1, .int 0, .ref a1, .int 0, .int (-1), .ref r2, .ref r3, .int 0, .int (-1), .ref r4, .ref r5])), (a1, .inl (t0, 0, .inl (fun _ => 0)))]) [0, 1] rfl
  have hDc := hD.sub (ws' := [(a0, .inr (0, [.ref r0, .int 0, .ref r1, .int 1, .int 0, .ref a1, .int 0, .int (-1), .ref r2, .ref r3, .int 0, .int (-1), .ref r4, .ref r5])), (a1, .inl (t0, 0, .inl (fun _ => 0)))]) [0, 1] (by decide) rfl
  have hKc := hK.sub (tys' := [(t0, .char)]) [0] rfl
  have hFc := va_free (wc := [(a0, .inr (0, [.ref r0, .int 0, .ref r1, .int 1, .int 0, .ref a1, .int 0, .int (-1), .ref r2, .ref r3, .int 0, .int (-1), .ref r4, .ref r5])), (a1, .inl (t0, 0, .inl (fun _ => 0)))]) hD hS hA [0, 1] rfl
  refine va_calli (va_runV (As := [.int k0]) (rest := [.int 0, .ref a2]) ⟨hx, hb, hml, hown, hts⟩ (c_D_erase_2 l dC dI a0 a1 r0 r1 r2 r3 r4 r5 t0 s.heap.size k0 (by omega)) (cwV 1 hts (gd_v lk_233 lk_234 lk_235 lk_16 lk_232) rfl rfl rfl (by decide +kernel) ⟨Nat.le_of_ble_eq_true rfl, Nat.le_of_ble_eq_true rfl⟩) ⟨fun a U g mk q => by obtain ⟨q0, q1, qP, qK, qD⟩ := q; exact ⟨q0, q1, qP, va_K.moved (u := U) (U := U.calling g mk a) (Vm.Alike.refl U.vm) qK, qD⟩, va_recv (ci := 0) (q0 := 0) hK hP rfl rfl, fun U hU hW => ⟨rfl, by rw [hU], by rw [hU]; exact hPc, va_K.moved hW.alike hKc, hDc.weaken (fun _ _ _ _ => trivial)⟩⟩ rfl rfl hl.1 rfl (lv_room (Nat.le_of_ble_eq_true rfl)) d_L_erase_4 ⟨Nat.le_of_ble_eq_true rfl, Nat.le_of_ble_eq_true rfl⟩) hS (fun q _ h => hFc q h) hFc (fun r u t H1 locs ht hvm hw hB hz1 hk1 hS => ?_)
  obtain ⟨hP1, hK1, hD1⟩ := hB
  rw [ht] at hP1
  have hK1 := va_K.moved hvm.symm hK1
  subst hw
  obtain ⟨hP, hD⟩ := va_join (wr := [(a2, .inl (t1, 1, .inr (.inl (fun _ => 0))))]) (w1 := [(a0, .inr (0, [.ref r0, .int 0, .ref r1, .int 1, .int 0, .ref a1, .int 0, .int (-1), .ref r2, .ref r3, .int 0, .int (-1), .ref r4, .ref r5])), (a1, .inl (t0, 0, .inl (fun _ => 0)))]) hP hD [0, 1] [2] rfl rfl (by decide) (by decide) hk1 hFc hP1 hD1
  generalize H1 = H at hP hS ⊢
  have hP : va_P (dC, dI) vwCl [(a2, .inl (t1, 1, .inr (.inl (fun _ => 0)))), (a0, .inr (0, [.ref r0, .int 0, .ref r1, .int 1, .int 0, .ref a1, .int 0, .int (-1), .ref r2, .ref r3, .int 0, .int (-1), .ref r4, .ref r5])), (a1, .inl (t0, 0, .inl (fun _ => 0)))] H := hP
  have hD : va_D A [(a2, .inl (t1, 1, .inr (.inl (fun _ => 0)))), (a0, .inr (0, [.ref r0, .int 0, .ref r1, .int 1, .int 0, .ref a1, .int 0, .int (-1), .ref r2, .ref r3, .int 0, .int (-1), .ref r4, .ref r5])), (a1, .inl (t0, 0, .inl (fun _ => 0)))] := hD
  refine lv_i2l (v := 0) hx hb d_L_erase_7 (by decide +kernel) ?_
  refine va_last hx hb hK hP hD hS 0 1 rfl rfl (wk_in (by decide +kernel)) d_L_erase_8 (fun H locs hP hD hS => ?_)
  have hP : va_P (dC, dI) vwCl [(a2, .inl (t1, 1, .inr (.inl (vp_updL (fun _ => 0) 0 0)))), (a0, .inr (0, [.ref r0, .int 0, .ref r1, .int 1, .int 0, .ref a1, .int 0, .int (-1), .ref r2, .ref r3, .int 0, .int (-1), .ref r4, .ref r5])), (a1, .inl (t0, 0, .inl (fun _ => 0)))] H := hP
  have hD : va_D A [(a2, .inl (t1, 1, .inr (.inl (vp_updL (fun _ => 0) 0 0)))), (a0, .inr (0, [.ref r0, .int 0, .ref r1, .int 1, .int 0, .ref a1, .int 0, .int (-1), .ref r2, .ref r3, .int 0, .int (-1), .ref r4, .ref r5])), (a1, .inl (t0, 0, .inl (fun _ => 0)))] := hD
  refine lv_goto (tgt := 15) hx hb d_L_erase_9 (by decide) ?_
  refine lv_iconst (v := 0) hx hb d_L_erase_15 (by decide) ?_
  have hP9 := hP.sub (ws' := [(a0, .inr (0, [.ref r0, .int 0, .ref r1, .int 1, .int 0, .ref a1, .int 0, .int (-1), .ref r2, .ref r3, .int 0, .int (-1), .ref r4, .ref r5])), (a1, .inl (t0, 0, .inl (fun _ => 0))), (a2, .inl (t1, 1, .inr (.inl (vp_updL (fun _ => 0) 0 0))))]) [1, 2, 0] rfl
  have hD9 := hD.sub (ws' := [(a0, .inr (0, [.ref r0, .int 0, .ref r1, .int 1, .int 0, .ref a1, .int 0, .int (-1), .ref r2, .ref r3, .int 0, .int (-1), .ref r4, .ref r5])), (a1, .inl (t0, 0, .inl (fun _ => 0))), (a2, .inl (t1, 1, .inr (.inl (vp_updL (fun _ => 0) 0 0))))]) [1, 2, 0] (by decide) rfl
  have hK9 := hK.sub (tys' := [(t0, .char), (t1, .long)]) [0, 1] rfl
  exact W.iret (v := 0) hx hb hr (fun t ht hW => ⟨⟨0, (), rfl, rfl, by rw [ht]; exact hP9, va_K.moved hW.alike hK9, hD9⟩, hS.F ht⟩) hS.2.2 d_L_erase_16

set_option maxHeartbeats 4000000 in
set_option maxRecDepth 100000 in
theorem c_M_erase_2 (l : Launch) (dC : Nat → ClassId) (dI : Nat → Nat → Nat) (a0 a1 r0 r1 r2 r3 r4 r5 r6 r7 r8 r9 r10 r11 r12 r13 r14 r15 r16 r17 r18 : Nat) (t0 : ClassId) (sz : Nat) (k0 : Int32) (hh0 : 1 ≤ k0.toInt) : Met l y_M_erase w_M_erase ({ frames := 1, cells := 0, slots := 0, locals := 20 }) (va_Pc [.ref a0, .int k0] (fun U => U.heap.size = sz ∧ va_P (dC, dI) vwCl [(a0, .inr (4, [.int 0, .int 0, .ref r0, .int 1, .int 0, .ref r1, .ref a1, .ref r2, .ref r3, .ref r4, .int 0, .int 0, .int (-1), .int 0, .int (-1), .int 0, .ref r5, .int 0, .ref r6, .ref r7, .ref r8, .ref r9, .ref r10, .int 0, .int 0, .int 0, .ref r11, .ref r12, .int 0, .ref r13, .ref r14, .ref r15, .ref r16, .ref r17, .int 0, .int 0, .int 0, .ref r18])), (a1, .inl (t0, 40, .inl (fun _ => 0)))] U.heap ∧ va_K (dC, dI) vwCl [(t0, .int)] U ∧ va_D (fun _ => True) [(a0, .inr (4, [.int 0, .int 0, .ref r0, .int 1, .int 0, .ref r1, .ref a1, .ref r2, .ref r3, .ref r4, .int 0, .int 0, .int (-1), .int 0, .int (-1), .int 0, .ref r5, .int 0, .ref r6, .ref r7, .ref r8, .ref r9, .ref r10, .int 0, .int 0, .int 0, .ref r11, .ref r12, .int 0, .ref r13, .ref r14, .ref r15, .ref r16, .ref r17, .int 0, .int 0, .int 0, .ref r18])), (a1, .inl (t0, 40, .inl (fun _ => 0)))])) (va_Qi (fun (r : Int32) (_ : Unit) => r = 0) (fun (_ : Unit) t => va_P (dC, dI) vwCl [(a0, .inr (4, [.int 0, .int 0, .ref r0, .int 1, .int 0, .ref r1, .ref a1, .ref r2, .ref r3, .ref r4, .int 0, .int 0, .int (-1), .int 0, .int (-1), .int 0, .ref r5, .int 0, .ref r6, .ref r7, .ref r8, .ref r9, .ref r10, .int 0, .int 0, .int 0, .ref r11, .ref r12, .int 0, .ref r13, .ref r14, .ref r15, .ref r16, .ref r17, .int 0, .int 0, .int 0, .ref r18])), (a1, .inl (t0, 40, .inl (fun _ => 0)))] t.heap ∧ va_K (dC, dI) vwCl [(t0, .int)] t ∧ va_D (va_A [(a0, .inr (4, [.int 0, .int 0, .ref r0, .int 1, .int 0, .ref r1, .ref a1, .ref r2, .ref r3, .ref r4, .int 0, .int 0, .int (-1), .int 0, .int (-1), .int 0, .ref r5, .int 0, .ref r6, .ref r7, .ref r8, .ref r9, .ref r10, .int 0, .int 0, .int 0, .ref r11, .ref r12, .int 0, .ref r13, .ref r14, .ref r15, .ref r16, .ref r17, .int 0, .int 0, .int 0, .ref r18])), (a1, .inl (t0, 40, .inl (fun _ => 0)))] sz) [(a0, .inr (4, [.int 0, .int 0, .ref r0, .int 1, .int 0, .ref r1, .ref a1, .ref r2, .ref r3, .ref r4, .int 0, .int 0, .int (-1), .int 0, .int (-1), .int 0, .ref r5, .int 0, .ref r6, .ref r7, .ref r8, .ref r9, .ref r10, .int 0, .int 0, .int 0, .ref r11, .ref r12, .int 0, .ref r13, .ref r14, .ref r15, .ref r16, .ref r17, .int 0, .int 0, .int 0, .ref r18])), (a1, .inl (t0, 40, .inl (fun _ => 0)))]) (va_A [(a0, .inr (4, [.int 0, .int 0, .ref r0, .int 1, .int 0, .ref r1, .ref a1, .ref r2, .ref r3, .ref r4, .int 0, .int 0, .int (-1), .int 0, .int (-1), .int 0, .ref r5, .int 0, .ref r6, .ref r7, .ref r8, .ref r9, .ref r10, .int 0, .int 0, .int 0, .ref r11, .ref r12, .int 0, .ref r13, .ref r14, .ref r15, .ref r16, .ref r17, .int 0, .int 0, .int 0, .ref r18])), (a1, .inl (t0, 40, .inl (fun _ => 0)))] sz)) 0 0 (va_A [(a0, .inr (4, [.int 0, .int 0, .ref r0, .int 1, .int 0, .ref r1, .ref a1, .ref r2, .ref r3, .ref r4, .int 0, .int 0, .int (-1), .int 0, .int (-1), .int 0, .ref r5, .int 0, .ref r6, .ref r7, .ref r8, .ref r9, .ref r10, .int 0, .int 0, .int 0, .ref r11, .ref r12, .int 0, .ref r13, .ref r14, .ref r15, .ref r16, .ref r17, .int 0, .int 0, .int 0, .ref r18])), (a1, .inl (t0, 40, .inl (fun _ => 0)))] sz) := by
  refine Met.ofW (cc := prog_6_method_16_code) (maxL := 5) (ret := (some .int)) (by decide) rfl ?_
  intro p e s m args below meth c s₁ B hml hv
  obtain ⟨rfl, hsz, hP, hK, hD0⟩ := hv
  have hx := B.exec
  have hb := B.bytes
  have hr := B.returns
  have hts := atoms_spec (ws := w_M_erase) B.pre
  have hown : s.vm.findClass R_M = some m.cls := findClass_of_methodNamed B.named
  have hlocks := B.notSynchronized
  subst hsz
  have hD := hD0.self (sz := s.heap.size)
  generalize hAe : va_A [(a0, .inr (4, [.int 0, .int 0, .ref r0, .int 1, .int 0, .ref r1, .ref a1, .ref r2, .ref r3, .ref r4, .int 0, .int 0, .int (-1), .int 0, .int (-1), .int 0, .ref r5, .int 0, .ref r6, .ref r7, .ref r8, .ref r9, .ref r10, .int 0, .int 0, .int 0, .ref r11, .ref r12, .int 0, .ref r13, .ref r14, .ref r15, .ref r16, .ref r17, .int 0, .int 0, .int 0, .ref r18])), (a1, .inl (t0, 40, .inl (fun _ => 0)))] s.heap.size = A at hD ⊢
  have hA : ∀ q : Nat, s.heap.size ≤ q → A q := fun q h => by rw [← hAe]; exact Or.inr h
  have hS : va_S A s.heap s.heap [] := va_S.rf
  have hP : va_P (dC, dI) vwCl [(a0, .inr (4, [.int 0, .int 0, .ref r0, .int 1, .int 0, .ref r1, .ref a1, .ref r2, .ref r3, .ref r4, .int 0, .int 0, .int (-1), .int 0, .int (-1), .int 0, .ref r5, .int 0, .ref r6, .ref r7, .ref r8, .ref r9, .ref r10, .int 0, .int 0, .int 0, .ref r11, .ref r12, .int 0, .ref r13, .ref r14, .ref r15, .ref r16, .ref r17, .int 0, .int 0, .int 0, .ref r18])), (a1, .inl (t0, 40, .inl (fun _ => 0)))] s.heap := hP
  have hl := lv_entry ([.ref a0, .int k0]) (n := 5) (Nat.le_of_ble_eq_true rfl)
  rw [lg_entry_eq]
  generalize (lg_sl ([.ref a0, .int k0]) ++ List.replicate (5 - (lg_sl ([.ref a0, .int k0])).length) Slot.unset).toArray = ls at hl ⊢
  have hl : lv_has ls 5 [(0, .ref a0), (1, .int k0)] := hl
  refine lv_aload_n hx hb d_M_erase_0 rfl (lv_at hl 0 rfl) ?_
  have hPc := hP.sub (ws' := [(a0, .inr (4, [.int 0, .int 0, .ref r0, .int 1, .int 0, .ref r1, .ref a1, .ref r2, .ref r3, .ref r4, .int 0, .int 0, .int (-1), .int 0, .int (-1), .int 0, .ref r5, .int 0, .ref r6, .ref r7, .ref r8, .ref r9, .ref r10, .int 0, .int 0, .int 0, .ref r11, .ref r12, .int 0, .ref r13, .ref r14, .ref r15, .ref r16, .ref r17, .int 0, .int 0, .int 0, .ref r18]))]) [0] rfl
  have hDc := hD.sub (ws' := [(a0, .inr (4, [.int 0, .int 0, .ref r0, .int 1, .int 0, .ref r1, .ref a1, .ref r2, .ref r3, .ref r4, .int 0, .int 0, .int (-1), .int 0, .int (-1), .int 0, .ref r5, .int 0, .ref r6, .ref r7, .ref r8, .ref r9, .ref r10, .int 0, .int 0, .int 0, .ref r11, .ref r12, .int 0, .ref r13, .ref r14, .ref r15, .ref r16, .ref r17, .int 0, .int 0, .int 0, .ref r18]))]) [0] (by decide) rfl
  have hKc := hK.sub (tys' := []) [] rfl
  have hFc := va_free (wc := [(a0, .inr (4, [.int 0, .int 0, .ref r0, .int 1, .int 0, .ref r1, .ref a1, .ref r2, .ref r3, .ref r4, .int 0, .int 0, .int (-1), .int 0, .int (-1), .int 0, .ref r5, .int 0, .ref r6, .ref r7, .ref r8, .ref r9, .ref r10, .int 0, .int 0, .int 0, .ref r11, .ref r12, .int 0, .ref r13, .ref r14, .ref r15, .ref r16, .ref r17, .int 0, .int 0, .int 0, .ref r18]))]) hD hS hA [0] rfl
  refine va_calli (va_runV (As := []) (rest := []) ⟨hx, hb, hml, hown, hts⟩ (c_M_low l dC dI a0 r0 r1 a1 r2 r3 r4 r5 r6 r7 r8 r9 r10 r11 r12 r13 r14 r15 r16 r17 r18 s.heap.size) (cwV 0 hts (gd_v lk_212 lk_213 lk_214 lk_141 lk_211) rfl rfl rfl (by decide +kernel) ⟨Nat.le_of_ble_eq_true rfl, Nat.le_of_ble_eq_true rfl⟩) ⟨fun a U g mk q => by obtain ⟨q0, q1, qP, qK, qD⟩ := q; exact ⟨q0, q1, qP, va_K.moved (u := U) (U := U.calling g mk a) (Vm.Alike.refl U.vm) qK, qD⟩, va_recv (ci := 4) (q0 := 0) hK hP rfl rfl, fun U hU hW => ⟨rfl, by rw [hU], by rw [hU]; exact hPc, va_K.moved hW.alike hKc, hDc.weaken (fun _ _ _ _ => trivial)⟩⟩ rfl rfl hl.1 rfl (lv_room (Nat.le_of_ble_eq_true rfl)) d_M_erase_1 ⟨Nat.le_of_ble_eq_true rfl, Nat.le_of_ble_eq_true rfl⟩) hS (fun q _ h => hFc q h) hFc (fun r u t H1 locs ht hvm hw hB hz1 hk1 hS => ?_)
  obtain ⟨hP1, hK1, hD1⟩ := hB
  rw [ht] at hP1
  have hK1 := va_K.moved hvm.symm hK1
  subst hw
  obtain ⟨hP, hD⟩ := va_join (wr := [(a1, .inl (t0, 40, .inl (fun _ => 0)))]) (w1 := [(a0, .inr (4, [.int 0, .int 0, .ref r0, .int 1, .int 0, .ref r1, .ref a1, .ref r2, .ref r3, .ref r4, .int 0, .int 0, .int (-1), .int 0, .int (-1), .int 0, .ref r5, .int 0, .ref r6, .ref r7, .ref r8, .ref r9, .ref r10, .int 0, .int 0, .int 0, .ref r11, .ref r12, .int 0, .ref r13, .ref r14, .ref r15, .ref r16, .ref r17, .int 0, .int 0, .int 0, .ref r18]))]) hP hD [0] [1] rfl rfl (by decide) (by decide) hk1 hFc hP1 hD1
  generalize H1 = H at hP hS ⊢
  have hP : va_P (dC, dI) vwCl [(a1, .inl (t0, 40, .inl (fun _ => 0))), (a0, .inr (4, [.int 0, .int 0, .ref r0, .int 1, .int 0, .ref r1, .ref a1, .ref r2, .ref r3, .ref r4, .int 0, .int 0, .int (-1), .int 0, .int (-1), .int 0, .ref r5, .int 0, .ref r6, .ref r7, .ref r8, .ref r9, .ref r10, .int 0, .int 0, .int 0, .ref r11, .ref r12, .int 0, .ref r13, .ref r14, .ref r15, .ref r16, .ref r17, .int 0, .int 0, .int 0, .ref r18]))] H := hP
  have hD : va_D A [(a1, .inl (t0, 40, .inl (fun _ => 0))), (a0, .inr (4, [.int 0, .int 0, .ref r0, .int 1, .int 0, .ref r1, .ref a1, .ref r2, .ref r3, .ref r4, .int 0, .int 0, .int (-1), .int 0, .int (-1), .int 0, .ref r5, .int 0, .ref r6, .ref r7, .ref r8, .ref r9, .ref r10, .int 0, .int 0, .int 0, .ref r11, .ref r12, .int 0, .ref r13, .ref r14, .ref r15, .ref r16, .ref r17, .int 0, .int 0, .int 0, .ref r18]))] := hD
  refine lv_istore_n (lv' := [(2, .int 0), (0, .ref a0), (1, .int k0)]) hx hb d_M_erase_4 rfl hl (by decide) rfl (fun ls hl => ?_)
  have hl : lv_has ls 5 [(2, .int 0), (0, .ref a0), (1, .int k0)] := hl
  refine lv_aload_n hx hb d_M_erase_5 rfl (lv_at hl 1 rfl) ?_
  have hPc := hP.sub (ws' := [(a0, .inr (4, [.int 0, .int 0, .ref r0, .int 1, .int 0, .ref r1, .ref a1, .ref r2, .ref r3, .ref r4, .int 0, .int 0, .int (-1), .int 0, .int (-1), .int 0, .ref r5, .int 0, .ref r6, .ref r7, .ref r8, .ref r9, .ref r10, .int 0, .int 0, .int 0, .ref r11, .ref r12, .int 0, .ref r13, .ref r14, .ref r15, .ref r16, .ref r17, .int 0, .int 0, .int 0, .ref r18]))]) [1] rfl
  have hDc := hD.sub (ws' := [(a0, .inr (4, [.int 0, .int 0, .ref r0, .int 1, .int 0, .ref r1, .ref a1, .ref r2, .ref r3, .ref r4, .int 0, .int 0, .int (-1), .int 0, .int (-1), .int 0, .ref r5, .int 0, .ref r6, .ref r7, .ref r8, .ref r9, .ref r10, .int 0, .int 0, .int 0, .ref r11, .ref r12, .int 0, .ref r13, .ref r14, .ref r15, .ref r16, .ref r17, .int 0, .int 0, .int 0, .ref r18]))]) [1] (by decide) rfl
  have hKc := hK.sub (tys' := []) [] rfl
  have hFc := va_free (wc := [(a0, .inr (4, [.int 0, .int 0, .ref r0, .int 1, .int 0, .ref r1, .ref a1, .ref r2, .ref r3, .ref r4, .int 0, .int 0, .int (-1), .int 0, .int (-1), .int 0, .ref r5, .int 0, .ref r6, .ref r7, .ref r8, .ref r9, .ref r10, .int 0, .int 0, .int 0, .ref r11, .ref r12, .int 0, .ref r13, .ref r14, .ref r15, .ref r16, .ref r17, .int 0, .int 0, .int 0, .ref r18]))]) hD hS hA [1] rfl
  refine va_calli (va_runV (As := []) (rest := []) ⟨hx, hb, hml, hown, hts⟩ (c_M_high l dC dI a0 r0 r1 a1 r2 r3 r4 r5 r6 r7 r8 r9 r10 r11 r12 r13 r14 r15 r16 r17 r18 H.size) (cwV 0 hts (gd_v lk_216 lk_217 lk_218 lk_141 lk_215) rfl rfl rfl (by decide +kernel) ⟨Nat.le_of_ble_eq_true rfl, Nat.le_of_ble_eq_true rfl⟩) ⟨fun a U g mk q => by obtain ⟨q0, q1, qP, qK, qD⟩ := q; exact ⟨q0, q1, qP, va_K.moved (u := U) (U := U.calling g mk a) (Vm.Alike.refl U.vm) qK, qD⟩, va_recv (ci := 4) (q0 := 1) hK hP rfl rfl, fun U hU hW => ⟨rfl, by rw [hU], by rw [hU]; exact hPc, va_K.moved hW.alike hKc, hDc.weaken (fun _ _ _ _ => trivial)⟩⟩ rfl rfl hl.1 rfl (lv_room (Nat.le_of_ble_eq_true rfl)) d_M_erase_6 ⟨Nat.le_of_ble_eq_true rfl, Nat.le_of_ble_eq_true rfl⟩) hS (fun q _ h => hFc q h) hFc (fun r u t H1 locs ht hvm hw hB hz1 hk1 hS => ?_)
  obtain ⟨hP1, hK1, hD1⟩ := hB
  rw [ht] at hP1
  have hK1 := va_K.moved hvm.symm hK1
  subst hw
  obtain ⟨hP, hD⟩ := va_join (wr := [(a1, .inl (t0, 40, .inl (fun _ => 0)))]) (w1 := [(a0, .inr (4, [.int 0, .int 0, .ref r0, .int 1, .int 0, .ref r1, .ref a1, .ref r2, .ref r3, .ref r4, .int 0, .int 0, .int (-1), .int 0, .int (-1), .int 0, .ref r5, .int 0, .ref r6, .ref r7, .ref r8, .ref r9, .ref r10, .int 0, .int 0, .int 0, .ref r11, .ref r12, .int 0, .ref r13, .ref r14, .ref r15, .ref r16, .ref r17, .int 0, .int 0, .int 0, .ref r18]))]) hP hD [1] [0] rfl rfl (by decide) (by decide) hk1 hFc hP1 hD1
  generalize H1 = H at hP hS ⊢
  have hP : va_P (dC, dI) vwCl [(a1, .inl (t0, 40, .inl (fun _ => 0))), (a0, .inr (4, [.int 0, .int 0, .ref r0, .int 1, .int 0, .ref r1, .ref a1, .ref r2, .ref r3, .ref r4, .int 0, .int 0, .int (-1), .int 0, .int (-1), .int 0, .ref r5, .int 0, .ref r6, .ref r7, .ref r8, .ref r9, .ref r10, .int 0, .int 0, .int 0, .ref r11, .ref r12, .int 0, .ref r13, .ref r14, .ref r15, .ref r16, .ref r17, .int 0, .int 0, .int 0, .ref r18]))] H := hP
  have hD : va_D A [(a1, .inl (t0, 40, .inl (fun _ => 0))), (a0, .inr (4, [.int 0, .int 0, .ref r0, .int 1, .int 0, .ref r1, .ref a1, .ref r2, .ref r3, .ref r4, .int 0, .int 0, .int (-1), .int 0, .int (-1), .int 0, .ref r5, .int 0, .ref r6, .ref r7, .ref r8, .ref r9, .ref r10, .int 0, .int 0, .int 0, .ref r11, .ref r12, .int 0, .ref r13, .ref r14, .ref r15, .ref r16, .ref r17, .int 0, .int 0, .int 0, .ref r18]))] := hD
  refine lv_istore_n (lv' := [(3, .int 0), (2, .int 0), (0, .ref a0), (1, .int k0)]) hx hb d_M_erase_9 rfl hl (by decide) rfl (fun ls hl => ?_)
  have hl : lv_has ls 5 [(3, .int 0), (2, .int 0), (0, .ref a0), (1, .int k0)] := hl
  refine lv_iload_n hx hb d_M_erase_10 rfl (lv_at hl 1 rfl) ?_
  refine lv_iload_n hx hb d_M_erase_11 rfl (lv_at hl 0 rfl) ?_
  refine lv_icmp_ne (tgt := 88) hx hb d_M_erase_12 (by decide) (fun h => absurd (by decide +kernel) h) (fun _ => ?_)
  refine lv_aload_n hx hb d_M_erase_15 rfl (lv_at hl 2 rfl) ?_
  have hPc := hP.sub (ws' := [(a0, .inr (4, [.int 0, .int 0, .ref r0, .int 1, .int 0, .ref r1, .ref a1, .ref r2, .ref r3, .ref r4, .int 0, .int 0, .int (-1), .int 0, .int (-1), .int 0, .ref r5, .int 0, .ref r6, .ref r7, .ref r8, .ref r9, .ref r10, .int 0, .int 0, .int 0, .ref r11, .ref r12, .int 0, .ref r13, .ref r14, .ref r15, .ref r16, .ref r17, .int 0, .int 0, .int 0, .ref r18])), (a1, .inl (t0, 40, .inl (fun _ => 0)))]) [1, 0] rfl
  have hDc := hD.sub (ws' := [(a0, .inr (4, [.int 0, .int 0, .ref r0, .int 1, .int 0, .ref r1, .ref a1, .ref r2, .ref r3, .ref r4, .int 0, .int 0, .int (-1), .int 0, .int (-1), .int 0, .ref r5, .int 0, .ref r6, .ref r7, .ref r8, .ref r9, .ref r10, .int 0, .int 0, .int 0, .ref r11, .ref r12, .int 0, .ref r13, .ref r14, .ref r15, .ref r16, .ref r17, .int 0, .int 0, .int 0, .ref r18])), (a1, .inl (t0, 40, .inl (fun _ => 0)))]) [1, 0] (by decide) rfl
  have hKc := hK.sub (tys' := [(t0, .int)]) [0] rfl
  have hFc := va_free (wc := [(a0, .inr (4, [.int 0, .int 0, .ref r0, .int 1, .int 0, .ref r1, .ref a1, .ref r2, .ref r3, .ref r4, .int 0, .int 0, .int (-1), .int 0, .int (-1), .int 0, .ref r5, .int 0, .ref r6, .ref r7, .ref r8, .ref r9, .ref r10, .int 0, .int 0, .int 0, .ref r11, .ref r12, .int 0, .ref r13, .ref r14, .ref r15, .ref r16, .ref r17, .int 0, .int 0, .int 0, .ref r18])), (a1, .inl (t0, 40, .inl (fun _ => 0)))]) hD hS hA [1, 0] rfl
  refine va_calli (va_runV (As := []) (rest := []) ⟨hx, hb, hml, hown, hts⟩ (c_M_textLength l dC dI a0 a1 r0 r1 r2 r3 r4 r5 r6 r7 r8 r9 r10 r11 r12 r13 r14 r15 r16 r17 r18 t0 H.size) (cwV 0 hts (gd_v lk_240 lk_241 lk_242 lk_141 lk_239) rfl rfl rfl (by decide +kernel) ⟨Nat.le_of_ble_eq_true rfl, Nat.le_of_ble_eq_true rfl⟩) ⟨fun a U g mk q => by obtain ⟨q0, q1, qP, qK, qD⟩ := q; exact ⟨q0, q1, qP, va_K.moved (u := U) (U := U.calling g mk a) (Vm.Alike.refl U.vm) qK, qD⟩, va_recv (ci := 4) (q0 := 1) hK hP rfl rfl, fun U hU hW => ⟨rfl, by rw [hU], by rw [hU]; exact hPc, va_K.moved hW.alike hKc, hDc.weaken (fun _ _ _ _ => trivial)⟩⟩ rfl rfl hl.1 rfl (lv_room (Nat.le_of_ble_eq_true rfl)) d_M_erase_16 ⟨Nat.le_of_ble_eq_true rfl, Nat.le_of_ble_eq_true rfl⟩) hS (fun q _ h => hFc q h) hFc (fun r u t H1 locs ht hvm hw hB hz1 hk1 hS => ?_)
  obtain ⟨hP1, hK1, hD1⟩ := hB
  rw [ht] at hP1
  have hK1 := va_K.moved hvm.symm hK1
  subst hw
  obtain ⟨hP, hD⟩ := va_join (wr := []) (w1 := [(a0, .inr (4, [.int 0, .int 0, .ref r0, .int 1, .int 0, .ref r1, .ref a1, .ref r2, .ref r3, .ref r4, .int 0, .int 0, .int (-1), .int 0, .int (-1), .int 0, .ref r5, .int 0, .ref r6, .ref r7, .ref r8, .ref r9, .ref r10, .int 0, .int 0, .int 0, .ref r11, .ref r12, .int 0, .ref r13, .ref r14, .ref r15, .ref r16, .ref r17, .int 0, .int 0, .int 0, .ref r18])), (a1, .inl (t0, 40, .inl (fun _ => 0)))]) hP hD [1, 0] [] rfl rfl (by decide) (by decide) hk1 hFc hP1 hD1
  generalize H1 = H at hP hS ⊢
  have hP : va_P (dC, dI) vwCl [(a0, .inr (4, [.int 0, .int 0, .ref r0, .int 1, .int 0, .ref r1, .ref a1, .ref r2, .ref r3, .ref r4, .int 0, .int 0, .int (-1), .int 0, .int (-1), .int 0, .ref r5, .int 0, .ref r6, .ref r7, .ref r8, .ref r9, .ref r10, .int 0, .int 0, .int 0, .ref r11, .ref r12, .int 0, .ref r13, .ref r14, .ref r15, .ref r16, .ref r17, .int 0, .int 0, .int 0, .ref r18])), (a1, .inl (t0, 40, .inl (fun _ => 0)))] H := hP
  have hD : va_D A [(a0, .inr (4, [.int 0, .int 0, .ref r0, .int 1, .int 0, .ref r1, .ref a1, .ref r2, .ref r3, .ref r4, .int 0, .int 0, .int (-1), .int 0, .int (-1), .int 0, .ref r5, .int 0, .ref r6, .ref r7, .ref r8, .ref r9, .ref r10, .int 0, .int 0, .int 0, .ref r11, .ref r12, .int 0, .ref r13, .ref r14, .ref r15, .ref r16, .ref r17, .int 0, .int 0, .int 0, .ref r18])), (a1, .inl (t0, 40, .inl (fun _ => 0)))] := hD
  refine lv_aload_n hx hb d_M_erase_19 rfl (lv_at hl 2 rfl) ?_
  refine va_get (D := (dC, dI)) (ci := 4) (v := .int 0) (C := R_M) (T := F_M) (N := 38) hx hb hts (fun w h => List.mem_cons_of_mem _ (in_M w h)) hown hK hP 0 rfl rfl 11 (by decide) (hts _ (List.mem_cons_of_mem _ lk_210)) (fun _ h9 => h9) rfl d_M_erase_20 ?_
  refine t_isub (v := 0) hx hb d_M_erase_23 (by decide +kernel) ?_
  refine lv_istore (lv' := [(4, .int 0), (3, .int 0), (2, .int 0), (0, .ref a0), (1, .int k0)]) hx hb d_M_erase_24 hl (by decide) rfl (fun ls hl => ?_)
  have hl : lv_has ls 5 [(4, .int 0), (3, .int 0), (2, .int 0), (0, .ref a0), (1, .int k0)] := hl
  refine lv_iload_n hx hb d_M_erase_26 rfl (lv_at hl 4 rfl) ?_
  refine lv_if_lt (tgt := 37) hx hb d_M_erase_27 (by decide) (fun h => absurd h (fun z => absurd ((wk_lt 0 (by decide)).mp z) (by omega))) (fun _ => ?_)
  refine lv_aload_n hx hb d_M_erase_30 rfl (lv_at hl 3 rfl) ?_
  refine va_get (D := (dC, dI)) (ci := 4) (v := .int 0) (C := R_M) (T := F_M) (N := 38) hx hb hts (fun w h => List.mem_cons_of_mem _ (in_M w h)) hown hK hP 0 rfl rfl 11 (by decide) (hts _ (List.mem_cons_of_mem _ lk_210)) (fun _ h9 => h9) rfl d_M_erase_31 ?_
  refine lv_goto (tgt := 56) hx hb d_M_erase_34 (by decide) ?_
  refine lv_istore_n (lv' := [(2, .int 0), (4, .int 0), (3, .int 0), (0, .ref a0), (1, .int k0)]) hx hb d_M_erase_56 rfl hl (by decide) rfl (fun ls hl => ?_)
  have hl : lv_has ls 5 [(2, .int 0), (4, .int 0), (3, .int 0), (0, .ref a0), (1, .int k0)] := hl
  refine lv_iload_n hx hb d_M_erase_57 rfl (lv_at hl 4 rfl) ?_
  refine lv_if_ge (tgt := 68) hx hb d_M_erase_58 (by decide) (fun _ => ?_) (fun h => absurd ((wk_ge 0 (by decide)).mpr (by omega)) h)
  refine lv_iload_n hx hb d_M_erase_68 rfl (lv_at hl 4 rfl) ?_
  refine lv_iload hx hb d_M_erase_69 (lv_at hl 1 rfl) ?_
  refine lv_icmp_le (tgt := 81) hx hb d_M_erase_71 (by decide) (fun h => absurd h (fun z => absurd ((wk_le 0 (by decide)).mp z) (by omega))) (fun _ => ?_)
  refine lv_aload_n hx hb d_M_erase_74 rfl (lv_at hl 3 rfl) ?_
  have hPc := hP.sub (ws' := [(a0, .inr (4, [.int 0, .int 0, .ref r0, .int 1, .int 0, .ref r1, .ref a1, .ref r2, .ref r3, .ref r4, .int 0, .int 0, .int (-1), .int 0, .int (-1), .int 0, .ref r5, .int 0, .ref r6, .ref r7, .ref r8, .ref r9, .ref r10, .int 0, .int 0, .int 0, .ref r11, .ref r12, .int 0, .ref r13, .ref r14, .ref r15, .ref r16, .ref r17, .int 0, .int 0, .int 0, .ref r18])), (a1, .inl (t0, 40, .inl (fun _ => 0)))]) [0, 1] rfl
  have hDc := hD.sub (ws' := [(a0, .inr (4, [.int 0, .int 0, .ref r0, .int 1, .int 0, .ref r1, .ref a1, .ref r2, .ref r3, .ref r4, .int 0, .int 0, .int (-1), .int 0, .int (-1), .int 0, .ref r5, .int 0, .ref r6, .ref r7, .ref r8, .ref r9, .ref r10, .int 0, .int 0, .int 0, .ref r11, .ref r12, .int 0, .ref r13, .ref r14, .ref r15, .ref r16, .ref r17, .int 0, .int 0, .int 0, .ref r18])), (a1, .inl (t0, 40, .inl (fun _ => 0)))]) [0, 1] (by decide) rfl
  have hKc := hK.sub (tys' := [(t0, .int)]) [0] rfl
  have hFc := va_free (wc := [(a0, .inr (4, [.int 0, .int 0, .ref r0, .int 1, .int 0, .ref r1, .ref a1, .ref r2, .ref r3, .ref r4, .int 0, .int 0, .int (-1), .int 0, .int (-1), .int 0, .ref r5, .int 0, .ref r6, .ref r7, .ref r8, .ref r9, .ref r10, .int 0, .int 0, .int 0, .ref r11, .ref r12, .int 0, .ref r13, .ref r14, .ref r15, .ref r16, .ref r17, .int 0, .int 0, .int 0, .ref r18])), (a1, .inl (t0, 40, .inl (fun _ => 0)))]) hD hS hA [0, 1] rfl
  refine va_calli (va_runV (As := []) (rest := []) ⟨hx, hb, hml, hown, hts⟩ (c_M_textLength l dC dI a0 a1 r0 r1 r2 r3 r4 r5 r6 r7 r8 r9 r10 r11 r12 r13 r14 r15 r16 r17 r18 t0 H.size) (cwV 0 hts (gd_v lk_240 lk_241 lk_242 lk_141 lk_239) rfl rfl rfl (by decide +kernel) ⟨Nat.le_of_ble_eq_true rfl, Nat.le_of_ble_eq_true rfl⟩) ⟨fun a U g mk q => by obtain ⟨q0, q1, qP, qK, qD⟩ := q; exact ⟨q0, q1, qP, va_K.moved (u := U) (U := U.calling g mk a) (Vm.Alike.refl U.vm) qK, qD⟩, va_recv (ci := 4) (q0 := 0) hK hP rfl rfl, fun U hU hW => ⟨rfl, by rw [hU], by rw [hU]; exact hPc, va_K.moved hW.alike hKc, hDc.weaken (fun _ _ _ _ => trivial)⟩⟩ rfl rfl hl.1 rfl (lv_room (Nat.le_of_ble_eq_true rfl)) d_M_erase_75 ⟨Nat.le_of_ble_eq_true rfl, Nat.le_of_ble_eq_true rfl⟩) hS (fun q _ h => hFc q h) hFc (fun r u t H1 locs ht hvm hw hB hz1 hk1 hS => ?_)
  obtain ⟨hP1, hK1, hD1⟩ := hB
  rw [ht] at hP1
  have hK1 := va_K.moved hvm.symm hK1
  subst hw
  obtain ⟨hP, hD⟩ := va_join (wr := []) (w1 := [(a0, .inr (4, [.int 0, .int 0, .ref r0, .int 1, .int 0, .ref r1, .ref a1, .ref r2, .ref r3, .ref r4, .int 0, .int 0, .int (-1), .int 0, .int (-1), .int 0, .ref r5, .int 0, .ref r6, .ref r7, .ref r8, .ref r9, .ref r10, .int 0, .int 0, .int 0, .ref r11, .ref r12, .int 0, .ref r13, .ref r14, .ref r15, .ref r16, .ref r17, .int 0, .int 0, .int 0, .ref r18])), (a1, .inl (t0, 40, .inl (fun _ => 0)))]) hP hD [0, 1] [] rfl rfl (by decide) (by decide) hk1 hFc hP1 hD1
  generalize H1 = H at hP hS ⊢
  have hP : va_P (dC, dI) vwCl [(a0, .inr (4, [.int 0, .int 0, .ref r0, .int 1, .int 0, .ref r1, .ref a1, .ref r2, .ref r3, .ref r4, .int 0, .int 0, .int (-1), .int 0, .int (-1), .int 0, .ref r5, .int 0, .ref r6, .ref r7, .ref r8, .ref r9, .ref r10, .int 0, .int 0, .int 0, .ref r11, .ref r12, .int 0, .ref r13, .ref r14, .ref r15, .ref r16, .ref r17, .int 0, .int 0, .int 0, .ref r18])), (a1, .inl (t0, 40, .inl (fun _ => 0)))] H := hP
  have hD : va_D A [(a0, .inr (4, [.int 0, .int 0, .ref r0, .int 1, .int 0, .ref r1, .ref a1, .ref r2, .ref r3, .ref r4, .int 0, .int 0, .int (-1), .int 0, .int (-1), .int 0, .ref r5, .int 0, .ref r6, .ref r7, .ref r8, .ref r9, .ref r10, .int 0, .int 0, .int 0, .ref r11, .ref r12, .int 0, .ref r13, .ref r14, .ref r15, .ref r16, .ref r17, .int 0, .int 0, .int 0, .ref r18])), (a1, .inl (t0, 40, .inl (fun _ => 0)))] := hD
  refine lv_goto (tgt := 87) hx hb d_M_erase_78 (by decide) ?_
  refine lv_istore_n (lv' := [(3, .int 0), (2, .int 0), (4, .int 0), (0, .ref a0), (1, .int k0)]) hx hb d_M_erase_87 rfl hl (by decide) rfl (fun ls hl => ?_)
  have hl : lv_has ls 5 [(3, .int 0), (2, .int 0), (4, .int 0), (0, .ref a0), (1, .int k0)] := hl
  refine lv_aload_n hx hb d_M_erase_88 rfl (lv_at hl 3 rfl) ?_
  refine lv_iload_n hx hb d_M_erase_89 rfl (lv_at hl 0 rfl) ?_
  refine lv_iload_n hx hb d_M_erase_90 rfl (lv_at hl 1 rfl) ?_
  refine lv_icmp_le (tgt := 107) hx hb d_M_erase_91 (by decide) (fun _ => ?_) (fun h => absurd (by decide +kernel) h)
  refine lv_iconst (v := 0) hx hb d_M_erase_107 (by decide) ?_
  refine va_put (D := (dC, dI)) (ci := 4) (v := .int 0) (ty := .int) (C := R_M) (T := F_M) (N := 38) hx hb hts (fun w h => List.mem_cons_of_mem _ (in_M w h)) t_M tk_M n_M hown hK hP hD hS 0 rfl rfl 0 (by decide) (hts _ (List.mem_cons_of_mem _ lk_175)) (fun _ h9 => h9) rfl (by decide +kernel) rfl rfl (Nat.le_of_ble_eq_true rfl) d_M_erase_108 (fun H locs hP hD hS => ?_)
  have hP : va_P (dC, dI) vwCl [(a0, .inr (4, [.int 0, .int 0, .ref r0, .int 1, .int 0, .ref r1, .ref a1, .ref r2, .ref r3, .ref r4, .int 0, .int 0, .int (-1), .int 0, .int (-1), .int 0, .ref r5, .int 0, .ref r6, .ref r7, .ref r8, .ref r9, .ref r10, .int 0, .int 0, .int 0, .ref r11, .ref r12, .int 0, .ref r13, .ref r14, .ref r15, .ref r16, .ref r17, .int 0, .int 0, .int 0, .ref r18])), (a1, .inl (t0, 40, .inl (fun _ => 0)))] H := hP
  have hD : va_D A [(a0, .inr (4, [.int 0, .int 0, .ref r0, .int 1, .int 0, .ref r1, .ref a1, .ref r2, .ref r3, .ref r4, .int 0, .int 0, .int (-1), .int 0, .int (-1), .int 0, .ref r5, .int 0, .ref r6, .ref r7, .ref r8, .ref r9, .ref r10, .int 0, .int 0, .int 0, .ref r11, .ref r12, .int 0, .ref r13, .ref r14, .ref r15, .ref r16, .ref r17, .int 0, .int 0, .int 0, .ref r18])), (a1, .inl (t0, 40, .inl (fun _ => 0)))] := hD
  refine lv_aload_n hx hb d_M_erase_111 rfl (lv_at hl 3 rfl) ?_
  refine va_get (D := (dC, dI)) (ci := 4) (v := .int 0) (C := R_M) (T := F_M) (N := 38) hx hb hts (fun w h => List.mem_cons_of_mem _ (in_M w h)) hown hK hP 0 rfl rfl 0 (by decide) (hts _ (List.mem_cons_of_mem _ lk_175)) (fun _ h9 => h9) rfl d_M_erase_112 ?_
  refine lv_if_gt (tgt := 123) hx hb d_M_erase_115 (by decide) (fun h => absurd h (by decide +kernel)) (fun _ => ?_)
  refine lv_iload_n hx hb d_M_erase_118 rfl (lv_at hl 1 rfl) ?_
  refine lv_iload_n hx hb d_M_erase_119 rfl (lv_at hl 0 rfl) ?_
  refine lv_icmp_ne (tgt := 125) hx hb d_M_erase_120 (by decide) (fun h => absurd (by decide +kernel) h) (fun _ => ?_)
  refine lv_iconst (v := 0) hx hb d_M_erase_123 (by decide) ?_
  have hP9 := hP.sub (ws' := [(a0, .inr (4, [.int 0, .int 0, .ref r0, .int 1, .int 0, .ref r1, .ref a1, .ref r2, .ref r3, .ref r4, .int 0, .int 0, .int (-1), .int 0, .int (-1), .int 0, .ref r5, .int 0, .ref r6, .ref r7, .ref r8, .ref r9, .ref r10, .int 0, .int 0, .int 0, .ref r11, .ref r12, .int 0, .ref r13, .ref r14, .ref r15, .ref r16, .ref r17, .int 0, .int 0, .int 0, .ref r18])), (a1, .inl (t0, 40, .inl (fun _ => 0)))]) [0, 1] rfl
  have hD9 := hD.sub (ws' := [(a0, .inr (4, [.int 0, .int 0, .ref r0, .int 1, .int 0, .ref r1, .ref a1, .ref r2, .ref r3, .ref r4, .int 0, .int 0, .int (-1), .int 0, .int (-1), .int 0, .ref r5, .int 0, .ref r6, .ref r7, .ref r8, .ref r9, .ref r10, .int 0, .int 0, .int 0, .ref r11, .ref r12, .int 0, .ref r13, .ref r14, .ref r15, .ref r16, .ref r17, .int 0, .int 0, .int 0, .ref r18])), (a1, .inl (t0, 40, .inl (fun _ => 0)))]) [0, 1] (by decide) rfl
  have hK9 := hK.sub (tys' := [(t0, .int)]) [0] rfl
  exact W.iret (v := 0) hx hb hr (fun t ht hW => ⟨⟨0, (), rfl, rfl, by rw [ht]; exact hP9, va_K.moved hW.alike hK9, hD9⟩, hS.F ht⟩) hS.2.2 d_M_erase_124

set_option maxHeartbeats 4000000 in
set_option maxRecDepth 100000 in
theorem c_D_erase_3 (l : Launch) (dC : Nat → ClassId) (dI : Nat → Nat → Nat) (a0 a1 r0 r1 r2 r3 r4 r5 : Nat) (t0 : ClassId) (sz : Nat)  : Met l y_D_erase w_D_erase ({ frames := 1, cells := 0, slots := 0, locals := 20 }) (va_Pc [.ref a0, .int 0] (fun U => U.heap.size = sz ∧ va_P (dC, dI) vwCl [(a0, .inr (0, [.ref r0, .int 0, .ref r1, .int 1, .int 0, .ref a1, .int 0, .int (-1), .ref r2, .ref r3, .int 0, .int (-1), .ref r4, .ref r5])), (a1, .inl (t0, 0, .inl (fun _ => 0)))] U.heap ∧ va_K (dC, dI) vwCl [(t0, .char)] U ∧ va_D (fun _ => True) [(a0, .inr (0, [.ref r0, .int 0, .ref r1, .int 1, .int 0, .ref a1, .int 0, .int (-1), .ref r2, .ref r3, .int 0, .int (-1), .ref r4, .ref r5])), (a1, .inl (t0, 0, .inl (fun _ => 0)))])) (va_Qi (fun (r : Int32) (_ : Unit) => r = 0) (fun (_ : Unit) t => va_P (dC, dI) vwCl [(a0, .inr (0, [.ref r0, .int 0, .ref r1, .int 1, .int 0, .ref a1, .int 0, .int (-1), .ref r2, .ref r3, .int 0, .int (-1), .ref r4, .ref r5])), (a1, .inl (t0, 0, .inl (fun _ => 0)))] t.heap ∧ va_K (dC, dI) vwCl [(t0, .char)] t ∧ va_D (va_A [(a0, .inr (0, [.ref r0, .int 0, .ref r1, .int 1, .int 0, .ref a1, .int 0, .int (-1), .ref r2, .ref r3, .int 0, .int (-1), .ref r4, .ref r5])), (a1, .inl (t0, 0, .inl (fun _ => 0)))] sz) [(a0, .inr (0, [.ref r0, .int 0, .ref r1, .int 1, .int 0, .ref a1, .int 0, .int (-1), .ref r2, .ref r3, .int 0, .int (-1), .ref r4, .ref r5])), (a1, .inl (t0, 0, .inl (fun _ => 0)))]) (va_A [(a0, .inr (0, [.ref r0, .int 0, .ref r1, .int 1, .int 0, .ref a1, .int 0, .int (-1), .ref r2, .ref r3, .int 0, .int (-1), .ref r4, .ref r5])), (a1, .inl (t0, 0, .inl (fun _ => 0)))] sz)) 0 0 (va_A [(a0, .inr (0, [.ref r0, .int 0, .ref r1, .int 1, .int 0, .ref a1, .int 0, .int (-1), .ref r2, .ref r3, .int 0, .int (-1), .ref r4, .ref r5])), (a1, .inl (t0, 0, .inl (fun _ => 0)))] sz) := by
  refine Met.ofW (cc := prog_1_method_5_code) (maxL := 4) (ret := (some .int)) (by decide) rfl ?_
  intro p e s m args below meth c s₁ B hml hv
  obtain ⟨rfl, hsz, hP, hK, hD0⟩ := hv
  have hx := B.exec
  have hb := B.bytes
  have hr := B.returns
  have hts := atoms_spec (ws := w_D_erase) B.pre
  have hown : s.vm.findClass R_D = some m.cls := findClass_of_methodNamed B.named
  have hlocks := B.notSynchronized
  subst hsz
  have hD := hD0.self (sz := s.heap.size)
  generalize hAe : va_A [(a0, .inr (0, [.ref r0, .int 0, .ref r1, .int 1, .int 0, .ref a1, .int 0, .int (-1), .ref r2, .ref r3, .int 0, .int (-1), .ref r4, .ref r5])), (a1, .inl (t0, 0, .inl (fun _ => 0)))] s.heap.size = A at hD ⊢
  have hA : ∀ q : Nat, s.heap.size ≤ q → A q := fun q h => by rw [← hAe]; exact Or.inr h
  have hS : va_S A s.heap s.heap [] := va_S.rf
  have hP : va_P (dC, dI) vwCl [(a0, .inr (0, [.ref r0, .int 0, .ref r1, .int 1, .int 0, .ref a1, .int 0, .int (-1), .ref r2, .ref r3, .int 0, .int (-1), .ref r4, .ref r5])), (a1, .inl (t0, 0, .inl (fun _ => 0)))] s.heap := hP
  have hl := lv_entry ([.ref a0, .int 0]) (n := 4) (Nat.le_of_ble_eq_true rfl)
  rw [lg_entry_eq]
  generalize (lg_sl ([.ref a0, .int 0]) ++ List.replicate (4 - (lg_sl ([.ref a0, .int 0])).length) Slot.unset).toArray = ls at hl ⊢
  have hl : lv_has ls 4 [(0, .ref a0), (1, .int 0)] := hl
  refine lv_aload_n hx hb d_D_erase_0 rfl (lv_at hl 0 rfl) ?_
  have hPc := hP.sub (ws' := [(a0, .inr (0, [.ref r0, .int 0, .ref r1, .int 1, .int 0, .ref a1, .int 0, .int (-1), .ref r2, .ref r3, .int 0, .int (-1), .ref r4, .ref r5]))]) [0] rfl
  have hDc := hD.sub (ws' := [(a0, .inr (0, [.ref r0, .int 0, .ref r1, .int 1, .int 0, .ref a1, .int 0, .int (-1), .ref r2, .ref r3, .int 0, .int (-1), .ref r4, .ref r5]))]) [0] (by decide) rfl
  have hKc := hK.sub (tys' := []) [] rfl
  have hFc := va_free (wc := [(a0, .inr (0, [.ref r0, .int 0, .ref r1, .int 1, .int 0, .ref a1, .int 0, .int (-1), .ref r2, .ref r3, .int 0, .int (-1), .ref r4, .ref r5]))]) hD hS hA [0] rfl
  refine va_calli (va_runV (As := []) (rest := []) ⟨hx, hb, hml, hown, hts⟩ (c_D_selectionStart l dC dI a0 r0 r1 a1 r2 r3 r4 r5 s.heap.size) (cwV 0 hts (gd_v lk_194 lk_195 lk_196 lk_16 lk_193) rfl rfl rfl (by decide +kernel) ⟨Nat.le_of_ble_eq_true rfl, Nat.le_of_ble_eq_true rfl⟩) ⟨fun a U g mk q => by obtain ⟨q0, q1, qP, qK, qD⟩ := q; exact ⟨q0, q1, qP, va_K.moved (u := U) (U := U.calling g mk a) (Vm.Alike.refl U.vm) qK, qD⟩, va_recv (ci := 0) (q0 := 0) hK hP rfl rfl, fun U hU hW => ⟨rfl, by rw [hU], by rw [hU]; exact hPc, va_K.moved hW.alike hKc, hDc.weaken (fun _ _ _ _ => trivial)⟩⟩ rfl rfl hl.1 rfl (lv_room (Nat.le_of_ble_eq_true rfl)) d_D_erase_1 ⟨Nat.le_of_ble_eq_true rfl, Nat.le_of_ble_eq_true rfl⟩) hS (fun q _ h => hFc q h) hFc (fun r u t H1 locs ht hvm hw hB hz1 hk1 hS => ?_)
  obtain ⟨hP1, hK1, hD1⟩ := hB
  rw [ht] at hP1
  have hK1 := va_K.moved hvm.symm hK1
  subst hw
  obtain ⟨hP, hD⟩ := va_join (wr := [(a1, .inl (t0, 0, .inl (fun _ => 0)))]) (w1 := [(a0, .inr (0, [.ref r0, .int 0, .ref r1, .int 1, .int 0, .ref a1, .int 0, .int (-1), .ref r2, .ref r3, .int 0, .int (-1), .ref r4, .ref r5]))]) hP hD [0] [1] rfl rfl (by decide) (by decide) hk1 hFc hP1 hD1
  generalize H1 = H at hP hS ⊢
  have hP : va_P (dC, dI) vwCl [(a1, .inl (t0, 0, .inl (fun _ => 0))), (a0, .inr (0, [.ref r0, .int 0, .ref r1, .int 1, .int 0, .ref a1, .int 0, .int (-1), .ref r2, .ref r3, .int 0, .int (-1), .ref r4, .ref r5]))] H := hP
  have hD : va_D A [(a1, .inl (t0, 0, .inl (fun _ => 0))), (a0, .inr (0, [.ref r0, .int 0, .ref r1, .int 1, .int 0, .ref a1, .int 0, .int (-1), .ref r2, .ref r3, .int 0, .int (-1), .ref r4, .ref r5]))] := hD
  refine lv_istore_n (lv' := [(2, .int 0), (0, .ref a0), (1, .int 0)]) hx hb d_D_erase_4 rfl hl (by decide) rfl (fun ls hl => ?_)
  have hl : lv_has ls 4 [(2, .int 0), (0, .ref a0), (1, .int 0)] := hl
  refine lv_aload_n hx hb d_D_erase_5 rfl (lv_at hl 1 rfl) ?_
  have hPc := hP.sub (ws' := [(a0, .inr (0, [.ref r0, .int 0, .ref r1, .int 1, .int 0, .ref a1, .int 0, .int (-1), .ref r2, .ref r3, .int 0, .int (-1), .ref r4, .ref r5]))]) [1] rfl
  have hDc := hD.sub (ws' := [(a0, .inr (0, [.ref r0, .int 0, .ref r1, .int 1, .int 0, .ref a1, .int 0, .int (-1), .ref r2, .ref r3, .int 0, .int (-1), .ref r4, .ref r5]))]) [1] (by decide) rfl
  have hKc := hK.sub (tys' := []) [] rfl
  have hFc := va_free (wc := [(a0, .inr (0, [.ref r0, .int 0, .ref r1, .int 1, .int 0, .ref a1, .int 0, .int (-1), .ref r2, .ref r3, .int 0, .int (-1), .ref r4, .ref r5]))]) hD hS hA [1] rfl
  refine va_calli (va_runV (As := []) (rest := []) ⟨hx, hb, hml, hown, hts⟩ (c_D_selectionEnd l dC dI a0 r0 r1 a1 r2 r3 r4 r5 H.size) (cwV 0 hts (gd_v lk_198 lk_199 lk_200 lk_16 lk_197) rfl rfl rfl (by decide +kernel) ⟨Nat.le_of_ble_eq_true rfl, Nat.le_of_ble_eq_true rfl⟩) ⟨fun a U g mk q => by obtain ⟨q0, q1, qP, qK, qD⟩ := q; exact ⟨q0, q1, qP, va_K.moved (u := U) (U := U.calling g mk a) (Vm.Alike.refl U.vm) qK, qD⟩, va_recv (ci := 0) (q0 := 1) hK hP rfl rfl, fun U hU hW => ⟨rfl, by rw [hU], by rw [hU]; exact hPc, va_K.moved hW.alike hKc, hDc.weaken (fun _ _ _ _ => trivial)⟩⟩ rfl rfl hl.1 rfl (lv_room (Nat.le_of_ble_eq_true rfl)) d_D_erase_6 ⟨Nat.le_of_ble_eq_true rfl, Nat.le_of_ble_eq_true rfl⟩) hS (fun q _ h => hFc q h) hFc (fun r u t H1 locs ht hvm hw hB hz1 hk1 hS => ?_)
  obtain ⟨hP1, hK1, hD1⟩ := hB
  rw [ht] at hP1
  have hK1 := va_K.moved hvm.symm hK1
  subst hw
  obtain ⟨hP, hD⟩ := va_join (wr := [(a1, .inl (t0, 0, .inl (fun _ => 0)))]) (w1 := [(a0, .inr (0, [.ref r0, .int 0, .ref r1, .int 1, .int 0, .ref a1, .int 0, .int (-1), .ref r2, .ref r3, .int 0, .int (-1), .ref r4, .ref r5]))]) hP hD [1] [0] rfl rfl (by decide) (by decide) hk1 hFc hP1 hD1
  generalize H1 = H at hP hS ⊢
  have hP : va_P (dC, dI) vwCl [(a1, .inl (t0, 0, .inl (fun _ => 0))), (a0, .inr (0, [.ref r0, .int 0, .ref r1, .int 1, .int 0, .ref a1, .int 0, .int (-1), .ref r2, .ref r3, .int 0, .int (-1), .ref r4, .ref r5]))] H := hP
  have hD : va_D A [(a1, .inl (t0, 0, .inl (fun _ => 0))), (a0, .inr (0, [.ref r0, .int 0, .ref r1, .int 1, .int 0, .ref a1, .int 0, .int (-1), .ref r2, .ref r3, .int 0, .int (-1), .ref r4, .ref r5]))] := hD
  refine lv_istore_n (lv' := [(3, .int 0), (2, .int 0), (0, .ref a0), (1, .int 0)]) hx hb d_D_erase_9 rfl hl (by decide) rfl (fun ls hl => ?_)
  have hl : lv_has ls 4 [(3, .int 0), (2, .int 0), (0, .ref a0), (1, .int 0)] := hl
  refine lv_iload_n hx hb d_D_erase_10 rfl (lv_at hl 1 rfl) ?_
  refine lv_iload_n hx hb d_D_erase_11 rfl (lv_at hl 0 rfl) ?_
  refine lv_icmp_ne (tgt := 33) hx hb d_D_erase_12 (by decide) (fun h => absurd (by decide +kernel) h) (fun _ => ?_)
  refine lv_iload_n hx hb d_D_erase_15 rfl (lv_at hl 3 rfl) ?_
  refine lv_if_ge (tgt := 33) hx hb d_D_erase_16 (by decide) (fun _ => ?_) (fun h => absurd (by decide +kernel) h)
  refine lv_iload_n hx hb d_D_erase_33 rfl (lv_at hl 1 rfl) ?_
  refine lv_iload_n hx hb d_D_erase_34 rfl (lv_at hl 0 rfl) ?_
  refine lv_icmp_ne (tgt := 58) hx hb d_D_erase_35 (by decide) (fun h => absurd (by decide +kernel) h) (fun _ => ?_)
  refine lv_aload_n hx hb d_D_erase_38 rfl (lv_at hl 2 rfl) ?_
  refine va_get (D := (dC, dI)) (ci := 0) (v := .int 0) (C := R_D) (T := F_D) (N := 14) hx hb hts (fun w h => List.mem_cons_of_mem _ (in_D w h)) hown hK hP 1 rfl rfl 6 (by decide) (hts _ (List.mem_cons_of_mem _ lk_192)) (fun _ h9 => h9) rfl d_D_erase_39 ?_
  refine lv_iload_n hx hb d_D_erase_42 rfl (lv_at hl 3 rfl) ?_
  refine lv_aload_n hx hb d_D_erase_43 rfl (lv_at hl 2 rfl) ?_
  refine va_get (D := (dC, dI)) (ci := 0) (v := .ref a1) (C := R_D) (T := F_D) (N := 14) hx hb hts (fun w h => List.mem_cons_of_mem _ (in_D w h)) hown hK hP 1 rfl rfl 5 (by decide) (hts _ (List.mem_cons_of_mem _ lk_24)) (fun _ h9 => h9) rfl d_D_erase_44 ?_
  refine va_alen (v := 0) hx hb hK hP 0 0 rfl rfl (by decide) d_D_erase_47 ?_
  refine lv_aload_n hx hb d_D_erase_48 rfl (lv_at hl 2 rfl) ?_
  refine va_get (D := (dC, dI)) (ci := 0) (v := .int 0) (C := R_D) (T := F_D) (N := 14) hx hb hts (fun w h => List.mem_cons_of_mem _ (in_D w h)) hown hK hP 1 rfl rfl 6 (by decide) (hts _ (List.mem_cons_of_mem _ lk_192)) (fun _ h9 => h9) rfl d_D_erase_49 ?_
  refine t_isub (v := 0) hx hb d_D_erase_52 (by decide +kernel) ?_
  refine va_mmin hx hb (by rw [hml, hl.1]) hown (hts _ (List.mem_cons_of_mem _ lk_247)) (hts _ (List.mem_cons_of_mem _ lk_248)) (hts _ (List.mem_cons_of_mem _ lk_230)) (hts _ (List.mem_cons_of_mem _ lk_249)) (Nat.le_of_ble_eq_true rfl) (Nat.le_of_ble_eq_true rfl) (Nat.le_of_ble_eq_true rfl) (Nat.le_of_ble_eq_true rfl) d_D_erase_53 ?_
  refine wk_top (w := .int 0) (by decide +kernel) ?_
  refine t_iadd (v := 0) hx hb d_D_erase_56 (by decide +kernel) ?_
  refine lv_istore_n (lv' := [(3, .int 0), (2, .int 0), (0, .ref a0), (1, .int 0)]) hx hb d_D_erase_57 rfl hl (by decide) rfl (fun ls hl => ?_)
  have hl : lv_has ls 4 [(3, .int 0), (2, .int 0), (0, .ref a0), (1, .int 0)] := hl
  refine lv_iload_n hx hb d_D_erase_58 rfl (lv_at hl 1 rfl) ?_
  refine lv_iload_n hx hb d_D_erase_59 rfl (lv_at hl 0 rfl) ?_
  refine lv_icmp_ge (tgt := 87) hx hb d_D_erase_60 (by decide) (fun _ => ?_) (fun h => absurd (by decide +kernel) h)
  refine lv_iload_n hx hb d_D_erase_87 rfl (lv_at hl 0 rfl) ?_
  refine lv_iload_n hx hb d_D_erase_88 rfl (lv_at hl 1 rfl) ?_
  refine t_isub (v := 0) hx hb d_D_erase_89 (by decide +kernel) ?_
  have hP9 := hP.sub (ws' := [(a0, .inr (0, [.ref r0, .int 0, .ref r1, .int 1, .int 0, .ref a1, .int 0, .int (-1), .ref r2, .ref r3, .int 0, .int (-1), .ref r4, .ref r5])), (a1, .inl (t0, 0, .inl (fun _ => 0)))]) [1, 0] rfl
  have hD9 := hD.sub (ws' := [(a0, .inr (0, [.ref r0, .int 0, .ref r1, .int 1, .int 0, .ref a1, .int 0, .int (-1), .ref r2, .ref r3, .int 0, .int (-1), .ref r4, .ref r5])), (a1, .inl (t0, 0, .inl (fun _ => 0)))]) [1, 0] (by decide) rfl
  have hK9 := hK.sub (tys' := [(t0, .char)]) [0] rfl
  exact W.iret (v := 0) hx hb hr (fun t ht hW => ⟨⟨0, (), rfl, rfl, by rw [ht]; exact hP9, va_K.moved hW.alike hK9, hD9⟩, hS.F ht⟩) hS.2.2 d_D_erase_90

set_option maxHeartbeats 4000000 in
set_option maxRecDepth 100000 in
theorem c_L_erase_3 (l : Launch) (dC : Nat → ClassId) (dI : Nat → Nat → Nat) (a0 a1 a2 r0 r1 r2 r3 r4 r5 : Nat) (t0 t1 : ClassId) (sz : Nat)  : Met l y_L_erase w_L_erase ({ frames := 2, cells := 0, slots := 0, locals := 43 }) (va_Pc [.ref a0, .int 0, .ref a2] (fun U => U.heap.size = sz ∧ va_P (dC, dI) vwCl [(a0, .inr (0, [.ref r0, .int 0, .ref r1, .int 1, .int 0, .ref a1, .int 0, .int (-1), .ref r2, .ref r3, .int 0, .int (-1), .ref r4, .ref r5])), (a1, .inl (t0, 0, .inl (fun _ => 0))), (a2, .inl (t1, 1, .inr (.inl (fun _ => 0))))] U.heap ∧ va_K (dC, dI) vwCl [(t0, .char), (t1, .long)] U ∧ va_D (fun _ => True) [(a0, .inr (0, [.ref r0, .int 0, .ref r1, .int 1, .int 0, .ref a1, .int 0, .int (-1), .ref r2, .ref r3, .int 0, .int (-1), .ref r4, .ref r5])), (a1, .inl (t0, 0, .inl (fun _ => 0))), (a2, .inl (t1, 1, .inr (.inl (fun _ => 0))))])) (va_Qi (fun (r : Int32) (_ : Unit) => r = 0) (fun (_ : Unit) t => va_P (dC, dI) vwCl [(a0, .inr (0, [.ref r0, .int 0, .ref r1, .int 1, .int 0, .ref a1, .int 0, .int (-1), .ref r2, .ref r3, .int 0, .int (-1), .ref r4, .ref r5])), (a1, .inl (t0, 0, .inl (fun _ => 0))), (a2, .inl (t1, 1, .inr (.inl (vp_updL (fun _ => 0) 0 0))))] t.heap ∧ va_K (dC, dI) vwCl [(t0, .char), (t1, .long)] t ∧ va_D (va_A [(a0, .inr (0, [.ref r0, .int 0, .ref r1, .int 1, .int 0, .ref a1, .int 0, .int (-1), .ref r2, .ref r3, .int 0, .int (-1), .ref r4, .ref r5])), (a1, .inl (t0, 0, .inl (fun _ => 0))), (a2, .inl (t1, 1, .inr (.inl (fun _ => 0))))] sz) [(a0, .inr (0, [.ref r0, .int 0, .ref r1, .int 1, .int 0, .ref a1, .int 0, .int (-1), .ref r2, .ref r3, .int 0, .int (-1), .ref r4, .ref r5])), (a1, .inl (t0, 0, .inl (fun _ => 0))), (a2, .inl (t1, 1, .inr (.inl (vp_updL (fun _ => 0) 0 0))))]) (va_A [(a0, .inr (0, [.ref r0, .int 0, .ref r1, .int 1, .int 0, .ref a1, .int 0, .int (-1), .ref r2, .ref r3, .int 0, .int (-1), .ref r4, .ref r5])), (a1, .inl (t0, 0, .inl (fun _ => 0))), (a2, .inl (t1, 1, .inr (.inl (fun _ => 0))))] sz)) 0 0 (va_A [(a0, .inr (0, [.ref r0, .int 0, .ref r1, .int 1, .int 0, .ref a1, .int 0, .int (-1), .ref r2, .ref r3, .int 0, .int (-1), .ref r4, .ref r5])), (a1, .inl (t0, 0, .inl (fun _ => 0))), (a2, .inl (t1, 1, .inr (.inl (fun _ => 0))))] sz) := by
  refine th_ofWw (tab := [(0, 9, 12, 13)]) (cc := method_4_code) (maxL := 4) (ret := (some .int)) (by decide) rfl ?_
  intro p e s m args below meth c s₁ B hml htab hv
  obtain ⟨rfl, hsz, hP, hK, hD0⟩ := hv
  have hx := B.exec
  have hb := B.bytes
  have hr := B.returns
  have hts := atoms_spec (ws := w_L_erase) B.pre
  have hown : s.vm.findClass R_L = some m.cls := findClass_of_methodNamed B.named
  have hlocks := B.notSynchronized
  subst hsz
  have hD := hD0.self (sz := s.heap.size)
  generalize hAe : va_A [(a0, .inr (0, [.ref r0, .int 0, .ref r1, .int 1, .int 0, .ref a1, .int 0, .int (-1), .ref r2, .ref r3, .int 0, .int (-1), .ref r4, .ref r5])), (a1, .inl (t0, 0, .inl (fun _ => 0))), (a2, .inl (t1, 1, .inr (.inl (fun _ => 0))))] s.heap.size = A at hD ⊢
  have hA : ∀ q : Nat, s.heap.size ≤ q → A q := fun q h => by rw [← hAe]; exact Or.inr h
  have hS : va_S A s.heap s.heap [] := va_S.rf
  have hP : va_P (dC, dI) vwCl [(a0, .inr (0, [.ref r0, .int 0, .ref r1, .int 1, .int 0, .ref a1, .int 0, .int (-1), .ref r2, .ref r3, .int 0, .int (-1), .ref r4, .ref r5])), (a1, .inl (t0, 0, .inl (fun _ => 0))), (a2, .inl (t1, 1, .inr (.inl (fun _ => 0))))] s.heap := hP
  have hl := lv_entry ([.ref a0, .int 0, .ref a2]) (n := 4) (Nat.le_of_ble_eq_true rfl)
  rw [lg_entry_eq]
  generalize (lg_sl ([.ref a0, .int 0, .ref a2]) ++ List.replicate (4 - (lg_sl ([.ref a0, .int 0, .ref a2])).length) Slot.unset).toArray = ls at hl ⊢
  have hl : lv_has ls 4 [(0, .ref a0), (1, .int 0), (2, .ref a2)] := hl
  refine lv_aload_n hx hb d_L_erase_0 rfl (lv_at hl 2 rfl) ?_
  refine lv_iconst (v := 0) hx hb d_L_erase_1 (by decide) ?_
  refine lv_aload_n hx hb d_L_erase_2 rfl (lv_at hl 0 rfl) ?_
  refine lv_iload_n hx hb d_L_erase_3 rfl (lv_at hl 1 rfl) ?_
  have hPc := hP.sub (ws' := [(a0, .inr (0, [.ref r0, .int 0, .ref r1, .int 1, .int 0, .ref a1, .int 0, .int (-1), .ref r2, .ref r3, .int 0, .int (-1), .ref r4, .ref r5])), (a1, .inl (t0, 0, .inl (fun _ => 0)))]) [0, 1] rfl
  have hDc := hD.sub (ws' := [(a0, .inr (0, [.ref r0, .int 0, .ref r1, .int 1, .int 0, .ref a1, .int 0, .int (-1), .ref r2, .ref r3, .int 0, .int (-1), .ref r4, .ref r5])), (a1, .inl (t0, 0, .inl (fun _ => 0)))]) [0, 1] (by decide) rfl
  have hKc := hK.sub (tys' := [(t0, .char)]) [0] rfl
  have hFc := va_free (wc := [(a0, .inr (0, [.ref r0, .int 0, .ref r1, .int 1, .int 0, .ref a1, .int 0, .int (-1), .ref r2, .ref r3, .int 0, .int (-1), .ref r4, .ref r5])), (a1, .inl (t0, 0, .inl (fun _ => 0)))]) hD hS hA [0, 1] rfl
  refine va_calli (va_runV (As := [.int 0]) (rest := [.int 0, .ref a2]) ⟨hx, hb, hml, hown, hts⟩ (c_D_erase_3 l dC dI a0 a1 r0 r1 r2 r3 r4 r5 t0 s.heap.size) (cwV 1 hts (gd_v lk_233 lk_234 lk_235 lk_16 lk_232) rfl rfl rfl (by decide +kernel) ⟨Nat.le_of_ble_eq_true rfl, Nat.le_of_ble_eq_true rfl⟩) ⟨fun a U g mk q => by obtain ⟨q0, q1, qP, qK, qD⟩ := q; exact ⟨q0, q1, qP, va_K.moved (u := U) (U := U.calling g mk a) (Vm.Alike.refl U.vm) qK, qD⟩, va_recv (ci := 0) (q0 := 0) hK hP rfl rfl, fun U hU hW => ⟨rfl, by rw [hU], by rw [hU]; exact hPc, va_K.moved hW.alike hKc, hDc.weaken (fun _ _ _ _ => trivial)⟩⟩ rfl rfl hl.1 rfl (lv_room (Nat.le_of_ble_eq_true rfl)) d_L_erase_4 ⟨Nat.le_of_ble_eq_true rfl, Nat.le_of_ble_eq_true rfl⟩) hS (fun q _ h => hFc q h) hFc (fun r u t H1 locs ht hvm hw hB hz1 hk1 hS => ?_)
  obtain ⟨hP1, hK1, hD1⟩ := hB
  rw [ht] at hP1
  have hK1 := va_K.moved hvm.symm hK1
  subst hw
  obtain ⟨hP, hD⟩ := va_join (wr := [(a2, .inl (t1, 1, .inr (.inl (fun _ => 0))))]) (w1 := [(a0, .inr (0, [.ref r0, .int 0, .ref r1, .int 1, .int 0, .ref a1, .int 0, .int (-1), .ref r2, .ref r3, .int 0, .int (-1), .ref r4, .ref r5])), (a1, .inl (t0, 0, .inl (fun _ => 0)))]) hP hD [0, 1] [2] rfl rfl (by decide) (by decide) hk1 hFc hP1 hD1
  generalize H1 = H at hP hS ⊢
  have hP : va_P (dC, dI) vwCl [(a2, .inl (t1, 1, .inr (.inl (fun _ => 0)))), (a0, .inr (0, [.ref r0, .int 0, .ref r1, .int 1, .int 0, .ref a1, .int 0, .int (-1), .ref r2, .ref r3, .int 0, .int (-1), .ref r4, .ref r5])), (a1, .inl (t0, 0, .inl (fun _ => 0)))] H := hP
  have hD : va_D A [(a2, .inl (t1, 1, .inr (.inl (fun _ => 0)))), (a0, .inr (0, [.ref r0, .int 0, .ref r1, .int 1, .int 0, .ref a1, .int 0, .int (-1), .ref r2, .ref r3, .int 0, .int (-1), .ref r4, .ref r5])), (a1, .inl (t0, 0, .inl (fun _ => 0)))] := hD
  refine lv_i2l (v := 0) hx hb d_L_erase_7 (by decide +kernel) ?_
  refine va_last hx hb hK hP hD hS 0 1 rfl rfl (wk_in (by decide +kernel)) d_L_erase_8 (fun H locs hP hD hS => ?_)
  have hP : va_P (dC, dI) vwCl [(a2, .inl (t1, 1, .inr (.inl (vp_updL (fun _ => 0) 0 0)))), (a0, .inr (0, [.ref r0, .int 0, .ref r1, .int 1, .int 0, .ref a1, .int 0, .int (-1), .ref r2, .ref r3, .int 0, .int (-1), .ref r4, .ref r5])), (a1, .inl (t0, 0, .inl (fun _ => 0)))] H := hP
  have hD : va_D A [(a2, .inl (t1, 1, .inr (.inl (vp_updL (fun _ => 0) 0 0)))), (a0, .inr (0, [.ref r0, .int 0, .ref r1, .int 1, .int 0, .ref a1, .int 0, .int (-1), .ref r2, .ref r3, .int 0, .int (-1), .ref r4, .ref r5])), (a1, .inl (t0, 0, .inl (fun _ => 0)))] := hD
  refine lv_goto (tgt := 15) hx hb d_L_erase_9 (by decide) ?_
  refine lv_iconst (v := 0) hx hb d_L_erase_15 (by decide) ?_
  have hP9 := hP.sub (ws' := [(a0, .inr (0, [.ref r0, .int 0, .ref r1, .int 1, .int 0, .ref a1, .int 0, .int (-1), .ref r2, .ref r3, .int 0, .int (-1), .ref r4, .ref r5])), (a1, .inl (t0, 0, .inl (fun _ => 0))), (a2, .inl (t1, 1, .inr (.inl (vp_updL (fun _ => 0) 0 0))))]) [1, 2, 0] rfl
  have hD9 := hD.sub (ws' := [(a0, .inr (0, [.ref r0, .int 0, .ref r1, .int 1, .int 0, .ref a1, .int 0, .int (-1), .ref r2, .ref r3, .int 0, .int (-1), .ref r4, .ref r5])), (a1, .inl (t0, 0, .inl (fun _ => 0))), (a2, .inl (t1, 1, .inr (.inl (vp_updL (fun _ => 0) 0 0))))]) [1, 2, 0] (by decide) rfl
  have hK9 := hK.sub (tys' := [(t0, .char), (t1, .long)]) [0, 1] rfl
  exact W.iret (v := 0) hx hb hr (fun t ht hW => ⟨⟨0, (), rfl, rfl, by rw [ht]; exact hP9, va_K.moved hW.alike hK9, hD9⟩, hS.F ht⟩) hS.2.2 d_L_erase_16

set_option maxHeartbeats 4000000 in
set_option maxRecDepth 100000 in
theorem c_M_erase_3 (l : Launch) (dC : Nat → ClassId) (dI : Nat → Nat → Nat) (a0 a1 r0 r1 r2 r3 r4 r5 r6 r7 r8 r9 r10 r11 r12 r13 r14 r15 r16 r17 r18 : Nat) (t0 : ClassId) (sz : Nat)  : Met l y_M_erase w_M_erase ({ frames := 1, cells := 0, slots := 0, locals := 20 }) (va_Pc [.ref a0, .int 0] (fun U => U.heap.size = sz ∧ va_P (dC, dI) vwCl [(a0, .inr (4, [.int 0, .int 0, .ref r0, .int 1, .int 0, .ref r1, .ref a1, .ref r2, .ref r3, .ref r4, .int 0, .int 0, .int (-1), .int 0, .int (-1), .int 0, .ref r5, .int 0, .ref r6, .ref r7, .ref r8, .ref r9, .ref r10, .int 0, .int 0, .int 0, .ref r11, .ref r12, .int 0, .ref r13, .ref r14, .ref r15, .ref r16, .ref r17, .int 0, .int 0, .int 0, .ref r18])), (a1, .inl (t0, 40, .inl (fun _ => 0)))] U.heap ∧ va_K (dC, dI) vwCl [(t0, .int)] U ∧ va_D (fun _ => True) [(a0, .inr (4, [.int 0, .int 0, .ref r0, .int 1, .int 0, .ref r1, .ref a1, .ref r2, .ref r3, .ref r4, .int 0, .int 0, .int (-1), .int 0, .int (-1), .int 0, .ref r5, .int 0, .ref r6, .ref r7, .ref r8, .ref r9, .ref r10, .int 0, .int 0, .int 0, .ref r11, .ref r12, .int 0, .ref r13, .ref r14, .ref r15, .ref r16, .ref r17, .int 0, .int 0, .int 0, .ref r18])), (a1, .inl (t0, 40, .inl (fun _ => 0)))])) (va_Qi (fun (r : Int32) (_ : Unit) => r = 0) (fun (_ : Unit) t => va_P (dC, dI) vwCl [(a0, .inr (4, [.int 0, .int 0, .ref r0, .int 1, .int 0, .ref r1, .ref a1, .ref r2, .ref r3, .ref r4, .int 0, .int 0, .int (-1), .int 0, .int (-1), .int 0, .ref r5, .int 0, .ref r6, .ref r7, .ref r8, .ref r9, .ref r10, .int 0, .int 0, .int 0, .ref r11, .ref r12, .int 0, .ref r13, .ref r14, .ref r15, .ref r16, .ref r17, .int 0, .int 0, .int 0, .ref r18])), (a1, .inl (t0, 40, .inl (fun _ => 0)))] t.heap ∧ va_K (dC, dI) vwCl [(t0, .int)] t ∧ va_D (va_A [(a0, .inr (4, [.int 0, .int 0, .ref r0, .int 1, .int 0, .ref r1, .ref a1, .ref r2, .ref r3, .ref r4, .int 0, .int 0, .int (-1), .int 0, .int (-1), .int 0, .ref r5, .int 0, .ref r6, .ref r7, .ref r8, .ref r9, .ref r10, .int 0, .int 0, .int 0, .ref r11, .ref r12, .int 0, .ref r13, .ref r14, .ref r15, .ref r16, .ref r17, .int 0, .int 0, .int 0, .ref r18])), (a1, .inl (t0, 40, .inl (fun _ => 0)))] sz) [(a0, .inr (4, [.int 0, .int 0, .ref r0, .int 1, .int 0, .ref r1, .ref a1, .ref r2, .ref r3, .ref r4, .int 0, .int 0, .int (-1), .int 0, .int (-1), .int 0, .ref r5, .int 0, .ref r6, .ref r7, .ref r8, .ref r9, .ref r10, .int 0, .int 0, .int 0, .ref r11, .ref r12, .int 0, .ref r13, .ref r14, .ref r15, .ref r16, .ref r17, .int 0, .int 0, .int 0, .ref r18])), (a1, .inl (t0, 40, .inl (fun _ => 0)))]) (va_A [(a0, .inr (4, [.int 0, .int 0, .ref r0, .int 1, .int 0, .ref r1, .ref a1, .ref r2, .ref r3, .ref r4, .int 0, .int 0, .int (-1), .int 0, .int (-1), .int 0, .ref r5, .int 0, .ref r6, .ref r7, .ref r8, .ref r9, .ref r10, .int 0, .int 0, .int 0, .ref r11, .ref r12, .int 0, .ref r13, .ref r14, .ref r15, .ref r16, .ref r17, .int 0, .int 0, .int 0, .ref r18])), (a1, .inl (t0, 40, .inl (fun _ => 0)))] sz)) 0 0 (va_A [(a0, .inr (4, [.int 0, .int 0, .ref r0, .int 1, .int 0, .ref r1, .ref a1, .ref r2, .ref r3, .ref r4, .int 0, .int 0, .int (-1), .int 0, .int (-1), .int 0, .ref r5, .int 0, .ref r6, .ref r7, .ref r8, .ref r9, .ref r10, .int 0, .int 0, .int 0, .ref r11, .ref r12, .int 0, .ref r13, .ref r14, .ref r15, .ref r16, .ref r17, .int 0, .int 0, .int 0, .ref r18])), (a1, .inl (t0, 40, .inl (fun _ => 0)))] sz) := by
  refine Met.ofW (cc := prog_6_method_16_code) (maxL := 5) (ret := (some .int)) (by decide) rfl ?_
  intro p e s m args below meth c s₁ B hml hv
  obtain ⟨rfl, hsz, hP, hK, hD0⟩ := hv
  have hx := B.exec
  have hb := B.bytes
  have hr := B.returns
  have hts := atoms_spec (ws := w_M_erase) B.pre
  have hown : s.vm.findClass R_M = some m.cls := findClass_of_methodNamed B.named
  have hlocks := B.notSynchronized
  subst hsz
  have hD := hD0.self (sz := s.heap.size)
  generalize hAe : va_A [(a0, .inr (4, [.int 0, .int 0, .ref r0, .int 1, .int 0, .ref r1, .ref a1, .ref r2, .ref r3, .ref r4, .int 0, .int 0, .int (-1), .int 0, .int (-1), .int 0, .ref r5, .int 0, .ref r6, .ref r7, .ref r8, .ref r9, .ref r10, .int 0, .int 0, .int 0, .ref r11, .ref r12, .int 0, .ref r13, .ref r14, .ref r15, .ref r16, .ref r17, .int 0, .int 0, .int 0, .ref r18])), (a1, .inl (t0, 40, .inl (fun _ => 0)))] s.heap.size = A at hD ⊢
  have hA : ∀ q : Nat, s.heap.size ≤ q → A q := fun q h => by rw [← hAe]; exact Or.inr h
  have hS : va_S A s.heap s.heap [] := va_S.rf
  have hP : va_P (dC, dI) vwCl [(a0, .inr (4, [.int 0, .int 0, .ref r0, .int 1, .int 0, .ref r1, .ref a1, .ref r2, .ref r3, .ref r4, .int 0, .int 0, .int (-1), .int 0, .int (-1), .int 0, .ref r5, .int 0, .ref r6, .ref r7, .ref r8, .ref r9, .ref r10, .int 0, .int 0, .int 0, .ref r11, .ref r12, .int 0, .ref r13, .ref r14, .ref r15, .ref r16, .ref r17, .int 0, .int 0, .int 0, .ref r18])), (a1, .inl (t0, 40, .inl (fun _ => 0)))] s.heap := hP
  have hl := lv_entry ([.ref a0, .int 0]) (n := 5) (Nat.le_of_ble_eq_true rfl)
  rw [lg_entry_eq]
  generalize (lg_sl ([.ref a0, .int 0]) ++ List.replicate (5 - (lg_sl ([.ref a0, .int 0])).length) Slot.unset).toArray = ls at hl ⊢
  have hl : lv_has ls 5 [(0, .ref a0), (1, .int 0)] := hl
  refine lv_aload_n hx hb d_M_erase_0 rfl (lv_at hl 0 rfl) ?_
  have hPc := hP.sub (ws' := [(a0, .inr (4, [.int 0, .int 0, .ref r0, .int 1, .int 0, .ref r1, .ref a1, .ref r2, .ref r3, .ref r4, .int 0, .int 0, .int (-1), .int 0, .int (-1), .int 0, .ref r5, .int 0, .ref r6, .ref r7, .ref r8, .ref r9, .ref r10, .int 0, .int 0, .int 0, .ref r11, .ref r12, .int 0, .ref r13, .ref r14, .ref r15, .ref r16, .ref r17, .int 0, .int 0, .int 0, .ref r18]))]) [0] rfl
  have hDc := hD.sub (ws' := [(a0, .inr (4, [.int 0, .int 0, .ref r0, .int 1, .int 0, .ref r1, .ref a1, .ref r2, .ref r3, .ref r4, .int 0, .int 0, .int (-1), .int 0, .int (-1), .int 0, .ref r5, .int 0, .ref r6, .ref r7, .ref r8, .ref r9, .ref r10, .int 0, .int 0, .int 0, .ref r11, .ref r12, .int 0, .ref r13, .ref r14, .ref r15, .ref r16, .ref r17, .int 0, .int 0, .int 0, .ref r18]))]) [0] (by decide) rfl
  have hKc := hK.sub (tys' := []) [] rfl
  have hFc := va_free (wc := [(a0, .inr (4, [.int 0, .int 0, .ref r0, .int 1, .int 0, .ref r1, .ref a1, .ref r2, .ref r3, .ref r4, .int 0, .int 0, .int (-1), .int 0, .int (-1), .int 0, .ref r5, .int 0, .ref r6, .ref r7, .ref r8, .ref r9, .ref r10, .int 0, .int 0, .int 0, .ref r11, .ref r12, .int 0, .ref r13, .ref r14, .ref r15, .ref r16, .ref r17, .int 0, .int 0, .int 0, .ref r18]))]) hD hS hA [0] rfl
  refine va_calli (va_runV (As := []) (rest := []) ⟨hx, hb, hml, hown, hts⟩ (c_M_low l dC dI a0 r0 r1 a1 r2 r3 r4 r5 r6 r7 r8 r9 r10 r11 r12 r13 r14 r15 r16 r17 r18 s.heap.size) (cwV 0 hts (gd_v lk_212 lk_213 lk_214 lk_141 lk_211) rfl rfl rfl (by decide +kernel) ⟨Nat.le_of_ble_eq_true rfl, Nat.le_of_ble_eq_true rfl⟩) ⟨fun a U g mk q => by obtain ⟨q0, q1, qP, qK, qD⟩ := q; exact ⟨q0, q1, qP, va_K.moved (u := U) (U := U.calling g mk a) (Vm.Alike.refl U.vm) qK, qD⟩, va_recv (ci := 4) (q0 := 0) hK hP rfl rfl, fun U hU hW => ⟨rfl, by rw [hU], by rw [hU]; exact hPc, va_K.moved hW.alike hKc, hDc.weaken (fun _ _ _ _ => trivial)⟩⟩ rfl rfl hl.1 rfl (lv_room (Nat.le_of_ble_eq_true rfl)) d_M_erase_1 ⟨Nat.le_of_ble_eq_true rfl, Nat.le_of_ble_eq_true rfl⟩) hS (fun q _ h => hFc q h) hFc (fun r u t H1 locs ht hvm hw hB hz1 hk1 hS => ?_)
  obtain ⟨hP1, hK1, hD1⟩ := hB
  rw [ht] at hP1
  have hK1 := va_K.moved hvm.symm hK1
  subst hw
  obtain ⟨hP, hD⟩ := va_join (wr := [(a1, .inl (t0, 40, .inl (fun _ => 0)))]) (w1 := [(a0, .inr (4, [.int 0, .int 0, .ref r0, .int 1, .int 0, .ref r1, .ref a1, .ref r2, .ref r3, .ref r4, .int 0, .int 0, .int (-1), .int 0, .int (-1), .int 0, .ref r5, .int 0, .ref r6, .ref r7, .ref r8, .ref r9, .ref r10, .int 0, .int 0, .int 0, .ref r11, .ref r12, .int 0, .ref r13, .ref r14, .ref r15, .ref r16, .ref r17, .int 0, .int 0, .int 0, .ref r18]))]) hP hD [0] [1] rfl rfl (by decide) (by decide) hk1 hFc hP1 hD1
  generalize H1 = H at hP hS ⊢
  have hP : va_P (dC, dI) vwCl [(a1, .inl (t0, 40, .inl (fun _ => 0))), (a0, .inr (4, [.int 0, .int 0, .ref r0, .int 1, .int 0, .ref r1, .ref a1, .ref r2, .ref r3, .ref r4, .int 0, .int 0, .int (-1), .int 0, .int (-1), .int 0, .ref r5, .int 0, .ref r6, .ref r7, .ref r8, .ref r9, .ref r10, .int 0, .int 0, .int 0, .ref r11, .ref r12, .int 0, .ref r13, .ref r14, .ref r15, .ref r16, .ref r17, .int 0, .int 0, .int 0, .ref r18]))] H := hP
  have hD : va_D A [(a1, .inl (t0, 40, .inl (fun _ => 0))), (a0, .inr (4, [.int 0, .int 0, .ref r0, .int 1, .int 0, .ref r1, .ref a1, .ref r2, .ref r3, .ref r4, .int 0, .int 0, .int (-1), .int 0, .int (-1), .int 0, .ref r5, .int 0, .ref r6, .ref r7, .ref r8, .ref r9, .ref r10, .int 0, .int 0, .int 0, .ref r11, .ref r12, .int 0, .ref r13, .ref r14, .ref r15, .ref r16, .ref r17, .int 0, .int 0, .int 0, .ref r18]))] := hD
  refine lv_istore_n (lv' := [(2, .int 0), (0, .ref a0), (1, .int 0)]) hx hb d_M_erase_4 rfl hl (by decide) rfl (fun ls hl => ?_)
  have hl : lv_has ls 5 [(2, .int 0), (0, .ref a0), (1, .int 0)] := hl
  refine lv_aload_n hx hb d_M_erase_5 rfl (lv_at hl 1 rfl) ?_
  have hPc := hP.sub (ws' := [(a0, .inr (4, [.int 0, .int 0, .ref r0, .int 1, .int 0, .ref r1, .ref a1, .ref r2, .ref r3, .ref r4, .int 0, .int 0, .int (-1), .int 0, .int (-1), .int 0, .ref r5, .int 0, .ref r6, .ref r7, .ref r8, .ref r9, .ref r10, .int 0, .int 0, .int 0, .ref r11, .ref r12, .int 0, .ref r13, .ref r14, .ref r15, .ref r16, .ref r17, .int 0, .int 0, .int 0, .ref r18]))]) [1] rfl
  have hDc := hD.sub (ws' := [(a0, .inr (4, [.int 0, .int 0, .ref r0, .int 1, .int 0, .ref r1, .ref a1, .ref r2, .ref r3, .ref r4, .int 0, .int 0, .int (-1), .int 0, .int (-1), .int 0, .ref r5, .int 0, .ref r6, .ref r7, .ref r8, .ref r9, .ref r10, .int 0, .int 0, .int 0, .ref r11, .ref r12, .int 0, .ref r13, .ref r14, .ref r15, .ref r16, .ref r17, .int 0, .int 0, .int 0, .ref r18]))]) [1] (by decide) rfl
  have hKc := hK.sub (tys' := []) [] rfl
  have hFc := va_free (wc := [(a0, .inr (4, [.int 0, .int 0, .ref r0, .int 1, .int 0, .ref r1, .ref a1, .ref r2, .ref r3, .ref r4, .int 0, .int 0, .int (-1), .int 0, .int (-1), .int 0, .ref r5, .int 0, .ref r6, .ref r7, .ref r8, .ref r9, .ref r10, .int 0, .int 0, .int 0, .ref r11, .ref r12, .int 0, .ref r13, .ref r14, .ref r15, .ref r16, .ref r17, .int 0, .int 0, .int 0, .ref r18]))]) hD hS hA [1] rfl
  refine va_calli (va_runV (As := []) (rest := []) ⟨hx, hb, hml, hown, hts⟩ (c_M_high l dC dI a0 r0 r1 a1 r2 r3 r4 r5 r6 r7 r8 r9 r10 r11 r12 r13 r14 r15 r16 r17 r18 H.size) (cwV 0 hts (gd_v lk_216 lk_217 lk_218 lk_141 lk_215) rfl rfl rfl (by decide +kernel) ⟨Nat.le_of_ble_eq_true rfl, Nat.le_of_ble_eq_true rfl⟩) ⟨fun a U g mk q => by obtain ⟨q0, q1, qP, qK, qD⟩ := q; exact ⟨q0, q1, qP, va_K.moved (u := U) (U := U.calling g mk a) (Vm.Alike.refl U.vm) qK, qD⟩, va_recv (ci := 4) (q0 := 1) hK hP rfl rfl, fun U hU hW => ⟨rfl, by rw [hU], by rw [hU]; exact hPc, va_K.moved hW.alike hKc, hDc.weaken (fun _ _ _ _ => trivial)⟩⟩ rfl rfl hl.1 rfl (lv_room (Nat.le_of_ble_eq_true rfl)) d_M_erase_6 ⟨Nat.le_of_ble_eq_true rfl, Nat.le_of_ble_eq_true rfl⟩) hS (fun q _ h => hFc q h) hFc (fun r u t H1 locs ht hvm hw hB hz1 hk1 hS => ?_)
  obtain ⟨hP1, hK1, hD1⟩ := hB
  rw [ht] at hP1
  have hK1 := va_K.moved hvm.symm hK1
  subst hw
  obtain ⟨hP, hD⟩ := va_join (wr := [(a1, .inl (t0, 40, .inl (fun _ => 0)))]) (w1 := [(a0, .inr (4, [.int 0, .int 0, .ref r0, .int 1, .int 0, .ref r1, .ref a1, .ref r2, .ref r3, .ref r4, .int 0, .int 0, .int (-1), .int 0, .int (-1), .int 0, .ref r5, .int 0, .ref r6, .ref r7, .ref r8, .ref r9, .ref r10, .int 0, .int 0, .int 0, .ref r11, .ref r12, .int 0, .ref r13, .ref r14, .ref r15, .ref r16, .ref r17, .int 0, .int 0, .int 0, .ref r18]))]) hP hD [1] [0] rfl rfl (by decide) (by decide) hk1 hFc hP1 hD1
  generalize H1 = H at hP hS ⊢
  have hP : va_P (dC, dI) vwCl [(a1, .inl (t0, 40, .inl (fun _ => 0))), (a0, .inr (4, [.int 0, .int 0, .ref r0, .int 1, .int 0, .ref r1, .ref a1, .ref r2, .ref r3, .ref r4, .int 0, .int 0, .int (-1), .int 0, .int (-1), .int 0, .ref r5, .int 0, .ref r6, .ref r7, .ref r8, .ref r9, .ref r10, .int 0, .int 0, .int 0, .ref r11, .ref r12, .int 0, .ref r13, .ref r14, .ref r15, .ref r16, .ref r17, .int 0, .int 0, .int 0, .ref r18]))] H := hP
  have hD : va_D A [(a1, .inl (t0, 40, .inl (fun _ => 0))), (a0, .inr (4, [.int 0, .int 0, .ref r0, .int 1, .int 0, .ref r1, .ref a1, .ref r2, .ref r3, .ref r4, .int 0, .int 0, .int (-1), .int 0, .int (-1), .int 0, .ref r5, .int 0, .ref r6, .ref r7, .ref r8, .ref r9, .ref r10, .int 0, .int 0, .int 0, .ref r11, .ref r12, .int 0, .ref r13, .ref r14, .ref r15, .ref r16, .ref r17, .int 0, .int 0, .int 0, .ref r18]))] := hD
  refine lv_istore_n (lv' := [(3, .int 0), (2, .int 0), (0, .ref a0), (1, .int 0)]) hx hb d_M_erase_9 rfl hl (by decide) rfl (fun ls hl => ?_)
  have hl : lv_has ls 5 [(3, .int 0), (2, .int 0), (0, .ref a0), (1, .int 0)] := hl
  refine lv_iload_n hx hb d_M_erase_10 rfl (lv_at hl 1 rfl) ?_
  refine lv_iload_n hx hb d_M_erase_11 rfl (lv_at hl 0 rfl) ?_
  refine lv_icmp_ne (tgt := 88) hx hb d_M_erase_12 (by decide) (fun h => absurd (by decide +kernel) h) (fun _ => ?_)
  refine lv_aload_n hx hb d_M_erase_15 rfl (lv_at hl 2 rfl) ?_
  have hPc := hP.sub (ws' := [(a0, .inr (4, [.int 0, .int 0, .ref r0, .int 1, .int 0, .ref r1, .ref a1, .ref r2, .ref r3, .ref r4, .int 0, .int 0, .int (-1), .int 0, .int (-1), .int 0, .ref r5, .int 0, .ref r6, .ref r7, .ref r8, .ref r9, .ref r10, .int 0, .int 0, .int 0, .ref r11, .ref r12, .int 0, .ref r13, .ref r14, .ref r15, .ref r16, .ref r17, .int 0, .int 0, .int 0, .ref r18])), (a1, .inl (t0, 40, .inl (fun _ => 0)))]) [1, 0] rfl
  have hDc := hD.sub (ws' := [(a0, .inr (4, [.int 0, .int 0, .ref r0, .int 1, .int 0, .ref r1, .ref a1, .ref r2, .ref r3, .ref r4, .int 0, .int 0, .int (-1), .int 0, .int (-1), .int 0, .ref r5, .int 0, .ref r6, .ref r7, .ref r8, .ref r9, .ref r10, .int 0, .int 0, .int 0, .ref r11, .ref r12, .int 0, .ref r13, .ref r14, .ref r15, .ref r16, .ref r17, .int 0, .int 0, .int 0, .ref r18])), (a1, .inl (t0, 40, .inl (fun _ => 0)))]) [1, 0] (by decide) rfl
  have hKc := hK.sub (tys' := [(t0, .int)]) [0] rfl
  have hFc := va_free (wc := [(a0, .inr (4, [.int 0, .int 0, .ref r0, .int 1, .int 0, .ref r1, .ref a1, .ref r2, .ref r3, .ref r4, .int 0, .int 0, .int (-1), .int 0, .int (-1), .int 0, .ref r5, .int 0, .ref r6, .ref r7, .ref r8, .ref r9, .ref r10, .int 0, .int 0, .int 0, .ref r11, .ref r12, .int 0, .ref r13, .ref r14, .ref r15, .ref r16, .ref r17, .int 0, .int 0, .int 0, .ref r18])), (a1, .inl (t0, 40, .inl (fun _ => 0)))]) hD hS hA [1, 0] rfl
  refine va_calli (va_runV (As := []) (rest := []) ⟨hx, hb, hml, hown, hts⟩ (c_M_textLength l dC dI a0 a1 r0 r1 r2 r3 r4 r5 r6 r7 r8 r9 r10 r11 r12 r13 r14 r15 r16 r17 r18 t0 H.size) (cwV 0 hts (gd_v lk_240 lk_241 lk_242 lk_141 lk_239) rfl rfl rfl (by decide +kernel) ⟨Nat.le_of_ble_eq_true rfl, Nat.le_of_ble_eq_true rfl⟩) ⟨fun a U g mk q => by obtain ⟨q0, q1, qP, qK, qD⟩ := q; exact ⟨q0, q1, qP, va_K.moved (u := U) (U := U.calling g mk a) (Vm.Alike.refl U.vm) qK, qD⟩, va_recv (ci := 4) (q0 := 1) hK hP rfl rfl, fun U hU hW => ⟨rfl, by rw [hU], by rw [hU]; exact hPc, va_K.moved hW.alike hKc, hDc.weaken (fun _ _ _ _ => trivial)⟩⟩ rfl rfl hl.1 rfl (lv_room (Nat.le_of_ble_eq_true rfl)) d_M_erase_16 ⟨Nat.le_of_ble_eq_true rfl, Nat.le_of_ble_eq_true rfl⟩) hS (fun q _ h => hFc q h) hFc (fun r u t H1 locs ht hvm hw hB hz1 hk1 hS => ?_)
  obtain ⟨hP1, hK1, hD1⟩ := hB
  rw [ht] at hP1
  have hK1 := va_K.moved hvm.symm hK1
  subst hw
  obtain ⟨hP, hD⟩ := va_join (wr := []) (w1 := [(a0, .inr (4, [.int 0, .int 0, .ref r0, .int 1, .int 0, .ref r1, .ref a1, .ref r2, .ref r3, .ref r4, .int 0, .int 0, .int (-1), .int 0, .int (-1), .int 0, .ref r5, .int 0, .ref r6, .ref r7, .ref r8, .ref r9, .ref r10, .int 0, .int 0, .int 0, .ref r11, .ref r12, .int 0, .ref r13, .ref r14, .ref r15, .ref r16, .ref r17, .int 0, .int 0, .int 0, .ref r18])), (a1, .inl (t0, 40, .inl (fun _ => 0)))]) hP hD [1, 0] [] rfl rfl (by decide) (by decide) hk1 hFc hP1 hD1
  generalize H1 = H at hP hS ⊢
  have hP : va_P (dC, dI) vwCl [(a0, .inr (4, [.int 0, .int 0, .ref r0, .int 1, .int 0, .ref r1, .ref a1, .ref r2, .ref r3, .ref r4, .int 0, .int 0, .int (-1), .int 0, .int (-1), .int 0, .ref r5, .int 0, .ref r6, .ref r7, .ref r8, .ref r9, .ref r10, .int 0, .int 0, .int 0, .ref r11, .ref r12, .int 0, .ref r13, .ref r14, .ref r15, .ref r16, .ref r17, .int 0, .int 0, .int 0, .ref r18])), (a1, .inl (t0, 40, .inl (fun _ => 0)))] H := hP
  have hD : va_D A [(a0, .inr (4, [.int 0, .int 0, .ref r0, .int 1, .int 0, .ref r1, .ref a1, .ref r2, .ref r3, .ref r4, .int 0, .int 0, .int (-1), .int 0, .int (-1), .int 0, .ref r5, .int 0, .ref r6, .ref r7, .ref r8, .ref r9, .ref r10, .int 0, .int 0, .int 0, .ref r11, .ref r12, .int 0, .ref r13, .ref r14, .ref r15, .ref r16, .ref r17, .int 0, .int 0, .int 0, .ref r18])), (a1, .inl (t0, 40, .inl (fun _ => 0)))] := hD
  refine lv_aload_n hx hb d_M_erase_19 rfl (lv_at hl 2 rfl) ?_
  refine va_get (D := (dC, dI)) (ci := 4) (v := .int 0) (C := R_M) (T := F_M) (N := 38) hx hb hts (fun w h => List.mem_cons_of_mem _ (in_M w h)) hown hK hP 0 rfl rfl 11 (by decide) (hts _ (List.mem_cons_of_mem _ lk_210)) (fun _ h9 => h9) rfl d_M_erase_20 ?_
  refine t_isub (v := 0) hx hb d_M_erase_23 (by decide +kernel) ?_
  refine lv_istore (lv' := [(4, .int 0), (3, .int 0), (2, .int 0), (0, .ref a0), (1, .int 0)]) hx hb d_M_erase_24 hl (by decide) rfl (fun ls hl => ?_)
  have hl : lv_has ls 5 [(4, .int 0), (3, .int 0), (2, .int 0), (0, .ref a0), (1, .int 0)] := hl
  refine lv_iload_n hx hb d_M_erase_26 rfl (lv_at hl 4 rfl) ?_
  refine lv_if_lt (tgt := 37) hx hb d_M_erase_27 (by decide) (fun h => absurd h (by decide +kernel)) (fun _ => ?_)
  refine lv_aload_n hx hb d_M_erase_30 rfl (lv_at hl 3 rfl) ?_
  refine va_get (D := (dC, dI)) (ci := 4) (v := .int 0) (C := R_M) (T := F_M) (N := 38) hx hb hts (fun w h => List.mem_cons_of_mem _ (in_M w h)) hown hK hP 0 rfl rfl 11 (by decide) (hts _ (List.mem_cons_of_mem _ lk_210)) (fun _ h9 => h9) rfl d_M_erase_31 ?_
  refine lv_goto (tgt := 56) hx hb d_M_erase_34 (by decide) ?_
  refine lv_istore_n (lv' := [(2, .int 0), (4, .int 0), (3, .int 0), (0, .ref a0), (1, .int 0)]) hx hb d_M_erase_56 rfl hl (by decide) rfl (fun ls hl => ?_)
  have hl : lv_has ls 5 [(2, .int 0), (4, .int 0), (3, .int 0), (0, .ref a0), (1, .int 0)] := hl
  refine lv_iload_n hx hb d_M_erase_57 rfl (lv_at hl 4 rfl) ?_
  refine lv_if_ge (tgt := 68) hx hb d_M_erase_58 (by decide) (fun _ => ?_) (fun h => absurd (by decide +kernel) h)
  refine lv_iload_n hx hb d_M_erase_68 rfl (lv_at hl 4 rfl) ?_
  refine lv_iload hx hb d_M_erase_69 (lv_at hl 1 rfl) ?_
  refine lv_icmp_le (tgt := 81) hx hb d_M_erase_71 (by decide) (fun _ => ?_) (fun h => absurd (by decide +kernel) h)
  refine lv_aload_n hx hb d_M_erase_81 rfl (lv_at hl 3 rfl) ?_
  refine va_get (D := (dC, dI)) (ci := 4) (v := .int 0) (C := R_M) (T := F_M) (N := 38) hx hb hts (fun w h => List.mem_cons_of_mem _ (in_M w h)) hown hK hP 0 rfl rfl 11 (by decide) (hts _ (List.mem_cons_of_mem _ lk_210)) (fun _ h9 => h9) rfl d_M_erase_82 ?_
  refine lv_iload_n hx hb d_M_erase_85 rfl (lv_at hl 4 rfl) ?_
  refine t_iadd (v := 0) hx hb d_M_erase_86 (by decide +kernel) ?_
  refine lv_istore_n (lv' := [(3, .int 0), (2, .int 0), (4, .int 0), (0, .ref a0), (1, .int 0)]) hx hb d_M_erase_87 rfl hl (by decide) rfl (fun ls hl => ?_)
  have hl : lv_has ls 5 [(3, .int 0), (2, .int 0), (4, .int 0), (0, .ref a0), (1, .int 0)] := hl
  refine lv_aload_n hx hb d_M_erase_88 rfl (lv_at hl 3 rfl) ?_
  refine lv_iload_n hx hb d_M_erase_89 rfl (lv_at hl 0 rfl) ?_
  refine lv_iload_n hx hb d_M_erase_90 rfl (lv_at hl 1 rfl) ?_
  refine lv_icmp_le (tgt := 107) hx hb d_M_erase_91 (by decide) (fun _ => ?_) (fun h => absurd (by decide +kernel) h)
  refine lv_iconst (v := 0) hx hb d_M_erase_107 (by decide) ?_
  refine va_put (D := (dC, dI)) (ci := 4) (v := .int 0) (ty := .int) (C := R_M) (T := F_M) (N := 38) hx hb hts (fun w h => List.mem_cons_of_mem _ (in_M w h)) t_M tk_M n_M hown hK hP hD hS 0 rfl rfl 0 (by decide) (hts _ (List.mem_cons_of_mem _ lk_175)) (fun _ h9 => h9) rfl (by decide +kernel) rfl rfl (Nat.le_of_ble_eq_true rfl) d_M_erase_108 (fun H locs hP hD hS => ?_)
  have hP : va_P (dC, dI) vwCl [(a0, .inr (4, [.int 0, .int 0, .ref r0, .int 1, .int 0, .ref r1, .ref a1, .ref r2, .ref r3, .ref r4, .int 0, .int 0, .int (-1), .int 0, .int (-1), .int 0, .ref r5, .int 0, .ref r6, .ref r7, .ref r8, .ref r9, .ref r10, .int 0, .int 0, .int 0, .ref r11, .ref r12, .int 0, .ref r13, .ref r14, .ref r15, .ref r16, .ref r17, .int 0, .int 0, .int 0, .ref r18])), (a1, .inl (t0, 40, .inl (fun _ => 0)))] H := hP
  have hD : va_D A [(a0, .inr (4, [.int 0, .int 0, .ref r0, .int 1, .int 0, .ref r1, .ref a1, .ref r2, .ref r3, .ref r4, .int 0, .int 0, .int (-1), .int 0, .int (-1), .int 0, .ref r5, .int 0, .ref r6, .ref r7, .ref r8, .ref r9, .ref r10, .int 0, .int 0, .int 0, .ref r11, .ref r12, .int 0, .ref r13, .ref r14, .ref r15, .ref r16, .ref r17, .int 0, .int 0, .int 0, .ref r18])), (a1, .inl (t0, 40, .inl (fun _ => 0)))] := hD
  refine lv_aload_n hx hb d_M_erase_111 rfl (lv_at hl 3 rfl) ?_
  refine va_get (D := (dC, dI)) (ci := 4) (v := .int 0) (C := R_M) (T := F_M) (N := 38) hx hb hts (fun w h => List.mem_cons_of_mem _ (in_M w h)) hown hK hP 0 rfl rfl 0 (by decide) (hts _ (List.mem_cons_of_mem _ lk_175)) (fun _ h9 => h9) rfl d_M_erase_112 ?_
  refine lv_if_gt (tgt := 123) hx hb d_M_erase_115 (by decide) (fun h => absurd h (by decide +kernel)) (fun _ => ?_)
  refine lv_iload_n hx hb d_M_erase_118 rfl (lv_at hl 1 rfl) ?_
  refine lv_iload_n hx hb d_M_erase_119 rfl (lv_at hl 0 rfl) ?_
  refine lv_icmp_ne (tgt := 125) hx hb d_M_erase_120 (by decide) (fun h => absurd (by decide +kernel) h) (fun _ => ?_)
  refine lv_iconst (v := 0) hx hb d_M_erase_123 (by decide) ?_
  have hP9 := hP.sub (ws' := [(a0, .inr (4, [.int 0, .int 0, .ref r0, .int 1, .int 0, .ref r1, .ref a1, .ref r2, .ref r3, .ref r4, .int 0, .int 0, .int (-1), .int 0, .int (-1), .int 0, .ref r5, .int 0, .ref r6, .ref r7, .ref r8, .ref r9, .ref r10, .int 0, .int 0, .int 0, .ref r11, .ref r12, .int 0, .ref r13, .ref r14, .ref r15, .ref r16, .ref r17, .int 0, .int 0, .int 0, .ref r18])), (a1, .inl (t0, 40, .inl (fun _ => 0)))]) [0, 1] rfl
  have hD9 := hD.sub (ws' := [(a0, .inr (4, [.int 0, .int 0, .ref r0, .int 1, .int 0, .ref r1, .ref a1, .ref r2, .ref r3, .ref r4, .int 0, .int 0, .int (-1), .int 0, .int (-1), .int 0, .ref r5, .int 0, .ref r6, .ref r7, .ref r8, .ref r9, .ref r10, .int 0, .int 0, .int 0, .ref r11, .ref r12, .int 0, .ref r13, .ref r14, .ref r15, .ref r16, .ref r17, .int 0, .int 0, .int 0, .ref r18])), (a1, .inl (t0, 40, .inl (fun _ => 0)))]) [0, 1] (by decide) rfl
  have hK9 := hK.sub (tys' := [(t0, .int)]) [0] rfl
  exact W.iret (v := 0) hx hb hr (fun t ht hW => ⟨⟨0, (), rfl, rfl, by rw [ht]; exact hP9, va_K.moved hW.alike hK9, hD9⟩, hS.F ht⟩) hS.2.2 d_M_erase_124

set_option maxHeartbeats 4000000 in
set_option maxRecDepth 100000 in
theorem c_D_requirePlace (l : Launch) (dC : Nat → ClassId) (dI : Nat → Nat → Nat) (a0 a1 r0 r1 r2 r3 r4 r5 : Nat) (t0 : ClassId) (sz : Nat)  : Met l y_D_requirePlace w_D_requirePlace ({ frames := 0, cells := 0, slots := 0, locals := 0 }) (va_Pc [.ref a0, .int 0] (fun U => U.heap.size = sz ∧ va_P (dC, dI) vwCl [(a0, .inr (0, [.ref r0, .int 0, .ref r1, .int 1, .int 0, .ref a1, .int 0, .int (-1), .ref r2, .ref r3, .int 0, .int (-1), .ref r4, .ref r5])), (a1, .inl (t0, 0, .inl (fun _ => 0)))] U.heap ∧ va_K (dC, dI) vwCl [(t0, .char)] U ∧ va_D (fun _ => True) [(a0, .inr (0, [.ref r0, .int 0, .ref r1, .int 1, .int 0, .ref a1, .int 0, .int (-1), .ref r2, .ref r3, .int 0, .int (-1), .ref r4, .ref r5])), (a1, .inl (t0, 0, .inl (fun _ => 0)))])) (va_Qv (fun (u : Unit) => u = u) (fun (_ : Unit) t => va_P (dC, dI) vwCl [(a0, .inr (0, [.ref r0, .int 0, .ref r1, .int 1, .int 0, .ref a1, .int 0, .int (-1), .ref r2, .ref r3, .int 0, .int (-1), .ref r4, .ref r5])), (a1, .inl (t0, 0, .inl (fun _ => 0)))] t.heap ∧ va_K (dC, dI) vwCl [(t0, .char)] t ∧ va_D (va_A [(a0, .inr (0, [.ref r0, .int 0, .ref r1, .int 1, .int 0, .ref a1, .int 0, .int (-1), .ref r2, .ref r3, .int 0, .int (-1), .ref r4, .ref r5])), (a1, .inl (t0, 0, .inl (fun _ => 0)))] sz) [(a0, .inr (0, [.ref r0, .int 0, .ref r1, .int 1, .int 0, .ref a1, .int 0, .int (-1), .ref r2, .ref r3, .int 0, .int (-1), .ref r4, .ref r5])), (a1, .inl (t0, 0, .inl (fun _ => 0)))]) (va_A [(a0, .inr (0, [.ref r0, .int 0, .ref r1, .int 1, .int 0, .ref a1, .int 0, .int (-1), .ref r2, .ref r3, .int 0, .int (-1), .ref r4, .ref r5])), (a1, .inl (t0, 0, .inl (fun _ => 0)))] sz)) 0 0 (va_A [(a0, .inr (0, [.ref r0, .int 0, .ref r1, .int 1, .int 0, .ref a1, .int 0, .int (-1), .ref r2, .ref r3, .int 0, .int (-1), .ref r4, .ref r5])), (a1, .inl (t0, 0, .inl (fun _ => 0)))] sz) := by
  refine Met.ofW (cc := prog_1_method_19_code) (maxL := 2) (ret := none) (by decide) rfl ?_
  intro p e s m args below meth c s₁ B hml hv
  obtain ⟨rfl, hsz, hP, hK, hD0⟩ := hv
  have hx := B.exec
  have hb := B.bytes
  have hr := B.returns
  have hts := atoms_spec (ws := w_D_requirePlace) B.pre
  have hown : s.vm.findClass R_D = some m.cls := findClass_of_methodNamed B.named
  have hlocks := B.notSynchronized
  subst hsz
  have hD := hD0.self (sz := s.heap.size)
  generalize hAe : va_A [(a0, .inr (0, [.ref r0, .int 0, .ref r1, .int 1, .int 0, .ref a1, .int 0, .int (-1), .ref r2, .ref r3, .int 0, .int (-1), .ref r4, .ref r5])), (a1, .inl (t0, 0, .inl (fun _ => 0)))] s.heap.size = A at hD ⊢
  have hA : ∀ q : Nat, s.heap.size ≤ q → A q := fun q h => by rw [← hAe]; exact Or.inr h
  have hS : va_S A s.heap s.heap [] := va_S.rf
  have hP : va_P (dC, dI) vwCl [(a0, .inr (0, [.ref r0, .int 0, .ref r1, .int 1, .int 0, .ref a1, .int 0, .int (-1), .ref r2, .ref r3, .int 0, .int (-1), .ref r4, .ref r5])), (a1, .inl (t0, 0, .inl (fun _ => 0)))] s.heap := hP
  have hl := lv_entry ([.ref a0, .int 0]) (n := 2) (Nat.le_of_ble_eq_true rfl)
  rw [lg_entry_eq]
  generalize (lg_sl ([.ref a0, .int 0]) ++ List.replicate (2 - (lg_sl ([.ref a0, .int 0])).length) Slot.unset).toArray = ls at hl ⊢
  have hl : lv_has ls 2 [(0, .ref a0), (1, .int 0)] := hl
  refine lv_iload_n hx hb d_D_requirePlace_0 rfl (lv_at hl 1 rfl) ?_
  refine lv_if_lt (tgt := 13) hx hb d_D_requirePlace_1 (by decide) (fun h => absurd h (by decide +kernel)) (fun _ => ?_)
  refine lv_iload_n hx hb d_D_requirePlace_4 rfl (lv_at hl 1 rfl) ?_
  refine lv_aload_n hx hb d_D_requirePlace_5 rfl (lv_at hl 0 rfl) ?_
  refine va_get (D := (dC, dI)) (ci := 0) (v := .ref a1) (C := R_D) (T := F_D) (N := 14) hx hb hts (fun w h => List.mem_cons_of_mem _ (in_D w h)) hown hK hP 0 rfl rfl 5 (by decide) (hts _ (List.mem_cons_of_mem _ lk_24)) (fun _ h9 => h9) rfl d_D_requirePlace_6 ?_
  refine va_alen (v := 0) hx hb hK hP 1 0 rfl rfl (by decide) d_D_requirePlace_9 ?_
  refine lv_icmp_le (tgt := 21) hx hb d_D_requirePlace_10 (by decide) (fun _ => ?_) (fun h => absurd (by decide +kernel) h)
  have hP9 := hP.sub (ws' := [(a0, .inr (0, [.ref r0, .int 0, .ref r1, .int 1, .int 0, .ref a1, .int 0, .int (-1), .ref r2, .ref r3, .int 0, .int (-1), .ref r4, .ref r5])), (a1, .inl (t0, 0, .inl (fun _ => 0)))]) [0, 1] rfl
  have hD9 := hD.sub (ws' := [(a0, .inr (0, [.ref r0, .int 0, .ref r1, .int 1, .int 0, .ref a1, .int 0, .int (-1), .ref r2, .ref r3, .int 0, .int (-1), .ref r4, .ref r5])), (a1, .inl (t0, 0, .inl (fun _ => 0)))]) [0, 1] (by decide) rfl
  have hK9 := hK.sub (tys' := [(t0, .char)]) [0] rfl
  exact W.vret hx hb hr (fun t ht hW => ⟨⟨(), rfl, rfl, by rw [ht]; exact hP9, va_K.moved hW.alike hK9, hD9⟩, hS.F ht⟩) hS.2.2 d_D_requirePlace_21

set_option maxHeartbeats 4000000 in
set_option maxRecDepth 100000 in
theorem c_D_go (l : Launch) (dC : Nat → ClassId) (dI : Nat → Nat → Nat) (a0 a1 r0 r1 r2 r3 r4 r5 : Nat) (t0 : ClassId) (sz : Nat)  : Met l y_D_go w_D_go ({ frames := 1, cells := 0, slots := 0, locals := 21 }) (va_Pc [.ref a0, .int 0, .int 0] (fun U => U.heap.size = sz ∧ va_P (dC, dI) vwCl [(a0, .inr (0, [.ref r0, .int 0, .ref r1, .int 1, .int 0, .ref a1, .int 0, .int (-1), .ref r2, .ref r3, .int 0, .int (-1), .ref r4, .ref r5])), (a1, .inl (t0, 0, .inl (fun _ => 0)))] U.heap ∧ va_K (dC, dI) vwCl [(t0, .char)] U ∧ va_D (fun _ => True) [(a0, .inr (0, [.ref r0, .int 0, .ref r1, .int 1, .int 0, .ref a1, .int 0, .int (-1), .ref r2, .ref r3, .int 0, .int (-1), .ref r4, .ref r5])), (a1, .inl (t0, 0, .inl (fun _ => 0)))])) (va_Qv (fun (u : Unit) => u = u) (fun (_ : Unit) t => va_P (dC, dI) vwCl [(a0, .inr (0, [.ref r0, .int 0, .ref r1, .int 1, .int 0, .ref a1, .int 0, .int (-1), .ref r2, .ref r3, .int 0, .int (-1), .ref r4, .ref r5])), (a1, .inl (t0, 0, .inl (fun _ => 0)))] t.heap ∧ va_K (dC, dI) vwCl [(t0, .char)] t ∧ va_D (va_A [(a0, .inr (0, [.ref r0, .int 0, .ref r1, .int 1, .int 0, .ref a1, .int 0, .int (-1), .ref r2, .ref r3, .int 0, .int (-1), .ref r4, .ref r5])), (a1, .inl (t0, 0, .inl (fun _ => 0)))] sz) [(a0, .inr (0, [.ref r0, .int 0, .ref r1, .int 1, .int 0, .ref a1, .int 0, .int (-1), .ref r2, .ref r3, .int 0, .int (-1), .ref r4, .ref r5])), (a1, .inl (t0, 0, .inl (fun _ => 0)))]) (va_A [(a0, .inr (0, [.ref r0, .int 0, .ref r1, .int 1, .int 0, .ref a1, .int 0, .int (-1), .ref r2, .ref r3, .int 0, .int (-1), .ref r4, .ref r5])), (a1, .inl (t0, 0, .inl (fun _ => 0)))] sz)) 0 0 (va_A [(a0, .inr (0, [.ref r0, .int 0, .ref r1, .int 1, .int 0, .ref a1, .int 0, .int (-1), .ref r2, .ref r3, .int 0, .int (-1), .ref r4, .ref r5])), (a1, .inl (t0, 0, .inl (fun _ => 0)))] sz) := by
  refine Met.ofW (cc := prog_1_method_6_code) (maxL := 3) (ret := none) (by decide) rfl ?_
  intro p e s m args below meth c s₁ B hml hv
  obtain ⟨rfl, hsz, hP, hK, hD0⟩ := hv
  have hx := B.exec
  have hb := B.bytes
  have hr := B.returns
  have hts := atoms_spec (ws := w_D_go) B.pre
  have hown : s.vm.findClass R_D = some m.cls := findClass_of_methodNamed B.named
  have hlocks := B.notSynchronized
  subst hsz
  have hD := hD0.self (sz := s.heap.size)
  generalize hAe : va_A [(a0, .inr (0, [.ref r0, .int 0, .ref r1, .int 1, .int 0, .ref a1, .int 0, .int (-1), .ref r2, .ref r3, .int 0, .int (-1), .ref r4, .ref r5])), (a1, .inl (t0, 0, .inl (fun _ => 0)))] s.heap.size = A at hD ⊢
  have hA : ∀ q : Nat, s.heap.size ≤ q → A q := fun q h => by rw [← hAe]; exact Or.inr h
  have hS : va_S A s.heap s.heap [] := va_S.rf
  have hP : va_P (dC, dI) vwCl [(a0, .inr (0, [.ref r0, .int 0, .ref r1, .int 1, .int 0, .ref a1, .int 0, .int (-1), .ref r2, .ref r3, .int 0, .int (-1), .ref r4, .ref r5])), (a1, .inl (t0, 0, .inl (fun _ => 0)))] s.heap := hP
  have hl := lv_entry ([.ref a0, .int 0, .int 0]) (n := 3) (Nat.le_of_ble_eq_true rfl)
  rw [lg_entry_eq]
  generalize (lg_sl ([.ref a0, .int 0, .int 0]) ++ List.replicate (3 - (lg_sl ([.ref a0, .int 0, .int 0])).length) Slot.unset).toArray = ls at hl ⊢
  have hl : lv_has ls 3 [(0, .ref a0), (1, .int 0), (2, .int 0)] := hl
  refine lv_aload_n hx hb d_D_go_0 rfl (lv_at hl 0 rfl) ?_
  refine lv_iload_n hx hb d_D_go_1 rfl (lv_at hl 1 rfl) ?_
  have hPc := hP.sub (ws' := [(a0, .inr (0, [.ref r0, .int 0, .ref r1, .int 1, .int 0, .ref a1, .int 0, .int (-1), .ref r2, .ref r3, .int 0, .int (-1), .ref r4, .ref r5])), (a1, .inl (t0, 0, .inl (fun _ => 0)))]) [0, 1] rfl
  have hDc := hD.sub (ws' := [(a0, .inr (0, [.ref r0, .int 0, .ref r1, .int 1, .int 0, .ref a1, .int 0, .int (-1), .ref r2, .ref r3, .int 0, .int (-1), .ref r4, .ref r5])), (a1, .inl (t0, 0, .inl (fun _ => 0)))]) [0, 1] (by decide) rfl
  have hKc := hK.sub (tys' := [(t0, .char)]) [0] rfl
  have hFc := va_free (wc := [(a0, .inr (0, [.ref r0, .int 0, .ref r1, .int 1, .int 0, .ref a1, .int 0, .int (-1), .ref r2, .ref r3, .int 0, .int (-1), .ref r4, .ref r5])), (a1, .inl (t0, 0, .inl (fun _ => 0)))]) hD hS hA [0, 1] rfl
  refine va_callv (va_runV (As := [.int 0]) (rest := []) ⟨hx, hb, hml, hown, hts⟩ (c_D_requirePlace l dC dI a0 a1 r0 r1 r2 r3 r4 r5 t0 s.heap.size) (cwV 1 hts (gd_v lk_251 lk_252 lk_253 lk_16 lk_250) rfl rfl rfl (by decide +kernel) ⟨Nat.le_of_ble_eq_true rfl, Nat.le_of_ble_eq_true rfl⟩) ⟨fun a U g mk q => by obtain ⟨q0, q1, qP, qK, qD⟩ := q; exact ⟨q0, q1, qP, va_K.moved (u := U) (U := U.calling g mk a) (Vm.Alike.refl U.vm) qK, qD⟩, va_recv (ci := 0) (q0 := 0) hK hP rfl rfl, fun U hU hW => ⟨rfl, by rw [hU], by rw [hU]; exact hPc, va_K.moved hW.alike hKc, hDc.weaken (fun _ _ _ _ => trivial)⟩⟩ rfl rfl hl.1 rfl (lv_room (Nat.le_of_ble_eq_true rfl)) d_D_go_2 ⟨Nat.le_of_ble_eq_true rfl, Nat.le_of_ble_eq_true rfl⟩) hS (fun q _ h => hFc q h) hFc (fun u t H1 locs ht hvm hw hB hz1 hk1 hS => ?_)
  obtain ⟨hP1, hK1, hD1⟩ := hB
  rw [ht] at hP1
  have hK1 := va_K.moved hvm.symm hK1
  obtain ⟨hP, hD⟩ := va_join (wr := []) (w1 := [(a0, .inr (0, [.ref r0, .int 0, .ref r1, .int 1, .int 0, .ref a1, .int 0, .int (-1), .ref r2, .ref r3, .int 0, .int (-1), .ref r4, .ref r5])), (a1, .inl (t0, 0, .inl (fun _ => 0)))]) hP hD [0, 1] [] rfl rfl (by decide) (by decide) hk1 hFc hP1 hD1
  generalize H1 = H at hP hS ⊢
  have hP : va_P (dC, dI) vwCl [(a0, .inr (0, [.ref r0, .int 0, .ref r1, .int 1, .int 0, .ref a1, .int 0, .int (-1), .ref r2, .ref r3, .int 0, .int (-1), .ref r4, .ref r5])), (a1, .inl (t0, 0, .inl (fun _ => 0)))] H := hP
  have hD : va_D A [(a0, .inr (0, [.ref r0, .int 0, .ref r1, .int 1, .int 0, .ref a1, .int 0, .int (-1), .ref r2, .ref r3, .int 0, .int (-1), .ref r4, .ref r5])), (a1, .inl (t0, 0, .inl (fun _ => 0)))] := hD
  refine lv_iload_n hx hb d_D_go_5 rfl (lv_at hl 2 rfl) ?_
  refine lv_if_ne (tgt := 17) hx hb d_D_go_6 (by decide) (fun h => absurd (by decide +kernel) h) (fun _ => ?_)
  refine lv_aload_n hx hb d_D_go_9 rfl (lv_at hl 0 rfl) ?_
  refine lv_iconst (v := (-1)) hx hb d_D_go_10 (by decide) ?_
  refine va_put (D := (dC, dI)) (ci := 0) (v := .int (-1)) (ty := .int) (C := R_D) (T := F_D) (N := 14) hx hb hts (fun w h => List.mem_cons_of_mem _ (in_D w h)) t_D tk_D n_D hown hK hP hD hS 0 rfl rfl 7 (by decide) (hts _ (List.mem_cons_of_mem _ lk_40)) (fun _ h9 => h9) rfl (by decide +kernel) rfl rfl (Nat.le_of_ble_eq_true rfl) d_D_go_11 (fun H locs hP hD hS => ?_)
  have hP : va_P (dC, dI) vwCl [(a0, .inr (0, [.ref r0, .int 0, .ref r1, .int 1, .int 0, .ref a1, .int 0, .int (-1), .ref r2, .ref r3, .int 0, .int (-1), .ref r4, .ref r5])), (a1, .inl (t0, 0, .inl (fun _ => 0)))] H := hP
  have hD : va_D A [(a0, .inr (0, [.ref r0, .int 0, .ref r1, .int 1, .int 0, .ref a1, .int 0, .int (-1), .ref r2, .ref r3, .int 0, .int (-1), .ref r4, .ref r5])), (a1, .inl (t0, 0, .inl (fun _ => 0)))] := hD
  refine lv_goto (tgt := 33) hx hb d_D_go_14 (by decide) ?_
  refine lv_aload_n hx hb d_D_go_33 rfl (lv_at hl 0 rfl) ?_
  refine lv_iload_n hx hb d_D_go_34 rfl (lv_at hl 1 rfl) ?_
  refine va_put (D := (dC, dI)) (ci := 0) (v := .int 0) (ty := .int) (C := R_D) (T := F_D) (N := 14) hx hb hts (fun w h => List.mem_cons_of_mem _ (in_D w h)) t_D tk_D n_D hown hK hP hD hS 0 rfl rfl 6 (by decide) (hts _ (List.mem_cons_of_mem _ lk_192)) (fun _ h9 => h9) rfl (by decide +kernel) rfl rfl (Nat.le_of_ble_eq_true rfl) d_D_go_35 (fun H locs hP hD hS => ?_)
  have hP : va_P (dC, dI) vwCl [(a0, .inr (0, [.ref r0, .int 0, .ref r1, .int 1, .int 0, .ref a1, .int 0, .int (-1), .ref r2, .ref r3, .int 0, .int (-1), .ref r4, .ref r5])), (a1, .inl (t0, 0, .inl (fun _ => 0)))] H := hP
  have hD : va_D A [(a0, .inr (0, [.ref r0, .int 0, .ref r1, .int 1, .int 0, .ref a1, .int 0, .int (-1), .ref r2, .ref r3, .int 0, .int (-1), .ref r4, .ref r5])), (a1, .inl (t0, 0, .inl (fun _ => 0)))] := hD
  refine lv_aload_n hx hb d_D_go_38 rfl (lv_at hl 0 rfl) ?_
  refine va_get (D := (dC, dI)) (ci := 0) (v := .int (-1)) (C := R_D) (T := F_D) (N := 14) hx hb hts (fun w h => List.mem_cons_of_mem _ (in_D w h)) hown hK hP 0 rfl rfl 7 (by decide) (hts _ (List.mem_cons_of_mem _ lk_40)) (fun _ h9 => h9) rfl d_D_go_39 ?_
  refine lv_aload_n hx hb d_D_go_42 rfl (lv_at hl 0 rfl) ?_
  refine va_get (D := (dC, dI)) (ci := 0) (v := .int 0) (C := R_D) (T := F_D) (N := 14) hx hb hts (fun w h => List.mem_cons_of_mem _ (in_D w h)) hown hK hP 0 rfl rfl 6 (by decide) (hts _ (List.mem_cons_of_mem _ lk_192)) (fun _ h9 => h9) rfl d_D_go_43 ?_
  refine lv_icmp_ne (tgt := 54) hx hb d_D_go_46 (by decide) (fun _ => ?_) (fun h => absurd h (by decide +kernel))
  have hP9 := hP.sub (ws' := [(a0, .inr (0, [.ref r0, .int 0, .ref r1, .int 1, .int 0, .ref a1, .int 0, .int (-1), .ref r2, .ref r3, .int 0, .int (-1), .ref r4, .ref r5])), (a1, .inl (t0, 0, .inl (fun _ => 0)))]) [0, 1] rfl
  have hD9 := hD.sub (ws' := [(a0, .inr (0, [.ref r0, .int 0, .ref r1, .int 1, .int 0, .ref a1, .int 0, .int (-1), .ref r2, .ref r3, .int 0, .int (-1), .ref r4, .ref r5])), (a1, .inl (t0, 0, .inl (fun _ => 0)))]) [0, 1] (by decide) rfl
  have hK9 := hK.sub (tys' := [(t0, .char)]) [0] rfl
  exact W.vret hx hb hr (fun t ht hW => ⟨⟨(), rfl, rfl, by rw [ht]; exact hP9, va_K.moved hW.alike hK9, hD9⟩, hS.F ht⟩) hS.2.2 d_D_go_54

set_option maxHeartbeats 4000000 in
set_option maxRecDepth 100000 in
theorem c_L_go (l : Launch) (dC : Nat → ClassId) (dI : Nat → Nat → Nat) (a0 a1 r0 r1 r2 r3 r4 r5 : Nat) (t0 : ClassId) (sz : Nat)  : Met l y_L_go w_L_go ({ frames := 2, cells := 0, slots := 0, locals := 43 }) (va_Pc [.ref a0, .int 0, .int 0] (fun U => U.heap.size = sz ∧ va_P (dC, dI) vwCl [(a0, .inr (0, [.ref r0, .int 0, .ref r1, .int 1, .int 0, .ref a1, .int 0, .int (-1), .ref r2, .ref r3, .int 0, .int (-1), .ref r4, .ref r5])), (a1, .inl (t0, 0, .inl (fun _ => 0)))] U.heap ∧ va_K (dC, dI) vwCl [(t0, .char)] U ∧ va_D (fun _ => True) [(a0, .inr (0, [.ref r0, .int 0, .ref r1, .int 1, .int 0, .ref a1, .int 0, .int (-1), .ref r2, .ref r3, .int 0, .int (-1), .ref r4, .ref r5])), (a1, .inl (t0, 0, .inl (fun _ => 0)))])) (va_Qi (fun (r : Int32) (_ : Unit) => r = 0) (fun (_ : Unit) t => va_P (dC, dI) vwCl [(a0, .inr (0, [.ref r0, .int 0, .ref r1, .int 1, .int 0, .ref a1, .int 0, .int (-1), .ref r2, .ref r3, .int 0, .int (-1), .ref r4, .ref r5])), (a1, .inl (t0, 0, .inl (fun _ => 0)))] t.heap ∧ va_K (dC, dI) vwCl [(t0, .char)] t ∧ va_D (va_A [(a0, .inr (0, [.ref r0, .int 0, .ref r1, .int 1, .int 0, .ref a1, .int 0, .int (-1), .ref r2, .ref r3, .int 0, .int (-1), .ref r4, .ref r5])), (a1, .inl (t0, 0, .inl (fun _ => 0)))] sz) [(a0, .inr (0, [.ref r0, .int 0, .ref r1, .int 1, .int 0, .ref a1, .int 0, .int (-1), .ref r2, .ref r3, .int 0, .int (-1), .ref r4, .ref r5])), (a1, .inl (t0, 0, .inl (fun _ => 0)))]) (va_A [(a0, .inr (0, [.ref r0, .int 0, .ref r1, .int 1, .int 0, .ref a1, .int 0, .int (-1), .ref r2, .ref r3, .int 0, .int (-1), .ref r4, .ref r5])), (a1, .inl (t0, 0, .inl (fun _ => 0)))] sz)) 0 0 (va_A [(a0, .inr (0, [.ref r0, .int 0, .ref r1, .int 1, .int 0, .ref a1, .int 0, .int (-1), .ref r2, .ref r3, .int 0, .int (-1), .ref r4, .ref r5])), (a1, .inl (t0, 0, .inl (fun _ => 0)))] sz) := by
  refine th_ofWw (tab := [(0, 6, 9, 23)]) (cc := method_5_code) (maxL := 4) (ret := (some .int)) (by decide) rfl ?_
  intro p e s m args below meth c s₁ B hml htab hv
  obtain ⟨rfl, hsz, hP, hK, hD0⟩ := hv
  have hx := B.exec
  have hb := B.bytes
  have hr := B.returns
  have hts := atoms_spec (ws := w_L_go) B.pre
  have hown : s.vm.findClass R_L = some m.cls := findClass_of_methodNamed B.named
  have hlocks := B.notSynchronized
  subst hsz
  have hD := hD0.self (sz := s.heap.size)
  generalize hAe : va_A [(a0, .inr (0, [.ref r0, .int 0, .ref r1, .int 1, .int 0, .ref a1, .int 0, .int (-1), .ref r2, .ref r3, .int 0, .int (-1), .ref r4, .ref r5])), (a1, .inl (t0, 0, .inl (fun _ => 0)))] s.heap.size = A at hD ⊢
  have hA : ∀ q : Nat, s.heap.size ≤ q → A q := fun q h => by rw [← hAe]; exact Or.inr h
  have hS : va_S A s.heap s.heap [] := va_S.rf
  have hP : va_P (dC, dI) vwCl [(a0, .inr (0, [.ref r0, .int 0, .ref r1, .int 1, .int 0, .ref a1, .int 0, .int (-1), .ref r2, .ref r3, .int 0, .int (-1), .ref r4, .ref r5])), (a1, .inl (t0, 0, .inl (fun _ => 0)))] s.heap := hP
  have hl := lv_entry ([.ref a0, .int 0, .int 0]) (n := 4) (Nat.le_of_ble_eq_true rfl)
  rw [lg_entry_eq]
  generalize (lg_sl ([.ref a0, .int 0, .int 0]) ++ List.replicate (4 - (lg_sl ([.ref a0, .int 0, .int 0])).length) Slot.unset).toArray = ls at hl ⊢
  have hl : lv_has ls 4 [(0, .ref a0), (1, .int 0), (2, .int 0)] := hl
  refine lv_aload_n hx hb d_L_go_0 rfl (lv_at hl 0 rfl) ?_
  refine lv_iload_n hx hb d_L_go_1 rfl (lv_at hl 1 rfl) ?_
  refine lv_iload_n hx hb d_L_go_2 rfl (lv_at hl 2 rfl) ?_
  have hPc := hP.sub (ws' := [(a0, .inr (0, [.ref r0, .int 0, .ref r1, .int 1, .int 0, .ref a1, .int 0, .int (-1), .ref r2, .ref r3, .int 0, .int (-1), .ref r4, .ref r5])), (a1, .inl (t0, 0, .inl (fun _ => 0)))]) [0, 1] rfl
  have hDc := hD.sub (ws' := [(a0, .inr (0, [.ref r0, .int 0, .ref r1, .int 1, .int 0, .ref a1, .int 0, .int (-1), .ref r2, .ref r3, .int 0, .int (-1), .ref r4, .ref r5])), (a1, .inl (t0, 0, .inl (fun _ => 0)))]) [0, 1] (by decide) rfl
  have hKc := hK.sub (tys' := [(t0, .char)]) [0] rfl
  have hFc := va_free (wc := [(a0, .inr (0, [.ref r0, .int 0, .ref r1, .int 1, .int 0, .ref a1, .int 0, .int (-1), .ref r2, .ref r3, .int 0, .int (-1), .ref r4, .ref r5])), (a1, .inl (t0, 0, .inl (fun _ => 0)))]) hD hS hA [0, 1] rfl
  refine va_callv (va_runV (As := [.int 0, .int 0]) (rest := []) ⟨hx, hb, hml, hown, hts⟩ (c_D_go l dC dI a0 a1 r0 r1 r2 r3 r4 r5 t0 s.heap.size) (cwV 2 hts (gd_v lk_255 lk_256 lk_257 lk_16 lk_254) rfl rfl rfl (by decide +kernel) ⟨Nat.le_of_ble_eq_true rfl, Nat.le_of_ble_eq_true rfl⟩) ⟨fun a U g mk q => by obtain ⟨q0, q1, qP, qK, qD⟩ := q; exact ⟨q0, q1, qP, va_K.moved (u := U) (U := U.calling g mk a) (Vm.Alike.refl U.vm) qK, qD⟩, va_recv (ci := 0) (q0 := 0) hK hP rfl rfl, fun U hU hW => ⟨rfl, by rw [hU], by rw [hU]; exact hPc, va_K.moved hW.alike hKc, hDc.weaken (fun _ _ _ _ => trivial)⟩⟩ rfl rfl hl.1 rfl (lv_room (Nat.le_of_ble_eq_true rfl)) d_L_go_3 ⟨Nat.le_of_ble_eq_true rfl, Nat.le_of_ble_eq_true rfl⟩) hS (fun q _ h => hFc q h) hFc (fun u t H1 locs ht hvm hw hB hz1 hk1 hS => ?_)
  obtain ⟨hP1, hK1, hD1⟩ := hB
  rw [ht] at hP1
  have hK1 := va_K.moved hvm.symm hK1
  obtain ⟨hP, hD⟩ := va_join (wr := []) (w1 := [(a0, .inr (0, [.ref r0, .int 0, .ref r1, .int 1, .int 0, .ref a1, .int 0, .int (-1), .ref r2, .ref r3, .int 0, .int (-1), .ref r4, .ref r5])), (a1, .inl (t0, 0, .inl (fun _ => 0)))]) hP hD [0, 1] [] rfl rfl (by decide) (by decide) hk1 hFc hP1 hD1
  generalize H1 = H at hP hS ⊢
  have hP : va_P (dC, dI) vwCl [(a0, .inr (0, [.ref r0, .int 0, .ref r1, .int 1, .int 0, .ref a1, .int 0, .int (-1), .ref r2, .ref r3, .int 0, .int (-1), .ref r4, .ref r5])), (a1, .inl (t0, 0, .inl (fun _ => 0)))] H := hP
  have hD : va_D A [(a0, .inr (0, [.ref r0, .int 0, .ref r1, .int 1, .int 0, .ref a1, .int 0, .int (-1), .ref r2, .ref r3, .int 0, .int (-1), .ref r4, .ref r5])), (a1, .inl (t0, 0, .inl (fun _ => 0)))] := hD
  refine lv_goto (tgt := 12) hx hb d_L_go_6 (by decide) ?_
  refine lv_iconst (v := 0) hx hb d_L_go_12 (by decide) ?_
  have hP9 := hP.sub (ws' := [(a0, .inr (0, [.ref r0, .int 0, .ref r1, .int 1, .int 0, .ref a1, .int 0, .int (-1), .ref r2, .ref r3, .int 0, .int (-1), .ref r4, .ref r5])), (a1, .inl (t0, 0, .inl (fun _ => 0)))]) [0, 1] rfl
  have hD9 := hD.sub (ws' := [(a0, .inr (0, [.ref r0, .int 0, .ref r1, .int 1, .int 0, .ref a1, .int 0, .int (-1), .ref r2, .ref r3, .int 0, .int (-1), .ref r4, .ref r5])), (a1, .inl (t0, 0, .inl (fun _ => 0)))]) [0, 1] (by decide) rfl
  have hK9 := hK.sub (tys' := [(t0, .char)]) [0] rfl
  exact W.iret (v := 0) hx hb hr (fun t ht hW => ⟨⟨0, (), rfl, rfl, by rw [ht]; exact hP9, va_K.moved hW.alike hK9, hD9⟩, hS.F ht⟩) hS.2.2 d_L_go_13

set_option maxHeartbeats 4000000 in
set_option maxRecDepth 100000 in
theorem c_M_go (l : Launch) (dC : Nat → ClassId) (dI : Nat → Nat → Nat) (a0 a1 r0 r1 r2 r3 r4 r5 r6 r7 r8 r9 r10 r11 r12 r13 r14 r15 r16 r17 r18 : Nat) (t0 : ClassId) (sz : Nat)  : Met l y_M_go w_M_go ({ frames := 1, cells := 0, slots := 0, locals := 20 }) (va_Pc [.ref a0, .int 0, .int 0] (fun U => U.heap.size = sz ∧ va_P (dC, dI) vwCl [(a0, .inr (4, [.int 0, .int 0, .ref r0, .int 1, .int 0, .ref r1, .ref a1, .ref r2, .ref r3, .ref r4, .int 0, .int 0, .int (-1), .int 0, .int (-1), .int 0, .ref r5, .int 0, .ref r6, .ref r7, .ref r8, .ref r9, .ref r10, .int 0, .int 0, .int 0, .ref r11, .ref r12, .int 0, .ref r13, .ref r14, .ref r15, .ref r16, .ref r17, .int 0, .int 0, .int 0, .ref r18])), (a1, .inl (t0, 40, .inl (fun _ => 0)))] U.heap ∧ va_K (dC, dI) vwCl [(t0, .int)] U ∧ va_D (fun _ => True) [(a0, .inr (4, [.int 0, .int 0, .ref r0, .int 1, .int 0, .ref r1, .ref a1, .ref r2, .ref r3, .ref r4, .int 0, .int 0, .int (-1), .int 0, .int (-1), .int 0, .ref r5, .int 0, .ref r6, .ref r7, .ref r8, .ref r9, .ref r10, .int 0, .int 0, .int 0, .ref r11, .ref r12, .int 0, .ref r13, .ref r14, .ref r15, .ref r16, .ref r17, .int 0, .int 0, .int 0, .ref r18])), (a1, .inl (t0, 40, .inl (fun _ => 0)))])) (va_Qv (fun (u : Unit) => u = u) (fun (_ : Unit) t => va_P (dC, dI) vwCl [(a0, .inr (4, [.int 0, .int 0, .ref r0, .int 1, .int 0, .ref r1, .ref a1, .ref r2, .ref r3, .ref r4, .int 0, .int 0, .int (-1), .int 0, .int (-1), .int 0, .ref r5, .int 0, .ref r6, .ref r7, .ref r8, .ref r9, .ref r10, .int 0, .int 0, .int 0, .ref r11, .ref r12, .int 0, .ref r13, .ref r14, .ref r15, .ref r16, .ref r17, .int 0, .int 0, .int 0, .ref r18])), (a1, .inl (t0, 40, .inl (fun _ => 0)))] t.heap ∧ va_K (dC, dI) vwCl [(t0, .int)] t ∧ va_D (va_A [(a0, .inr (4, [.int 0, .int 0, .ref r0, .int 1, .int 0, .ref r1, .ref a1, .ref r2, .ref r3, .ref r4, .int 0, .int 0, .int (-1), .int 0, .int (-1), .int 0, .ref r5, .int 0, .ref r6, .ref r7, .ref r8, .ref r9, .ref r10, .int 0, .int 0, .int 0, .ref r11, .ref r12, .int 0, .ref r13, .ref r14, .ref r15, .ref r16, .ref r17, .int 0, .int 0, .int 0, .ref r18])), (a1, .inl (t0, 40, .inl (fun _ => 0)))] sz) [(a0, .inr (4, [.int 0, .int 0, .ref r0, .int 1, .int 0, .ref r1, .ref a1, .ref r2, .ref r3, .ref r4, .int 0, .int 0, .int (-1), .int 0, .int (-1), .int 0, .ref r5, .int 0, .ref r6, .ref r7, .ref r8, .ref r9, .ref r10, .int 0, .int 0, .int 0, .ref r11, .ref r12, .int 0, .ref r13, .ref r14, .ref r15, .ref r16, .ref r17, .int 0, .int 0, .int 0, .ref r18])), (a1, .inl (t0, 40, .inl (fun _ => 0)))]) (va_A [(a0, .inr (4, [.int 0, .int 0, .ref r0, .int 1, .int 0, .ref r1, .ref a1, .ref r2, .ref r3, .ref r4, .int 0, .int 0, .int (-1), .int 0, .int (-1), .int 0, .ref r5, .int 0, .ref r6, .ref r7, .ref r8, .ref r9, .ref r10, .int 0, .int 0, .int 0, .ref r11, .ref r12, .int 0, .ref r13, .ref r14, .ref r15, .ref r16, .ref r17, .int 0, .int 0, .int 0, .ref r18])), (a1, .inl (t0, 40, .inl (fun _ => 0)))] sz)) 0 0 (va_A [(a0, .inr (4, [.int 0, .int 0, .ref r0, .int 1, .int 0, .ref r1, .ref a1, .ref r2, .ref r3, .ref r4, .int 0, .int 0, .int (-1), .int 0, .int (-1), .int 0, .ref r5, .int 0, .ref r6, .ref r7, .ref r8, .ref r9, .ref r10, .int 0, .int 0, .int 0, .ref r11, .ref r12, .int 0, .ref r13, .ref r14, .ref r15, .ref r16, .ref r17, .int 0, .int 0, .int 0, .ref r18])), (a1, .inl (t0, 40, .inl (fun _ => 0)))] sz) := by
  refine Met.ofW (cc := prog_6_method_17_code) (maxL := 3) (ret := none) (by decide) rfl ?_
  intro p e s m args below meth c s₁ B hml hv
  obtain ⟨rfl, hsz, hP, hK, hD0⟩ := hv
  have hx := B.exec
  have hb := B.bytes
  have hr := B.returns
  have hts := atoms_spec (ws := w_M_go) B.pre
  have hown : s.vm.findClass R_M = some m.cls := findClass_of_methodNamed B.named
  have hlocks := B.notSynchronized
  subst hsz
  have hD := hD0.self (sz := s.heap.size)
  generalize hAe : va_A [(a0, .inr (4, [.int 0, .int 0, .ref r0, .int 1, .int 0, .ref r1, .ref a1, .ref r2, .ref r3, .ref r4, .int 0, .int 0, .int (-1), .int 0, .int (-1), .int 0, .ref r5, .int 0, .ref r6, .ref r7, .ref r8, .ref r9, .ref r10, .int 0, .int 0, .int 0, .ref r11, .ref r12, .int 0, .ref r13, .ref r14, .ref r15, .ref r16, .ref r17, .int 0, .int 0, .int 0, .ref r18])), (a1, .inl (t0, 40, .inl (fun _ => 0)))] s.heap.size = A at hD ⊢
  have hA : ∀ q : Nat, s.heap.size ≤ q → A q := fun q h => by rw [← hAe]; exact Or.inr h
  have hS : va_S A s.heap s.heap [] := va_S.rf
  have hP : va_P (dC, dI) vwCl [(a0, .inr (4, [.int 0, .int 0, .ref r0, .int 1, .int 0, .ref r1, .ref a1, .ref r2, .ref r3, .ref r4, .int 0, .int 0, .int (-1), .int 0, .int (-1), .int 0, .ref r5, .int 0, .ref r6, .ref r7, .ref r8, .ref r9, .ref r10, .int 0, .int 0, .int 0, .ref r11, .ref r12, .int 0, .ref r13, .ref r14, .ref r15, .ref r16, .ref r17, .int 0, .int 0, .int 0, .ref r18])), (a1, .inl (t0, 40, .inl (fun _ => 0)))] s.heap := hP
  have hl := lv_entry ([.ref a0, .int 0, .int 0]) (n := 3) (Nat.le_of_ble_eq_true rfl)
  rw [lg_entry_eq]
  generalize (lg_sl ([.ref a0, .int 0, .int 0]) ++ List.replicate (3 - (lg_sl ([.ref a0, .int 0, .int 0])).length) Slot.unset).toArray = ls at hl ⊢
  have hl : lv_has ls 3 [(0, .ref a0), (1, .int 0), (2, .int 0)] := hl
  refine lv_aload_n hx hb d_M_go_0 rfl (lv_at hl 0 rfl) ?_
  refine lv_iload_n hx hb d_M_go_1 rfl (lv_at hl 1 rfl) ?_
  refine lv_if_lt (tgt := 13) hx hb d_M_go_2 (by decide) (fun h => absurd h (by decide +kernel)) (fun _ => ?_)
  refine lv_iload_n hx hb d_M_go_5 rfl (lv_at hl 1 rfl) ?_
  refine lv_aload_n hx hb d_M_go_6 rfl (lv_at hl 0 rfl) ?_
  have hPc := hP.sub (ws' := [(a0, .inr (4, [.int 0, .int 0, .ref r0, .int 1, .int 0, .ref r1, .ref a1, .ref r2, .ref r3, .ref r4, .int 0, .int 0, .int (-1), .int 0, .int (-1), .int 0, .ref r5, .int 0, .ref r6, .ref r7, .ref r8, .ref r9, .ref r10, .int 0, .int 0, .int 0, .ref r11, .ref r12, .int 0, .ref r13, .ref r14, .ref r15, .ref r16, .ref r17, .int 0, .int 0, .int 0, .ref r18])), (a1, .inl (t0, 40, .inl (fun _ => 0)))]) [0, 1] rfl
  have hDc := hD.sub (ws' := [(a0, .inr (4, [.int 0, .int 0, .ref r0, .int 1, .int 0, .ref r1, .ref a1, .ref r2, .ref r3, .ref r4, .int 0, .int 0, .int (-1), .int 0, .int (-1), .int 0, .ref r5, .int 0, .ref r6, .ref r7, .ref r8, .ref r9, .ref r10, .int 0, .int 0, .int 0, .ref r11, .ref r12, .int 0, .ref r13, .ref r14, .ref r15, .ref r16, .ref r17, .int 0, .int 0, .int 0, .ref r18])), (a1, .inl (t0, 40, .inl (fun _ => 0)))]) [0, 1] (by decide) rfl
  have hKc := hK.sub (tys' := [(t0, .int)]) [0] rfl
  have hFc := va_free (wc := [(a0, .inr (4, [.int 0, .int 0, .ref r0, .int 1, .int 0, .ref r1, .ref a1, .ref r2, .ref r3, .ref r4, .int 0, .int 0, .int (-1), .int 0, .int (-1), .int 0, .ref r5, .int 0, .ref r6, .ref r7, .ref r8, .ref r9, .ref r10, .int 0, .int 0, .int 0, .ref r11, .ref r12, .int 0, .ref r13, .ref r14, .ref r15, .ref r16, .ref r17, .int 0, .int 0, .int 0, .ref r18])), (a1, .inl (t0, 40, .inl (fun _ => 0)))]) hD hS hA [0, 1] rfl
  refine va_calli (va_runV (As := []) (rest := [.int 0, .ref a0]) ⟨hx, hb, hml, hown, hts⟩ (c_M_textLength l dC dI a0 a1 r0 r1 r2 r3 r4 r5 r6 r7 r8 r9 r10 r11 r12 r13 r14 r15 r16 r17 r18 t0 s.heap.size) (cwV 0 hts (gd_v lk_240 lk_241 lk_242 lk_141 lk_239) rfl rfl rfl (by decide +kernel) ⟨Nat.le_of_ble_eq_true rfl, Nat.le_of_ble_eq_true rfl⟩) ⟨fun a U g mk q => by obtain ⟨q0, q1, qP, qK, qD⟩ := q; exact ⟨q0, q1, qP, va_K.moved (u := U) (U := U.calling g mk a) (Vm.Alike.refl U.vm) qK, qD⟩, va_recv (ci := 4) (q0 := 0) hK hP rfl rfl, fun U hU hW => ⟨rfl, by rw [hU], by rw [hU]; exact hPc, va_K.moved hW.alike hKc, hDc.weaken (fun _ _ _ _ => trivial)⟩⟩ rfl rfl hl.1 rfl (lv_room (Nat.le_of_ble_eq_true rfl)) d_M_go_7 ⟨Nat.le_of_ble_eq_true rfl, Nat.le_of_ble_eq_true rfl⟩) hS (fun q _ h => hFc q h) hFc (fun r u t H1 locs ht hvm hw hB hz1 hk1 hS => ?_)
  obtain ⟨hP1, hK1, hD1⟩ := hB
  rw [ht] at hP1
  have hK1 := va_K.moved hvm.symm hK1
  subst hw
  obtain ⟨hP, hD⟩ := va_join (wr := []) (w1 := [(a0, .inr (4, [.int 0, .int 0, .ref r0, .int 1, .int 0, .ref r1, .ref a1, .ref r2, .ref r3, .ref r4, .int 0, .int 0, .int (-1), .int 0, .int (-1), .int 0, .ref r5, .int 0, .ref r6, .ref r7, .ref r8, .ref r9, .ref r10, .int 0, .int 0, .int 0, .ref r11, .ref r12, .int 0, .ref r13, .ref r14, .ref r15, .ref r16, .ref r17, .int 0, .int 0, .int 0, .ref r18])), (a1, .inl (t0, 40, .inl (fun _ => 0)))]) hP hD [0, 1] [] rfl rfl (by decide) (by decide) hk1 hFc hP1 hD1
  generalize H1 = H at hP hS ⊢
  have hP : va_P (dC, dI) vwCl [(a0, .inr (4, [.int 0, .int 0, .ref r0, .int 1, .int 0, .ref r1, .ref a1, .ref r2, .ref r3, .ref r4, .int 0, .int 0, .int (-1), .int 0, .int (-1), .int 0, .ref r5, .int 0, .ref r6, .ref r7, .ref r8, .ref r9, .ref r10, .int 0, .int 0, .int 0, .ref r11, .ref r12, .int 0, .ref r13, .ref r14, .ref r15, .ref r16, .ref r17, .int 0, .int 0, .int 0, .ref r18])), (a1, .inl (t0, 40, .inl (fun _ => 0)))] H := hP
  have hD : va_D A [(a0, .inr (4, [.int 0, .int 0, .ref r0, .int 1, .int 0, .ref r1, .ref a1, .ref r2, .ref r3, .ref r4, .int 0, .int 0, .int (-1), .int 0, .int (-1), .int 0, .ref r5, .int 0, .ref r6, .ref r7, .ref r8, .ref r9, .ref r10, .int 0, .int 0, .int 0, .ref r11, .ref r12, .int 0, .ref r13, .ref r14, .ref r15, .ref r16, .ref r17, .int 0, .int 0, .int 0, .ref r18])), (a1, .inl (t0, 40, .inl (fun _ => 0)))] := hD
  refine lv_icmp_le (tgt := 17) hx hb d_M_go_10 (by decide) (fun _ => ?_) (fun h => absurd (by decide +kernel) h)
  refine lv_iconst (v := 0) hx hb d_M_go_17 (by decide) ?_
  refine va_put (D := (dC, dI)) (ci := 4) (v := .int 0) (ty := .int) (C := R_M) (T := F_M) (N := 38) hx hb hts (fun w h => List.mem_cons_of_mem _ (in_M w h)) t_M tk_M n_M hown hK hP hD hS 0 rfl rfl 0 (by decide) (hts _ (List.mem_cons_of_mem _ lk_175)) (fun _ h9 => h9) rfl (by decide +kernel) rfl rfl (Nat.le_of_ble_eq_true rfl) d_M_go_18 (fun H locs hP hD hS => ?_)
  have hP : va_P (dC, dI) vwCl [(a0, .inr (4, [.int 0, .int 0, .ref r0, .int 1, .int 0, .ref r1, .ref a1, .ref r2, .ref r3, .ref r4, .int 0, .int 0, .int (-1), .int 0, .int (-1), .int 0, .ref r5, .int 0, .ref r6, .ref r7, .ref r8, .ref r9, .ref r10, .int 0, .int 0, .int 0, .ref r11, .ref r12, .int 0, .ref r13, .ref r14, .ref r15, .ref r16, .ref r17, .int 0, .int 0, .int 0, .ref r18])), (a1, .inl (t0, 40, .inl (fun _ => 0)))] H := hP
  have hD : va_D A [(a0, .inr (4, [.int 0, .int 0, .ref r0, .int 1, .int 0, .ref r1, .ref a1, .ref r2, .ref r3, .ref r4, .int 0, .int 0, .int (-1), .int 0, .int (-1), .int 0, .ref r5, .int 0, .ref r6, .ref r7, .ref r8, .ref r9, .ref r10, .int 0, .int 0, .int 0, .ref r11, .ref r12, .int 0, .ref r13, .ref r14, .ref r15, .ref r16, .ref r17, .int 0, .int 0, .int 0, .ref r18])), (a1, .inl (t0, 40, .inl (fun _ => 0)))] := hD
  refine lv_aload_n hx hb d_M_go_21 rfl (lv_at hl 0 rfl) ?_
  refine va_get (D := (dC, dI)) (ci := 4) (v := .int 0) (C := R_M) (T := F_M) (N := 38) hx hb hts (fun w h => List.mem_cons_of_mem _ (in_M w h)) hown hK hP 0 rfl rfl 0 (by decide) (hts _ (List.mem_cons_of_mem _ lk_175)) (fun _ h9 => h9) rfl d_M_go_22 ?_
  refine lv_if_le (tgt := 29) hx hb d_M_go_25 (by decide) (fun _ => ?_) (fun h => absurd (by decide +kernel) h)
  refine lv_aload_n hx hb d_M_go_29 rfl (lv_at hl 0 rfl) ?_
  refine lv_iload_n hx hb d_M_go_30 rfl (lv_at hl 2 rfl) ?_
  refine lv_if_ne (tgt := 38) hx hb d_M_go_31 (by decide) (fun h => absurd (by decide +kernel) h) (fun _ => ?_)
  refine lv_iconst (v := (-1)) hx hb d_M_go_34 (by decide) ?_
  refine lv_goto (tgt := 56) hx hb d_M_go_35 (by decide) ?_
  refine va_put (D := (dC, dI)) (ci := 4) (v := .int (-1)) (ty := .int) (C := R_M) (T := F_M) (N := 38) hx hb hts (fun w h => List.mem_cons_of_mem _ (in_M w h)) t_M tk_M n_M hown hK hP hD hS 0 rfl rfl 12 (by decide) (hts _ (List.mem_cons_of_mem _ lk_150)) (fun _ h9 => h9) rfl (by decide +kernel) rfl rfl (Nat.le_of_ble_eq_true rfl) d_M_go_56 (fun H locs hP hD hS => ?_)
  have hP : va_P (dC, dI) vwCl [(a0, .inr (4, [.int 0, .int 0, .ref r0, .int 1, .int 0, .ref r1, .ref a1, .ref r2, .ref r3, .ref r4, .int 0, .int 0, .int (-1), .int 0, .int (-1), .int 0, .ref r5, .int 0, .ref r6, .ref r7, .ref r8, .ref r9, .ref r10, .int 0, .int 0, .int 0, .ref r11, .ref r12, .int 0, .ref r13, .ref r14, .ref r15, .ref r16, .ref r17, .int 0, .int 0, .int 0, .ref r18])), (a1, .inl (t0, 40, .inl (fun _ => 0)))] H := hP
  have hD : va_D A [(a0, .inr (4, [.int 0, .int 0, .ref r0, .int 1, .int 0, .ref r1, .ref a1, .ref r2, .ref r3, .ref r4, .int 0, .int 0, .int (-1), .int 0, .int (-1), .int 0, .ref r5, .int 0, .ref r6, .ref r7, .ref r8, .ref r9, .ref r10, .int 0, .int 0, .int 0, .ref r11, .ref r12, .int 0, .ref r13, .ref r14, .ref r15, .ref r16, .ref r17, .int 0, .int 0, .int 0, .ref r18])), (a1, .inl (t0, 40, .inl (fun _ => 0)))] := hD
  refine lv_aload_n hx hb d_M_go_59 rfl (lv_at hl 0 rfl) ?_
  refine lv_iload_n hx hb d_M_go_60 rfl (lv_at hl 1 rfl) ?_
  refine va_put (D := (dC, dI)) (ci := 4) (v := .int 0) (ty := .int) (C := R_M) (T := F_M) (N := 38) hx hb hts (fun w h => List.mem_cons_of_mem _ (in_M w h)) t_M tk_M n_M hown hK hP hD hS 0 rfl rfl 11 (by decide) (hts _ (List.mem_cons_of_mem _ lk_210)) (fun _ h9 => h9) rfl (by decide +kernel) rfl rfl (Nat.le_of_ble_eq_true rfl) d_M_go_61 (fun H locs hP hD hS => ?_)
  have hP : va_P (dC, dI) vwCl [(a0, .inr (4, [.int 0, .int 0, .ref r0, .int 1, .int 0, .ref r1, .ref a1, .ref r2, .ref r3, .ref r4, .int 0, .int 0, .int (-1), .int 0, .int (-1), .int 0, .ref r5, .int 0, .ref r6, .ref r7, .ref r8, .ref r9, .ref r10, .int 0, .int 0, .int 0, .ref r11, .ref r12, .int 0, .ref r13, .ref r14, .ref r15, .ref r16, .ref r17, .int 0, .int 0, .int 0, .ref r18])), (a1, .inl (t0, 40, .inl (fun _ => 0)))] H := hP
  have hD : va_D A [(a0, .inr (4, [.int 0, .int 0, .ref r0, .int 1, .int 0, .ref r1, .ref a1, .ref r2, .ref r3, .ref r4, .int 0, .int 0, .int (-1), .int 0, .int (-1), .int 0, .ref r5, .int 0, .ref r6, .ref r7, .ref r8, .ref r9, .ref r10, .int 0, .int 0, .int 0, .ref r11, .ref r12, .int 0, .ref r13, .ref r14, .ref r15, .ref r16, .ref r17, .int 0, .int 0, .int 0, .ref r18])), (a1, .inl (t0, 40, .inl (fun _ => 0)))] := hD
  refine lv_aload_n hx hb d_M_go_64 rfl (lv_at hl 0 rfl) ?_
  refine lv_aload_n hx hb d_M_go_65 rfl (lv_at hl 0 rfl) ?_
  refine va_get (D := (dC, dI)) (ci := 4) (v := .int (-1)) (C := R_M) (T := F_M) (N := 38) hx hb hts (fun w h => List.mem_cons_of_mem _ (in_M w h)) hown hK hP 0 rfl rfl 12 (by decide) (hts _ (List.mem_cons_of_mem _ lk_150)) (fun _ h9 => h9) rfl d_M_go_66 ?_
  refine lv_aload_n hx hb d_M_go_69 rfl (lv_at hl 0 rfl) ?_
  refine va_get (D := (dC, dI)) (ci := 4) (v := .int 0) (C := R_M) (T := F_M) (N := 38) hx hb hts (fun w h => List.mem_cons_of_mem _ (in_M w h)) hown hK hP 0 rfl rfl 11 (by decide) (hts _ (List.mem_cons_of_mem _ lk_210)) (fun _ h9 => h9) rfl d_M_go_70 ?_
  refine lv_icmp_ne (tgt := 80) hx hb d_M_go_73 (by decide) (fun _ => ?_) (fun h => absurd h (by decide +kernel))
  refine lv_aload_n hx hb d_M_go_80 rfl (lv_at hl 0 rfl) ?_
  refine va_get (D := (dC, dI)) (ci := 4) (v := .int (-1)) (C := R_M) (T := F_M) (N := 38) hx hb hts (fun w h => List.mem_cons_of_mem _ (in_M w h)) hown hK hP 0 rfl rfl 12 (by decide) (hts _ (List.mem_cons_of_mem _ lk_150)) (fun _ h9 => h9) rfl d_M_go_81 ?_
  refine va_put (D := (dC, dI)) (ci := 4) (v := .int (-1)) (ty := .int) (C := R_M) (T := F_M) (N := 38) hx hb hts (fun w h => List.mem_cons_of_mem _ (in_M w h)) t_M tk_M n_M hown hK hP hD hS 0 rfl rfl 12 (by decide) (hts _ (List.mem_cons_of_mem _ lk_150)) (fun _ h9 => h9) rfl (by decide +kernel) rfl rfl (Nat.le_of_ble_eq_true rfl) d_M_go_84 (fun H locs hP hD hS => ?_)
  have hP : va_P (dC, dI) vwCl [(a0, .inr (4, [.int 0, .int 0, .ref r0, .int 1, .int 0, .ref r1, .ref a1, .ref r2, .ref r3, .ref r4, .int 0, .int 0, .int (-1), .int 0, .int (-1), .int 0, .ref r5, .int 0, .ref r6, .ref r7, .ref r8, .ref r9, .ref r10, .int 0, .int 0, .int 0, .ref r11, .ref r12, .int 0, .ref r13, .ref r14, .ref r15, .ref r16, .ref r17, .int 0, .int 0, .int 0, .ref r18])), (a1, .inl (t0, 40, .inl (fun _ => 0)))] H := hP
  have hD : va_D A [(a0, .inr (4, [.int 0, .int 0, .ref r0, .int 1, .int 0, .ref r1, .ref a1, .ref r2, .ref r3, .ref r4, .int 0, .int 0, .int (-1), .int 0, .int (-1), .int 0, .ref r5, .int 0, .ref r6, .ref r7, .ref r8, .ref r9, .ref r10, .int 0, .int 0, .int 0, .ref r11, .ref r12, .int 0, .ref r13, .ref r14, .ref r15, .ref r16, .ref r17, .int 0, .int 0, .int 0, .ref r18])), (a1, .inl (t0, 40, .inl (fun _ => 0)))] := hD
  have hP9 := hP.sub (ws' := [(a0, .inr (4, [.int 0, .int 0, .ref r0, .int 1, .int 0, .ref r1, .ref a1, .ref r2, .ref r3, .ref r4, .int 0, .int 0, .int (-1), .int 0, .int (-1), .int 0, .ref r5, .int 0, .ref r6, .ref r7, .ref r8, .ref r9, .ref r10, .int 0, .int 0, .int 0, .ref r11, .ref r12, .int 0, .ref r13, .ref r14, .ref r15, .ref r16, .ref r17, .int 0, .int 0, .int 0, .ref r18])), (a1, .inl (t0, 40, .inl (fun _ => 0)))]) [0, 1] rfl
  have hD9 := hD.sub (ws' := [(a0, .inr (4, [.int 0, .int 0, .ref r0, .int 1, .int 0, .ref r1, .ref a1, .ref r2, .ref r3, .ref r4, .int 0, .int 0, .int (-1), .int 0, .int (-1), .int 0, .ref r5, .int 0, .ref r6, .ref r7, .ref r8, .ref r9, .ref r10, .int 0, .int 0, .int 0, .ref r11, .ref r12, .int 0, .ref r13, .ref r14, .ref r15, .ref r16, .ref r17, .int 0, .int 0, .int 0, .ref r18])), (a1, .inl (t0, 40, .inl (fun _ => 0)))]) [0, 1] (by decide) rfl
  have hK9 := hK.sub (tys' := [(t0, .int)]) [0] rfl
  exact W.vret hx hb hr (fun t ht hW => ⟨⟨(), rfl, rfl, by rw [ht]; exact hP9, va_K.moved hW.alike hK9, hD9⟩, hS.F ht⟩) hS.2.2 d_M_go_87

set_option maxHeartbeats 4000000 in
set_option maxRecDepth 100000 in
theorem c_D_go_2 (l : Launch) (dC : Nat → ClassId) (dI : Nat → Nat → Nat) (a0 a1 r0 r1 r2 r3 r4 r5 : Nat) (t0 : ClassId) (sz : Nat)  : Met l y_D_go w_D_go ({ frames := 1, cells := 0, slots := 0, locals := 21 }) (va_Pc [.ref a0, .int 0, .int 1] (fun U => U.heap.size = sz ∧ va_P (dC, dI) vwCl [(a0, .inr (0, [.ref r0, .int 0, .ref r1, .int 1, .int 0, .ref a1, .int 0, .int (-1), .ref r2, .ref r3, .int 0, .int (-1), .ref r4, .ref r5])), (a1, .inl (t0, 0, .inl (fun _ => 0)))] U.heap ∧ va_K (dC, dI) vwCl [(t0, .char)] U ∧ va_D (fun _ => True) [(a0, .inr (0, [.ref r0, .int 0, .ref r1, .int 1, .int 0, .ref a1, .int 0, .int (-1), .ref r2, .ref r3, .int 0, .int (-1), .ref r4, .ref r5])), (a1, .inl (t0, 0, .inl (fun _ => 0)))])) (va_Qv (fun (u : Unit) => u = u) (fun (_ : Unit) t => va_P (dC, dI) vwCl [(a0, .inr (0, [.ref r0, .int 0, .ref r1, .int 1, .int 0, .ref a1, .int 0, .int (-1), .ref r2, .ref r3, .int 0, .int (-1), .ref r4, .ref r5])), (a1, .inl (t0, 0, .inl (fun _ => 0)))] t.heap ∧ va_K (dC, dI) vwCl [(t0, .char)] t ∧ va_D (va_A [(a0, .inr (0, [.ref r0, .int 0, .ref r1, .int 1, .int 0, .ref a1, .int 0, .int (-1), .ref r2, .ref r3, .int 0, .int (-1), .ref r4, .ref r5])), (a1, .inl (t0, 0, .inl (fun _ => 0)))] sz) [(a0, .inr (0, [.ref r0, .int 0, .ref r1, .int 1, .int 0, .ref a1, .int 0, .int (-1), .ref r2, .ref r3, .int 0, .int (-1), .ref r4, .ref r5])), (a1, .inl (t0, 0, .inl (fun _ => 0)))]) (va_A [(a0, .inr (0, [.ref r0, .int 0, .ref r1, .int 1, .int 0, .ref a1, .int 0, .int (-1), .ref r2, .ref r3, .int 0, .int (-1), .ref r4, .ref r5])), (a1, .inl (t0, 0, .inl (fun _ => 0)))] sz)) 0 0 (va_A [(a0, .inr (0, [.ref r0, .int 0, .ref r1, .int 1, .int 0, .ref a1, .int 0, .int (-1), .ref r2, .ref r3, .int 0, .int (-1), .ref r4, .ref r5])), (a1, .inl (t0, 0, .inl (fun _ => 0)))] sz) := by
  refine Met.ofW (cc := prog_1_method_6_code) (maxL := 3) (ret := none) (by decide) rfl ?_
  intro p e s m args below meth c s₁ B hml hv
  obtain ⟨rfl, hsz, hP, hK, hD0⟩ := hv
  have hx := B.exec
  have hb := B.bytes
  have hr := B.returns
  have hts := atoms_spec (ws := w_D_go) B.pre
  have hown : s.vm.findClass R_D = some m.cls := findClass_of_methodNamed B.named
  have hlocks := B.notSynchronized
  subst hsz
  have hD := hD0.self (sz := s.heap.size)
  generalize hAe : va_A [(a0, .inr (0, [.ref r0, .int 0, .ref r1, .int 1, .int 0, .ref a1, .int 0, .int (-1), .ref r2, .ref r3, .int 0, .int (-1), .ref r4, .ref r5])), (a1, .inl (t0, 0, .inl (fun _ => 0)))] s.heap.size = A at hD ⊢
  have hA : ∀ q : Nat, s.heap.size ≤ q → A q := fun q h => by rw [← hAe]; exact Or.inr h
  have hS : va_S A s.heap s.heap [] := va_S.rf
  have hP : va_P (dC, dI) vwCl [(a0, .inr (0, [.ref r0, .int 0, .ref r1, .int 1, .int 0, .ref a1, .int 0, .int (-1), .ref r2, .ref r3, .int 0, .int (-1), .ref r4, .ref r5])), (a1, .inl (t0, 0, .inl (fun _ => 0)))] s.heap := hP
  have hl := lv_entry ([.ref a0, .int 0, .int 1]) (n := 3) (Nat.le_of_ble_eq_true rfl)
  rw [lg_entry_eq]
  generalize (lg_sl ([.ref a0, .int 0, .int 1]) ++ List.replicate (3 - (lg_sl ([.ref a0, .int 0, .int 1])).length) Slot.unset).toArray = ls at hl ⊢
  have hl : lv_has ls 3 [(0, .ref a0), (1, .int 0), (2, .int 1)] := hl
  refine lv_aload_n hx hb d_D_go_0 rfl (lv_at hl 0 rfl) ?_
  refine lv_iload_n hx hb d_D_go_1 rfl (lv_at hl 1 rfl) ?_
  have hPc := hP.sub (ws' := [(a0, .inr (0, [.ref r0, .int 0, .ref r1, .int 1, .int 0, .ref a1, .int 0, .int (-1), .ref r2, .ref r3, .int 0, .int (-1), .ref r4, .ref r5])), (a1, .inl (t0, 0, .inl (fun _ => 0)))]) [0, 1] rfl
  have hDc := hD.sub (ws' := [(a0, .inr (0, [.ref r0, .int 0, .ref r1, .int 1, .int 0, .ref a1, .int 0, .int (-1), .ref r2, .ref r3, .int 0, .int (-1), .ref r4, .ref r5])), (a1, .inl (t0, 0, .inl (fun _ => 0)))]) [0, 1] (by decide) rfl
  have hKc := hK.sub (tys' := [(t0, .char)]) [0] rfl
  have hFc := va_free (wc := [(a0, .inr (0, [.ref r0, .int 0, .ref r1, .int 1, .int 0, .ref a1, .int 0, .int (-1), .ref r2, .ref r3, .int 0, .int (-1), .ref r4, .ref r5])), (a1, .inl (t0, 0, .inl (fun _ => 0)))]) hD hS hA [0, 1] rfl
  refine va_callv (va_runV (As := [.int 0]) (rest := []) ⟨hx, hb, hml, hown, hts⟩ (c_D_requirePlace l dC dI a0 a1 r0 r1 r2 r3 r4 r5 t0 s.heap.size) (cwV 1 hts (gd_v lk_251 lk_252 lk_253 lk_16 lk_250) rfl rfl rfl (by decide +kernel) ⟨Nat.le_of_ble_eq_true rfl, Nat.le_of_ble_eq_true rfl⟩) ⟨fun a U g mk q => by obtain ⟨q0, q1, qP, qK, qD⟩ := q; exact ⟨q0, q1, qP, va_K.moved (u := U) (U := U.calling g mk a) (Vm.Alike.refl U.vm) qK, qD⟩, va_recv (ci := 0) (q0 := 0) hK hP rfl rfl, fun U hU hW => ⟨rfl, by rw [hU], by rw [hU]; exact hPc, va_K.moved hW.alike hKc, hDc.weaken (fun _ _ _ _ => trivial)⟩⟩ rfl rfl hl.1 rfl (lv_room (Nat.le_of_ble_eq_true rfl)) d_D_go_2 ⟨Nat.le_of_ble_eq_true rfl, Nat.le_of_ble_eq_true rfl⟩) hS (fun q _ h => hFc q h) hFc (fun u t H1 locs ht hvm hw hB hz1 hk1 hS => ?_)
  obtain ⟨hP1, hK1, hD1⟩ := hB
  rw [ht] at hP1
  have hK1 := va_K.moved hvm.symm hK1
  obtain ⟨hP, hD⟩ := va_join (wr := []) (w1 := [(a0, .inr (0, [.ref r0, .int 0, .ref r1, .int 1, .int 0, .ref a1, .int 0, .int (-1), .ref r2, .ref r3, .int 0, .int (-1), .ref r4, .ref r5])), (a1, .inl (t0, 0, .inl (fun _ => 0)))]) hP hD [0, 1] [] rfl rfl (by decide) (by decide) hk1 hFc hP1 hD1
  generalize H1 = H at hP hS ⊢
  have hP : va_P (dC, dI) vwCl [(a0, .inr (0, [.ref r0, .int 0, .ref r1, .int 1, .int 0, .ref a1, .int 0, .int (-1), .ref r2, .ref r3, .int 0, .int (-1), .ref r4, .ref r5])), (a1, .inl (t0, 0, .inl (fun _ => 0)))] H := hP
  have hD : va_D A [(a0, .inr (0, [.ref r0, .int 0, .ref r1, .int 1, .int 0, .ref a1, .int 0, .int (-1), .ref r2, .ref r3, .int 0, .int (-1), .ref r4, .ref r5])), (a1, .inl (t0, 0, .inl (fun _ => 0)))] := hD
  refine lv_iload_n hx hb d_D_go_5 rfl (lv_at hl 2 rfl) ?_
  refine lv_if_ne (tgt := 17) hx hb d_D_go_6 (by decide) (fun _ => ?_) (fun h => absurd h (by decide +kernel))
  refine lv_aload_n hx hb d_D_go_17 rfl (lv_at hl 0 rfl) ?_
  refine va_get (D := (dC, dI)) (ci := 0) (v := .int (-1)) (C := R_D) (T := F_D) (N := 14) hx hb hts (fun w h => List.mem_cons_of_mem _ (in_D w h)) hown hK hP 0 rfl rfl 7 (by decide) (hts _ (List.mem_cons_of_mem _ lk_40)) (fun _ h9 => h9) rfl d_D_go_18 ?_
  refine lv_iconst (v := (-1)) hx hb d_D_go_21 (by decide) ?_
  refine lv_icmp_ne (tgt := 33) hx hb d_D_go_22 (by decide) (fun h => absurd (by decide +kernel) h) (fun _ => ?_)
  refine lv_aload_n hx hb d_D_go_25 rfl (lv_at hl 0 rfl) ?_
  refine lv_aload_n hx hb d_D_go_26 rfl (lv_at hl 0 rfl) ?_
  refine va_get (D := (dC, dI)) (ci := 0) (v := .int 0) (C := R_D) (T := F_D) (N := 14) hx hb hts (fun w h => List.mem_cons_of_mem _ (in_D w h)) hown hK hP 0 rfl rfl 6 (by decide) (hts _ (List.mem_cons_of_mem _ lk_192)) (fun _ h9 => h9) rfl d_D_go_27 ?_
  refine va_put (D := (dC, dI)) (ci := 0) (v := .int 0) (ty := .int) (C := R_D) (T := F_D) (N := 14) hx hb hts (fun w h => List.mem_cons_of_mem _ (in_D w h)) t_D tk_D n_D hown hK hP hD hS 0 rfl rfl 7 (by decide) (hts _ (List.mem_cons_of_mem _ lk_40)) (fun _ h9 => h9) rfl (by decide +kernel) rfl rfl (Nat.le_of_ble_eq_true rfl) d_D_go_30 (fun H locs hP hD hS => ?_)
  have hP : va_P (dC, dI) vwCl [(a0, .inr (0, [.ref r0, .int 0, .ref r1, .int 1, .int 0, .ref a1, .int 0, .int 0, .ref r2, .ref r3, .int 0, .int (-1), .ref r4, .ref r5])), (a1, .inl (t0, 0, .inl (fun _ => 0)))] H := hP
  have hD : va_D A [(a0, .inr (0, [.ref r0, .int 0, .ref r1, .int 1, .int 0, .ref a1, .int 0, .int 0, .ref r2, .ref r3, .int 0, .int (-1), .ref r4, .ref r5])), (a1, .inl (t0, 0, .inl (fun _ => 0)))] := hD
  refine lv_aload_n hx hb d_D_go_33 rfl (lv_at hl 0 rfl) ?_
  refine lv_iload_n hx hb d_D_go_34 rfl (lv_at hl 1 rfl) ?_
  refine va_put (D := (dC, dI)) (ci := 0) (v := .int 0) (ty := .int) (C := R_D) (T := F_D) (N := 14) hx hb hts (fun w h => List.mem_cons_of_mem _ (in_D w h)) t_D tk_D n_D hown hK hP hD hS 0 rfl rfl 6 (by decide) (hts _ (List.mem_cons_of_mem _ lk_192)) (fun _ h9 => h9) rfl (by decide +kernel) rfl rfl (Nat.le_of_ble_eq_true rfl) d_D_go_35 (fun H locs hP hD hS => ?_)
  have hP : va_P (dC, dI) vwCl [(a0, .inr (0, [.ref r0, .int 0, .ref r1, .int 1, .int 0, .ref a1, .int 0, .int 0, .ref r2, .ref r3, .int 0, .int (-1), .ref r4, .ref r5])), (a1, .inl (t0, 0, .inl (fun _ => 0)))] H := hP
  have hD : va_D A [(a0, .inr (0, [.ref r0, .int 0, .ref r1, .int 1, .int 0, .ref a1, .int 0, .int 0, .ref r2, .ref r3, .int 0, .int (-1), .ref r4, .ref r5])), (a1, .inl (t0, 0, .inl (fun _ => 0)))] := hD
  refine lv_aload_n hx hb d_D_go_38 rfl (lv_at hl 0 rfl) ?_
  refine va_get (D := (dC, dI)) (ci := 0) (v := .int 0) (C := R_D) (T := F_D) (N := 14) hx hb hts (fun w h => List.mem_cons_of_mem _ (in_D w h)) hown hK hP 0 rfl rfl 7 (by decide) (hts _ (List.mem_cons_of_mem _ lk_40)) (fun _ h9 => h9) rfl d_D_go_39 ?_
  refine lv_aload_n hx hb d_D_go_42 rfl (lv_at hl 0 rfl) ?_
  refine va_get (D := (dC, dI)) (ci := 0) (v := .int 0) (C := R_D) (T := F_D) (N := 14) hx hb hts (fun w h => List.mem_cons_of_mem _ (in_D w h)) hown hK hP 0 rfl rfl 6 (by decide) (hts _ (List.mem_cons_of_mem _ lk_192)) (fun _ h9 => h9) rfl d_D_go_43 ?_
  refine lv_icmp_ne (tgt := 54) hx hb d_D_go_46 (by decide) (fun h => absurd (by decide +kernel) h) (fun _ => ?_)
  refine lv_aload_n hx hb d_D_go_49 rfl (lv_at hl 0 rfl) ?_
  refine lv_iconst (v := (-1)) hx hb d_D_go_50 (by decide) ?_
  refine va_put (D := (dC, dI)) (ci := 0) (v := .int (-1)) (ty := .int) (C := R_D) (T := F_D) (N := 14) hx hb hts (fun w h => List.mem_cons_of_mem _ (in_D w h)) t_D tk_D n_D hown hK hP hD hS 0 rfl rfl 7 (by decide) (hts _ (List.mem_cons_of_mem _ lk_40)) (fun _ h9 => h9) rfl (by decide +kernel) rfl rfl (Nat.le_of_ble_eq_true rfl) d_D_go_51 (fun H locs hP hD hS => ?_)
  have hP : va_P (dC, dI) vwCl [(a0, .inr (0, [.ref r0, .int 0, .ref r1, .int 1, .int 0, .ref a1, .int 0, .int (-1), .ref r2, .ref r3, .int 0, .int (-1), .ref r4, .ref r5])), (a1, .inl (t0, 0, .inl (fun _ => 0)))] H := hP
  have hD : va_D A [(a0, .inr (0, [.ref r0, .int 0, .ref r1, .int 1, .int 0, .ref a1, .int 0, .int (-1), .ref r2, .ref r3, .int 0, .int (-1), .ref r4, .ref r5])), (a1, .inl (t0, 0, .inl (fun _ => 0)))] := hD
  have hP9 := hP.sub (ws' := [(a0, .inr (0, [.ref r0, .int 0, .ref r1, .int 1, .int 0, .ref a1, .int 0, .int (-1), .ref r2, .ref r3, .int 0, .int (-1), .ref r4, .ref r5])), (a1, .inl (t0, 0, .inl (fun _ => 0)))]) [0, 1] rfl
  have hD9 := hD.sub (ws' := [(a0, .inr (0, [.ref r0, .int 0, .ref r1, .int 1, .int 0, .ref a1, .int 0, .int (-1), .ref r2, .ref r3, .int 0, .int (-1), .ref r4, .ref r5])), (a1, .inl (t0, 0, .inl (fun _ => 0)))]) [0, 1] (by decide) rfl
  have hK9 := hK.sub (tys' := [(t0, .char)]) [0] rfl
  exact W.vret hx hb hr (fun t ht hW => ⟨⟨(), rfl, rfl, by rw [ht]; exact hP9, va_K.moved hW.alike hK9, hD9⟩, hS.F ht⟩) hS.2.2 d_D_go_54

