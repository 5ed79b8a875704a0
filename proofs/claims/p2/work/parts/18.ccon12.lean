set_option maxHeartbeats 8000000 in
set_option maxRecDepth 100000 in
theorem cm_D_wipe (l : Launch) (dC : Nat → ClassId) (dI : Nat → Nat → Nat) (h : Nat) (q : Nat → Nat) (g : Nat → ClassId) (hp : Nat) (qp : Nat → Nat) (gp : Nat → ClassId) (tq : Nat) (tg : ClassId) (tn : Nat) (tx : Nat → Int32) (sz : Nat) (I : MI) (A : MA) (M : MI) (MB : MA) (L : ML) (r : Int32) (I' : MI) (A' : MA) (M' : MI) (MB' : MA) (L' : ML) (hf : f_D_wipe tn tx I A M MB L  = some (r, I', A', M', MB', L')) : Met l y_D_wipe w_D_wipe ({ frames := 0, cells := 0, slots := 0, locals := 0 }) (va_Pc [.ref h] (fun U => U.heap.size = sz ∧ va_P (dC, dI) vwCl (dw_W h q g hp qp gp tq tg tn tx I A M MB L) U.heap ∧ va_K (dC, dI) vwCl (dw_T h q g hp qp gp tq tg tn tx) U ∧ va_D (fun _ => True) (dw_W h q g hp qp gp tq tg tn tx I A M MB L))) (va_Qi (fun (r9 : Int32) (_ : Unit) => r9 = r) (fun (_ : Unit) t => va_P (dC, dI) vwCl (dw_W h q g hp qp gp tq tg tn tx I' A' M' MB' L') t.heap ∧ va_K (dC, dI) vwCl (dw_T h q g hp qp gp tq tg tn tx) t ∧ va_D (va_A (dw_W h q g hp qp gp tq tg tn tx I A M MB L) sz) (dw_W h q g hp qp gp tq tg tn tx I' A' M' MB' L')) (va_A (dw_W h q g hp qp gp tq tg tn tx I A M MB L) sz)) 0 0 (va_A (dw_W h q g hp qp gp tq tg tn tx I A M MB L) sz) := by
  refine Met.ofW (cc := prog_1_method_3_code) (maxL := 2) (ret := (some .int)) (by decide) rfl ?_
  intro p e s m args below meth c s₁ B hml hv
  obtain ⟨rfl, hsz, hP, hK, hD0⟩ := hv
  have hx := B.exec
  have hb := B.bytes
  have hr := B.returns
  have hts := atoms_spec (ws := w_D_wipe) B.pre
  have hown : s.vm.findClass "DraftTree" = some m.cls := findClass_of_methodNamed B.named
  have hlocks := B.notSynchronized
  subst hsz
  have hD := hD0.self (sz := s.heap.size)
  generalize hAe : va_A (dw_W h q g hp qp gp tq tg tn tx I A M MB L) s.heap.size = B9 at hD ⊢
  have hA : ∀ q : Nat, s.heap.size ≤ q → B9 q := fun q h => by rw [← hAe]; exact Or.inr h
  clear hAe
  have hS : va_S B9 s.heap s.heap [] := va_S.rf
  have hl := lv_entry ([.ref h]) (n := 2) (Nat.le_of_ble_eq_true rfl)
  rw [lg_entry_eq]
  generalize (lg_sl ([.ref h]) ++ List.replicate (2 - (lg_sl ([.ref h])).length) Slot.unset).toArray = ls at hl ⊢
  have hl : lv_has ls 2 [(0, .ref h)] := hl
  unfold f_D_wipe at hf
  refine lv_aload_n hx hb d_D_wipe_0 rfl (lv_at hl 0 rfl) ?_
  refine va_get (D := (dC, dI)) (ci := 0) (v := .int (I 1)) (C := R_D) (T := F_D) (N := 14) hx hb hts (fun w h => List.mem_cons_of_mem _ (in_D w h)) hown hK hP 0 rfl rfl 1 (by decide) (hts _ (List.mem_cons_of_mem _ lk_312)) (fun _ h9 => h9) rfl d_D_wipe_1 ?_
  refine lv_istore_n (lv' := [(1, .int (I 1)), (0, .ref h)]) hx hb d_D_wipe_4 rfl hl (by decide) rfl (fun ls hl => ?_)
  have hl : lv_has ls 2 [(1, .int (I 1)), (0, .ref h)] := hl
  refine lv_aload_n hx hb d_D_wipe_5 rfl (lv_at hl 1 rfl) ?_
  refine lv_iconst (v := 0) hx hb d_D_wipe_6 (by decide) ?_
  refine va_put (D := (dC, dI)) (ci := 0) (v := .int 0) (ty := .int) (C := R_D) (T := F_D) (N := 14) hx hb hts (fun w h => List.mem_cons_of_mem _ (in_D w h)) t_D tk_D n_D hown hK hP hD hS 0 rfl rfl 1 (by decide) (hts _ (List.mem_cons_of_mem _ lk_312)) (fun _ h9 => h9) rfl (by decide +kernel) rfl rfl (Nat.le_of_ble_eq_true rfl) d_D_wipe_7 (fun H locs hP hD hS => ?_)
  obtain ⟨I1, hI1, hf⟩ := wk_letE hf
  have hP : va_P (dC, dI) vwCl (dw_W h q g hp qp gp tq tg tn tx I1 A M MB L) H := by rw [hI1]; exact hP
  have hD : va_D B9 (dw_W h q g hp qp gp tq tg tn tx I1 A M MB L) := by rw [hI1]; exact hD
  clear hI1
  refine lv_iload_n hx hb d_D_wipe_10 rfl (lv_at hl 0 rfl) ?_
  obtain ⟨e0, e1, e2, e3, e4, e5⟩ := wk_inj5 hf
  subst e0
  subst e1
  subst e2
  subst e3
  subst e4
  subst e5
  exact W.iret (v := (I 1)) hx hb hr (fun t ht hW => ⟨⟨(I 1), (), rfl, rfl, by rw [ht]; exact hP, va_K.moved hW.alike hK, hD⟩, hS.F ht⟩) hS.2.2 d_D_wipe_11

set_option maxHeartbeats 8000000 in
set_option maxRecDepth 100000 in
theorem cm_S_init (l : Launch) (dC : Nat → ClassId) (dI : Nat → Nat → Nat) (h : Nat) (tv : Value) (tr : Nat) (sz : Nat) (I : MI) (k2 : Int32) (k3 : Int32) (r : Int32) (I' : MI) (hf : f_S_init I  k2 k3 = some (r, I')) : Met l y_S_init w_S_init ({ frames := 1, cells := 0, slots := 0, locals := 12 }) (va_Pc [.ref h, .ref tr, .int k2, .int k3] (fun U => U.heap.size = sz ∧ va_P (dC, dI) vwCl (sw_W h tv I) U.heap ∧ va_K (dC, dI) vwCl (sw_T h tv) U ∧ va_D (fun _ => True) (sw_W h tv I))) (va_Qv (fun (u : Unit) => u = u) (fun (_ : Unit) t => va_P (dC, dI) vwCl (sw_W h (.ref tr) I') t.heap ∧ va_K (dC, dI) vwCl (sw_T h tv) t ∧ va_D (va_A (sw_W h tv I) sz) (sw_W h (.ref tr) I')) (va_A (sw_W h tv I) sz)) 0 0 (va_A (sw_W h tv I) sz) := by
  refine Met.ofW (cc := prog_4_method_1_code) (maxL := 4) (ret := none) (by decide) rfl ?_
  intro p e s m args below meth c s₁ B hml hv
  obtain ⟨rfl, hsz, hP, hK, hD0⟩ := hv
  have hx := B.exec
  have hb := B.bytes
  have hr := B.returns
  have hts := atoms_spec (ws := w_S_init) B.pre
  have hown : s.vm.findClass "DraftTree$State" = some m.cls := findClass_of_methodNamed B.named
  have hlocks := B.notSynchronized
  have hin : meth.name = "<init>" := (name_of_methodNamed B.named B.method).1
  subst hsz
  have hD := hD0.self (sz := s.heap.size)
  generalize hAe : va_A (sw_W h tv I) s.heap.size = B9 at hD ⊢
  have hA : ∀ q : Nat, s.heap.size ≤ q → B9 q := fun q h => by rw [← hAe]; exact Or.inr h
  clear hAe
  have hS : va_S B9 s.heap s.heap [] := va_S.rf
  have hl := lv_entry ([.ref h, .ref tr, .int k2, .int k3]) (n := 4) (Nat.le_of_ble_eq_true rfl)
  rw [lg_entry_eq]
  generalize (lg_sl ([.ref h, .ref tr, .int k2, .int k3]) ++ List.replicate (4 - (lg_sl ([.ref h, .ref tr, .int k2, .int k3])).length) Slot.unset).toArray = ls at hl ⊢
  have hl : lv_has ls 4 [(0, .ref h), (1, .ref tr), (2, .int k2), (3, .int k3)] := hl
  unfold f_S_init at hf
  refine lv_aload_n hx hb d_S_init_0 rfl (lv_at hl 0 rfl) ?_
  refine W.objInit hx hb hown (hts _ (List.mem_cons_of_mem _ lk_487)) (hts _ (List.mem_cons_of_mem _ lk_488)) (hts _ (List.mem_cons_of_mem _ lk_489)) rfl (by rw [hml]; exact hl.1) rfl d_S_init_1 (Nat.le_of_ble_eq_true rfl) (Nat.le_of_ble_eq_true rfl) ?_
  refine W.eq (g2 := F0 m 4 ls []) rfl ?_
  refine lv_aload_n hx hb d_S_init_4 rfl (lv_at hl 0 rfl) ?_
  refine lv_aload_n hx hb d_S_init_5 rfl (lv_at hl 1 rfl) ?_
  refine va_putF (D := (dC, dI)) (ci := 1) (v := .ref tr) (ty := .array .char) (C := R_S) (T := F_S) (N := 4) hx hb hts (fun w h => List.mem_cons_of_mem _ (in_S w h)) t_S tk_S n_S hown hK hP hD hS 0 rfl rfl 0 (by decide) (hts _ (List.mem_cons_of_mem _ lk_490)) (fun _ h9 => h9) rfl hin rfl (by decide +kernel) rfl rfl (Nat.le_of_ble_eq_true rfl) d_S_init_6 (fun H locs hP hD hS => ?_)
  have hP : va_P (dC, dI) vwCl (sw_W h (.ref tr) I) H := hP
  have hD : va_D B9 (sw_W h (.ref tr) I) := hD
  refine lv_aload_n hx hb d_S_init_9 rfl (lv_at hl 0 rfl) ?_
  refine lv_iload_n hx hb d_S_init_10 rfl (lv_at hl 2 rfl) ?_
  refine va_put (D := (dC, dI)) (ci := 1) (v := .int k2) (ty := .int) (C := R_S) (T := F_S) (N := 4) hx hb hts (fun w h => List.mem_cons_of_mem _ (in_S w h)) t_S tk_S n_S hown hK hP hD hS 0 rfl rfl 2 (by decide) (hts _ (List.mem_cons_of_mem _ lk_491)) (fun _ h9 => h9) rfl (by decide +kernel) rfl rfl (Nat.le_of_ble_eq_true rfl) d_S_init_11 (fun H locs hP hD hS => ?_)
  obtain ⟨I1, hI1, hf⟩ := wk_letE hf
  have hP : va_P (dC, dI) vwCl (sw_W h (.ref tr) I1) H := by rw [hI1]; exact hP
  have hD : va_D B9 (sw_W h (.ref tr) I1) := by rw [hI1]; exact hD
  clear hI1
  refine lv_aload_n hx hb d_S_init_14 rfl (lv_at hl 0 rfl) ?_
  refine lv_iload_n hx hb d_S_init_15 rfl (lv_at hl 3 rfl) ?_
  refine va_putF (D := (dC, dI)) (ci := 1) (v := .int k3) (ty := .int) (C := R_S) (T := F_S) (N := 4) hx hb hts (fun w h => List.mem_cons_of_mem _ (in_S w h)) t_S tk_S n_S hown hK hP hD hS 0 rfl rfl 1 (by decide) (hts _ (List.mem_cons_of_mem _ lk_492)) (fun _ h9 => h9) rfl hin rfl (by decide +kernel) rfl rfl (Nat.le_of_ble_eq_true rfl) d_S_init_16 (fun H locs hP hD hS => ?_)
  obtain ⟨I2, hI2, hf⟩ := wk_letE hf
  have hP : va_P (dC, dI) vwCl (sw_W h (.ref tr) I2) H := by rw [hI2]; exact hP
  have hD : va_D B9 (sw_W h (.ref tr) I2) := by rw [hI2]; exact hD
  clear hI2
  refine lv_aload_n hx hb d_S_init_19 rfl (lv_at hl 0 rfl) ?_
  refine lv_iconst (v := (-1)) hx hb d_S_init_20 (by decide) ?_
  refine va_put (D := (dC, dI)) (ci := 1) (v := .int (-1)) (ty := .int) (C := R_S) (T := F_S) (N := 4) hx hb hts (fun w h => List.mem_cons_of_mem _ (in_S w h)) t_S tk_S n_S hown hK hP hD hS 0 rfl rfl 3 (by decide) (hts _ (List.mem_cons_of_mem _ lk_493)) (fun _ h9 => h9) rfl (by decide +kernel) rfl rfl (Nat.le_of_ble_eq_true rfl) d_S_init_21 (fun H locs hP hD hS => ?_)
  obtain ⟨I3, hI3, hf⟩ := wk_letE hf
  have hP : va_P (dC, dI) vwCl (sw_W h (.ref tr) I3) H := by rw [hI3]; exact hP
  have hD : va_D B9 (sw_W h (.ref tr) I3) := by rw [hI3]; exact hD
  clear hI3
  obtain ⟨e0, e1⟩ := wk_inj1 hf
  subst e0
  subst e1
  exact W.vret hx hb hr (fun t ht hW => ⟨⟨(), rfl, rfl, by rw [ht]; exact hP, va_K.moved hW.alike hK, hD⟩, hS.F ht⟩) hS.2.2 d_S_init_24

