set_option maxHeartbeats 8000000 in
set_option maxRecDepth 100000 in
theorem cm_D_undo (l : Launch) (dC : Nat → ClassId) (dI : Nat → Nat → Nat) (h : Nat) (q : Nat → Nat) (g : Nat → ClassId) (hj : Nat) (pt : Nat) (tg : ClassId) (sa : Nat → Nat) (ta : Nat → Nat) (n : Nat) (SO : Nat → Int32) (tn : Nat → Nat) (tx : Nat → Nat → Int32) (sz : Nat) (I : MI) (cx : Nat) (SP : MI) (SL : MI) (r : Int32) (I' : MI) (cx' : Nat) (SP' : MI) (SL' : MI) (hf : f_D_undo n SO I cx SP SL  = some (0, r, I', cx', SP', SL')) : Met l y_D_undo w_D_undo ({ frames := 1, cells := 0, slots := 0, locals := 22 }) (va_Pc [.ref h] (fun U => U.heap.size = sz ∧ va_P (dC, dI) vwCl (tw_W h q g hj pt tg sa ta n SO tn tx I cx SP SL) U.heap ∧ va_K (dC, dI) vwCl (tw_T h q g hj pt tg sa ta n SO tn tx) U ∧ va_D (fun _ => True) (tw_W h q g hj pt tg sa ta n SO tn tx I cx SP SL))) (va_Qi (fun (r9 : Int32) (_ : Unit) => r9 = r) (fun (_ : Unit) t => va_P (dC, dI) vwCl (tw_W h q g hj pt tg sa ta n SO tn tx I' cx' SP' SL') t.heap ∧ va_K (dC, dI) vwCl (tw_T h q g hj pt tg sa ta n SO tn tx) t ∧ va_D (va_A (tw_W h q g hj pt tg sa ta n SO tn tx I cx SP SL) sz) (tw_W h q g hj pt tg sa ta n SO tn tx I' cx' SP' SL')) (va_A (tw_W h q g hj pt tg sa ta n SO tn tx I cx SP SL) sz)) 0 0 (va_A (tw_W h q g hj pt tg sa ta n SO tn tx I cx SP SL) sz) := by
  refine Met.ofW (cc := prog_1_method_11_code) (maxL := 2) (ret := (some .int)) (by decide) rfl ?_
  intro p e s m args below meth c s₁ B hml hv
  obtain ⟨rfl, hsz, hP, hK, hD0⟩ := hv
  have hx := B.exec
  have hb := B.bytes
  have hr := B.returns
  have hts := atoms_spec (ws := w_D_undo) B.pre
  have hown : s.vm.findClass "DraftTree" = some m.cls := findClass_of_methodNamed B.named
  have hlocks := B.notSynchronized
  subst hsz
  have hD := hD0.self (sz := s.heap.size)
  generalize hAe : va_A (tw_W h q g hj pt tg sa ta n SO tn tx I cx SP SL) s.heap.size = B9 at hD ⊢
  have hA : ∀ q : Nat, s.heap.size ≤ q → B9 q := fun q h => by rw [← hAe]; exact Or.inr h
  clear hAe
  have hS : va_S B9 s.heap s.heap [] := va_S.rf
  have hl := lv_entry ([.ref h]) (n := 2) (Nat.le_of_ble_eq_true rfl)
  rw [lg_entry_eq]
  generalize (lg_sl ([.ref h]) ++ List.replicate (2 - (lg_sl ([.ref h])).length) Slot.unset).toArray = ls at hl ⊢
  have hl : lv_has ls 2 [(0, .ref h)] := hl
  unfold f_D_undo at hf
  refine lv_aload_n hx hb d_D_undo_0 rfl (lv_at hl 0 rfl) ?_
  refine va_get (D := (dC, dI)) (ci := 0) (v := .ref (q 2)) (C := R_D) (T := F_D) (N := 14) hx hb hts (fun w h => List.mem_cons_of_mem _ (in_D w h)) hown hK hP 0 rfl rfl 2 (by decide) (hts _ (List.mem_cons_of_mem _ lk_455)) (fun _ h9 => h9) rfl d_D_undo_1 ?_
  refine lv_aload_n hx hb d_D_undo_4 rfl (lv_at hl 0 rfl) ?_
  refine va_get (D := (dC, dI)) (ci := 0) (v := .int (I 4)) (C := R_D) (T := F_D) (N := 14) hx hb hts (fun w h => List.mem_cons_of_mem _ (in_D w h)) hown hK hP 0 rfl rfl 4 (by decide) (hts _ (List.mem_cons_of_mem _ lk_435)) (fun _ h9 => h9) rfl d_D_undo_5 ?_
  obtain ⟨hc1, hf⟩ := wk_if hf
  obtain ⟨hc1n, hf⟩ := wk_if hf
  have hc1i := wk_inb_lt hc1n
  refine va_aldq hx hb hK hP 1 0 rfl rfl (wk_inb_ok hc1) d_D_undo_8 ?_
  refine wk_top (w := .ref (sa ((I 4)).toNatClampNeg)) (tw_rf hc1i) ?_
  refine va_get (D := (dC, dI)) (ci := 1) (v := .int (SO ((I 4)).toNatClampNeg)) (C := R_S) (T := F_S) (N := 4) hx hb hts (fun w h => List.mem_cons_of_mem _ (in_S w h)) hown hK hP (2 + ((I 4)).toNatClampNeg) (va_poolAt rfl hc1i) rfl 1 (by decide) (hts _ (List.mem_cons_of_mem _ lk_462)) (fun _ h9 => h9) rfl d_D_undo_9 ?_
  refine lv_istore_n (lv' := [(1, .int (SO ((I 4)).toNatClampNeg)), (0, .ref h)]) hx hb d_D_undo_12 rfl hl (by decide) rfl (fun ls hl => ?_)
  have hl : lv_has ls 2 [(1, .int (SO ((I 4)).toNatClampNeg)), (0, .ref h)] := hl
  refine lv_iload_n hx hb d_D_undo_13 rfl (lv_at hl 0 rfl) ?_
  refine lv_iconst (v := (-1)) hx hb d_D_undo_14 (by decide) ?_
  refine lv_icmp_ne (tgt := 26) hx hb d_D_undo_15 (by decide) (fun hc2 => ?_) (fun hc2 => ?_)
  ·
    have hf := wk_iff hc2 hf
    refine lv_aload_n hx hb d_D_undo_26 rfl (lv_at hl 1 rfl) ?_
    refine lv_iload_n hx hb d_D_undo_27 rfl (lv_at hl 0 rfl) ?_
    have hFc := va_freeM (wc := (tw_W h q g hj pt tg sa ta n SO tn tx I cx SP SL)) hD hS hA (fun _ h9 => h9)
    cases hg1 : f_D_moveTo n SO I cx SP SL (SO ((I 4)).toNatClampNeg) with
    | none => rw [hg1] at hf; cases hf
    | some z1 =>
      obtain ⟨r1, I1, cx1, SP1, SL1⟩ := z1
      rw [hg1] at hf
      dsimp only [Option.bind_some] at hf
      refine va_callv (va_runV (As := [.int (SO ((I 4)).toNatClampNeg)]) (rest := []) ⟨hx, hb, hml, hown, hts⟩ (cm_D_moveTo l dC dI h q g hj pt tg sa ta n SO tn tx _  I cx SP SL (SO ((I 4)).toNatClampNeg) r1 I1 cx1 SP1 SL1 hg1) (cwV 1 hts (gd_v lk_465 lk_466 lk_467 lk_444 lk_464) rfl rfl rfl (by decide +kernel) ⟨Nat.le_of_ble_eq_true rfl, Nat.le_of_ble_eq_true rfl⟩) ⟨fun a U g mk q => by obtain ⟨q0, q1, qP, qK, qD⟩ := q; exact ⟨q0, q1, qP, va_K.moved (u := U) (U := U.calling g mk a) (Vm.Alike.refl U.vm) qK, qD⟩, va_recv (ci := 0) (q0 := 0) hK hP rfl rfl, fun U hU hW => ⟨rfl, by rw [hU], by rw [hU]; exact hP, va_K.moved hW.alike hK, hD.weaken (fun _ _ _ _ => trivial)⟩⟩ rfl rfl hl.1 rfl (lv_room (Nat.le_of_ble_eq_true rfl)) d_D_undo_28 ⟨Nat.le_of_ble_eq_true rfl, Nat.le_of_ble_eq_true rfl⟩) hS (fun q _ h => hFc q h) hFc (fun u t H1 locs ht hvm hw hB hz1 hk1 hS => ?_)
      obtain ⟨hP1, hK1, hD1⟩ := hB
      rw [ht] at hP1
      have hP := hP1
      have hD := hD1.weaken (fun _ q _ h => hFc q.1 h)
      generalize H1 = H at hP hS ⊢
      refine lv_aload_n hx hb d_D_undo_31 rfl (lv_at hl 1 rfl) ?_
      refine va_get (D := (dC, dI)) (ci := 0) (v := .int (I1 4)) (C := R_D) (T := F_D) (N := 14) hx hb hts (fun w h => List.mem_cons_of_mem _ (in_D w h)) hown hK hP 0 rfl rfl 4 (by decide) (hts _ (List.mem_cons_of_mem _ lk_435)) (fun _ h9 => h9) rfl d_D_undo_32 ?_
      obtain ⟨e0, e1, e2, e3, e4, e5⟩ := wk_inj5 hf
      subst e1
      subst e2
      subst e3
      subst e4
      subst e5
      exact W.iret (v := (I1 4)) hx hb hr (fun t ht hW => ⟨⟨(I1 4), (), rfl, rfl, by rw [ht]; exact hP, va_K.moved hW.alike hK, hD⟩, hS.F ht⟩) hS.2.2 d_D_undo_35
  ·
    have hf := wk_ift hc2 hf
    exact (wk_tag (by decide) hf).elim
set_option maxHeartbeats 8000000 in
set_option maxRecDepth 100000 in
theorem ct_D_undo_4 (l : Launch) (hfl : l.flags = flags0) (dC : Nat → ClassId) (dI : Nat → Nat → Nat) (h : Nat) (q : Nat → Nat) (g : Nat → ClassId) (hj : Nat) (pt : Nat) (tg : ClassId) (sa : Nat → Nat) (ta : Nat → Nat) (n : Nat) (SO : Nat → Int32) (tn : Nat → Nat) (tx : Nat → Nat → Int32) (sz : Nat) (I : MI) (cx : Nat) (SP : MI) (SL : MI) (r : Int32) (I' : MI) (cx' : Nat) (SP' : MI) (SL' : MI) (hf : f_D_undo n SO I cx SP SL  = some (4, r, I', cx', SP', SL')) : th_Met l y_D_undo w_D_undo ({ frames := 6, cells := 1, slots := 6, locals := 81 }) (va_Pc [.ref h] (fun U => U.heap.size = sz ∧ va_P (dC, dI) vwCl (tw_W h q g hj pt tg sa ta n SO tn tx I cx SP SL) U.heap ∧ va_K (dC, dI) vwCl (tw_T h q g hj pt tg sa ta n SO tn tx) U ∧ va_D (fun _ => True) (tw_W h q g hj pt tg sa ta n SO tn tx I cx SP SL) ∧ th_ZA (va_A (tw_W h q g hj pt tg sa ta n SO tn tx I cx SP SL) sz) U)) (th_Qw "java/util/NoSuchElementException" (fun t => va_P (dC, dI) vwCl (tw_W h q g hj pt tg sa ta n SO tn tx I' cx' SP' SL') t.heap ∧ va_K (dC, dI) vwCl (tw_T h q g hj pt tg sa ta n SO tn tx) t ∧ va_D (va_A (tw_W h q g hj pt tg sa ta n SO tn tx I cx SP SL) sz) (tw_W h q g hj pt tg sa ta n SO tn tx I' cx' SP' SL')) (va_A (tw_W h q g hj pt tg sa ta n SO tn tx I cx SP SL) sz)) 1 6 (va_A (tw_W h q g hj pt tg sa ta n SO tn tx I cx SP SL) sz) := by
  refine th_Met.ofW (cc := prog_1_method_11_code) (maxL := 2) (ret := (some .int)) (by decide) rfl ?_
  intro p e s m args below meth c s₁ B hml hnh hv
  obtain ⟨rfl, hsz, hP, hK, hD0, hZ⟩ := hv
  have hx := B.exec
  have hb := B.bytes
  have hr := B.returns
  have hts := atoms_spec (ws := w_D_undo) B.pre
  have hown : s.vm.findClass "DraftTree" = some m.cls := findClass_of_methodNamed B.named
  have hlocks := B.notSynchronized
  have htr := Launch.traces_off hfl B.admits
  subst hsz
  have hD := hD0.self (sz := s.heap.size)
  generalize hAe : va_A (tw_W h q g hj pt tg sa ta n SO tn tx I cx SP SL) s.heap.size = B9 at hD hZ ⊢
  have hA : ∀ q : Nat, s.heap.size ≤ q → B9 q := fun q h => by rw [← hAe]; exact Or.inr h
  clear hAe
  have hS : va_S B9 s.heap s.heap [] := va_S.rf
  have hl := lv_entry ([.ref h]) (n := 2) (Nat.le_of_ble_eq_true rfl)
  rw [lg_entry_eq]
  generalize (lg_sl ([.ref h]) ++ List.replicate (2 - (lg_sl ([.ref h])).length) Slot.unset).toArray = ls at hl ⊢
  have hl : lv_has ls 2 [(0, .ref h)] := hl
  unfold f_D_undo at hf
  refine lv_aload_n hx hb d_D_undo_0 rfl (lv_at hl 0 rfl) ?_
  refine va_get (D := (dC, dI)) (ci := 0) (v := .ref (q 2)) (C := R_D) (T := F_D) (N := 14) hx hb hts (fun w h => List.mem_cons_of_mem _ (in_D w h)) hown hK hP 0 rfl rfl 2 (by decide) (hts _ (List.mem_cons_of_mem _ lk_455)) (fun _ h9 => h9) rfl d_D_undo_1 ?_
  refine lv_aload_n hx hb d_D_undo_4 rfl (lv_at hl 0 rfl) ?_
  refine va_get (D := (dC, dI)) (ci := 0) (v := .int (I 4)) (C := R_D) (T := F_D) (N := 14) hx hb hts (fun w h => List.mem_cons_of_mem _ (in_D w h)) hown hK hP 0 rfl rfl 4 (by decide) (hts _ (List.mem_cons_of_mem _ lk_435)) (fun _ h9 => h9) rfl d_D_undo_5 ?_
  obtain ⟨hc1, hf⟩ := wk_if hf
  obtain ⟨hc1n, hf⟩ := wk_if hf
  have hc1i := wk_inb_lt hc1n
  refine va_aldq hx hb hK hP 1 0 rfl rfl (wk_inb_ok hc1) d_D_undo_8 ?_
  refine wk_top (w := .ref (sa ((I 4)).toNatClampNeg)) (tw_rf hc1i) ?_
  refine va_get (D := (dC, dI)) (ci := 1) (v := .int (SO ((I 4)).toNatClampNeg)) (C := R_S) (T := F_S) (N := 4) hx hb hts (fun w h => List.mem_cons_of_mem _ (in_S w h)) hown hK hP (2 + ((I 4)).toNatClampNeg) (va_poolAt rfl hc1i) rfl 1 (by decide) (hts _ (List.mem_cons_of_mem _ lk_462)) (fun _ h9 => h9) rfl d_D_undo_9 ?_
  refine lv_istore_n (lv' := [(1, .int (SO ((I 4)).toNatClampNeg)), (0, .ref h)]) hx hb d_D_undo_12 rfl hl (by decide) rfl (fun ls hl => ?_)
  have hl : lv_has ls 2 [(1, .int (SO ((I 4)).toNatClampNeg)), (0, .ref h)] := hl
  refine lv_iload_n hx hb d_D_undo_13 rfl (lv_at hl 0 rfl) ?_
  refine lv_iconst (v := (-1)) hx hb d_D_undo_14 (by decide) ?_
  refine lv_icmp_ne (tgt := 26) hx hb d_D_undo_15 (by decide) (fun hc2 => ?_) (fun hc2 => ?_)
  ·
    have hf := wk_iff hc2 hf
    refine lv_aload_n hx hb d_D_undo_26 rfl (lv_at hl 1 rfl) ?_
    refine lv_iload_n hx hb d_D_undo_27 rfl (lv_at hl 0 rfl) ?_
    have hFc := va_freeM (wc := (tw_W h q g hj pt tg sa ta n SO tn tx I cx SP SL)) hD hS hA (fun _ h9 => h9)
    cases hg1 : f_D_moveTo n SO I cx SP SL (SO ((I 4)).toNatClampNeg) with
    | none => rw [hg1] at hf; cases hf
    | some z1 =>
      obtain ⟨r1, I1, cx1, SP1, SL1⟩ := z1
      rw [hg1] at hf
      dsimp only [Option.bind_some] at hf
      refine va_callv (va_runV (As := [.int (SO ((I 4)).toNatClampNeg)]) (rest := []) ⟨hx, hb, hml, hown, hts⟩ (cm_D_moveTo l dC dI h q g hj pt tg sa ta n SO tn tx _  I cx SP SL (SO ((I 4)).toNatClampNeg) r1 I1 cx1 SP1 SL1 hg1) (cwV 1 hts (gd_v lk_465 lk_466 lk_467 lk_444 lk_464) rfl rfl rfl (by decide +kernel) ⟨Nat.le_of_ble_eq_true rfl, Nat.le_of_ble_eq_true rfl⟩) ⟨fun a U g mk q => by obtain ⟨q0, q1, qP, qK, qD⟩ := q; exact ⟨q0, q1, qP, va_K.moved (u := U) (U := U.calling g mk a) (Vm.Alike.refl U.vm) qK, qD⟩, va_recv (ci := 0) (q0 := 0) hK hP rfl rfl, fun U hU hW => ⟨rfl, by rw [hU], by rw [hU]; exact hP, va_K.moved hW.alike hK, hD.weaken (fun _ _ _ _ => trivial)⟩⟩ rfl rfl hl.1 rfl (lv_room (Nat.le_of_ble_eq_true rfl)) d_D_undo_28 ⟨Nat.le_of_ble_eq_true rfl, Nat.le_of_ble_eq_true rfl⟩) hS (fun q _ h => hFc q h) hFc (fun u t H1 locs ht hvm hw hB hz1 hk1 hS => ?_)
      obtain ⟨hP1, hK1, hD1⟩ := hB
      rw [ht] at hP1
      have hP := hP1
      have hD := hD1.weaken (fun _ q _ h => hFc q.1 h)
      generalize H1 = H at hP hS ⊢
      refine lv_aload_n hx hb d_D_undo_31 rfl (lv_at hl 1 rfl) ?_
      refine va_get (D := (dC, dI)) (ci := 0) (v := .int (I1 4)) (C := R_D) (T := F_D) (N := 14) hx hb hts (fun w h => List.mem_cons_of_mem _ (in_D w h)) hown hK hP 0 rfl rfl 4 (by decide) (hts _ (List.mem_cons_of_mem _ lk_435)) (fun _ h9 => h9) rfl d_D_undo_32 ?_
      exact (wk_tag (by decide) hf).elim
  ·
    have hf := wk_ift hc2 hf
    obtain ⟨e0, e1, e2, e3, e4, e5⟩ := wk_inj5 hf
    subst e1
    subst e2
    subst e3
    subst e4
    subst e5
    exact th_newG hx hb htr hown (by decide) (by decide) (wk_thr hts hZ hS lk_447 lk_448 (fun _ a9 b9 => oa_3 a9 b9)) hnh (by rw [hl.1, hml]) hS (Nat.le_of_ble_eq_true rfl) (Nat.le_of_ble_eq_true rfl) (Nat.le_of_ble_eq_true rfl) (Nat.le_of_ble_eq_true rfl) (Nat.le_of_ble_eq_true rfl) (Nat.le_of_ble_eq_true rfl) hlocks (fun t hal hk => ⟨hP.kept (fun k q hq => hk _ (hP k q hq).lt), va_K.moved hal hK, hD⟩) d_D_undo_18 d_D_undo_21 d_D_undo_22 d_D_undo_25

set_option maxHeartbeats 8000000 in
set_option maxRecDepth 100000 in
theorem cm_D_wipe (l : Launch) (dC : Nat → ClassId) (dI : Nat → Nat → Nat) (h : Nat) (q : Nat → Nat) (g : Nat → ClassId) (hp : Nat) (qp : Nat → Nat) (gp : Nat → ClassId) (tq : Nat) (tg : ClassId) (tn : Nat) (tx : Nat → Int32) (sz : Nat) (I : MI) (A : MA) (M : MI) (MB : MA) (L : ML) (r : Int32) (I' : MI) (A' : MA) (M' : MI) (MB' : MA) (L' : ML) (hf : f_D_wipe tn tx I A M MB L  = some (r, I', A', M', MB', L')) : Met l y_D_wipe w_D_wipe ({ frames := 0, cells := 0, slots := 0, locals := 0 }) (va_Pc [.ref h] (fun U => U.heap.size = sz ∧ va_P (dC, dI) vwCl (dw_W h q g hp qp gp tq tg tn tx I A M MB L) U.heap ∧ va_K (dC, dI) vwCl (dw_T h q g hp qp gp tq tg tn tx) U ∧ va_D (fun _ => True) (dw_W h q g hp qp gp tq tg tn tx I A M MB L))) (va_Qi (fun (r9 : Int32) (_ : Unit) => r9 = r) (fun (_ : Unit) t => va_P (dC, dI) vwCl (dw_W h q g hp qp gp tq tg tn tx I' A' M' MB' L') t.heap ∧ va_K (dC, dI) vwCl (dw_T h q g hp qp gp tq tg tn tx) t ∧ va_D (va_A (dw_W h q g hp qp gp tq tg tn tx I A M MB L) sz) (dw_W h q g hp qp gp tq tg tn tx I' A' M' MB' L')) (va_A (dw_W h q g hp qp gp tq tg tn tx I A M MB L) sz)) 0 0 (va_A (dw_W h q g hp qp gp tq tg tn tx I A M MB L) sz) := by
  refine Met.ofW (cc := prog_1_method_3_code) (maxL := 2) (ret := (some .int)) (by decide) rfl ?_
  intro p e s m args below meth c s₁ B hml hv
  obtain ⟨rfl, hsz, hP, hK, hD0⟩ := hv
  have hx := B.exec
  have hb := B.bytes
  have hr := B.returns
  have hts := atoms_spec (ws := w_D_wipe) B.pre
  have hown : s.vm.findClass "DraftTree" = some m.cls := findClass_of_methodNamed B.named
  have hlocks := B.notSynchronized
  subst hsz
  have hD := hD0.self (sz := s.heap.size)
  generalize hAe : va_A (dw_W h q g hp qp gp tq tg tn tx I A M MB L) s.heap.size = B9 at hD ⊢
  have hA : ∀ q : Nat, s.heap.size ≤ q → B9 q := fun q h => by rw [← hAe]; exact Or.inr h
  clear hAe
  have hS : va_S B9 s.heap s.heap [] := va_S.rf
  have hl := lv_entry ([.ref h]) (n := 2) (Nat.le_of_ble_eq_true rfl)
  rw [lg_entry_eq]
  generalize (lg_sl ([.ref h]) ++ List.replicate (2 - (lg_sl ([.ref h])).length) Slot.unset).toArray = ls at hl ⊢
  have hl : lv_has ls 2 [(0, .ref h)] := hl
  unfold f_D_wipe at hf
  refine lv_aload_n hx hb d_D_wipe_0 rfl (lv_at hl 0 rfl) ?_
  refine va_get (D := (dC, dI)) (ci := 0) (v := .int (I 1)) (C := R_D) (T := F_D) (N := 14) hx hb hts (fun w h => List.mem_cons_of_mem _ (in_D w h)) hown hK hP 0 rfl rfl 1 (by decide) (hts _ (List.mem_cons_of_mem _ lk_312)) (fun _ h9 => h9) rfl d_D_wipe_1 ?_
  refine lv_istore_n (lv' := [(1, .int (I 1)), (0, .ref h)]) hx hb d_D_wipe_4 rfl hl (by decide) rfl (fun ls hl => ?_)
  have hl : lv_has ls 2 [(1, .int (I 1)), (0, .ref h)] := hl
  refine lv_aload_n hx hb d_D_wipe_5 rfl (lv_at hl 1 rfl) ?_
  refine lv_iconst (v := 0) hx hb d_D_wipe_6 (by decide) ?_
  refine va_put (D := (dC, dI)) (ci := 0) (v := .int 0) (ty := .int) (C := R_D) (T := F_D) (N := 14) hx hb hts (fun w h => List.mem_cons_of_mem _ (in_D w h)) t_D tk_D n_D hown hK hP hD hS 0 rfl rfl 1 (by decide) (hts _ (List.mem_cons_of_mem _ lk_312)) (fun _ h9 => h9) rfl (by decide +kernel) rfl rfl (Nat.le_of_ble_eq_true rfl) d_D_wipe_7 (fun H locs hP hD hS => ?_)
  obtain ⟨I1, hI1, hf⟩ := wk_letE hf
  have hP : va_P (dC, dI) vwCl (dw_W h q g hp qp gp tq tg tn tx I1 A M MB L) H := by rw [hI1]; exact hP
  have hD : va_D B9 (dw_W h q g hp qp gp tq tg tn tx I1 A M MB L) := by rw [hI1]; exact hD
  clear hI1
  refine lv_iload_n hx hb d_D_wipe_10 rfl (lv_at hl 0 rfl) ?_
  obtain ⟨e0, e1, e2, e3, e4, e5⟩ := wk_inj5 hf
  subst e0
  subst e1
  subst e2
  subst e3
  subst e4
  subst e5
  exact W.iret (v := (I 1)) hx hb hr (fun t ht hW => ⟨⟨(I 1), (), rfl, rfl, by rw [ht]; exact hP, va_K.moved hW.alike hK, hD⟩, hS.F ht⟩) hS.2.2 d_D_wipe_11

set_option maxHeartbeats 8000000 in
set_option maxRecDepth 100000 in
theorem cm_S_init (l : Launch) (dC : Nat → ClassId) (dI : Nat → Nat → Nat) (h : Nat) (tv : Value) (tr : Nat) (sz : Nat) (I : MI) (k2 : Int32) (k3 : Int32) (r : Int32) (I' : MI) (hf : f_S_init I  k2 k3 = some (r, I')) : Met l y_S_init w_S_init ({ frames := 1, cells := 0, slots := 0, locals := 12 }) (va_Pc [.ref h, .ref tr, .int k2, .int k3] (fun U => U.heap.size = sz ∧ va_P (dC, dI) vwCl (sw_W h tv I) U.heap ∧ va_K (dC, dI) vwCl (sw_T h tv) U ∧ va_D (fun _ => True) (sw_W h tv I))) (va_Qv (fun (u : Unit) => u = u) (fun (_ : Unit) t => va_P (dC, dI) vwCl (sw_W h (.ref tr) I') t.heap ∧ va_K (dC, dI) vwCl (sw_T h tv) t ∧ va_D (va_A (sw_W h tv I) sz) (sw_W h (.ref tr) I')) (va_A (sw_W h tv I) sz)) 0 0 (va_A (sw_W h tv I) sz) := by
  refine Met.ofW (cc := prog_4_method_1_code) (maxL := 4) (ret := none) (by decide) rfl ?_
  intro p e s m args below meth c s₁ B hml hv
  obtain ⟨rfl, hsz, hP, hK, hD0⟩ := hv
  have hx := B.exec
  have hb := B.bytes
  have hr := B.returns
  have hts := atoms_spec (ws := w_S_init) B.pre
  have hown : s.vm.findClass "DraftTree$State" = some m.cls := findClass_of_methodNamed B.named
  have hlocks := B.notSynchronized
  have hin : meth.name = "<init>" := (name_of_methodNamed B.named B.method).1
  subst hsz
  have hD := hD0.self (sz := s.heap.size)
  generalize hAe : va_A (sw_W h tv I) s.heap.size = B9 at hD ⊢
  have hA : ∀ q : Nat, s.heap.size ≤ q → B9 q := fun q h => by rw [← hAe]; exact Or.inr h
  clear hAe
  have hS : va_S B9 s.heap s.heap [] := va_S.rf
  have hl := lv_entry ([.ref h, .ref tr, .int k2, .int k3]) (n := 4) (Nat.le_of_ble_eq_true rfl)
  rw [lg_entry_eq]
  generalize (lg_sl ([.ref h, .ref tr, .int k2, .int k3]) ++ List.replicate (4 - (lg_sl ([.ref h, .ref tr, .int k2, .int k3])).length) Slot.unset).toArray = ls at hl ⊢
  have hl : lv_has ls 4 [(0, .ref h), (1, .ref tr), (2, .int k2), (3, .int k3)] := hl
  unfold f_S_init at hf
  refine lv_aload_n hx hb d_S_init_0 rfl (lv_at hl 0 rfl) ?_
  refine W.objInit hx hb hown (hts _ (List.mem_cons_of_mem _ lk_497)) (hts _ (List.mem_cons_of_mem _ lk_498)) (hts _ (List.mem_cons_of_mem _ lk_499)) rfl (by rw [hml]; exact hl.1) rfl d_S_init_1 (Nat.le_of_ble_eq_true rfl) (Nat.le_of_ble_eq_true rfl) ?_
  refine W.eq (g2 := F0 m 4 ls []) rfl ?_
  refine lv_aload_n hx hb d_S_init_4 rfl (lv_at hl 0 rfl) ?_
  refine lv_aload_n hx hb d_S_init_5 rfl (lv_at hl 1 rfl) ?_
  refine va_putF (D := (dC, dI)) (ci := 1) (v := .ref tr) (ty := .array .char) (C := R_S) (T := F_S) (N := 4) hx hb hts (fun w h => List.mem_cons_of_mem _ (in_S w h)) t_S tk_S n_S hown hK hP hD hS 0 rfl rfl 0 (by decide) (hts _ (List.mem_cons_of_mem _ lk_500)) (fun _ h9 => h9) rfl hin rfl (by decide +kernel) rfl rfl (Nat.le_of_ble_eq_true rfl) d_S_init_6 (fun H locs hP hD hS => ?_)
  have hP : va_P (dC, dI) vwCl (sw_W h (.ref tr) I) H := hP
  have hD : va_D B9 (sw_W h (.ref tr) I) := hD
  refine lv_aload_n hx hb d_S_init_9 rfl (lv_at hl 0 rfl) ?_
  refine lv_iload_n hx hb d_S_init_10 rfl (lv_at hl 2 rfl) ?_
  refine va_put (D := (dC, dI)) (ci := 1) (v := .int k2) (ty := .int) (C := R_S) (T := F_S) (N := 4) hx hb hts (fun w h => List.mem_cons_of_mem _ (in_S w h)) t_S tk_S n_S hown hK hP hD hS 0 rfl rfl 2 (by decide) (hts _ (List.mem_cons_of_mem _ lk_501)) (fun _ h9 => h9) rfl (by decide +kernel) rfl rfl (Nat.le_of_ble_eq_true rfl) d_S_init_11 (fun H locs hP hD hS => ?_)
  obtain ⟨I1, hI1, hf⟩ := wk_letE hf
  have hP : va_P (dC, dI) vwCl (sw_W h (.ref tr) I1) H := by rw [hI1]; exact hP
  have hD : va_D B9 (sw_W h (.ref tr) I1) := by rw [hI1]; exact hD
  clear hI1
  refine lv_aload_n hx hb d_S_init_14 rfl (lv_at hl 0 rfl) ?_
  refine lv_iload_n hx hb d_S_init_15 rfl (lv_at hl 3 rfl) ?_
  refine va_putF (D := (dC, dI)) (ci := 1) (v := .int k3) (ty := .int) (C := R_S) (T := F_S) (N := 4) hx hb hts (fun w h => List.mem_cons_of_mem _ (in_S w h)) t_S tk_S n_S hown hK hP hD hS 0 rfl rfl 1 (by decide) (hts _ (List.mem_cons_of_mem _ lk_502)) (fun _ h9 => h9) rfl hin rfl (by decide +kernel) rfl rfl (Nat.le_of_ble_eq_true rfl) d_S_init_16 (fun H locs hP hD hS => ?_)
  obtain ⟨I2, hI2, hf⟩ := wk_letE hf
  have hP : va_P (dC, dI) vwCl (sw_W h (.ref tr) I2) H := by rw [hI2]; exact hP
  have hD : va_D B9 (sw_W h (.ref tr) I2) := by rw [hI2]; exact hD
  clear hI2
  refine lv_aload_n hx hb d_S_init_19 rfl (lv_at hl 0 rfl) ?_
  refine lv_iconst (v := (-1)) hx hb d_S_init_20 (by decide) ?_
  refine va_put (D := (dC, dI)) (ci := 1) (v := .int (-1)) (ty := .int) (C := R_S) (T := F_S) (N := 4) hx hb hts (fun w h => List.mem_cons_of_mem _ (in_S w h)) t_S tk_S n_S hown hK hP hD hS 0 rfl rfl 3 (by decide) (hts _ (List.mem_cons_of_mem _ lk_503)) (fun _ h9 => h9) rfl (by decide +kernel) rfl rfl (Nat.le_of_ble_eq_true rfl) d_S_init_21 (fun H locs hP hD hS => ?_)
  obtain ⟨I3, hI3, hf⟩ := wk_letE hf
  have hP : va_P (dC, dI) vwCl (sw_W h (.ref tr) I3) H := by rw [hI3]; exact hP
  have hD : va_D B9 (sw_W h (.ref tr) I3) := by rw [hI3]; exact hD
  clear hI3
  obtain ⟨e0, e1⟩ := wk_inj1 hf
  subst e0
  subst e1
  exact W.vret hx hb hr (fun t ht hW => ⟨⟨(), rfl, rfl, by rw [ht]; exact hP, va_K.moved hW.alike hK, hD⟩, hS.F ht⟩) hS.2.2 d_S_init_24

