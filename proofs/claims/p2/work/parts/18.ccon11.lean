set_option maxHeartbeats 8000000 in
set_option maxRecDepth 100000 in
theorem cm_D_parent (l : Launch) (dC : Nat → ClassId) (dI : Nat → Nat → Nat) (h : Nat) (q : Nat → Nat) (g : Nat → ClassId) (hj : Nat) (pt : Nat) (tg : ClassId) (sa : Nat → Nat) (ta : Nat → Nat) (n : Nat) (SO : Nat → Int32) (tn : Nat → Nat) (tx : Nat → Nat → Int32) (sz : Nat) (I : MI) (cx : Nat) (SP : MI) (SL : MI) (k1 : Int32) (r : Int32) (I' : MI) (cx' : Nat) (SP' : MI) (SL' : MI) (hf : f_D_parent n SO I cx SP SL  k1 = some (0, r, I', cx', SP', SL')) : Met l y_D_parent w_D_parent ({ frames := 1, cells := 0, slots := 0, locals := 21 }) (va_Pc [.ref h, .int k1] (fun U => U.heap.size = sz ∧ va_P (dC, dI) vwCl (tw_W h q g hj pt tg sa ta n SO tn tx I cx SP SL) U.heap ∧ va_K (dC, dI) vwCl (tw_T h q g hj pt tg sa ta n SO tn tx) U ∧ va_D (fun _ => True) (tw_W h q g hj pt tg sa ta n SO tn tx I cx SP SL))) (va_Qi (fun (r9 : Int32) (_ : Unit) => r9 = r) (fun (_ : Unit) t => va_P (dC, dI) vwCl (tw_W h q g hj pt tg sa ta n SO tn tx I' cx' SP' SL') t.heap ∧ va_K (dC, dI) vwCl (tw_T h q g hj pt tg sa ta n SO tn tx) t ∧ va_D (va_A (tw_W h q g hj pt tg sa ta n SO tn tx I cx SP SL) sz) (tw_W h q g hj pt tg sa ta n SO tn tx I' cx' SP' SL')) (va_A (tw_W h q g hj pt tg sa ta n SO tn tx I cx SP SL) sz)) 0 0 (va_A (tw_W h q g hj pt tg sa ta n SO tn tx I cx SP SL) sz) := by
  refine Met.ofW (cc := prog_1_method_18_code) (maxL := 2) (ret := (some .int)) (by decide) rfl ?_
  intro p e s m args below meth c s₁ B hml hv
  obtain ⟨rfl, hsz, hP, hK, hD0⟩ := hv
  have hx := B.exec
  have hb := B.bytes
  have hr := B.returns
  have hts := atoms_spec (ws := w_D_parent) B.pre
  have hown : s.vm.findClass "DraftTree" = some m.cls := findClass_of_methodNamed B.named
  have hlocks := B.notSynchronized
  subst hsz
  have hD := hD0.self (sz := s.heap.size)
  generalize hAe : va_A (tw_W h q g hj pt tg sa ta n SO tn tx I cx SP SL) s.heap.size = B9 at hD ⊢
  have hA : ∀ q : Nat, s.heap.size ≤ q → B9 q := fun q h => by rw [← hAe]; exact Or.inr h
  clear hAe
  have hS : va_S B9 s.heap s.heap [] := va_S.rf
  have hl := lv_entry ([.ref h, .int k1]) (n := 2) (Nat.le_of_ble_eq_true rfl)
  rw [lg_entry_eq]
  generalize (lg_sl ([.ref h, .int k1]) ++ List.replicate (2 - (lg_sl ([.ref h, .int k1])).length) Slot.unset).toArray = ls at hl ⊢
  have hl : lv_has ls 2 [(0, .ref h), (1, .int k1)] := hl
  unfold f_D_parent at hf
  refine lv_aload_n hx hb d_D_parent_0 rfl (lv_at hl 0 rfl) ?_
  refine lv_iload_n hx hb d_D_parent_1 rfl (lv_at hl 1 rfl) ?_
  have hFc := va_freeM (wc := (tw_W h q g hj pt tg sa ta n SO tn tx I cx SP SL)) hD hS hA (fun _ h9 => h9)
  cases hg1 : f_D_requireState n SO I cx SP SL k1 with
  | none => rw [hg1] at hf; cases hf
  | some z1 =>
    obtain ⟨tg1, r1, I1, cx1, SP1, SL1⟩ := z1
    rw [hg1] at hf
    dsimp only [Option.bind_some] at hf
    by_cases ht1 : tg1 = 0
    ·
      have hf := wk_ift ht1 hf
      rw [ht1] at hg1
      refine va_callv (va_runV (As := [.int k1]) (rest := []) ⟨hx, hb, hml, hown, hts⟩ (cm_D_requireState l dC dI h q g hj pt tg sa ta n SO tn tx _  I cx SP SL k1 r1 I1 cx1 SP1 SL1 hg1) (cwV 1 hts (gd_v lk_452 lk_453 lk_454 lk_444 lk_451) rfl rfl rfl (by decide +kernel) ⟨Nat.le_of_ble_eq_true rfl, Nat.le_of_ble_eq_true rfl⟩) ⟨fun a U g mk q => by obtain ⟨q0, q1, qP, qK, qD⟩ := q; exact ⟨q0, q1, qP, va_K.moved (u := U) (U := U.calling g mk a) (Vm.Alike.refl U.vm) qK, qD⟩, va_recv (ci := 0) (q0 := 0) hK hP rfl rfl, fun U hU hW => ⟨rfl, by rw [hU], by rw [hU]; exact hP, va_K.moved hW.alike hK, hD.weaken (fun _ _ _ _ => trivial)⟩⟩ rfl rfl hl.1 rfl (lv_room (Nat.le_of_ble_eq_true rfl)) d_D_parent_2 ⟨Nat.le_of_ble_eq_true rfl, Nat.le_of_ble_eq_true rfl⟩) hS (fun q _ h => hFc q h) hFc (fun u t H1 locs ht hvm hw hB hz1 hk1 hS => ?_)
      obtain ⟨hP1, hK1, hD1⟩ := hB
      rw [ht] at hP1
      have hP := hP1
      have hD := hD1.weaken (fun _ q _ h => hFc q.1 h)
      generalize H1 = H at hP hS ⊢
      refine lv_aload_n hx hb d_D_parent_5 rfl (lv_at hl 0 rfl) ?_
      refine va_get (D := (dC, dI)) (ci := 0) (v := .ref (q 2)) (C := R_D) (T := F_D) (N := 14) hx hb hts (fun w h => List.mem_cons_of_mem _ (in_D w h)) hown hK hP 0 rfl rfl 2 (by decide) (hts _ (List.mem_cons_of_mem _ lk_455)) (fun _ h9 => h9) rfl d_D_parent_6 ?_
      refine lv_iload_n hx hb d_D_parent_9 rfl (lv_at hl 1 rfl) ?_
      obtain ⟨hc1, hf⟩ := wk_if hf
      obtain ⟨hc1n, hf⟩ := wk_if hf
      have hc1i := wk_inb_lt hc1n
      refine va_aldq hx hb hK hP 1 0 rfl rfl (wk_inb_ok hc1) d_D_parent_10 ?_
      refine wk_top (w := .ref (sa (k1).toNatClampNeg)) (tw_rf hc1i) ?_
      refine va_get (D := (dC, dI)) (ci := 1) (v := .int (SO (k1).toNatClampNeg)) (C := R_S) (T := F_S) (N := 4) hx hb hts (fun w h => List.mem_cons_of_mem _ (in_S w h)) hown hK hP (2 + (k1).toNatClampNeg) (va_poolAt rfl hc1i) rfl 1 (by decide) (hts _ (List.mem_cons_of_mem _ lk_462)) (fun _ h9 => h9) rfl d_D_parent_11 ?_
      obtain ⟨e0, e1, e2, e3, e4, e5⟩ := wk_inj5 hf
      subst e1
      subst e2
      subst e3
      subst e4
      subst e5
      exact W.iret (v := (SO (k1).toNatClampNeg)) hx hb hr (fun t ht hW => ⟨⟨(SO (k1).toNatClampNeg), (), rfl, rfl, by rw [ht]; exact hP, va_K.moved hW.alike hK, hD⟩, hS.F ht⟩) hS.2.2 d_D_parent_14
    ·
      have hf := wk_iff ht1 hf
      by_cases hq1_3 : tg1 = 3
      ·
        have hf := wk_ift hq1_3 hf
        exact (wk_tag (by decide) hf).elim
      ·
        have hf := wk_iff hq1_3 hf
        cases hf
set_option maxHeartbeats 8000000 in
set_option maxRecDepth 100000 in
theorem ct_D_parent_3 (l : Launch) (hfl : l.flags = flags0) (dC : Nat → ClassId) (dI : Nat → Nat → Nat) (h : Nat) (q : Nat → Nat) (g : Nat → ClassId) (hj : Nat) (pt : Nat) (tg : ClassId) (sa : Nat → Nat) (ta : Nat → Nat) (n : Nat) (SO : Nat → Int32) (tn : Nat → Nat) (tx : Nat → Nat → Int32) (sz : Nat) (I : MI) (cx : Nat) (SP : MI) (SL : MI) (k1 : Int32) (r : Int32) (I' : MI) (cx' : Nat) (SP' : MI) (SL' : MI) (hf : f_D_parent n SO I cx SP SL  k1 = some (3, r, I', cx', SP', SL')) : th_Met l y_D_parent w_D_parent ({ frames := 7, cells := 1, slots := 6, locals := 102 }) (va_Pc [.ref h, .int k1] (fun U => U.heap.size = sz ∧ va_P (dC, dI) vwCl (tw_W h q g hj pt tg sa ta n SO tn tx I cx SP SL) U.heap ∧ va_K (dC, dI) vwCl (tw_T h q g hj pt tg sa ta n SO tn tx) U ∧ va_D (fun _ => True) (tw_W h q g hj pt tg sa ta n SO tn tx I cx SP SL) ∧ th_ZA (va_A (tw_W h q g hj pt tg sa ta n SO tn tx I cx SP SL) sz) U)) (th_Qw "java/lang/IllegalArgumentException" (fun t => va_P (dC, dI) vwCl (tw_W h q g hj pt tg sa ta n SO tn tx I' cx' SP' SL') t.heap ∧ va_K (dC, dI) vwCl (tw_T h q g hj pt tg sa ta n SO tn tx) t ∧ va_D (va_A (tw_W h q g hj pt tg sa ta n SO tn tx I cx SP SL) sz) (tw_W h q g hj pt tg sa ta n SO tn tx I' cx' SP' SL')) (va_A (tw_W h q g hj pt tg sa ta n SO tn tx I cx SP SL) sz)) 1 6 (va_A (tw_W h q g hj pt tg sa ta n SO tn tx I cx SP SL) sz) := by
  refine th_Met.ofW (cc := prog_1_method_18_code) (maxL := 2) (ret := (some .int)) (by decide) rfl ?_
  intro p e s m args below meth c s₁ B hml hnh hv
  obtain ⟨rfl, hsz, hP, hK, hD0, hZ⟩ := hv
  have hx := B.exec
  have hb := B.bytes
  have hr := B.returns
  have hts := atoms_spec (ws := w_D_parent) B.pre
  have hown : s.vm.findClass "DraftTree" = some m.cls := findClass_of_methodNamed B.named
  have hlocks := B.notSynchronized
  have htr := Launch.traces_off hfl B.admits
  subst hsz
  have hD := hD0.self (sz := s.heap.size)
  generalize hAe : va_A (tw_W h q g hj pt tg sa ta n SO tn tx I cx SP SL) s.heap.size = B9 at hD hZ ⊢
  have hA : ∀ q : Nat, s.heap.size ≤ q → B9 q := fun q h => by rw [← hAe]; exact Or.inr h
  clear hAe
  have hS : va_S B9 s.heap s.heap [] := va_S.rf
  have hl := lv_entry ([.ref h, .int k1]) (n := 2) (Nat.le_of_ble_eq_true rfl)
  rw [lg_entry_eq]
  generalize (lg_sl ([.ref h, .int k1]) ++ List.replicate (2 - (lg_sl ([.ref h, .int k1])).length) Slot.unset).toArray = ls at hl ⊢
  have hl : lv_has ls 2 [(0, .ref h), (1, .int k1)] := hl
  unfold f_D_parent at hf
  refine lv_aload_n hx hb d_D_parent_0 rfl (lv_at hl 0 rfl) ?_
  refine lv_iload_n hx hb d_D_parent_1 rfl (lv_at hl 1 rfl) ?_
  have hFc := va_freeM (wc := (tw_W h q g hj pt tg sa ta n SO tn tx I cx SP SL)) hD hS hA (fun _ h9 => h9)
  cases hg1 : f_D_requireState n SO I cx SP SL k1 with
  | none => rw [hg1] at hf; cases hf
  | some z1 =>
    obtain ⟨tg1, r1, I1, cx1, SP1, SL1⟩ := z1
    rw [hg1] at hf
    dsimp only [Option.bind_some] at hf
    by_cases ht1 : tg1 = 0
    ·
      have hf := wk_ift ht1 hf
      rw [ht1] at hg1
      refine va_callv (va_runV (As := [.int k1]) (rest := []) ⟨hx, hb, hml, hown, hts⟩ (cm_D_requireState l dC dI h q g hj pt tg sa ta n SO tn tx _  I cx SP SL k1 r1 I1 cx1 SP1 SL1 hg1) (cwV 1 hts (gd_v lk_452 lk_453 lk_454 lk_444 lk_451) rfl rfl rfl (by decide +kernel) ⟨Nat.le_of_ble_eq_true rfl, Nat.le_of_ble_eq_true rfl⟩) ⟨fun a U g mk q => by obtain ⟨q0, q1, qP, qK, qD⟩ := q; exact ⟨q0, q1, qP, va_K.moved (u := U) (U := U.calling g mk a) (Vm.Alike.refl U.vm) qK, qD⟩, va_recv (ci := 0) (q0 := 0) hK hP rfl rfl, fun U hU hW => ⟨rfl, by rw [hU], by rw [hU]; exact hP, va_K.moved hW.alike hK, hD.weaken (fun _ _ _ _ => trivial)⟩⟩ rfl rfl hl.1 rfl (lv_room (Nat.le_of_ble_eq_true rfl)) d_D_parent_2 ⟨Nat.le_of_ble_eq_true rfl, Nat.le_of_ble_eq_true rfl⟩) hS (fun q _ h => hFc q h) hFc (fun u t H1 locs ht hvm hw hB hz1 hk1 hS => ?_)
      obtain ⟨hP1, hK1, hD1⟩ := hB
      rw [ht] at hP1
      have hP := hP1
      have hD := hD1.weaken (fun _ q _ h => hFc q.1 h)
      generalize H1 = H at hP hS ⊢
      refine lv_aload_n hx hb d_D_parent_5 rfl (lv_at hl 0 rfl) ?_
      refine va_get (D := (dC, dI)) (ci := 0) (v := .ref (q 2)) (C := R_D) (T := F_D) (N := 14) hx hb hts (fun w h => List.mem_cons_of_mem _ (in_D w h)) hown hK hP 0 rfl rfl 2 (by decide) (hts _ (List.mem_cons_of_mem _ lk_455)) (fun _ h9 => h9) rfl d_D_parent_6 ?_
      refine lv_iload_n hx hb d_D_parent_9 rfl (lv_at hl 1 rfl) ?_
      obtain ⟨hc1, hf⟩ := wk_if hf
      obtain ⟨hc1n, hf⟩ := wk_if hf
      have hc1i := wk_inb_lt hc1n
      refine va_aldq hx hb hK hP 1 0 rfl rfl (wk_inb_ok hc1) d_D_parent_10 ?_
      refine wk_top (w := .ref (sa (k1).toNatClampNeg)) (tw_rf hc1i) ?_
      refine va_get (D := (dC, dI)) (ci := 1) (v := .int (SO (k1).toNatClampNeg)) (C := R_S) (T := F_S) (N := 4) hx hb hts (fun w h => List.mem_cons_of_mem _ (in_S w h)) hown hK hP (2 + (k1).toNatClampNeg) (va_poolAt rfl hc1i) rfl 1 (by decide) (hts _ (List.mem_cons_of_mem _ lk_462)) (fun _ h9 => h9) rfl d_D_parent_11 ?_
      exact (wk_tag (by decide) hf).elim
    ·
      have hf := wk_iff ht1 hf
      by_cases hq1_3 : tg1 = 3
      ·
        have hf := wk_ift hq1_3 hf
        rw [hq1_3] at hg1
        obtain ⟨e0, e1, e2, e3, e4, e5⟩ := wk_inj5 hf
        subst e1
        subst e2
        subst e3
        subst e4
        subst e5
        refine th_passG (A1 := va_A (tw_W h q g hj pt tg sa ta n SO tn tx I cx SP SL) _) (th_runV (As := [.int k1]) (rest := []) ⟨hx, hb, hml, hown, hts⟩ (ct_D_requireState_3 l hfl dC dI h q g hj pt tg sa ta n SO tn tx _  I cx SP SL k1 r1 I1 cx1 SP1 SL1 hg1) (cwV 1 hts (gd_v lk_452 lk_453 lk_454 lk_444 lk_451) rfl rfl rfl (by decide +kernel) ⟨Nat.le_of_ble_eq_true rfl, Nat.le_of_ble_eq_true rfl⟩) ⟨fun a U g mk q => by obtain ⟨q0, q1, qP, qK, qD, qZ⟩ := q; exact ⟨q0, q1, qP, va_K.moved (u := U) (U := U.calling g mk a) (Vm.Alike.refl U.vm) qK, qD, th_ZA.calling qZ⟩, va_recv (ci := 0) (q0 := 0) hK hP rfl rfl, fun U hU hW => ⟨rfl, by rw [hU], by rw [hU]; exact hP, va_K.moved hW.alike hK, hD.weaken (fun _ _ _ _ => trivial), th_ZA.to hZ hS hU hW hFc⟩⟩ rfl rfl hl.1 rfl (lv_room (Nat.le_of_ble_eq_true rfl)) d_D_parent_2 ⟨Nat.le_of_ble_eq_true rfl, Nat.le_of_ble_eq_true rfl⟩) hnh hlocks hS hFc (Nat.le_of_ble_eq_true rfl) (Nat.le_of_ble_eq_true rfl) (fun t hal hb1 hz1 hk1 u hu hau => ?_)
        obtain ⟨hP1, hK1, hD1⟩ := hb1
        exact ⟨by rw [hu]; exact hP1, va_K.moved hau hK, hD1.weaken (fun _ q _ h => hFc q.1 h)⟩
      ·
        have hf := wk_iff hq1_3 hf
        cases hf

set_option maxHeartbeats 8000000 in
set_option maxRecDepth 100000 in
theorem cm_D_redo (l : Launch) (dC : Nat → ClassId) (dI : Nat → Nat → Nat) (h : Nat) (q : Nat → Nat) (g : Nat → ClassId) (hj : Nat) (pt : Nat) (tg : ClassId) (sa : Nat → Nat) (ta : Nat → Nat) (n : Nat) (SO : Nat → Int32) (tn : Nat → Nat) (tx : Nat → Nat → Int32) (sz : Nat) (I : MI) (cx : Nat) (SP : MI) (SL : MI) (r : Int32) (I' : MI) (cx' : Nat) (SP' : MI) (SL' : MI) (hf : f_D_redo n SO I cx SP SL  = some (0, r, I', cx', SP', SL')) : Met l y_D_redo w_D_redo ({ frames := 1, cells := 0, slots := 0, locals := 22 }) (va_Pc [.ref h] (fun U => U.heap.size = sz ∧ va_P (dC, dI) vwCl (tw_W h q g hj pt tg sa ta n SO tn tx I cx SP SL) U.heap ∧ va_K (dC, dI) vwCl (tw_T h q g hj pt tg sa ta n SO tn tx) U ∧ va_D (fun _ => True) (tw_W h q g hj pt tg sa ta n SO tn tx I cx SP SL))) (va_Qi (fun (r9 : Int32) (_ : Unit) => r9 = r) (fun (_ : Unit) t => va_P (dC, dI) vwCl (tw_W h q g hj pt tg sa ta n SO tn tx I' cx' SP' SL') t.heap ∧ va_K (dC, dI) vwCl (tw_T h q g hj pt tg sa ta n SO tn tx) t ∧ va_D (va_A (tw_W h q g hj pt tg sa ta n SO tn tx I cx SP SL) sz) (tw_W h q g hj pt tg sa ta n SO tn tx I' cx' SP' SL')) (va_A (tw_W h q g hj pt tg sa ta n SO tn tx I cx SP SL) sz)) 0 0 (va_A (tw_W h q g hj pt tg sa ta n SO tn tx I cx SP SL) sz) := by
  refine Met.ofW (cc := prog_1_method_12_code) (maxL := 2) (ret := (some .int)) (by decide) rfl ?_
  intro p e s m args below meth c s₁ B hml hv
  obtain ⟨rfl, hsz, hP, hK, hD0⟩ := hv
  have hx := B.exec
  have hb := B.bytes
  have hr := B.returns
  have hts := atoms_spec (ws := w_D_redo) B.pre
  have hown : s.vm.findClass "DraftTree" = some m.cls := findClass_of_methodNamed B.named
  have hlocks := B.notSynchronized
  subst hsz
  have hD := hD0.self (sz := s.heap.size)
  generalize hAe : va_A (tw_W h q g hj pt tg sa ta n SO tn tx I cx SP SL) s.heap.size = B9 at hD ⊢
  have hA : ∀ q : Nat, s.heap.size ≤ q → B9 q := fun q h => by rw [← hAe]; exact Or.inr h
  clear hAe
  have hS : va_S B9 s.heap s.heap [] := va_S.rf
  have hl := lv_entry ([.ref h]) (n := 2) (Nat.le_of_ble_eq_true rfl)
  rw [lg_entry_eq]
  generalize (lg_sl ([.ref h]) ++ List.replicate (2 - (lg_sl ([.ref h])).length) Slot.unset).toArray = ls at hl ⊢
  have hl : lv_has ls 2 [(0, .ref h)] := hl
  unfold f_D_redo at hf
  refine lv_aload_n hx hb d_D_redo_0 rfl (lv_at hl 0 rfl) ?_
  refine va_get (D := (dC, dI)) (ci := 0) (v := .ref (q 2)) (C := R_D) (T := F_D) (N := 14) hx hb hts (fun w h => List.mem_cons_of_mem _ (in_D w h)) hown hK hP 0 rfl rfl 2 (by decide) (hts _ (List.mem_cons_of_mem _ lk_455)) (fun _ h9 => h9) rfl d_D_redo_1 ?_
  refine lv_aload_n hx hb d_D_redo_4 rfl (lv_at hl 0 rfl) ?_
  refine va_get (D := (dC, dI)) (ci := 0) (v := .int (I 4)) (C := R_D) (T := F_D) (N := 14) hx hb hts (fun w h => List.mem_cons_of_mem _ (in_D w h)) hown hK hP 0 rfl rfl 4 (by decide) (hts _ (List.mem_cons_of_mem _ lk_435)) (fun _ h9 => h9) rfl d_D_redo_5 ?_
  obtain ⟨hc1, hf⟩ := wk_if hf
  obtain ⟨hc1n, hf⟩ := wk_if hf
  have hc1i := wk_inb_lt hc1n
  refine va_aldq hx hb hK hP 1 0 rfl rfl (wk_inb_ok hc1) d_D_redo_8 ?_
  refine wk_top (w := .ref (sa ((I 4)).toNatClampNeg)) (tw_rf hc1i) ?_
  refine va_get (D := (dC, dI)) (ci := 1) (v := .int (SL ((I 4)).toNatClampNeg)) (C := R_S) (T := F_S) (N := 4) hx hb hts (fun w h => List.mem_cons_of_mem _ (in_S w h)) hown hK hP (2 + ((I 4)).toNatClampNeg) (va_poolAt rfl hc1i) rfl 3 (by decide) (hts _ (List.mem_cons_of_mem _ lk_463)) (fun _ h9 => h9) rfl d_D_redo_9 ?_
  refine lv_istore_n (lv' := [(1, .int (SL ((I 4)).toNatClampNeg)), (0, .ref h)]) hx hb d_D_redo_12 rfl hl (by decide) rfl (fun ls hl => ?_)
  have hl : lv_has ls 2 [(1, .int (SL ((I 4)).toNatClampNeg)), (0, .ref h)] := hl
  refine lv_iload_n hx hb d_D_redo_13 rfl (lv_at hl 0 rfl) ?_
  refine lv_iconst (v := (-1)) hx hb d_D_redo_14 (by decide) ?_
  refine lv_icmp_ne (tgt := 26) hx hb d_D_redo_15 (by decide) (fun hc2 => ?_) (fun hc2 => ?_)
  ·
    have hf := wk_iff hc2 hf
    refine lv_aload_n hx hb d_D_redo_26 rfl (lv_at hl 1 rfl) ?_
    refine lv_iload_n hx hb d_D_redo_27 rfl (lv_at hl 0 rfl) ?_
    have hFc := va_freeM (wc := (tw_W h q g hj pt tg sa ta n SO tn tx I cx SP SL)) hD hS hA (fun _ h9 => h9)
    cases hg1 : f_D_moveTo n SO I cx SP SL (SL ((I 4)).toNatClampNeg) with
    | none => rw [hg1] at hf; cases hf
    | some z1 =>
      obtain ⟨r1, I1, cx1, SP1, SL1⟩ := z1
      rw [hg1] at hf
      dsimp only [Option.bind_some] at hf
      refine va_callv (va_runV (As := [.int (SL ((I 4)).toNatClampNeg)]) (rest := []) ⟨hx, hb, hml, hown, hts⟩ (cm_D_moveTo l dC dI h q g hj pt tg sa ta n SO tn tx _  I cx SP SL (SL ((I 4)).toNatClampNeg) r1 I1 cx1 SP1 SL1 hg1) (cwV 1 hts (gd_v lk_465 lk_466 lk_467 lk_444 lk_464) rfl rfl rfl (by decide +kernel) ⟨Nat.le_of_ble_eq_true rfl, Nat.le_of_ble_eq_true rfl⟩) ⟨fun a U g mk q => by obtain ⟨q0, q1, qP, qK, qD⟩ := q; exact ⟨q0, q1, qP, va_K.moved (u := U) (U := U.calling g mk a) (Vm.Alike.refl U.vm) qK, qD⟩, va_recv (ci := 0) (q0 := 0) hK hP rfl rfl, fun U hU hW => ⟨rfl, by rw [hU], by rw [hU]; exact hP, va_K.moved hW.alike hK, hD.weaken (fun _ _ _ _ => trivial)⟩⟩ rfl rfl hl.1 rfl (lv_room (Nat.le_of_ble_eq_true rfl)) d_D_redo_28 ⟨Nat.le_of_ble_eq_true rfl, Nat.le_of_ble_eq_true rfl⟩) hS (fun q _ h => hFc q h) hFc (fun u t H1 locs ht hvm hw hB hz1 hk1 hS => ?_)
      obtain ⟨hP1, hK1, hD1⟩ := hB
      rw [ht] at hP1
      have hP := hP1
      have hD := hD1.weaken (fun _ q _ h => hFc q.1 h)
      generalize H1 = H at hP hS ⊢
      refine lv_aload_n hx hb d_D_redo_31 rfl (lv_at hl 1 rfl) ?_
      refine va_get (D := (dC, dI)) (ci := 0) (v := .int (I1 4)) (C := R_D) (T := F_D) (N := 14) hx hb hts (fun w h => List.mem_cons_of_mem _ (in_D w h)) hown hK hP 0 rfl rfl 4 (by decide) (hts _ (List.mem_cons_of_mem _ lk_435)) (fun _ h9 => h9) rfl d_D_redo_32 ?_
      obtain ⟨e0, e1, e2, e3, e4, e5⟩ := wk_inj5 hf
      subst e1
      subst e2
      subst e3
      subst e4
      subst e5
      exact W.iret (v := (I1 4)) hx hb hr (fun t ht hW => ⟨⟨(I1 4), (), rfl, rfl, by rw [ht]; exact hP, va_K.moved hW.alike hK, hD⟩, hS.F ht⟩) hS.2.2 d_D_redo_35
  ·
    have hf := wk_ift hc2 hf
    exact (wk_tag (by decide) hf).elim
set_option maxHeartbeats 8000000 in
set_option maxRecDepth 100000 in
theorem ct_D_redo_4 (l : Launch) (hfl : l.flags = flags0) (dC : Nat → ClassId) (dI : Nat → Nat → Nat) (h : Nat) (q : Nat → Nat) (g : Nat → ClassId) (hj : Nat) (pt : Nat) (tg : ClassId) (sa : Nat → Nat) (ta : Nat → Nat) (n : Nat) (SO : Nat → Int32) (tn : Nat → Nat) (tx : Nat → Nat → Int32) (sz : Nat) (I : MI) (cx : Nat) (SP : MI) (SL : MI) (r : Int32) (I' : MI) (cx' : Nat) (SP' : MI) (SL' : MI) (hf : f_D_redo n SO I cx SP SL  = some (4, r, I', cx', SP', SL')) : th_Met l y_D_redo w_D_redo ({ frames := 6, cells := 1, slots := 6, locals := 81 }) (va_Pc [.ref h] (fun U => U.heap.size = sz ∧ va_P (dC, dI) vwCl (tw_W h q g hj pt tg sa ta n SO tn tx I cx SP SL) U.heap ∧ va_K (dC, dI) vwCl (tw_T h q g hj pt tg sa ta n SO tn tx) U ∧ va_D (fun _ => True) (tw_W h q g hj pt tg sa ta n SO tn tx I cx SP SL) ∧ th_ZA (va_A (tw_W h q g hj pt tg sa ta n SO tn tx I cx SP SL) sz) U)) (th_Qw "java/util/NoSuchElementException" (fun t => va_P (dC, dI) vwCl (tw_W h q g hj pt tg sa ta n SO tn tx I' cx' SP' SL') t.heap ∧ va_K (dC, dI) vwCl (tw_T h q g hj pt tg sa ta n SO tn tx) t ∧ va_D (va_A (tw_W h q g hj pt tg sa ta n SO tn tx I cx SP SL) sz) (tw_W h q g hj pt tg sa ta n SO tn tx I' cx' SP' SL')) (va_A (tw_W h q g hj pt tg sa ta n SO tn tx I cx SP SL) sz)) 1 6 (va_A (tw_W h q g hj pt tg sa ta n SO tn tx I cx SP SL) sz) := by
  refine th_Met.ofW (cc := prog_1_method_12_code) (maxL := 2) (ret := (some .int)) (by decide) rfl ?_
  intro p e s m args below meth c s₁ B hml hnh hv
  obtain ⟨rfl, hsz, hP, hK, hD0, hZ⟩ := hv
  have hx := B.exec
  have hb := B.bytes
  have hr := B.returns
  have hts := atoms_spec (ws := w_D_redo) B.pre
  have hown : s.vm.findClass "DraftTree" = some m.cls := findClass_of_methodNamed B.named
  have hlocks := B.notSynchronized
  have htr := Launch.traces_off hfl B.admits
  subst hsz
  have hD := hD0.self (sz := s.heap.size)
  generalize hAe : va_A (tw_W h q g hj pt tg sa ta n SO tn tx I cx SP SL) s.heap.size = B9 at hD hZ ⊢
  have hA : ∀ q : Nat, s.heap.size ≤ q → B9 q := fun q h => by rw [← hAe]; exact Or.inr h
  clear hAe
  have hS : va_S B9 s.heap s.heap [] := va_S.rf
  have hl := lv_entry ([.ref h]) (n := 2) (Nat.le_of_ble_eq_true rfl)
  rw [lg_entry_eq]
  generalize (lg_sl ([.ref h]) ++ List.replicate (2 - (lg_sl ([.ref h])).length) Slot.unset).toArray = ls at hl ⊢
  have hl : lv_has ls 2 [(0, .ref h)] := hl
  unfold f_D_redo at hf
  refine lv_aload_n hx hb d_D_redo_0 rfl (lv_at hl 0 rfl) ?_
  refine va_get (D := (dC, dI)) (ci := 0) (v := .ref (q 2)) (C := R_D) (T := F_D) (N := 14) hx hb hts (fun w h => List.mem_cons_of_mem _ (in_D w h)) hown hK hP 0 rfl rfl 2 (by decide) (hts _ (List.mem_cons_of_mem _ lk_455)) (fun _ h9 => h9) rfl d_D_redo_1 ?_
  refine lv_aload_n hx hb d_D_redo_4 rfl (lv_at hl 0 rfl) ?_
  refine va_get (D := (dC, dI)) (ci := 0) (v := .int (I 4)) (C := R_D) (T := F_D) (N := 14) hx hb hts (fun w h => List.mem_cons_of_mem _ (in_D w h)) hown hK hP 0 rfl rfl 4 (by decide) (hts _ (List.mem_cons_of_mem _ lk_435)) (fun _ h9 => h9) rfl d_D_redo_5 ?_
  obtain ⟨hc1, hf⟩ := wk_if hf
  obtain ⟨hc1n, hf⟩ := wk_if hf
  have hc1i := wk_inb_lt hc1n
  refine va_aldq hx hb hK hP 1 0 rfl rfl (wk_inb_ok hc1) d_D_redo_8 ?_
  refine wk_top (w := .ref (sa ((I 4)).toNatClampNeg)) (tw_rf hc1i) ?_
  refine va_get (D := (dC, dI)) (ci := 1) (v := .int (SL ((I 4)).toNatClampNeg)) (C := R_S) (T := F_S) (N := 4) hx hb hts (fun w h => List.mem_cons_of_mem _ (in_S w h)) hown hK hP (2 + ((I 4)).toNatClampNeg) (va_poolAt rfl hc1i) rfl 3 (by decide) (hts _ (List.mem_cons_of_mem _ lk_463)) (fun _ h9 => h9) rfl d_D_redo_9 ?_
  refine lv_istore_n (lv' := [(1, .int (SL ((I 4)).toNatClampNeg)), (0, .ref h)]) hx hb d_D_redo_12 rfl hl (by decide) rfl (fun ls hl => ?_)
  have hl : lv_has ls 2 [(1, .int (SL ((I 4)).toNatClampNeg)), (0, .ref h)] := hl
  refine lv_iload_n hx hb d_D_redo_13 rfl (lv_at hl 0 rfl) ?_
  refine lv_iconst (v := (-1)) hx hb d_D_redo_14 (by decide) ?_
  refine lv_icmp_ne (tgt := 26) hx hb d_D_redo_15 (by decide) (fun hc2 => ?_) (fun hc2 => ?_)
  ·
    have hf := wk_iff hc2 hf
    refine lv_aload_n hx hb d_D_redo_26 rfl (lv_at hl 1 rfl) ?_
    refine lv_iload_n hx hb d_D_redo_27 rfl (lv_at hl 0 rfl) ?_
    have hFc := va_freeM (wc := (tw_W h q g hj pt tg sa ta n SO tn tx I cx SP SL)) hD hS hA (fun _ h9 => h9)
    cases hg1 : f_D_moveTo n SO I cx SP SL (SL ((I 4)).toNatClampNeg) with
    | none => rw [hg1] at hf; cases hf
    | some z1 =>
      obtain ⟨r1, I1, cx1, SP1, SL1⟩ := z1
      rw [hg1] at hf
      dsimp only [Option.bind_some] at hf
      refine va_callv (va_runV (As := [.int (SL ((I 4)).toNatClampNeg)]) (rest := []) ⟨hx, hb, hml, hown, hts⟩ (cm_D_moveTo l dC dI h q g hj pt tg sa ta n SO tn tx _  I cx SP SL (SL ((I 4)).toNatClampNeg) r1 I1 cx1 SP1 SL1 hg1) (cwV 1 hts (gd_v lk_465 lk_466 lk_467 lk_444 lk_464) rfl rfl rfl (by decide +kernel) ⟨Nat.le_of_ble_eq_true rfl, Nat.le_of_ble_eq_true rfl⟩) ⟨fun a U g mk q => by obtain ⟨q0, q1, qP, qK, qD⟩ := q; exact ⟨q0, q1, qP, va_K.moved (u := U) (U := U.calling g mk a) (Vm.Alike.refl U.vm) qK, qD⟩, va_recv (ci := 0) (q0 := 0) hK hP rfl rfl, fun U hU hW => ⟨rfl, by rw [hU], by rw [hU]; exact hP, va_K.moved hW.alike hK, hD.weaken (fun _ _ _ _ => trivial)⟩⟩ rfl rfl hl.1 rfl (lv_room (Nat.le_of_ble_eq_true rfl)) d_D_redo_28 ⟨Nat.le_of_ble_eq_true rfl, Nat.le_of_ble_eq_true rfl⟩) hS (fun q _ h => hFc q h) hFc (fun u t H1 locs ht hvm hw hB hz1 hk1 hS => ?_)
      obtain ⟨hP1, hK1, hD1⟩ := hB
      rw [ht] at hP1
      have hP := hP1
      have hD := hD1.weaken (fun _ q _ h => hFc q.1 h)
      generalize H1 = H at hP hS ⊢
      refine lv_aload_n hx hb d_D_redo_31 rfl (lv_at hl 1 rfl) ?_
      refine va_get (D := (dC, dI)) (ci := 0) (v := .int (I1 4)) (C := R_D) (T := F_D) (N := 14) hx hb hts (fun w h => List.mem_cons_of_mem _ (in_D w h)) hown hK hP 0 rfl rfl 4 (by decide) (hts _ (List.mem_cons_of_mem _ lk_435)) (fun _ h9 => h9) rfl d_D_redo_32 ?_
      exact (wk_tag (by decide) hf).elim
  ·
    have hf := wk_ift hc2 hf
    obtain ⟨e0, e1, e2, e3, e4, e5⟩ := wk_inj5 hf
    subst e1
    subst e2
    subst e3
    subst e4
    subst e5
    exact th_newG hx hb htr hown (by decide) (by decide) (wk_thr hts hZ hS lk_447 lk_448 (fun _ a9 b9 => oa_3 a9 b9)) hnh (by rw [hl.1, hml]) hS (Nat.le_of_ble_eq_true rfl) (Nat.le_of_ble_eq_true rfl) (Nat.le_of_ble_eq_true rfl) (Nat.le_of_ble_eq_true rfl) (Nat.le_of_ble_eq_true rfl) (Nat.le_of_ble_eq_true rfl) hlocks (fun t hal hk => ⟨hP.kept (fun k q hq => hk _ (hP k q hq).lt), va_K.moved hal hK, hD⟩) d_D_redo_18 d_D_redo_21 d_D_redo_22 d_D_redo_25

set_option maxHeartbeats 8000000 in
set_option maxRecDepth 100000 in
theorem cm_D_selectionEnd (l : Launch) (dC : Nat → ClassId) (dI : Nat → Nat → Nat) (h : Nat) (q : Nat → Nat) (g : Nat → ClassId) (hp : Nat) (qp : Nat → Nat) (gp : Nat → ClassId) (tq : Nat) (tg : ClassId) (tn : Nat) (tx : Nat → Int32) (sz : Nat) (I : MI) (A : MA) (M : MI) (MB : MA) (L : ML) (r : Int32) (I' : MI) (A' : MA) (M' : MI) (MB' : MA) (L' : ML) (hf : f_D_selectionEnd tn tx I A M MB L  = some (r, I', A', M', MB', L')) : Met l y_D_selectionEnd w_D_selectionEnd ({ frames := 1, cells := 0, slots := 0, locals := 13 }) (va_Pc [.ref h] (fun U => U.heap.size = sz ∧ va_P (dC, dI) vwCl (dw_W h q g hp qp gp tq tg tn tx I A M MB L) U.heap ∧ va_K (dC, dI) vwCl (dw_T h q g hp qp gp tq tg tn tx) U ∧ va_D (fun _ => True) (dw_W h q g hp qp gp tq tg tn tx I A M MB L))) (va_Qi (fun (r9 : Int32) (_ : Unit) => r9 = r) (fun (_ : Unit) t => va_P (dC, dI) vwCl (dw_W h q g hp qp gp tq tg tn tx I' A' M' MB' L') t.heap ∧ va_K (dC, dI) vwCl (dw_T h q g hp qp gp tq tg tn tx) t ∧ va_D (va_A (dw_W h q g hp qp gp tq tg tn tx I A M MB L) sz) (dw_W h q g hp qp gp tq tg tn tx I' A' M' MB' L')) (va_A (dw_W h q g hp qp gp tq tg tn tx I A M MB L) sz)) 0 0 (va_A (dw_W h q g hp qp gp tq tg tn tx I A M MB L) sz) := by
  refine Met.ofW (cc := prog_1_method_22_code) (maxL := 1) (ret := (some .int)) (by decide) rfl ?_
  intro p e s m args below meth c s₁ B hml hv
  obtain ⟨rfl, hsz, hP, hK, hD0⟩ := hv
  have hx := B.exec
  have hb := B.bytes
  have hr := B.returns
  have hts := atoms_spec (ws := w_D_selectionEnd) B.pre
  have hown : s.vm.findClass "DraftTree" = some m.cls := findClass_of_methodNamed B.named
  have hlocks := B.notSynchronized
  subst hsz
  have hD := hD0.self (sz := s.heap.size)
  generalize hAe : va_A (dw_W h q g hp qp gp tq tg tn tx I A M MB L) s.heap.size = B9 at hD ⊢
  have hA : ∀ q : Nat, s.heap.size ≤ q → B9 q := fun q h => by rw [← hAe]; exact Or.inr h
  clear hAe
  have hS : va_S B9 s.heap s.heap [] := va_S.rf
  have hl := lv_entry ([.ref h]) (n := 1) (Nat.le_of_ble_eq_true rfl)
  rw [lg_entry_eq]
  generalize (lg_sl ([.ref h]) ++ List.replicate (1 - (lg_sl ([.ref h])).length) Slot.unset).toArray = ls at hl ⊢
  have hl : lv_has ls 1 [(0, .ref h)] := hl
  have blk26 : ∀ (I : MI) (A : MA) (M : MI) (MB : MA) (L : ML) (X : Nat → Int32) (Y : Nat → Int64) (s0 : Int32) (ls : Array Slot) (H : Heap) (locs : List Loc), f_D_selectionEnd_26 tn tx I A M MB L X Y s0 = some (r, I', A', M', MB', L') → lv_has ls 1 [(0, .ref h)] → va_P (dC, dI) vwCl (dw_W h q g hp qp gp tq tg tn tx I A M MB L) H → va_D B9 (dw_W h q g hp qp gp tq tg tn tx I A M MB L) → va_S B9 s.heap H locs → W p l e (headSpec w_D_selectionEnd ({ frames := 1, cells := 0, slots := 0, locals := 13 })).room s m ([.ref h] : List Value).toArray below meth c H locs 0 0 (MQ below (va_Qi (fun (r9 : Int32) (_ : Unit) => r9 = r) (fun (_ : Unit) t => va_P (dC, dI) vwCl (dw_W h q g hp qp gp tq tg tn tx I' A' M' MB' L') t.heap ∧ va_K (dC, dI) vwCl (dw_T h q g hp qp gp tq tg tn tx) t ∧ va_D B9 (dw_W h q g hp qp gp tq tg tn tx I' A' M' MB' L')) B9) ([.ref h] : List Value).toArray s 0 0 B9) (F0 m 26 ls [.int s0]) := by
    intro I A M MB L X Y s0 ls H locs hf hl hP hD hS
    unfold f_D_selectionEnd_26 at hf
    obtain ⟨e0, e1, e2, e3, e4, e5⟩ := wk_inj5 hf
    subst e0
    subst e1
    subst e2
    subst e3
    subst e4
    subst e5
    exact W.iret (v := s0) hx hb hr (fun t ht hW => ⟨⟨s0, (), rfl, rfl, by rw [ht]; exact hP, va_K.moved hW.alike hK, hD⟩, hS.F ht⟩) hS.2.2 d_D_selectionEnd_26
  unfold f_D_selectionEnd at hf
  refine lv_aload_n hx hb d_D_selectionEnd_0 rfl (lv_at hl 0 rfl) ?_
  refine va_get (D := (dC, dI)) (ci := 0) (v := .int (I 7)) (C := R_D) (T := F_D) (N := 14) hx hb hts (fun w h => List.mem_cons_of_mem _ (in_D w h)) hown hK hP 0 rfl rfl 7 (by decide) (hts _ (List.mem_cons_of_mem _ lk_438)) (fun _ h9 => h9) rfl d_D_selectionEnd_1 ?_
  refine lv_iconst (v := (-1)) hx hb d_D_selectionEnd_4 (by decide) ?_
  refine lv_icmp_ne (tgt := 15) hx hb d_D_selectionEnd_5 (by decide) (fun hc1 => ?_) (fun hc1 => ?_)
  ·
    have hf := wk_iff hc1 hf
    refine lv_aload_n hx hb d_D_selectionEnd_15 rfl (lv_at hl 0 rfl) ?_
    refine va_get (D := (dC, dI)) (ci := 0) (v := .int (I 7)) (C := R_D) (T := F_D) (N := 14) hx hb hts (fun w h => List.mem_cons_of_mem _ (in_D w h)) hown hK hP 0 rfl rfl 7 (by decide) (hts _ (List.mem_cons_of_mem _ lk_438)) (fun _ h9 => h9) rfl d_D_selectionEnd_16 ?_
    refine lv_aload_n hx hb d_D_selectionEnd_19 rfl (lv_at hl 0 rfl) ?_
    refine va_get (D := (dC, dI)) (ci := 0) (v := .int (I 6)) (C := R_D) (T := F_D) (N := 14) hx hb hts (fun w h => List.mem_cons_of_mem _ (in_D w h)) hown hK hP 0 rfl rfl 6 (by decide) (hts _ (List.mem_cons_of_mem _ lk_437)) (fun _ h9 => h9) rfl d_D_selectionEnd_20 ?_
    refine va_mmax hx hb (by rw [hml, hl.1]) hown (hts _ (List.mem_cons_of_mem _ lk_484)) (hts _ (List.mem_cons_of_mem _ lk_485)) (hts _ (List.mem_cons_of_mem _ lk_486)) (hts _ (List.mem_cons_of_mem _ lk_487)) (Nat.le_of_ble_eq_true rfl) (Nat.le_of_ble_eq_true rfl) (Nat.le_of_ble_eq_true rfl) (Nat.le_of_ble_eq_true rfl) d_D_selectionEnd_23 ?_
    exact blk26 I A M MB L (fun _ => 0) (fun _ => 0) (if (I 7) < (I 6) then (I 6) else (I 7)) _ _ _ hf (lv_sub hl [0] rfl) hP hD hS
  ·
    have hf := wk_ift hc1 hf
    refine lv_aload_n hx hb d_D_selectionEnd_8 rfl (lv_at hl 0 rfl) ?_
    refine va_get (D := (dC, dI)) (ci := 0) (v := .int (I 6)) (C := R_D) (T := F_D) (N := 14) hx hb hts (fun w h => List.mem_cons_of_mem _ (in_D w h)) hown hK hP 0 rfl rfl 6 (by decide) (hts _ (List.mem_cons_of_mem _ lk_437)) (fun _ h9 => h9) rfl d_D_selectionEnd_9 ?_
    refine lv_goto (tgt := 26) hx hb d_D_selectionEnd_12 (by decide) ?_
    exact blk26 I A M MB L (fun _ => 0) (fun _ => 0) (I 6) _ _ _ hf (lv_sub hl [0] rfl) hP hD hS

set_option maxHeartbeats 8000000 in
set_option maxRecDepth 100000 in
theorem cm_D_selectionStart (l : Launch) (dC : Nat → ClassId) (dI : Nat → Nat → Nat) (h : Nat) (q : Nat → Nat) (g : Nat → ClassId) (hp : Nat) (qp : Nat → Nat) (gp : Nat → ClassId) (tq : Nat) (tg : ClassId) (tn : Nat) (tx : Nat → Int32) (sz : Nat) (I : MI) (A : MA) (M : MI) (MB : MA) (L : ML) (r : Int32) (I' : MI) (A' : MA) (M' : MI) (MB' : MA) (L' : ML) (hf : f_D_selectionStart tn tx I A M MB L  = some (r, I', A', M', MB', L')) : Met l y_D_selectionStart w_D_selectionStart ({ frames := 1, cells := 0, slots := 0, locals := 13 }) (va_Pc [.ref h] (fun U => U.heap.size = sz ∧ va_P (dC, dI) vwCl (dw_W h q g hp qp gp tq tg tn tx I A M MB L) U.heap ∧ va_K (dC, dI) vwCl (dw_T h q g hp qp gp tq tg tn tx) U ∧ va_D (fun _ => True) (dw_W h q g hp qp gp tq tg tn tx I A M MB L))) (va_Qi (fun (r9 : Int32) (_ : Unit) => r9 = r) (fun (_ : Unit) t => va_P (dC, dI) vwCl (dw_W h q g hp qp gp tq tg tn tx I' A' M' MB' L') t.heap ∧ va_K (dC, dI) vwCl (dw_T h q g hp qp gp tq tg tn tx) t ∧ va_D (va_A (dw_W h q g hp qp gp tq tg tn tx I A M MB L) sz) (dw_W h q g hp qp gp tq tg tn tx I' A' M' MB' L')) (va_A (dw_W h q g hp qp gp tq tg tn tx I A M MB L) sz)) 0 0 (va_A (dw_W h q g hp qp gp tq tg tn tx I A M MB L) sz) := by
  refine Met.ofW (cc := prog_1_method_21_code) (maxL := 1) (ret := (some .int)) (by decide) rfl ?_
  intro p e s m args below meth c s₁ B hml hv
  obtain ⟨rfl, hsz, hP, hK, hD0⟩ := hv
  have hx := B.exec
  have hb := B.bytes
  have hr := B.returns
  have hts := atoms_spec (ws := w_D_selectionStart) B.pre
  have hown : s.vm.findClass "DraftTree" = some m.cls := findClass_of_methodNamed B.named
  have hlocks := B.notSynchronized
  subst hsz
  have hD := hD0.self (sz := s.heap.size)
  generalize hAe : va_A (dw_W h q g hp qp gp tq tg tn tx I A M MB L) s.heap.size = B9 at hD ⊢
  have hA : ∀ q : Nat, s.heap.size ≤ q → B9 q := fun q h => by rw [← hAe]; exact Or.inr h
  clear hAe
  have hS : va_S B9 s.heap s.heap [] := va_S.rf
  have hl := lv_entry ([.ref h]) (n := 1) (Nat.le_of_ble_eq_true rfl)
  rw [lg_entry_eq]
  generalize (lg_sl ([.ref h]) ++ List.replicate (1 - (lg_sl ([.ref h])).length) Slot.unset).toArray = ls at hl ⊢
  have hl : lv_has ls 1 [(0, .ref h)] := hl
  have blk26 : ∀ (I : MI) (A : MA) (M : MI) (MB : MA) (L : ML) (X : Nat → Int32) (Y : Nat → Int64) (s0 : Int32) (ls : Array Slot) (H : Heap) (locs : List Loc), f_D_selectionStart_26 tn tx I A M MB L X Y s0 = some (r, I', A', M', MB', L') → lv_has ls 1 [(0, .ref h)] → va_P (dC, dI) vwCl (dw_W h q g hp qp gp tq tg tn tx I A M MB L) H → va_D B9 (dw_W h q g hp qp gp tq tg tn tx I A M MB L) → va_S B9 s.heap H locs → W p l e (headSpec w_D_selectionStart ({ frames := 1, cells := 0, slots := 0, locals := 13 })).room s m ([.ref h] : List Value).toArray below meth c H locs 0 0 (MQ below (va_Qi (fun (r9 : Int32) (_ : Unit) => r9 = r) (fun (_ : Unit) t => va_P (dC, dI) vwCl (dw_W h q g hp qp gp tq tg tn tx I' A' M' MB' L') t.heap ∧ va_K (dC, dI) vwCl (dw_T h q g hp qp gp tq tg tn tx) t ∧ va_D B9 (dw_W h q g hp qp gp tq tg tn tx I' A' M' MB' L')) B9) ([.ref h] : List Value).toArray s 0 0 B9) (F0 m 26 ls [.int s0]) := by
    intro I A M MB L X Y s0 ls H locs hf hl hP hD hS
    unfold f_D_selectionStart_26 at hf
    obtain ⟨e0, e1, e2, e3, e4, e5⟩ := wk_inj5 hf
    subst e0
    subst e1
    subst e2
    subst e3
    subst e4
    subst e5
    exact W.iret (v := s0) hx hb hr (fun t ht hW => ⟨⟨s0, (), rfl, rfl, by rw [ht]; exact hP, va_K.moved hW.alike hK, hD⟩, hS.F ht⟩) hS.2.2 d_D_selectionStart_26
  unfold f_D_selectionStart at hf
  refine lv_aload_n hx hb d_D_selectionStart_0 rfl (lv_at hl 0 rfl) ?_
  refine va_get (D := (dC, dI)) (ci := 0) (v := .int (I 7)) (C := R_D) (T := F_D) (N := 14) hx hb hts (fun w h => List.mem_cons_of_mem _ (in_D w h)) hown hK hP 0 rfl rfl 7 (by decide) (hts _ (List.mem_cons_of_mem _ lk_438)) (fun _ h9 => h9) rfl d_D_selectionStart_1 ?_
  refine lv_iconst (v := (-1)) hx hb d_D_selectionStart_4 (by decide) ?_
  refine lv_icmp_ne (tgt := 15) hx hb d_D_selectionStart_5 (by decide) (fun hc1 => ?_) (fun hc1 => ?_)
  ·
    have hf := wk_iff hc1 hf
    refine lv_aload_n hx hb d_D_selectionStart_15 rfl (lv_at hl 0 rfl) ?_
    refine va_get (D := (dC, dI)) (ci := 0) (v := .int (I 7)) (C := R_D) (T := F_D) (N := 14) hx hb hts (fun w h => List.mem_cons_of_mem _ (in_D w h)) hown hK hP 0 rfl rfl 7 (by decide) (hts _ (List.mem_cons_of_mem _ lk_438)) (fun _ h9 => h9) rfl d_D_selectionStart_16 ?_
    refine lv_aload_n hx hb d_D_selectionStart_19 rfl (lv_at hl 0 rfl) ?_
    refine va_get (D := (dC, dI)) (ci := 0) (v := .int (I 6)) (C := R_D) (T := F_D) (N := 14) hx hb hts (fun w h => List.mem_cons_of_mem _ (in_D w h)) hown hK hP 0 rfl rfl 6 (by decide) (hts _ (List.mem_cons_of_mem _ lk_437)) (fun _ h9 => h9) rfl d_D_selectionStart_20 ?_
    refine va_mmin hx hb (by rw [hml, hl.1]) hown (hts _ (List.mem_cons_of_mem _ lk_489)) (hts _ (List.mem_cons_of_mem _ lk_490)) (hts _ (List.mem_cons_of_mem _ lk_486)) (hts _ (List.mem_cons_of_mem _ lk_491)) (Nat.le_of_ble_eq_true rfl) (Nat.le_of_ble_eq_true rfl) (Nat.le_of_ble_eq_true rfl) (Nat.le_of_ble_eq_true rfl) d_D_selectionStart_23 ?_
    exact blk26 I A M MB L (fun _ => 0) (fun _ => 0) (if (I 6) < (I 7) then (I 6) else (I 7)) _ _ _ hf (lv_sub hl [0] rfl) hP hD hS
  ·
    have hf := wk_ift hc1 hf
    refine lv_aload_n hx hb d_D_selectionStart_8 rfl (lv_at hl 0 rfl) ?_
    refine va_get (D := (dC, dI)) (ci := 0) (v := .int (I 6)) (C := R_D) (T := F_D) (N := 14) hx hb hts (fun w h => List.mem_cons_of_mem _ (in_D w h)) hown hK hP 0 rfl rfl 6 (by decide) (hts _ (List.mem_cons_of_mem _ lk_437)) (fun _ h9 => h9) rfl d_D_selectionStart_9 ?_
    refine lv_goto (tgt := 26) hx hb d_D_selectionStart_12 (by decide) ?_
    exact blk26 I A M MB L (fun _ => 0) (fun _ => 0) (I 6) _ _ _ hf (lv_sub hl [0] rfl) hP hD hS

set_option maxHeartbeats 8000000 in
set_option maxRecDepth 100000 in
theorem cm_D_sizeWithSlipIn (l : Launch) (dC : Nat → ClassId) (dI : Nat → Nat → Nat) (h : Nat) (q : Nat → Nat) (g : Nat → ClassId) (hp : Nat) (qp : Nat → Nat) (gp : Nat → ClassId) (tq : Nat) (tg : ClassId) (tn : Nat) (tx : Nat → Int32) (sz : Nat) (I : MI) (A : MA) (M : MI) (MB : MA) (L : ML) (k1 : Int32) (r : Int32) (I' : MI) (A' : MA) (M' : MI) (MB' : MA) (L' : ML) (hf : f_D_sizeWithSlipIn tn tx I A M MB L  k1 = some (r, I', A', M', MB', L')) : Met l y_D_sizeWithSlipIn w_D_sizeWithSlipIn ({ frames := 0, cells := 0, slots := 0, locals := 0 }) (va_Pc [.ref h, .int k1] (fun U => U.heap.size = sz ∧ va_P (dC, dI) vwCl (dw_W h q g hp qp gp tq tg tn tx I A M MB L) U.heap ∧ va_K (dC, dI) vwCl (dw_T h q g hp qp gp tq tg tn tx) U ∧ va_D (fun _ => True) (dw_W h q g hp qp gp tq tg tn tx I A M MB L))) (va_Qi (fun (r9 : Int32) (_ : Unit) => r9 = r) (fun (_ : Unit) t => va_P (dC, dI) vwCl (dw_W h q g hp qp gp tq tg tn tx I' A' M' MB' L') t.heap ∧ va_K (dC, dI) vwCl (dw_T h q g hp qp gp tq tg tn tx) t ∧ va_D (va_A (dw_W h q g hp qp gp tq tg tn tx I A M MB L) sz) (dw_W h q g hp qp gp tq tg tn tx I' A' M' MB' L')) (va_A (dw_W h q g hp qp gp tq tg tn tx I A M MB L) sz)) 0 0 (va_A (dw_W h q g hp qp gp tq tg tn tx I A M MB L) sz) := by
  refine Met.ofW (cc := prog_1_method_27_code) (maxL := 4) (ret := (some .int)) (by decide) rfl ?_
  intro p e s m args below meth c s₁ B hml hv
  obtain ⟨rfl, hsz, hP, hK, hD0⟩ := hv
  have hx := B.exec
  have hb := B.bytes
  have hr := B.returns
  have hts := atoms_spec (ws := w_D_sizeWithSlipIn) B.pre
  have hown : s.vm.findClass "DraftTree" = some m.cls := findClass_of_methodNamed B.named
  have hlocks := B.notSynchronized
  subst hsz
  have hD := hD0.self (sz := s.heap.size)
  generalize hAe : va_A (dw_W h q g hp qp gp tq tg tn tx I A M MB L) s.heap.size = B9 at hD ⊢
  have hA : ∀ q : Nat, s.heap.size ≤ q → B9 q := fun q h => by rw [← hAe]; exact Or.inr h
  clear hAe
  have hS : va_S B9 s.heap s.heap [] := va_S.rf
  have hl := lv_entry ([.ref h, .int k1]) (n := 4) (Nat.le_of_ble_eq_true rfl)
  rw [lg_entry_eq]
  generalize (lg_sl ([.ref h, .int k1]) ++ List.replicate (4 - (lg_sl ([.ref h, .int k1])).length) Slot.unset).toArray = ls at hl ⊢
  have hl : lv_has ls 4 [(0, .ref h), (1, .int k1)] := hl
  have stp15 : ∀ (rc : Nat → MI → MA → MI → MA → ML → (Nat → Int32) → (Nat → Int64) → Option (Int32 × MI × MA × MI × MA × ML)) (hrc15 : ∀ (I : MI) (A : MA) (M : MI) (MB : MA) (L : ML) (X : Nat → Int32) (Y : Nat → Int64) (ls : Array Slot) (H : Heap) (locs : List Loc), rc 15 I A M MB L X Y = some (r, I', A', M', MB', L') → lv_has ls 4 [(0, .ref h), (1, .int (X 1)), (2, .int (X 2)), (3, .int (X 3))] → va_P (dC, dI) vwCl (dw_W h q g hp qp gp tq tg tn tx I A M MB L) H → va_D B9 (dw_W h q g hp qp gp tq tg tn tx I A M MB L) → va_S B9 s.heap H locs → W p l e (headSpec w_D_sizeWithSlipIn ({ frames := 0, cells := 0, slots := 0, locals := 0 })).room s m ([.ref h, .int k1] : List Value).toArray below meth c H locs 0 0 (MQ below (va_Qi (fun (r9 : Int32) (_ : Unit) => r9 = r) (fun (_ : Unit) t => va_P (dC, dI) vwCl (dw_W h q g hp qp gp tq tg tn tx I' A' M' MB' L') t.heap ∧ va_K (dC, dI) vwCl (dw_T h q g hp qp gp tq tg tn tx) t ∧ va_D B9 (dw_W h q g hp qp gp tq tg tn tx I' A' M' MB' L')) B9) ([.ref h, .int k1] : List Value).toArray s 0 0 B9) (F0 m 15 ls [])), ∀ (I : MI) (A : MA) (M : MI) (MB : MA) (L : ML) (X : Nat → Int32) (Y : Nat → Int64) (ls : Array Slot) (H : Heap) (locs : List Loc), f_D_sizeWithSlipIn_15 tn tx rc I A M MB L X Y = some (r, I', A', M', MB', L') → lv_has ls 4 [(0, .ref h), (1, .int (X 1)), (2, .int (X 2)), (3, .int (X 3))] → va_P (dC, dI) vwCl (dw_W h q g hp qp gp tq tg tn tx I A M MB L) H → va_D B9 (dw_W h q g hp qp gp tq tg tn tx I A M MB L) → va_S B9 s.heap H locs → W p l e (headSpec w_D_sizeWithSlipIn ({ frames := 0, cells := 0, slots := 0, locals := 0 })).room s m ([.ref h, .int k1] : List Value).toArray below meth c H locs 0 0 (MQ below (va_Qi (fun (r9 : Int32) (_ : Unit) => r9 = r) (fun (_ : Unit) t => va_P (dC, dI) vwCl (dw_W h q g hp qp gp tq tg tn tx I' A' M' MB' L') t.heap ∧ va_K (dC, dI) vwCl (dw_T h q g hp qp gp tq tg tn tx) t ∧ va_D B9 (dw_W h q g hp qp gp tq tg tn tx I' A' M' MB' L')) B9) ([.ref h, .int k1] : List Value).toArray s 0 0 B9) (F0 m 15 ls []) := by
    intro rc hrc15 I A M MB L X Y ls H locs hf hl hP hD hS
    unfold f_D_sizeWithSlipIn_15 at hf
    refine lv_iload_n hx hb d_D_sizeWithSlipIn_15 rfl (lv_at hl 3 rfl) ?_
    refine lv_iload_n hx hb d_D_sizeWithSlipIn_16 rfl (lv_at hl 1 rfl) ?_
    refine lv_icmp_ge (tgt := 42) hx hb d_D_sizeWithSlipIn_17 (by decide) (fun hc1 => ?_) (fun hc1 => ?_)
    ·
      have hf := wk_ift hc1 hf
      refine lv_iload_n hx hb d_D_sizeWithSlipIn_42 rfl (lv_at hl 2 rfl) ?_
      obtain ⟨e0, e1, e2, e3, e4, e5⟩ := wk_inj5 hf
      subst e0
      subst e1
      subst e2
      subst e3
      subst e4
      subst e5
      exact W.iret (v := (X 2)) hx hb hr (fun t ht hW => ⟨⟨(X 2), (), rfl, rfl, by rw [ht]; exact hP, va_K.moved hW.alike hK, hD⟩, hS.F ht⟩) hS.2.2 d_D_sizeWithSlipIn_43
    ·
      have hf := wk_iff hc1 hf
      refine lv_iload_n hx hb d_D_sizeWithSlipIn_20 rfl (lv_at hl 2 rfl) ?_
      refine lv_aload_n hx hb d_D_sizeWithSlipIn_21 rfl (lv_at hl 0 rfl) ?_
      refine va_get (D := (dC, dI)) (ci := 0) (v := .ref (q 13)) (C := R_D) (T := F_D) (N := 14) hx hb hts (fun w h => List.mem_cons_of_mem _ (in_D w h)) hown hK hP 0 rfl rfl 13 (by decide) (hts _ (List.mem_cons_of_mem _ lk_307)) (fun _ h9 => h9) rfl d_D_sizeWithSlipIn_22 ?_
      refine lv_iload_n hx hb d_D_sizeWithSlipIn_25 rfl (lv_at hl 3 rfl) ?_
      obtain ⟨hc2, hf⟩ := wk_if hf
      refine va_iald hx hb hK hP 3 2 rfl rfl (wk_inb_ok hc2) d_D_sizeWithSlipIn_26 ?_
      refine lv_aload_n hx hb d_D_sizeWithSlipIn_27 rfl (lv_at hl 0 rfl) ?_
      refine va_get (D := (dC, dI)) (ci := 0) (v := .ref (q 12)) (C := R_D) (T := F_D) (N := 14) hx hb hts (fun w h => List.mem_cons_of_mem _ (in_D w h)) hown hK hP 0 rfl rfl 12 (by decide) (hts _ (List.mem_cons_of_mem _ lk_305)) (fun _ h9 => h9) rfl d_D_sizeWithSlipIn_28 ?_
      refine lv_iload_n hx hb d_D_sizeWithSlipIn_31 rfl (lv_at hl 3 rfl) ?_
      obtain ⟨hc3, hf⟩ := wk_if hf
      refine va_iald hx hb hK hP 2 1 rfl rfl (wk_inb_ok hc3) d_D_sizeWithSlipIn_32 ?_
      refine lv_isub hx hb d_D_sizeWithSlipIn_33 ?_
      refine lv_isub hx hb d_D_sizeWithSlipIn_34 ?_
      refine lv_istore_n (lv' := [(2, .int ((X 2) - ((A 13 ((X 3)).toNatClampNeg) - (A 12 ((X 3)).toNatClampNeg)))), (0, .ref h), (1, .int (X 1)), (3, .int (X 3))]) hx hb d_D_sizeWithSlipIn_35 rfl hl (by decide) rfl (fun ls hl => ?_)
      have hl : lv_has ls 4 [(2, .int ((X 2) - ((A 13 ((X 3)).toNatClampNeg) - (A 12 ((X 3)).toNatClampNeg)))), (0, .ref h), (1, .int (X 1)), (3, .int (X 3))] := hl
      refine lv_iinc (k := 3) (v := ((X 3) + 1)) (lv' := [(3, .int ((X 3) + 1)), (2, .int ((X 2) - ((A 13 ((X 3)).toNatClampNeg) - (A 12 ((X 3)).toNatClampNeg)))), (0, .ref h), (1, .int (X 1))]) hx hb d_D_sizeWithSlipIn_36 hl rfl (wk_inc (by decide)) (by decide) rfl (fun ls hl => ?_)
      have hl : lv_has ls 4 [(3, .int ((X 3) + 1)), (2, .int ((X 2) - ((A 13 ((X 3)).toNatClampNeg) - (A 12 ((X 3)).toNatClampNeg)))), (0, .ref h), (1, .int (X 1))] := hl
      refine lv_goto (tgt := 15) hx hb d_D_sizeWithSlipIn_39 (by decide) ?_
      exact hrc15 I A M MB L (upd (upd X 2 ((X 2) - ((A 13 ((X 3)).toNatClampNeg) - (A 12 ((X 3)).toNatClampNeg)))) 3 ((X 3) + 1)) Y _ _ _ hf (lv_sub hl [2, 3, 1, 0] rfl) hP hD hS
  have key : ∀ n : Nat, (∀ (I : MI) (A : MA) (M : MI) (MB : MA) (L : ML) (X : Nat → Int32) (Y : Nat → Int64) (ls : Array Slot) (H : Heap) (locs : List Loc), f_D_sizeWithSlipIn_go tn tx n 15 I A M MB L X Y = some (r, I', A', M', MB', L') → lv_has ls 4 [(0, .ref h), (1, .int (X 1)), (2, .int (X 2)), (3, .int (X 3))] → va_P (dC, dI) vwCl (dw_W h q g hp qp gp tq tg tn tx I A M MB L) H → va_D B9 (dw_W h q g hp qp gp tq tg tn tx I A M MB L) → va_S B9 s.heap H locs → W p l e (headSpec w_D_sizeWithSlipIn ({ frames := 0, cells := 0, slots := 0, locals := 0 })).room s m ([.ref h, .int k1] : List Value).toArray below meth c H locs 0 0 (MQ below (va_Qi (fun (r9 : Int32) (_ : Unit) => r9 = r) (fun (_ : Unit) t => va_P (dC, dI) vwCl (dw_W h q g hp qp gp tq tg tn tx I' A' M' MB' L') t.heap ∧ va_K (dC, dI) vwCl (dw_T h q g hp qp gp tq tg tn tx) t ∧ va_D B9 (dw_W h q g hp qp gp tq tg tn tx I' A' M' MB' L')) B9) ([.ref h, .int k1] : List Value).toArray s 0 0 B9) (F0 m 15 ls [])) := by
    intro n
    induction n with
    | zero => exact fun I A M MB L X Y ls H locs hf => (by cases hf)
    | succ n ih =>
      have ih15 := ih
      exact stp15 (f_D_sizeWithSlipIn_go tn tx n) ih15
  unfold f_D_sizeWithSlipIn f_D_sizeWithSlipIn_e at hf
  have hrc15 := key wk_FUEL
  refine lv_aload_n hx hb d_D_sizeWithSlipIn_0 rfl (lv_at hl 0 rfl) ?_
  refine va_get (D := (dC, dI)) (ci := 0) (v := .ref tq) (C := R_D) (T := F_D) (N := 14) hx hb hts (fun w h => List.mem_cons_of_mem _ (in_D w h)) hown hK hP 0 rfl rfl 5 (by decide) (hts _ (List.mem_cons_of_mem _ lk_241)) (fun _ h9 => h9) rfl d_D_sizeWithSlipIn_1 ?_
  refine va_alen (v := (Int32.ofNat tn)) hx hb hK hP 10 8 rfl rfl rfl d_D_sizeWithSlipIn_4 ?_
  refine lv_iload_n hx hb d_D_sizeWithSlipIn_5 rfl (lv_at hl 1 rfl) ?_
  refine lv_aload_n hx hb d_D_sizeWithSlipIn_6 rfl (lv_at hl 0 rfl) ?_
  refine va_get (D := (dC, dI)) (ci := 0) (v := .int (I 1)) (C := R_D) (T := F_D) (N := 14) hx hb hts (fun w h => List.mem_cons_of_mem _ (in_D w h)) hown hK hP 0 rfl rfl 1 (by decide) (hts _ (List.mem_cons_of_mem _ lk_312)) (fun _ h9 => h9) rfl d_D_sizeWithSlipIn_7 ?_
  refine lv_imul hx hb d_D_sizeWithSlipIn_10 ?_
  refine lv_iadd hx hb d_D_sizeWithSlipIn_11 ?_
  refine lv_istore_n (lv' := [(2, .int ((Int32.ofNat tn) + (k1 * (I 1)))), (0, .ref h), (1, .int k1)]) hx hb d_D_sizeWithSlipIn_12 rfl hl (by decide) rfl (fun ls hl => ?_)
  have hl : lv_has ls 4 [(2, .int ((Int32.ofNat tn) + (k1 * (I 1)))), (0, .ref h), (1, .int k1)] := hl
  refine lv_iconst (v := 0) hx hb d_D_sizeWithSlipIn_13 (by decide) ?_
  refine lv_istore_n (lv' := [(3, .int 0), (2, .int ((Int32.ofNat tn) + (k1 * (I 1)))), (0, .ref h), (1, .int k1)]) hx hb d_D_sizeWithSlipIn_14 rfl hl (by decide) rfl (fun ls hl => ?_)
  have hl : lv_has ls 4 [(3, .int 0), (2, .int ((Int32.ofNat tn) + (k1 * (I 1)))), (0, .ref h), (1, .int k1)] := hl
  exact hrc15 I A M MB L (upd (upd (upd (fun _ => 0) 1 k1) 2 ((Int32.ofNat tn) + (k1 * (I 1)))) 3 0) (fun _ => 0) _ _ _ hf (lv_sub hl [2, 3, 1, 0] rfl) hP hD hS

set_option maxHeartbeats 8000000 in
set_option maxRecDepth 100000 in
theorem cm_D_type (l : Launch) (dC : Nat → ClassId) (dI : Nat → Nat → Nat) (h : Nat) (q : Nat → Nat) (g : Nat → ClassId) (hp : Nat) (qp : Nat → Nat) (gp : Nat → ClassId) (tq : Nat) (tg : ClassId) (tn : Nat) (tx : Nat → Int32) (sz : Nat) (I : MI) (A : MA) (M : MI) (MB : MA) (L : ML) (k1 : Int32) (r : Int32) (I' : MI) (A' : MA) (M' : MI) (MB' : MA) (L' : ML) (hf : f_D_type tn tx I A M MB L  k1 = some (r, I', A', M', MB', L')) : Met l y_D_type w_D_type ({ frames := 0, cells := 0, slots := 0, locals := 0 }) (va_Pc [.ref h, .int k1] (fun U => U.heap.size = sz ∧ va_P (dC, dI) vwCl (dw_W h q g hp qp gp tq tg tn tx I A M MB L) U.heap ∧ va_K (dC, dI) vwCl (dw_T h q g hp qp gp tq tg tn tx) U ∧ va_D (fun _ => True) (dw_W h q g hp qp gp tq tg tn tx I A M MB L))) (va_Qi (fun (r9 : Int32) (_ : Unit) => r9 = r) (fun (_ : Unit) t => va_P (dC, dI) vwCl (dw_W h q g hp qp gp tq tg tn tx I' A' M' MB' L') t.heap ∧ va_K (dC, dI) vwCl (dw_T h q g hp qp gp tq tg tn tx) t ∧ va_D (va_A (dw_W h q g hp qp gp tq tg tn tx I A M MB L) sz) (dw_W h q g hp qp gp tq tg tn tx I' A' M' MB' L')) (va_A (dw_W h q g hp qp gp tq tg tn tx I A M MB L) sz)) 0 0 (va_A (dw_W h q g hp qp gp tq tg tn tx I A M MB L) sz) := by
  refine Met.ofW (cc := prog_1_method_2_code) (maxL := 3) (ret := (some .boolean)) (by decide) rfl ?_
  intro p e s m args below meth c s₁ B hml hv
  obtain ⟨rfl, hsz, hP, hK, hD0⟩ := hv
  have hx := B.exec
  have hb := B.bytes
  have hr := B.returns
  have hts := atoms_spec (ws := w_D_type) B.pre
  have hown : s.vm.findClass "DraftTree" = some m.cls := findClass_of_methodNamed B.named
  have hlocks := B.notSynchronized
  subst hsz
  have hD := hD0.self (sz := s.heap.size)
  generalize hAe : va_A (dw_W h q g hp qp gp tq tg tn tx I A M MB L) s.heap.size = B9 at hD ⊢
  have hA : ∀ q : Nat, s.heap.size ≤ q → B9 q := fun q h => by rw [← hAe]; exact Or.inr h
  clear hAe
  have hS : va_S B9 s.heap s.heap [] := va_S.rf
  have hl := lv_entry ([.ref h, .int k1]) (n := 3) (Nat.le_of_ble_eq_true rfl)
  rw [lg_entry_eq]
  generalize (lg_sl ([.ref h, .int k1]) ++ List.replicate (3 - (lg_sl ([.ref h, .int k1])).length) Slot.unset).toArray = ls at hl ⊢
  have hl : lv_has ls 3 [(0, .ref h), (1, .int k1)] := hl
  have blk37 : ∀ (I : MI) (A : MA) (M : MI) (MB : MA) (L : ML) (X : Nat → Int32) (Y : Nat → Int64) (ls : Array Slot) (H : Heap) (locs : List Loc), f_D_type_37 tn tx I A M MB L X Y = some (r, I', A', M', MB', L') → lv_has ls 3 [(0, .ref h), (1, .int (X 1)), (2, .int (X 2))] → va_P (dC, dI) vwCl (dw_W h q g hp qp gp tq tg tn tx I A M MB L) H → va_D B9 (dw_W h q g hp qp gp tq tg tn tx I A M MB L) → va_S B9 s.heap H locs → W p l e (headSpec w_D_type ({ frames := 0, cells := 0, slots := 0, locals := 0 })).room s m ([.ref h, .int k1] : List Value).toArray below meth c H locs 0 0 (MQ below (va_Qi (fun (r9 : Int32) (_ : Unit) => r9 = r) (fun (_ : Unit) t => va_P (dC, dI) vwCl (dw_W h q g hp qp gp tq tg tn tx I' A' M' MB' L') t.heap ∧ va_K (dC, dI) vwCl (dw_T h q g hp qp gp tq tg tn tx) t ∧ va_D B9 (dw_W h q g hp qp gp tq tg tn tx I' A' M' MB' L')) B9) ([.ref h, .int k1] : List Value).toArray s 0 0 B9) (F0 m 37 ls []) := by
    intro I A M MB L X Y ls H locs hf hl hP hD hS
    unfold f_D_type_37 at hf
    refine lv_iconst (v := 0) hx hb d_D_type_37 (by decide) ?_
    obtain ⟨e0, e1, e2, e3, e4, e5⟩ := wk_inj5 hf
    subst e0
    subst e1
    subst e2
    subst e3
    subst e4
    subst e5
    exact W.zret (v := 0) hx hb hr rfl (fun t ht hW => ⟨⟨0, (), rfl, rfl, by rw [ht]; exact hP, va_K.moved hW.alike hK, hD⟩, hS.F ht⟩) hS.2.2 d_D_type_38
  have blk23 : ∀ (I : MI) (A : MA) (M : MI) (MB : MA) (L : ML) (X : Nat → Int32) (Y : Nat → Int64) (s0 : Int32) (ls : Array Slot) (H : Heap) (locs : List Loc), f_D_type_23 tn tx I A M MB L X Y s0 = some (r, I', A', M', MB', L') → lv_has ls 3 [(0, .ref h), (1, .int (X 1))] → va_P (dC, dI) vwCl (dw_W h q g hp qp gp tq tg tn tx I A M MB L) H → va_D B9 (dw_W h q g hp qp gp tq tg tn tx I A M MB L) → va_S B9 s.heap H locs → W p l e (headSpec w_D_type ({ frames := 0, cells := 0, slots := 0, locals := 0 })).room s m ([.ref h, .int k1] : List Value).toArray below meth c H locs 0 0 (MQ below (va_Qi (fun (r9 : Int32) (_ : Unit) => r9 = r) (fun (_ : Unit) t => va_P (dC, dI) vwCl (dw_W h q g hp qp gp tq tg tn tx I' A' M' MB' L') t.heap ∧ va_K (dC, dI) vwCl (dw_T h q g hp qp gp tq tg tn tx) t ∧ va_D B9 (dw_W h q g hp qp gp tq tg tn tx I' A' M' MB' L')) B9) ([.ref h, .int k1] : List Value).toArray s 0 0 B9) (F0 m 23 ls [.int s0]) := by
    intro I A M MB L X Y s0 ls H locs hf hl hP hD hS
    unfold f_D_type_23 at hf
    refine lv_istore_n (lv' := [(2, .int s0), (0, .ref h), (1, .int (X 1))]) hx hb d_D_type_23 rfl hl (by decide) rfl (fun ls hl => ?_)
    have hl : lv_has ls 3 [(2, .int s0), (0, .ref h), (1, .int (X 1))] := hl
    refine lv_iload_n hx hb d_D_type_24 rfl (lv_at hl 0 rfl) ?_
    refine lv_if_eq (tgt := 37) hx hb d_D_type_25 (by decide) (fun hc1 => ?_) (fun hc1 => ?_)
    ·
      have hf := wk_ift hc1 hf
      exact blk37 I A M MB L (upd X 2 s0) Y _ _ _ hf (lv_sub hl [1, 2, 0] rfl) hP hD hS
    ·
      have hf := wk_iff hc1 hf
      refine lv_aload_n hx hb d_D_type_28 rfl (lv_at hl 1 rfl) ?_
      refine va_get (D := (dC, dI)) (ci := 0) (v := .int (I 1)) (C := R_D) (T := F_D) (N := 14) hx hb hts (fun w h => List.mem_cons_of_mem _ (in_D w h)) hown hK hP 0 rfl rfl 1 (by decide) (hts _ (List.mem_cons_of_mem _ lk_312)) (fun _ h9 => h9) rfl d_D_type_29 ?_
      refine lv_bipush (v := 24) hx hb d_D_type_32 (by decide) ?_
      refine lv_icmp_ne (tgt := 39) hx hb d_D_type_34 (by decide) (fun hc2 => ?_) (fun hc2 => ?_)
      ·
        have hf := wk_iff hc2 hf
        refine lv_aload_n hx hb d_D_type_39 rfl (lv_at hl 1 rfl) ?_
        refine va_get (D := (dC, dI)) (ci := 0) (v := .ref (q 0)) (C := R_D) (T := F_D) (N := 14) hx hb hts (fun w h => List.mem_cons_of_mem _ (in_D w h)) hown hK hP 0 rfl rfl 0 (by decide) (hts _ (List.mem_cons_of_mem _ lk_311)) (fun _ h9 => h9) rfl d_D_type_40 ?_
        refine lv_aload_n hx hb d_D_type_43 rfl (lv_at hl 1 rfl) ?_
        refine va_get (D := (dC, dI)) (ci := 0) (v := .int (I 1)) (C := R_D) (T := F_D) (N := 14) hx hb hts (fun w h => List.mem_cons_of_mem _ (in_D w h)) hown hK hP 0 rfl rfl 1 (by decide) (hts _ (List.mem_cons_of_mem _ lk_312)) (fun _ h9 => h9) rfl d_D_type_44 ?_
        refine lv_iload_n hx hb d_D_type_47 rfl (lv_at hl 2 rfl) ?_
        obtain ⟨hc3, hf⟩ := wk_if hf
        refine va_cast hx hb hK hP hD hS 1 0 rfl rfl (wk_inb_ok hc3) d_D_type_48 (fun H locs hP hD hS => ?_)
        obtain ⟨A1, hA1, hf⟩ := wk_letE hf
        have hP : va_P (dC, dI) vwCl (dw_W h q g hp qp gp tq tg tn tx I A1 M MB L) H := by rw [hA1]; exact hP
        have hD : va_D B9 (dw_W h q g hp qp gp tq tg tn tx I A1 M MB L) := by rw [hA1]; exact hD
        clear hA1
        refine lv_aload_n hx hb d_D_type_49 rfl (lv_at hl 1 rfl) ?_
        refine lv_dup hx hb d_D_type_50 rfl ?_
        refine va_get (D := (dC, dI)) (ci := 0) (v := .int (I 1)) (C := R_D) (T := F_D) (N := 14) hx hb hts (fun w h => List.mem_cons_of_mem _ (in_D w h)) hown hK hP 0 rfl rfl 1 (by decide) (hts _ (List.mem_cons_of_mem _ lk_312)) (fun _ h9 => h9) rfl d_D_type_51 ?_
        refine lv_iconst (v := 1) hx hb d_D_type_54 (by decide) ?_
        refine lv_iadd hx hb d_D_type_55 ?_
        refine va_put (D := (dC, dI)) (ci := 0) (v := .int ((I 1) + 1)) (ty := .int) (C := R_D) (T := F_D) (N := 14) hx hb hts (fun w h => List.mem_cons_of_mem _ (in_D w h)) t_D tk_D n_D hown hK hP hD hS 0 rfl rfl 1 (by decide) (hts _ (List.mem_cons_of_mem _ lk_312)) (fun _ h9 => h9) rfl (by decide +kernel) rfl rfl (Nat.le_of_ble_eq_true rfl) d_D_type_56 (fun H locs hP hD hS => ?_)
        obtain ⟨I2, hI2, hf⟩ := wk_letE hf
        have hP : va_P (dC, dI) vwCl (dw_W h q g hp qp gp tq tg tn tx I2 A1 M MB L) H := by rw [hI2]; exact hP
        have hD : va_D B9 (dw_W h q g hp qp gp tq tg tn tx I2 A1 M MB L) := by rw [hI2]; exact hD
        clear hI2
        refine lv_iconst (v := 1) hx hb d_D_type_59 (by decide) ?_
        obtain ⟨e0, e1, e2, e3, e4, e5⟩ := wk_inj5 hf
        subst e0
        subst e1
        subst e2
        subst e3
        subst e4
        subst e5
        exact W.zret (v := 1) hx hb hr rfl (fun t ht hW => ⟨⟨1, (), rfl, rfl, by rw [ht]; exact hP, va_K.moved hW.alike hK, hD⟩, hS.F ht⟩) hS.2.2 d_D_type_60
      ·
        have hf := wk_ift hc2 hf
        exact blk37 I A M MB L (upd X 2 s0) Y _ _ _ hf (lv_sub hl [1, 2, 0] rfl) hP hD hS
  have blk18 : ∀ (I : MI) (A : MA) (M : MI) (MB : MA) (L : ML) (X : Nat → Int32) (Y : Nat → Int64) (ls : Array Slot) (H : Heap) (locs : List Loc), f_D_type_18 tn tx I A M MB L X Y = some (r, I', A', M', MB', L') → lv_has ls 3 [(0, .ref h), (1, .int (X 1))] → va_P (dC, dI) vwCl (dw_W h q g hp qp gp tq tg tn tx I A M MB L) H → va_D B9 (dw_W h q g hp qp gp tq tg tn tx I A M MB L) → va_S B9 s.heap H locs → W p l e (headSpec w_D_type ({ frames := 0, cells := 0, slots := 0, locals := 0 })).room s m ([.ref h, .int k1] : List Value).toArray below meth c H locs 0 0 (MQ below (va_Qi (fun (r9 : Int32) (_ : Unit) => r9 = r) (fun (_ : Unit) t => va_P (dC, dI) vwCl (dw_W h q g hp qp gp tq tg tn tx I' A' M' MB' L') t.heap ∧ va_K (dC, dI) vwCl (dw_T h q g hp qp gp tq tg tn tx) t ∧ va_D B9 (dw_W h q g hp qp gp tq tg tn tx I' A' M' MB' L')) B9) ([.ref h, .int k1] : List Value).toArray s 0 0 B9) (F0 m 18 ls []) := by
    intro I A M MB L X Y ls H locs hf hl hP hD hS
    unfold f_D_type_18 at hf
    refine lv_iconst (v := 1) hx hb d_D_type_18 (by decide) ?_
    refine lv_goto (tgt := 23) hx hb d_D_type_19 (by decide) ?_
    exact blk23 I A M MB L X Y 1 _ _ _ hf (lv_sub hl [0, 1] rfl) hP hD hS
  have blk22 : ∀ (I : MI) (A : MA) (M : MI) (MB : MA) (L : ML) (X : Nat → Int32) (Y : Nat → Int64) (ls : Array Slot) (H : Heap) (locs : List Loc), f_D_type_22 tn tx I A M MB L X Y = some (r, I', A', M', MB', L') → lv_has ls 3 [(0, .ref h), (1, .int (X 1))] → va_P (dC, dI) vwCl (dw_W h q g hp qp gp tq tg tn tx I A M MB L) H → va_D B9 (dw_W h q g hp qp gp tq tg tn tx I A M MB L) → va_S B9 s.heap H locs → W p l e (headSpec w_D_type ({ frames := 0, cells := 0, slots := 0, locals := 0 })).room s m ([.ref h, .int k1] : List Value).toArray below meth c H locs 0 0 (MQ below (va_Qi (fun (r9 : Int32) (_ : Unit) => r9 = r) (fun (_ : Unit) t => va_P (dC, dI) vwCl (dw_W h q g hp qp gp tq tg tn tx I' A' M' MB' L') t.heap ∧ va_K (dC, dI) vwCl (dw_T h q g hp qp gp tq tg tn tx) t ∧ va_D B9 (dw_W h q g hp qp gp tq tg tn tx I' A' M' MB' L')) B9) ([.ref h, .int k1] : List Value).toArray s 0 0 B9) (F0 m 22 ls []) := by
    intro I A M MB L X Y ls H locs hf hl hP hD hS
    unfold f_D_type_22 at hf
    refine lv_iconst (v := 0) hx hb d_D_type_22 (by decide) ?_
    exact blk23 I A M MB L X Y 0 _ _ _ hf (lv_sub hl [0, 1] rfl) hP hD hS
  unfold f_D_type at hf
  refine lv_iload_n hx hb d_D_type_0 rfl (lv_at hl 1 rfl) ?_
  refine lv_bipush (v := 10) hx hb d_D_type_1 (by decide) ?_
  refine lv_icmp_eq (tgt := 18) hx hb d_D_type_3 (by decide) (fun hc1 => ?_) (fun hc1 => ?_)
  ·
    have hf := wk_ift hc1 hf
    exact blk18 I A M MB L (upd (fun _ => 0) 1 k1) (fun _ => 0) _ _ _ hf (lv_sub hl [0, 1] rfl) hP hD hS
  ·
    have hf := wk_iff hc1 hf
    refine lv_iload_n hx hb d_D_type_6 rfl (lv_at hl 1 rfl) ?_
    refine lv_bipush (v := 32) hx hb d_D_type_7 (by decide) ?_
    refine lv_icmp_lt (tgt := 22) hx hb d_D_type_9 (by decide) (fun hc2 => ?_) (fun hc2 => ?_)
    ·
      have hf := wk_ift hc2 hf
      exact blk22 I A M MB L (upd (fun _ => 0) 1 k1) (fun _ => 0) _ _ _ hf (lv_sub hl [0, 1] rfl) hP hD hS
    ·
      have hf := wk_iff hc2 hf
      refine lv_iload_n hx hb d_D_type_12 rfl (lv_at hl 1 rfl) ?_
      refine lv_bipush (v := 126) hx hb d_D_type_13 (by decide) ?_
      refine lv_icmp_gt (tgt := 22) hx hb d_D_type_15 (by decide) (fun hc3 => ?_) (fun hc3 => ?_)
      ·
        have hf := wk_ift hc3 hf
        exact blk22 I A M MB L (upd (fun _ => 0) 1 k1) (fun _ => 0) _ _ _ hf (lv_sub hl [0, 1] rfl) hP hD hS
      ·
        have hf := wk_iff hc3 hf
        exact blk18 I A M MB L (upd (fun _ => 0) 1 k1) (fun _ => 0) _ _ _ hf (lv_sub hl [0, 1] rfl) hP hD hS

