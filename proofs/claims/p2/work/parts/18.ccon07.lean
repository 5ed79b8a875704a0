set_option maxHeartbeats 8000000 in
set_option maxRecDepth 100000 in
theorem cm_P_handOver (l : Launch) (dC : Nat → ClassId) (dI : Nat → Nat → Nat) (h : Nat) (q : Nat → Nat) (hm : Nat) (sf : Value) (hp : Nat) (sz : Nat) (I : MI) (r : Int32) (I' : MI) (hf : f_P_handOver I  = some (r, I')) : Met l y_P_handOver w_P_handOver ({ frames := 0, cells := 0, slots := 0, locals := 0 }) (va_Pc [.ref h, .ref hp] (fun U => U.heap.size = sz ∧ va_P (dC, dI) vwCl (hw_W h q hm sf I) U.heap ∧ va_K (dC, dI) vwCl (hw_T h q hm sf) U ∧ va_D (fun _ => True) (hw_W h q hm sf I))) (va_Qr (fun (u : Unit) => u = u) (fun (_ : Unit) ra t => ra = hm ∧ va_P (dC, dI) vwCl (hw_W h q hp sf I') t.heap ∧ va_K (dC, dI) vwCl (hw_T h q hm sf) t ∧ va_D (va_A (hw_W h q hm sf I) sz) (hw_W h q hp sf I')) (va_A (hw_W h q hm sf I) sz)) 0 0 (va_A (hw_W h q hm sf I) sz) := by
  refine Met.ofW (cc := prog_3_method_2_code) (maxL := 3) (ret := (some (.object "DraftTree$Automaton"))) (by decide) rfl ?_
  intro p e s m args below meth c s₁ B hml hv
  obtain ⟨rfl, hsz, hP, hK, hD0⟩ := hv
  have hx := B.exec
  have hb := B.bytes
  have hr := B.returns
  have hts := atoms_spec (ws := w_P_handOver) B.pre
  have hown : s.vm.findClass "DraftTree$PatternReader" = some m.cls := findClass_of_methodNamed B.named
  have hlocks := B.notSynchronized
  subst hsz
  have hD := hD0.self (sz := s.heap.size)
  generalize hAe : va_A (hw_W h q hm sf I) s.heap.size = B9 at hD ⊢
  have hA : ∀ q : Nat, s.heap.size ≤ q → B9 q := fun q h => by rw [← hAe]; exact Or.inr h
  clear hAe
  have hS : va_S B9 s.heap s.heap [] := va_S.rf
  have hl := lv_entry ([.ref h, .ref hp]) (n := 3) (Nat.le_of_ble_eq_true rfl)
  rw [lg_entry_eq]
  generalize (lg_sl ([.ref h, .ref hp]) ++ List.replicate (3 - (lg_sl ([.ref h, .ref hp])).length) Slot.unset).toArray = ls at hl ⊢
  have hl : lv_has ls 3 [(0, .ref h), (1, .ref hp)] := hl
  unfold f_P_handOver at hf
  refine lv_aload_n hx hb d_P_handOver_0 rfl (lv_at hl 0 rfl) ?_
  refine va_get (D := (dC, dI)) (ci := 2) (v := .ref hm) (C := R_P) (T := F_P) (N := 13) hx hb hts (fun w h => List.mem_cons_of_mem _ (in_P w h)) hown hK hP 0 rfl rfl 4 (by decide) (hts _ (List.mem_cons_of_mem _ lk_330)) (fun _ h9 => h9) rfl d_P_handOver_1 ?_
  refine lv_astore_n (lv' := [(2, .ref hm), (0, .ref h), (1, .ref hp)]) hx hb d_P_handOver_4 rfl hl (by decide) rfl (fun ls hl => ?_)
  have hl : lv_has ls 3 [(2, .ref hm), (0, .ref h), (1, .ref hp)] := hl
  refine lv_aload_n hx hb d_P_handOver_5 rfl (lv_at hl 1 rfl) ?_
  refine lv_aload_n hx hb d_P_handOver_6 rfl (lv_at hl 2 rfl) ?_
  refine va_put (D := (dC, dI)) (ci := 2) (v := .ref hp) (ty := .object "DraftTree$Automaton") (C := R_P) (T := F_P) (N := 13) hx hb hts (fun w h => List.mem_cons_of_mem _ (in_P w h)) t_P tk_P n_P hown hK hP hD hS 0 rfl rfl 4 (by decide) (hts _ (List.mem_cons_of_mem _ lk_330)) (fun _ h9 => h9) rfl (by decide +kernel) rfl rfl (Nat.le_of_ble_eq_true rfl) d_P_handOver_7 (fun H locs hP hD hS => ?_)
  have hP : va_P (dC, dI) vwCl (hw_W h q hp sf I) H := hP
  have hD : va_D B9 (hw_W h q hp sf I) := hD
  refine lv_aload_n hx hb d_P_handOver_10 rfl (lv_at hl 0 rfl) ?_
  obtain ⟨e0, e1⟩ := wk_inj1 hf
  subst e0
  subst e1
  exact W.aret (v := .ref hm) hx hb hr (Or.inl ⟨_, rfl⟩) (Or.inr ⟨_, rfl⟩) (fun t ht hW => ⟨⟨(), hm, rfl, rfl, rfl, by rw [ht]; exact hP, va_K.moved hW.alike hK, hD⟩, hS.F ht⟩) hS.2.2 d_P_handOver_11

set_option maxHeartbeats 8000000 in
set_option maxRecDepth 100000 in
theorem cm_D_compile (l : Launch) (dC : Nat → ClassId) (dI : Nat → Nat → Nat) (h : Nat) (q : Nat → Nat) (g : Nat → ClassId) (hp : Nat) (qp : Nat → Nat) (gp : Nat → ClassId) (tq : Nat) (tg : ClassId) (tn : Nat) (tx : Nat → Int32) (hj : Nat) (qj : Nat → Nat) (gj : Nat → ClassId) (hm : Nat) (qm : Nat → Nat) (gm : Nat → ClassId) (sf : Value) (sz : Nat) (I : MI) (A : MA) (M : MI) (MB : MA) (L : ML) (RI : MI) (RA : MA) (N : MI) (NB : MA) (NL : ML) (r : Int32) (I' : MI) (A' : MA) (M' : MI) (MB' : MA) (L' : ML) (RI' : MI) (RA' : MA) (N' : MI) (NB' : MA) (NL' : ML) (hf : f_D_compile I A M MB L RI RA N NB NL  = some (0, r, I', A', M', MB', L', RI', RA', N', NB', NL')) : Met l y_D_compile w_D_compile ({ frames := 6, cells := 0, slots := 0, locals := 131 }) (va_Pc [.ref h] (fun U => U.heap.size = sz ∧ va_P (dC, dI) vwCl (dc_W h q g hp qp gp tq tg tn tx hj qj gj hm qm gm hp hm sf I A M MB L RI RA N NB NL) U.heap ∧ va_K (dC, dI) vwCl (dc_T h q g hp qp gp tq tg tn tx hj qj gj hm qm gm hp hm sf) U ∧ va_D (fun _ => True) (dc_W h q g hp qp gp tq tg tn tx hj qj gj hm qm gm hp hm sf I A M MB L RI RA N NB NL))) (va_Qv (fun (u : Unit) => u = u) (fun (_ : Unit) t => va_P (dC, dI) vwCl (dc_W h q g hp qp gp tq tg tn tx hj qj gj hm qm gm hm hp (.ref (q 0)) I' A' M' MB' L' RI' RA' N' NB' NL') t.heap ∧ va_K (dC, dI) vwCl (dc_T h q g hp qp gp tq tg tn tx hj qj gj hm qm gm hp hm sf) t ∧ va_D (va_A (dc_W h q g hp qp gp tq tg tn tx hj qj gj hm qm gm hp hm sf I A M MB L RI RA N NB NL) sz) (dc_W h q g hp qp gp tq tg tn tx hj qj gj hm qm gm hm hp (.ref (q 0)) I' A' M' MB' L' RI' RA' N' NB' NL')) (va_A (dc_W h q g hp qp gp tq tg tn tx hj qj gj hm qm gm hp hm sf I A M MB L RI RA N NB NL) sz)) 0 0 (va_A (dc_W h q g hp qp gp tq tg tn tx hj qj gj hm qm gm hp hm sf I A M MB L RI RA N NB NL) sz) := by
  refine Met.ofW (cc := prog_1_method_7_code) (maxL := 1) (ret := none) (by decide) rfl ?_
  intro p e s m args below meth c s₁ B hml hv
  obtain ⟨rfl, hsz, hP, hK, hD0⟩ := hv
  have hx := B.exec
  have hb := B.bytes
  have hr := B.returns
  have hts := atoms_spec (ws := w_D_compile) B.pre
  have hown : s.vm.findClass "DraftTree" = some m.cls := findClass_of_methodNamed B.named
  have hlocks := B.notSynchronized
  subst hsz
  have hD := hD0.self (sz := s.heap.size)
  generalize hAe : va_A (dc_W h q g hp qp gp tq tg tn tx hj qj gj hm qm gm hp hm sf I A M MB L RI RA N NB NL) s.heap.size = B9 at hD ⊢
  have hA : ∀ q : Nat, s.heap.size ≤ q → B9 q := fun q h => by rw [← hAe]; exact Or.inr h
  clear hAe
  have hS : va_S B9 s.heap s.heap [] := va_S.rf
  have hl := lv_entry ([.ref h]) (n := 1) (Nat.le_of_ble_eq_true rfl)
  rw [lg_entry_eq]
  generalize (lg_sl ([.ref h]) ++ List.replicate (1 - (lg_sl ([.ref h])).length) Slot.unset).toArray = ls at hl ⊢
  have hl : lv_has ls 1 [(0, .ref h)] := hl
  unfold f_D_compile at hf
  refine lv_aload_n hx hb d_D_compile_0 rfl (lv_at hl 0 rfl) ?_
  refine lv_aload_n hx hb d_D_compile_1 rfl (lv_at hl 0 rfl) ?_
  refine va_get (D := (dC, dI)) (ci := 0) (v := .ref hj) (C := R_D) (T := F_D) (N := 14) hx hb hts (fun w h => List.mem_cons_of_mem _ (in_D w h)) hown hK hP 0 rfl rfl 8 (by decide) (hts _ (List.mem_cons_of_mem _ lk_310)) (fun _ h9 => h9) rfl d_D_compile_2 ?_
  refine lv_aload_n hx hb d_D_compile_5 rfl (lv_at hl 0 rfl) ?_
  refine va_get (D := (dC, dI)) (ci := 0) (v := .ref (q 0)) (C := R_D) (T := F_D) (N := 14) hx hb hts (fun w h => List.mem_cons_of_mem _ (in_D w h)) hown hK hP 0 rfl rfl 0 (by decide) (hts _ (List.mem_cons_of_mem _ lk_311)) (fun _ h9 => h9) rfl d_D_compile_6 ?_
  refine lv_aload_n hx hb d_D_compile_9 rfl (lv_at hl 0 rfl) ?_
  refine va_get (D := (dC, dI)) (ci := 0) (v := .int (I 1)) (C := R_D) (T := F_D) (N := 14) hx hb hts (fun w h => List.mem_cons_of_mem _ (in_D w h)) hown hK hP 0 rfl rfl 1 (by decide) (hts _ (List.mem_cons_of_mem _ lk_312)) (fun _ h9 => h9) rfl d_D_compile_10 ?_
  have hPc := hP.sub (ws' := (rq_W hj qj gj hm qm gm (q 0) (g 0) (A 0) sf RI RA N NB NL)) [11, 12, 13, 14, 15, 16, 17, 18, 19, 20, 21, 1] rfl
  have hDc := hD.sub (ws' := (rq_W hj qj gj hm qm gm (q 0) (g 0) (A 0) sf RI RA N NB NL)) [11, 12, 13, 14, 15, 16, 17, 18, 19, 20, 21, 1] (by decide) rfl
  have hKc := hK.sub (tys' := (rq_T hj qj gj hm qm gm (q 0) (g 0) (A 0) sf)) [9, 10, 11, 12, 13, 14, 15, 16, 17, 0] rfl
  have hFc := va_free (wc := (rq_W hj qj gj hm qm gm (q 0) (g 0) (A 0) sf RI RA N NB NL)) hD hS hA [11, 12, 13, 14, 15, 16, 17, 18, 19, 20, 21, 1] rfl
  cases hg1 : f_P_read (A 0) RI RA N NB NL (I 1) with
  | none => rw [hg1] at hf; cases hf
  | some z1 =>
    obtain ⟨r1, RI1, RA1, N1, NB1, NL1⟩ := z1
    rw [hg1] at hf
    dsimp only [Option.bind_some] at hf
    refine va_calli (va_runV (As := [.ref (q 0), .int (I 1)]) (rest := [.ref h]) ⟨hx, hb, hml, hown, hts⟩ (cm_P_read l dC dI hj qj gj hm qm gm (q 0) (g 0) (A 0) sf _  RI RA N NB NL (I 1) r1 RI1 RA1 N1 NB1 NL1 hg1) (cwV 2 hts (gd_v lk_422 lk_423 lk_424 lk_348 lk_421) rfl rfl rfl (by decide +kernel) ⟨Nat.le_of_ble_eq_true rfl, Nat.le_of_ble_eq_true rfl⟩) ⟨fun a U g mk q => by obtain ⟨q0, q1, qP, qK, qD⟩ := q; exact ⟨q0, q1, qP, va_K.moved (u := U) (U := U.calling g mk a) (Vm.Alike.refl U.vm) qK, qD⟩, va_recv (ci := 2) (q0 := 11) hK hP rfl rfl, fun U hU hW => ⟨rfl, by rw [hU], by rw [hU]; exact hPc, va_K.moved hW.alike hKc, hDc.weaken (fun _ _ _ _ => trivial)⟩⟩ rfl rfl hl.1 rfl (lv_room (Nat.le_of_ble_eq_true rfl)) d_D_compile_13 ⟨Nat.le_of_ble_eq_true rfl, Nat.le_of_ble_eq_true rfl⟩) hS (fun q _ h => hFc q h) hFc (fun r9 u t H1 locs ht hvm hw hB hz1 hk1 hS => ?_)
    obtain ⟨hP1, hK1, hD1⟩ := hB
    rw [ht] at hP1
    rw [hw]
    obtain ⟨hP, hD⟩ := va_join (wr := (([0, 2, 3, 4, 5, 6, 7, 8, 9, 10] : List Nat).map (fun i => ((dc_W h q g hp qp gp tq tg tn tx hj qj gj hm qm gm hp hm sf I A M MB L RI RA N NB NL)).getD i (0, .inr (0, []))))) (w1 := (rw_W hj qj gj hm qm gm (q 0) (g 0) (A 0) RI1 RA1 N1 NB1 NL1)) hP hD [11, 12, 13, 14, 15, 16, 17, 18, 19, 20, 21, 1] [0, 2, 3, 4, 5, 6, 7, 8, 9, 10] rfl rfl (by decide) (by decide) hk1 hFc hP1 hD1
    generalize H1 = H at hP hS ⊢
    have hP := hP.sub (ws' := (dc_W h q g hp qp gp tq tg tn tx hj qj gj hm qm gm hp hm (.ref (q 0)) I A M MB L RI1 RA1 N1 NB1 NL1)) [0, 21, 1, 2, 3, 4, 5, 6, 7, 8, 9, 10, 11, 12, 13, 14, 15, 16, 17, 18, 19, 20] rfl
    have hD := hD.sub (ws' := (dc_W h q g hp qp gp tq tg tn tx hj qj gj hm qm gm hp hm (.ref (q 0)) I A M MB L RI1 RA1 N1 NB1 NL1)) [0, 21, 1, 2, 3, 4, 5, 6, 7, 8, 9, 10, 11, 12, 13, 14, 15, 16, 17, 18, 19, 20] (by decide) rfl
    refine va_put (D := (dC, dI)) (ci := 0) (v := .int r1) (ty := .int) (C := R_D) (T := F_D) (N := 14) hx hb hts (fun w h => List.mem_cons_of_mem _ (in_D w h)) t_D tk_D n_D hown hK hP hD hS 0 rfl rfl 11 (by decide) (hts _ (List.mem_cons_of_mem _ lk_425)) (fun _ h9 => h9) rfl (by decide +kernel) rfl rfl (Nat.le_of_ble_eq_true rfl) d_D_compile_16 (fun H locs hP hD hS => ?_)
    obtain ⟨I2, hI2, hf⟩ := wk_letE hf
    have hP : va_P (dC, dI) vwCl (dc_W h q g hp qp gp tq tg tn tx hj qj gj hm qm gm hp hm (.ref (q 0)) I2 A M MB L RI1 RA1 N1 NB1 NL1) H := by rw [hI2]; exact hP
    have hD : va_D B9 (dc_W h q g hp qp gp tq tg tn tx hj qj gj hm qm gm hp hm (.ref (q 0)) I2 A M MB L RI1 RA1 N1 NB1 NL1) := by rw [hI2]; exact hD
    clear hI2
    refine lv_aload_n hx hb d_D_compile_19 rfl (lv_at hl 0 rfl) ?_
    refine va_get (D := (dC, dI)) (ci := 0) (v := .int (I2 11)) (C := R_D) (T := F_D) (N := 14) hx hb hts (fun w h => List.mem_cons_of_mem _ (in_D w h)) hown hK hP 0 rfl rfl 11 (by decide) (hts _ (List.mem_cons_of_mem _ lk_425)) (fun _ h9 => h9) rfl d_D_compile_20 ?_
    refine lv_iconst (v := (-1)) hx hb d_D_compile_23 (by decide) ?_
    refine lv_icmp_eq (tgt := 35) hx hb d_D_compile_24 (by decide) (fun hc1 => ?_) (fun hc1 => ?_)
    ·
      have hf := wk_ift hc1 hf
      refine lv_aload_n hx hb d_D_compile_35 rfl (lv_at hl 0 rfl) ?_
      refine lv_aload_n hx hb d_D_compile_36 rfl (lv_at hl 0 rfl) ?_
      refine va_get (D := (dC, dI)) (ci := 0) (v := .ref hj) (C := R_D) (T := F_D) (N := 14) hx hb hts (fun w h => List.mem_cons_of_mem _ (in_D w h)) hown hK hP 0 rfl rfl 8 (by decide) (hts _ (List.mem_cons_of_mem _ lk_310)) (fun _ h9 => h9) rfl d_D_compile_37 ?_
      refine lv_aload_n hx hb d_D_compile_40 rfl (lv_at hl 0 rfl) ?_
      refine va_get (D := (dC, dI)) (ci := 0) (v := .ref hp) (C := R_D) (T := F_D) (N := 14) hx hb hts (fun w h => List.mem_cons_of_mem _ (in_D w h)) hown hK hP 0 rfl rfl 9 (by decide) (hts _ (List.mem_cons_of_mem _ lk_246)) (fun _ h9 => h9) rfl d_D_compile_41 ?_
      have hPc := hP.sub (ws' := (hw_W hj qj hm (.ref (q 0)) RI1)) [11] rfl
      have hDc := hD.sub (ws' := (hw_W hj qj hm (.ref (q 0)) RI1)) [11] (by decide) rfl
      have hKc := hK.sub (tys' := (hw_T hj qj hm (.ref (q 0)))) [] rfl
      have hFc := va_free (wc := (hw_W hj qj hm (.ref (q 0)) RI1)) hD hS hA [11] rfl
      cases hg3 : f_P_handOver RI1 with
      | none => rw [hg3] at hf; cases hf
      | some z3 =>
        obtain ⟨r3, RI3⟩ := z3
        rw [hg3] at hf
        dsimp only [Option.bind_some] at hf
        refine va_callr (va_runV (As := [.ref hp]) (rest := [.ref h]) ⟨hx, hb, hml, hown, hts⟩ (cm_P_handOver l dC dI hj qj hm (.ref (q 0)) hp _  RI1 r3 RI3 hg3) (cwV 1 hts (gd_v lk_427 lk_428 lk_429 lk_348 lk_426) rfl rfl rfl (by decide +kernel) ⟨Nat.le_of_ble_eq_true rfl, Nat.le_of_ble_eq_true rfl⟩) ⟨fun a U g mk q => by obtain ⟨q0, q1, qP, qK, qD⟩ := q; exact ⟨q0, q1, qP, va_K.moved (u := U) (U := U.calling g mk a) (Vm.Alike.refl U.vm) qK, qD⟩, va_recv (ci := 2) (q0 := 11) hK hP rfl rfl, fun U hU hW => ⟨rfl, by rw [hU], by rw [hU]; exact hPc, va_K.moved hW.alike hKc, hDc.weaken (fun _ _ _ _ => trivial)⟩⟩ rfl rfl hl.1 rfl (lv_room (Nat.le_of_ble_eq_true rfl)) d_D_compile_44 ⟨Nat.le_of_ble_eq_true rfl, Nat.le_of_ble_eq_true rfl⟩) hS (fun q _ h => hFc q h) hFc (fun u ra t H1 locs ht hvm hw hB hz1 hk1 hS => ?_)
        obtain ⟨hra, hP1, hK1, hD1⟩ := hB
        rw [ht] at hP1
        rw [hra]
        obtain ⟨hP, hD⟩ := va_join (wr := (([0, 1, 2, 3, 4, 5, 6, 7, 8, 9, 10, 12, 13, 14, 15, 16, 17, 18, 19, 20, 21] : List Nat).map (fun i => ((dc_W h q g hp qp gp tq tg tn tx hj qj gj hm qm gm hp hm (.ref (q 0)) I2 A M MB L RI1 RA1 N1 NB1 NL1)).getD i (0, .inr (0, []))))) (w1 := (hw_W hj qj hp (.ref (q 0)) RI3)) hP hD [11] [0, 1, 2, 3, 4, 5, 6, 7, 8, 9, 10, 12, 13, 14, 15, 16, 17, 18, 19, 20, 21] rfl rfl (by decide) (by decide) hk1 hFc hP1 hD1
        generalize H1 = H at hP hS ⊢
        have hP := hP.sub (ws' := (dc_W h q g hp qp gp tq tg tn tx hj qj gj hm qm gm hp hp (.ref (q 0)) I2 A M MB L RI3 RA1 N1 NB1 NL1)) [0, 1, 2, 3, 4, 5, 6, 7, 8, 9, 10, 21, 11, 12, 13, 14, 15, 16, 17, 18, 19, 20] rfl
        have hD := hD.sub (ws' := (dc_W h q g hp qp gp tq tg tn tx hj qj gj hm qm gm hp hp (.ref (q 0)) I2 A M MB L RI3 RA1 N1 NB1 NL1)) [0, 1, 2, 3, 4, 5, 6, 7, 8, 9, 10, 21, 11, 12, 13, 14, 15, 16, 17, 18, 19, 20] (by decide) rfl
        refine va_put (D := (dC, dI)) (ci := 0) (v := .ref hm) (ty := .object "DraftTree$Automaton") (C := R_D) (T := F_D) (N := 14) hx hb hts (fun w h => List.mem_cons_of_mem _ (in_D w h)) t_D tk_D n_D hown hK hP hD hS 0 rfl rfl 9 (by decide) (hts _ (List.mem_cons_of_mem _ lk_246)) (fun _ h9 => h9) rfl (by decide +kernel) rfl rfl (Nat.le_of_ble_eq_true rfl) d_D_compile_47 (fun H locs hP hD hS => ?_)
        have hP : va_P (dC, dI) vwCl (dc_W h q g hp qp gp tq tg tn tx hj qj gj hm qm gm hm hp (.ref (q 0)) I2 A M MB L RI3 RA1 N1 NB1 NL1) H := hP
        have hD : va_D B9 (dc_W h q g hp qp gp tq tg tn tx hj qj gj hm qm gm hm hp (.ref (q 0)) I2 A M MB L RI3 RA1 N1 NB1 NL1) := hD
        refine lv_aload_n hx hb d_D_compile_50 rfl (lv_at hl 0 rfl) ?_
        refine lv_iconst (v := 1) hx hb d_D_compile_51 (by decide) ?_
        refine va_put (D := (dC, dI)) (ci := 0) (v := .int 1) (ty := .boolean) (C := R_D) (T := F_D) (N := 14) hx hb hts (fun w h => List.mem_cons_of_mem _ (in_D w h)) t_D tk_D n_D hown hK hP hD hS 0 rfl rfl 10 (by decide) (hts _ (List.mem_cons_of_mem _ lk_430)) (fun _ h9 => h9) rfl (by decide +kernel) rfl rfl (Nat.le_of_ble_eq_true rfl) d_D_compile_52 (fun H locs hP hD hS => ?_)
        obtain ⟨I4, hI4, hf⟩ := wk_letE hf
        have hP : va_P (dC, dI) vwCl (dc_W h q g hp qp gp tq tg tn tx hj qj gj hm qm gm hm hp (.ref (q 0)) I4 A M MB L RI3 RA1 N1 NB1 NL1) H := by rw [hI4]; exact hP
        have hD : va_D B9 (dc_W h q g hp qp gp tq tg tn tx hj qj gj hm qm gm hm hp (.ref (q 0)) I4 A M MB L RI3 RA1 N1 NB1 NL1) := by rw [hI4]; exact hD
        clear hI4
        refine lv_aload_n hx hb d_D_compile_55 rfl (lv_at hl 0 rfl) ?_
        refine lv_iconst (v := 0) hx hb d_D_compile_56 (by decide) ?_
        refine va_put (D := (dC, dI)) (ci := 0) (v := .int 0) (ty := .int) (C := R_D) (T := F_D) (N := 14) hx hb hts (fun w h => List.mem_cons_of_mem _ (in_D w h)) t_D tk_D n_D hown hK hP hD hS 0 rfl rfl 1 (by decide) (hts _ (List.mem_cons_of_mem _ lk_312)) (fun _ h9 => h9) rfl (by decide +kernel) rfl rfl (Nat.le_of_ble_eq_true rfl) d_D_compile_57 (fun H locs hP hD hS => ?_)
        obtain ⟨I5, hI5, hf⟩ := wk_letE hf
        have hP : va_P (dC, dI) vwCl (dc_W h q g hp qp gp tq tg tn tx hj qj gj hm qm gm hm hp (.ref (q 0)) I5 A M MB L RI3 RA1 N1 NB1 NL1) H := by rw [hI5]; exact hP
        have hD : va_D B9 (dc_W h q g hp qp gp tq tg tn tx hj qj gj hm qm gm hm hp (.ref (q 0)) I5 A M MB L RI3 RA1 N1 NB1 NL1) := by rw [hI5]; exact hD
        clear hI5
        obtain ⟨e0, e1, e2, e3, e4, e5, e6, e7, e8, e9, e10, e11⟩ := wk_inj11 hf
        subst e1
        subst e2
        subst e3
        subst e4
        subst e5
        subst e6
        subst e7
        subst e8
        subst e9
        subst e10
        subst e11
        exact W.vret hx hb hr (fun t ht hW => ⟨⟨(), rfl, rfl, by rw [ht]; exact hP, va_K.moved hW.alike hK, hD⟩, hS.F ht⟩) hS.2.2 d_D_compile_60
    ·
      have hf := wk_iff hc1 hf
      exact (wk_tag (by decide) hf).elim
set_option maxHeartbeats 8000000 in
set_option maxRecDepth 100000 in
theorem ct_D_compile_3 (l : Launch) (hfl : l.flags = flags0) (dC : Nat → ClassId) (dI : Nat → Nat → Nat) (h : Nat) (q : Nat → Nat) (g : Nat → ClassId) (hp : Nat) (qp : Nat → Nat) (gp : Nat → ClassId) (tq : Nat) (tg : ClassId) (tn : Nat) (tx : Nat → Int32) (hj : Nat) (qj : Nat → Nat) (gj : Nat → ClassId) (hm : Nat) (qm : Nat → Nat) (gm : Nat → ClassId) (sf : Value) (sz : Nat) (I : MI) (A : MA) (M : MI) (MB : MA) (L : ML) (RI : MI) (RA : MA) (N : MI) (NB : MA) (NL : ML) (r : Int32) (I' : MI) (A' : MA) (M' : MI) (MB' : MA) (L' : ML) (RI' : MI) (RA' : MA) (N' : MI) (NB' : MA) (NL' : ML) (hf : f_D_compile I A M MB L RI RA N NB NL  = some (3, r, I', A', M', MB', L', RI', RA', N', NB', NL')) : th_Met l y_D_compile w_D_compile ({ frames := 6, cells := 1, slots := 6, locals := 131 }) (va_Pc [.ref h] (fun U => U.heap.size = sz ∧ va_P (dC, dI) vwCl (dc_W h q g hp qp gp tq tg tn tx hj qj gj hm qm gm hp hm sf I A M MB L RI RA N NB NL) U.heap ∧ va_K (dC, dI) vwCl (dc_T h q g hp qp gp tq tg tn tx hj qj gj hm qm gm hp hm sf) U ∧ va_D (fun _ => True) (dc_W h q g hp qp gp tq tg tn tx hj qj gj hm qm gm hp hm sf I A M MB L RI RA N NB NL) ∧ th_ZA (va_A (dc_W h q g hp qp gp tq tg tn tx hj qj gj hm qm gm hp hm sf I A M MB L RI RA N NB NL) sz) U)) (th_Qw "java/lang/IllegalArgumentException" (fun t => va_P (dC, dI) vwCl (dc_W h q g hp qp gp tq tg tn tx hj qj gj hm qm gm hp hm (.ref (q 0)) I' A' M' MB' L' RI' RA' N' NB' NL') t.heap ∧ va_K (dC, dI) vwCl (dc_T h q g hp qp gp tq tg tn tx hj qj gj hm qm gm hp hm sf) t ∧ va_D (va_A (dc_W h q g hp qp gp tq tg tn tx hj qj gj hm qm gm hp hm sf I A M MB L RI RA N NB NL) sz) (dc_W h q g hp qp gp tq tg tn tx hj qj gj hm qm gm hp hm (.ref (q 0)) I' A' M' MB' L' RI' RA' N' NB' NL')) (va_A (dc_W h q g hp qp gp tq tg tn tx hj qj gj hm qm gm hp hm sf I A M MB L RI RA N NB NL) sz)) 1 6 (va_A (dc_W h q g hp qp gp tq tg tn tx hj qj gj hm qm gm hp hm sf I A M MB L RI RA N NB NL) sz) := by
  refine th_Met.ofW (cc := prog_1_method_7_code) (maxL := 1) (ret := none) (by decide) rfl ?_
  intro p e s m args below meth c s₁ B hml hnh hv
  obtain ⟨rfl, hsz, hP, hK, hD0, hZ⟩ := hv
  have hx := B.exec
  have hb := B.bytes
  have hr := B.returns
  have hts := atoms_spec (ws := w_D_compile) B.pre
  have hown : s.vm.findClass "DraftTree" = some m.cls := findClass_of_methodNamed B.named
  have hlocks := B.notSynchronized
  have htr := Launch.traces_off hfl B.admits
  subst hsz
  have hD := hD0.self (sz := s.heap.size)
  generalize hAe : va_A (dc_W h q g hp qp gp tq tg tn tx hj qj gj hm qm gm hp hm sf I A M MB L RI RA N NB NL) s.heap.size = B9 at hD hZ ⊢
  have hA : ∀ q : Nat, s.heap.size ≤ q → B9 q := fun q h => by rw [← hAe]; exact Or.inr h
  clear hAe
  have hS : va_S B9 s.heap s.heap [] := va_S.rf
  have hl := lv_entry ([.ref h]) (n := 1) (Nat.le_of_ble_eq_true rfl)
  rw [lg_entry_eq]
  generalize (lg_sl ([.ref h]) ++ List.replicate (1 - (lg_sl ([.ref h])).length) Slot.unset).toArray = ls at hl ⊢
  have hl : lv_has ls 1 [(0, .ref h)] := hl
  unfold f_D_compile at hf
  refine lv_aload_n hx hb d_D_compile_0 rfl (lv_at hl 0 rfl) ?_
  refine lv_aload_n hx hb d_D_compile_1 rfl (lv_at hl 0 rfl) ?_
  refine va_get (D := (dC, dI)) (ci := 0) (v := .ref hj) (C := R_D) (T := F_D) (N := 14) hx hb hts (fun w h => List.mem_cons_of_mem _ (in_D w h)) hown hK hP 0 rfl rfl 8 (by decide) (hts _ (List.mem_cons_of_mem _ lk_310)) (fun _ h9 => h9) rfl d_D_compile_2 ?_
  refine lv_aload_n hx hb d_D_compile_5 rfl (lv_at hl 0 rfl) ?_
  refine va_get (D := (dC, dI)) (ci := 0) (v := .ref (q 0)) (C := R_D) (T := F_D) (N := 14) hx hb hts (fun w h => List.mem_cons_of_mem _ (in_D w h)) hown hK hP 0 rfl rfl 0 (by decide) (hts _ (List.mem_cons_of_mem _ lk_311)) (fun _ h9 => h9) rfl d_D_compile_6 ?_
  refine lv_aload_n hx hb d_D_compile_9 rfl (lv_at hl 0 rfl) ?_
  refine va_get (D := (dC, dI)) (ci := 0) (v := .int (I 1)) (C := R_D) (T := F_D) (N := 14) hx hb hts (fun w h => List.mem_cons_of_mem _ (in_D w h)) hown hK hP 0 rfl rfl 1 (by decide) (hts _ (List.mem_cons_of_mem _ lk_312)) (fun _ h9 => h9) rfl d_D_compile_10 ?_
  have hPc := hP.sub (ws' := (rq_W hj qj gj hm qm gm (q 0) (g 0) (A 0) sf RI RA N NB NL)) [11, 12, 13, 14, 15, 16, 17, 18, 19, 20, 21, 1] rfl
  have hDc := hD.sub (ws' := (rq_W hj qj gj hm qm gm (q 0) (g 0) (A 0) sf RI RA N NB NL)) [11, 12, 13, 14, 15, 16, 17, 18, 19, 20, 21, 1] (by decide) rfl
  have hKc := hK.sub (tys' := (rq_T hj qj gj hm qm gm (q 0) (g 0) (A 0) sf)) [9, 10, 11, 12, 13, 14, 15, 16, 17, 0] rfl
  have hFc := va_free (wc := (rq_W hj qj gj hm qm gm (q 0) (g 0) (A 0) sf RI RA N NB NL)) hD hS hA [11, 12, 13, 14, 15, 16, 17, 18, 19, 20, 21, 1] rfl
  cases hg1 : f_P_read (A 0) RI RA N NB NL (I 1) with
  | none => rw [hg1] at hf; cases hf
  | some z1 =>
    obtain ⟨r1, RI1, RA1, N1, NB1, NL1⟩ := z1
    rw [hg1] at hf
    dsimp only [Option.bind_some] at hf
    refine va_calli (va_runV (As := [.ref (q 0), .int (I 1)]) (rest := [.ref h]) ⟨hx, hb, hml, hown, hts⟩ (cm_P_read l dC dI hj qj gj hm qm gm (q 0) (g 0) (A 0) sf _  RI RA N NB NL (I 1) r1 RI1 RA1 N1 NB1 NL1 hg1) (cwV 2 hts (gd_v lk_422 lk_423 lk_424 lk_348 lk_421) rfl rfl rfl (by decide +kernel) ⟨Nat.le_of_ble_eq_true rfl, Nat.le_of_ble_eq_true rfl⟩) ⟨fun a U g mk q => by obtain ⟨q0, q1, qP, qK, qD⟩ := q; exact ⟨q0, q1, qP, va_K.moved (u := U) (U := U.calling g mk a) (Vm.Alike.refl U.vm) qK, qD⟩, va_recv (ci := 2) (q0 := 11) hK hP rfl rfl, fun U hU hW => ⟨rfl, by rw [hU], by rw [hU]; exact hPc, va_K.moved hW.alike hKc, hDc.weaken (fun _ _ _ _ => trivial)⟩⟩ rfl rfl hl.1 rfl (lv_room (Nat.le_of_ble_eq_true rfl)) d_D_compile_13 ⟨Nat.le_of_ble_eq_true rfl, Nat.le_of_ble_eq_true rfl⟩) hS (fun q _ h => hFc q h) hFc (fun r9 u t H1 locs ht hvm hw hB hz1 hk1 hS => ?_)
    obtain ⟨hP1, hK1, hD1⟩ := hB
    rw [ht] at hP1
    rw [hw]
    obtain ⟨hP, hD⟩ := va_join (wr := (([0, 2, 3, 4, 5, 6, 7, 8, 9, 10] : List Nat).map (fun i => ((dc_W h q g hp qp gp tq tg tn tx hj qj gj hm qm gm hp hm sf I A M MB L RI RA N NB NL)).getD i (0, .inr (0, []))))) (w1 := (rw_W hj qj gj hm qm gm (q 0) (g 0) (A 0) RI1 RA1 N1 NB1 NL1)) hP hD [11, 12, 13, 14, 15, 16, 17, 18, 19, 20, 21, 1] [0, 2, 3, 4, 5, 6, 7, 8, 9, 10] rfl rfl (by decide) (by decide) hk1 hFc hP1 hD1
    generalize H1 = H at hP hS ⊢
    have hP := hP.sub (ws' := (dc_W h q g hp qp gp tq tg tn tx hj qj gj hm qm gm hp hm (.ref (q 0)) I A M MB L RI1 RA1 N1 NB1 NL1)) [0, 21, 1, 2, 3, 4, 5, 6, 7, 8, 9, 10, 11, 12, 13, 14, 15, 16, 17, 18, 19, 20] rfl
    have hD := hD.sub (ws' := (dc_W h q g hp qp gp tq tg tn tx hj qj gj hm qm gm hp hm (.ref (q 0)) I A M MB L RI1 RA1 N1 NB1 NL1)) [0, 21, 1, 2, 3, 4, 5, 6, 7, 8, 9, 10, 11, 12, 13, 14, 15, 16, 17, 18, 19, 20] (by decide) rfl
    refine va_put (D := (dC, dI)) (ci := 0) (v := .int r1) (ty := .int) (C := R_D) (T := F_D) (N := 14) hx hb hts (fun w h => List.mem_cons_of_mem _ (in_D w h)) t_D tk_D n_D hown hK hP hD hS 0 rfl rfl 11 (by decide) (hts _ (List.mem_cons_of_mem _ lk_425)) (fun _ h9 => h9) rfl (by decide +kernel) rfl rfl (Nat.le_of_ble_eq_true rfl) d_D_compile_16 (fun H locs hP hD hS => ?_)
    obtain ⟨I2, hI2, hf⟩ := wk_letE hf
    have hP : va_P (dC, dI) vwCl (dc_W h q g hp qp gp tq tg tn tx hj qj gj hm qm gm hp hm (.ref (q 0)) I2 A M MB L RI1 RA1 N1 NB1 NL1) H := by rw [hI2]; exact hP
    have hD : va_D B9 (dc_W h q g hp qp gp tq tg tn tx hj qj gj hm qm gm hp hm (.ref (q 0)) I2 A M MB L RI1 RA1 N1 NB1 NL1) := by rw [hI2]; exact hD
    clear hI2
    refine lv_aload_n hx hb d_D_compile_19 rfl (lv_at hl 0 rfl) ?_
    refine va_get (D := (dC, dI)) (ci := 0) (v := .int (I2 11)) (C := R_D) (T := F_D) (N := 14) hx hb hts (fun w h => List.mem_cons_of_mem _ (in_D w h)) hown hK hP 0 rfl rfl 11 (by decide) (hts _ (List.mem_cons_of_mem _ lk_425)) (fun _ h9 => h9) rfl d_D_compile_20 ?_
    refine lv_iconst (v := (-1)) hx hb d_D_compile_23 (by decide) ?_
    refine lv_icmp_eq (tgt := 35) hx hb d_D_compile_24 (by decide) (fun hc1 => ?_) (fun hc1 => ?_)
    ·
      have hf := wk_ift hc1 hf
      refine lv_aload_n hx hb d_D_compile_35 rfl (lv_at hl 0 rfl) ?_
      refine lv_aload_n hx hb d_D_compile_36 rfl (lv_at hl 0 rfl) ?_
      refine va_get (D := (dC, dI)) (ci := 0) (v := .ref hj) (C := R_D) (T := F_D) (N := 14) hx hb hts (fun w h => List.mem_cons_of_mem _ (in_D w h)) hown hK hP 0 rfl rfl 8 (by decide) (hts _ (List.mem_cons_of_mem _ lk_310)) (fun _ h9 => h9) rfl d_D_compile_37 ?_
      refine lv_aload_n hx hb d_D_compile_40 rfl (lv_at hl 0 rfl) ?_
      refine va_get (D := (dC, dI)) (ci := 0) (v := .ref hp) (C := R_D) (T := F_D) (N := 14) hx hb hts (fun w h => List.mem_cons_of_mem _ (in_D w h)) hown hK hP 0 rfl rfl 9 (by decide) (hts _ (List.mem_cons_of_mem _ lk_246)) (fun _ h9 => h9) rfl d_D_compile_41 ?_
      have hPc := hP.sub (ws' := (hw_W hj qj hm (.ref (q 0)) RI1)) [11] rfl
      have hDc := hD.sub (ws' := (hw_W hj qj hm (.ref (q 0)) RI1)) [11] (by decide) rfl
      have hKc := hK.sub (tys' := (hw_T hj qj hm (.ref (q 0)))) [] rfl
      have hFc := va_free (wc := (hw_W hj qj hm (.ref (q 0)) RI1)) hD hS hA [11] rfl
      cases hg3 : f_P_handOver RI1 with
      | none => rw [hg3] at hf; cases hf
      | some z3 =>
        obtain ⟨r3, RI3⟩ := z3
        rw [hg3] at hf
        dsimp only [Option.bind_some] at hf
        refine va_callr (va_runV (As := [.ref hp]) (rest := [.ref h]) ⟨hx, hb, hml, hown, hts⟩ (cm_P_handOver l dC dI hj qj hm (.ref (q 0)) hp _  RI1 r3 RI3 hg3) (cwV 1 hts (gd_v lk_427 lk_428 lk_429 lk_348 lk_426) rfl rfl rfl (by decide +kernel) ⟨Nat.le_of_ble_eq_true rfl, Nat.le_of_ble_eq_true rfl⟩) ⟨fun a U g mk q => by obtain ⟨q0, q1, qP, qK, qD⟩ := q; exact ⟨q0, q1, qP, va_K.moved (u := U) (U := U.calling g mk a) (Vm.Alike.refl U.vm) qK, qD⟩, va_recv (ci := 2) (q0 := 11) hK hP rfl rfl, fun U hU hW => ⟨rfl, by rw [hU], by rw [hU]; exact hPc, va_K.moved hW.alike hKc, hDc.weaken (fun _ _ _ _ => trivial)⟩⟩ rfl rfl hl.1 rfl (lv_room (Nat.le_of_ble_eq_true rfl)) d_D_compile_44 ⟨Nat.le_of_ble_eq_true rfl, Nat.le_of_ble_eq_true rfl⟩) hS (fun q _ h => hFc q h) hFc (fun u ra t H1 locs ht hvm hw hB hz1 hk1 hS => ?_)
        obtain ⟨hra, hP1, hK1, hD1⟩ := hB
        rw [ht] at hP1
        rw [hra]
        obtain ⟨hP, hD⟩ := va_join (wr := (([0, 1, 2, 3, 4, 5, 6, 7, 8, 9, 10, 12, 13, 14, 15, 16, 17, 18, 19, 20, 21] : List Nat).map (fun i => ((dc_W h q g hp qp gp tq tg tn tx hj qj gj hm qm gm hp hm (.ref (q 0)) I2 A M MB L RI1 RA1 N1 NB1 NL1)).getD i (0, .inr (0, []))))) (w1 := (hw_W hj qj hp (.ref (q 0)) RI3)) hP hD [11] [0, 1, 2, 3, 4, 5, 6, 7, 8, 9, 10, 12, 13, 14, 15, 16, 17, 18, 19, 20, 21] rfl rfl (by decide) (by decide) hk1 hFc hP1 hD1
        generalize H1 = H at hP hS ⊢
        have hP := hP.sub (ws' := (dc_W h q g hp qp gp tq tg tn tx hj qj gj hm qm gm hp hp (.ref (q 0)) I2 A M MB L RI3 RA1 N1 NB1 NL1)) [0, 1, 2, 3, 4, 5, 6, 7, 8, 9, 10, 21, 11, 12, 13, 14, 15, 16, 17, 18, 19, 20] rfl
        have hD := hD.sub (ws' := (dc_W h q g hp qp gp tq tg tn tx hj qj gj hm qm gm hp hp (.ref (q 0)) I2 A M MB L RI3 RA1 N1 NB1 NL1)) [0, 1, 2, 3, 4, 5, 6, 7, 8, 9, 10, 21, 11, 12, 13, 14, 15, 16, 17, 18, 19, 20] (by decide) rfl
        refine va_put (D := (dC, dI)) (ci := 0) (v := .ref hm) (ty := .object "DraftTree$Automaton") (C := R_D) (T := F_D) (N := 14) hx hb hts (fun w h => List.mem_cons_of_mem _ (in_D w h)) t_D tk_D n_D hown hK hP hD hS 0 rfl rfl 9 (by decide) (hts _ (List.mem_cons_of_mem _ lk_246)) (fun _ h9 => h9) rfl (by decide +kernel) rfl rfl (Nat.le_of_ble_eq_true rfl) d_D_compile_47 (fun H locs hP hD hS => ?_)
        have hP : va_P (dC, dI) vwCl (dc_W h q g hp qp gp tq tg tn tx hj qj gj hm qm gm hm hp (.ref (q 0)) I2 A M MB L RI3 RA1 N1 NB1 NL1) H := hP
        have hD : va_D B9 (dc_W h q g hp qp gp tq tg tn tx hj qj gj hm qm gm hm hp (.ref (q 0)) I2 A M MB L RI3 RA1 N1 NB1 NL1) := hD
        refine lv_aload_n hx hb d_D_compile_50 rfl (lv_at hl 0 rfl) ?_
        refine lv_iconst (v := 1) hx hb d_D_compile_51 (by decide) ?_
        refine va_put (D := (dC, dI)) (ci := 0) (v := .int 1) (ty := .boolean) (C := R_D) (T := F_D) (N := 14) hx hb hts (fun w h => List.mem_cons_of_mem _ (in_D w h)) t_D tk_D n_D hown hK hP hD hS 0 rfl rfl 10 (by decide) (hts _ (List.mem_cons_of_mem _ lk_430)) (fun _ h9 => h9) rfl (by decide +kernel) rfl rfl (Nat.le_of_ble_eq_true rfl) d_D_compile_52 (fun H locs hP hD hS => ?_)
        obtain ⟨I4, hI4, hf⟩ := wk_letE hf
        have hP : va_P (dC, dI) vwCl (dc_W h q g hp qp gp tq tg tn tx hj qj gj hm qm gm hm hp (.ref (q 0)) I4 A M MB L RI3 RA1 N1 NB1 NL1) H := by rw [hI4]; exact hP
        have hD : va_D B9 (dc_W h q g hp qp gp tq tg tn tx hj qj gj hm qm gm hm hp (.ref (q 0)) I4 A M MB L RI3 RA1 N1 NB1 NL1) := by rw [hI4]; exact hD
        clear hI4
        refine lv_aload_n hx hb d_D_compile_55 rfl (lv_at hl 0 rfl) ?_
        refine lv_iconst (v := 0) hx hb d_D_compile_56 (by decide) ?_
        refine va_put (D := (dC, dI)) (ci := 0) (v := .int 0) (ty := .int) (C := R_D) (T := F_D) (N := 14) hx hb hts (fun w h => List.mem_cons_of_mem _ (in_D w h)) t_D tk_D n_D hown hK hP hD hS 0 rfl rfl 1 (by decide) (hts _ (List.mem_cons_of_mem _ lk_312)) (fun _ h9 => h9) rfl (by decide +kernel) rfl rfl (Nat.le_of_ble_eq_true rfl) d_D_compile_57 (fun H locs hP hD hS => ?_)
        obtain ⟨I5, hI5, hf⟩ := wk_letE hf
        have hP : va_P (dC, dI) vwCl (dc_W h q g hp qp gp tq tg tn tx hj qj gj hm qm gm hm hp (.ref (q 0)) I5 A M MB L RI3 RA1 N1 NB1 NL1) H := by rw [hI5]; exact hP
        have hD : va_D B9 (dc_W h q g hp qp gp tq tg tn tx hj qj gj hm qm gm hm hp (.ref (q 0)) I5 A M MB L RI3 RA1 N1 NB1 NL1) := by rw [hI5]; exact hD
        clear hI5
        exact (wk_tag (by decide) hf).elim
    ·
      have hf := wk_iff hc1 hf
      obtain ⟨e0, e1, e2, e3, e4, e5, e6, e7, e8, e9, e10, e11⟩ := wk_inj11 hf
      subst e1
      subst e2
      subst e3
      subst e4
      subst e5
      subst e6
      subst e7
      subst e8
      subst e9
      subst e10
      subst e11
      exact th_newG hx hb htr hown (by decide) (by decide) (wk_thr hts hZ hS lk_431 lk_432 (fun _ a9 b9 => oa_1 a9 b9)) hnh (by rw [hl.1, hml]) hS (Nat.le_of_ble_eq_true rfl) (Nat.le_of_ble_eq_true rfl) (Nat.le_of_ble_eq_true rfl) (Nat.le_of_ble_eq_true rfl) (Nat.le_of_ble_eq_true rfl) (Nat.le_of_ble_eq_true rfl) hlocks (fun t hal hk => ⟨hP.kept (fun k q hq => hk _ (hP k q hq).lt), va_K.moved hal hK, hD⟩) d_D_compile_27 d_D_compile_30 d_D_compile_31 d_D_compile_34

set_option maxHeartbeats 8000000 in
set_option maxRecDepth 100000 in
theorem cm_D_fault (l : Launch) (dC : Nat → ClassId) (dI : Nat → Nat → Nat) (h : Nat) (q : Nat → Nat) (g : Nat → ClassId) (hp : Nat) (qp : Nat → Nat) (gp : Nat → ClassId) (tq : Nat) (tg : ClassId) (tn : Nat) (tx : Nat → Int32) (sz : Nat) (I : MI) (A : MA) (M : MI) (MB : MA) (L : ML) (r : Int32) (I' : MI) (A' : MA) (M' : MI) (MB' : MA) (L' : ML) (hf : f_D_fault tn tx I A M MB L  = some (r, I', A', M', MB', L')) : Met l y_D_fault w_D_fault ({ frames := 0, cells := 0, slots := 0, locals := 0 }) (va_Pc [.ref h] (fun U => U.heap.size = sz ∧ va_P (dC, dI) vwCl (dw_W h q g hp qp gp tq tg tn tx I A M MB L) U.heap ∧ va_K (dC, dI) vwCl (dw_T h q g hp qp gp tq tg tn tx) U ∧ va_D (fun _ => True) (dw_W h q g hp qp gp tq tg tn tx I A M MB L))) (va_Qi (fun (r9 : Int32) (_ : Unit) => r9 = r) (fun (_ : Unit) t => va_P (dC, dI) vwCl (dw_W h q g hp qp gp tq tg tn tx I' A' M' MB' L') t.heap ∧ va_K (dC, dI) vwCl (dw_T h q g hp qp gp tq tg tn tx) t ∧ va_D (va_A (dw_W h q g hp qp gp tq tg tn tx I A M MB L) sz) (dw_W h q g hp qp gp tq tg tn tx I' A' M' MB' L')) (va_A (dw_W h q g hp qp gp tq tg tn tx I A M MB L) sz)) 0 0 (va_A (dw_W h q g hp qp gp tq tg tn tx I A M MB L) sz) := by
  refine Met.ofW (cc := prog_1_method_8_code) (maxL := 1) (ret := (some .int)) (by decide) rfl ?_
  intro p e s m args below meth c s₁ B hml hv
  obtain ⟨rfl, hsz, hP, hK, hD0⟩ := hv
  have hx := B.exec
  have hb := B.bytes
  have hr := B.returns
  have hts := atoms_spec (ws := w_D_fault) B.pre
  have hown : s.vm.findClass "DraftTree" = some m.cls := findClass_of_methodNamed B.named
  have hlocks := B.notSynchronized
  subst hsz
  have hD := hD0.self (sz := s.heap.size)
  generalize hAe : va_A (dw_W h q g hp qp gp tq tg tn tx I A M MB L) s.heap.size = B9 at hD ⊢
  have hA : ∀ q : Nat, s.heap.size ≤ q → B9 q := fun q h => by rw [← hAe]; exact Or.inr h
  clear hAe
  have hS : va_S B9 s.heap s.heap [] := va_S.rf
  have hl := lv_entry ([.ref h]) (n := 1) (Nat.le_of_ble_eq_true rfl)
  rw [lg_entry_eq]
  generalize (lg_sl ([.ref h]) ++ List.replicate (1 - (lg_sl ([.ref h])).length) Slot.unset).toArray = ls at hl ⊢
  have hl : lv_has ls 1 [(0, .ref h)] := hl
  unfold f_D_fault at hf
  refine lv_aload_n hx hb d_D_fault_0 rfl (lv_at hl 0 rfl) ?_
  refine va_get (D := (dC, dI)) (ci := 0) (v := .int (I 11)) (C := R_D) (T := F_D) (N := 14) hx hb hts (fun w h => List.mem_cons_of_mem _ (in_D w h)) hown hK hP 0 rfl rfl 11 (by decide) (hts _ (List.mem_cons_of_mem _ lk_425)) (fun _ h9 => h9) rfl d_D_fault_1 ?_
  obtain ⟨e0, e1, e2, e3, e4, e5⟩ := wk_inj5 hf
  subst e0
  subst e1
  subst e2
  subst e3
  subst e4
  subst e5
  exact W.iret (v := (I 11)) hx hb hr (fun t ht hW => ⟨⟨(I 11), (), rfl, rfl, by rw [ht]; exact hP, va_K.moved hW.alike hK, hD⟩, hS.F ht⟩) hS.2.2 d_D_fault_4

set_option maxHeartbeats 8000000 in
set_option maxRecDepth 100000 in
theorem cm_D_figure (l : Launch) (dC : Nat → ClassId) (dI : Nat → Nat → Nat) (h : Nat) (q : Nat → Nat) (g : Nat → ClassId) (hp : Nat) (qp : Nat → Nat) (gp : Nat → ClassId) (tq : Nat) (tg : ClassId) (tn : Nat) (tx : Nat → Int32) (sz : Nat) (I : MI) (A : MA) (M : MI) (MB : MA) (L : ML) (k1 : Int32) (r : Int32) (I' : MI) (A' : MA) (M' : MI) (MB' : MA) (L' : ML) (hf : f_D_figure tn tx I A M MB L  k1 = some (0, r, I', A', M', MB', L')) : Met l y_D_figure w_D_figure ({ frames := 0, cells := 0, slots := 0, locals := 0 }) (va_Pc [.ref h, .int k1] (fun U => U.heap.size = sz ∧ va_P (dC, dI) vwCl (dw_W h q g hp qp gp tq tg tn tx I A M MB L) U.heap ∧ va_K (dC, dI) vwCl (dw_T h q g hp qp gp tq tg tn tx) U ∧ va_D (fun _ => True) (dw_W h q g hp qp gp tq tg tn tx I A M MB L))) (va_Qi (fun (r9 : Int32) (_ : Unit) => r9 = r) (fun (_ : Unit) t => va_P (dC, dI) vwCl (dw_W h q g hp qp gp tq tg tn tx I' A' M' MB' L') t.heap ∧ va_K (dC, dI) vwCl (dw_T h q g hp qp gp tq tg tn tx) t ∧ va_D (va_A (dw_W h q g hp qp gp tq tg tn tx I A M MB L) sz) (dw_W h q g hp qp gp tq tg tn tx I' A' M' MB' L')) (va_A (dw_W h q g hp qp gp tq tg tn tx I A M MB L) sz)) 0 0 (va_A (dw_W h q g hp qp gp tq tg tn tx I A M MB L) sz) := by
  refine Met.ofW (cc := prog_1_method_17_code) (maxL := 2) (ret := (some .int)) (by decide) rfl ?_
  intro p e s m args below meth c s₁ B hml hv
  obtain ⟨rfl, hsz, hP, hK, hD0⟩ := hv
  have hx := B.exec
  have hb := B.bytes
  have hr := B.returns
  have hts := atoms_spec (ws := w_D_figure) B.pre
  have hown : s.vm.findClass "DraftTree" = some m.cls := findClass_of_methodNamed B.named
  have hlocks := B.notSynchronized
  subst hsz
  have hD := hD0.self (sz := s.heap.size)
  generalize hAe : va_A (dw_W h q g hp qp gp tq tg tn tx I A M MB L) s.heap.size = B9 at hD ⊢
  have hA : ∀ q : Nat, s.heap.size ≤ q → B9 q := fun q h => by rw [← hAe]; exact Or.inr h
  clear hAe
  have hS : va_S B9 s.heap s.heap [] := va_S.rf
  have hl := lv_entry ([.ref h, .int k1]) (n := 2) (Nat.le_of_ble_eq_true rfl)
  rw [lg_entry_eq]
  generalize (lg_sl ([.ref h, .int k1]) ++ List.replicate (2 - (lg_sl ([.ref h, .int k1])).length) Slot.unset).toArray = ls at hl ⊢
  have hl : lv_has ls 2 [(0, .ref h), (1, .int k1)] := hl
  unfold f_D_figure at hf
  refine lv_iload_n hx hb d_D_figure_0 rfl (lv_at hl 1 rfl) ?_
  by_cases hc1 : k1 = 0
  ·
    have hf := wk_ift hc1 hf
    refine wk_top (w := .int 0) (congrArg _ hc1) ?_
    refine lv_tableIn (off := 35) (tgt := 36) hx hb d_D_figure_1 (by decide) (by decide) (by decide) (by decide) ?_
    refine lv_aload_n hx hb d_D_figure_36 rfl (lv_at hl 0 rfl) ?_
    refine va_get (D := (dC, dI)) (ci := 0) (v := .int (I 4)) (C := R_D) (T := F_D) (N := 14) hx hb hts (fun w h => List.mem_cons_of_mem _ (in_D w h)) hown hK hP 0 rfl rfl 4 (by decide) (hts _ (List.mem_cons_of_mem _ lk_435)) (fun _ h9 => h9) rfl d_D_figure_37 ?_
    obtain ⟨e0, e1, e2, e3, e4, e5, e6⟩ := wk_inj6 hf
    subst e1
    subst e2
    subst e3
    subst e4
    subst e5
    subst e6
    exact W.iret (v := (I 4)) hx hb hr (fun t ht hW => ⟨⟨(I 4), (), rfl, rfl, by rw [ht]; exact hP, va_K.moved hW.alike hK, hD⟩, hS.F ht⟩) hS.2.2 d_D_figure_40
  ·
    have hf := wk_iff hc1 hf
    by_cases hc2 : k1 = 1
    ·
      have hf := wk_ift hc2 hf
      refine wk_top (w := .int 1) (congrArg _ hc2) ?_
      refine lv_tableIn (off := 40) (tgt := 41) hx hb d_D_figure_1 (by decide) (by decide) (by decide) (by decide) ?_
      refine lv_aload_n hx hb d_D_figure_41 rfl (lv_at hl 0 rfl) ?_
      refine va_get (D := (dC, dI)) (ci := 0) (v := .int (I 3)) (C := R_D) (T := F_D) (N := 14) hx hb hts (fun w h => List.mem_cons_of_mem _ (in_D w h)) hown hK hP 0 rfl rfl 3 (by decide) (hts _ (List.mem_cons_of_mem _ lk_436)) (fun _ h9 => h9) rfl d_D_figure_42 ?_
      obtain ⟨e0, e1, e2, e3, e4, e5, e6⟩ := wk_inj6 hf
      subst e1
      subst e2
      subst e3
      subst e4
      subst e5
      subst e6
      exact W.iret (v := (I 3)) hx hb hr (fun t ht hW => ⟨⟨(I 3), (), rfl, rfl, by rw [ht]; exact hP, va_K.moved hW.alike hK, hD⟩, hS.F ht⟩) hS.2.2 d_D_figure_45
    ·
      have hf := wk_iff hc2 hf
      by_cases hc3 : k1 = 2
      ·
        have hf := wk_ift hc3 hf
        refine wk_top (w := .int 2) (congrArg _ hc3) ?_
        refine lv_tableIn (off := 45) (tgt := 46) hx hb d_D_figure_1 (by decide) (by decide) (by decide) (by decide) ?_
        refine lv_aload_n hx hb d_D_figure_46 rfl (lv_at hl 0 rfl) ?_
        refine va_get (D := (dC, dI)) (ci := 0) (v := .int (I 6)) (C := R_D) (T := F_D) (N := 14) hx hb hts (fun w h => List.mem_cons_of_mem _ (in_D w h)) hown hK hP 0 rfl rfl 6 (by decide) (hts _ (List.mem_cons_of_mem _ lk_437)) (fun _ h9 => h9) rfl d_D_figure_47 ?_
        obtain ⟨e0, e1, e2, e3, e4, e5, e6⟩ := wk_inj6 hf
        subst e1
        subst e2
        subst e3
        subst e4
        subst e5
        subst e6
        exact W.iret (v := (I 6)) hx hb hr (fun t ht hW => ⟨⟨(I 6), (), rfl, rfl, by rw [ht]; exact hP, va_K.moved hW.alike hK, hD⟩, hS.F ht⟩) hS.2.2 d_D_figure_50
      ·
        have hf := wk_iff hc3 hf
        by_cases hc4 : k1 = 3
        ·
          have hf := wk_ift hc4 hf
          refine wk_top (w := .int 3) (congrArg _ hc4) ?_
          refine lv_tableIn (off := 50) (tgt := 51) hx hb d_D_figure_1 (by decide) (by decide) (by decide) (by decide) ?_
          refine lv_aload_n hx hb d_D_figure_51 rfl (lv_at hl 0 rfl) ?_
          refine va_get (D := (dC, dI)) (ci := 0) (v := .int (I 7)) (C := R_D) (T := F_D) (N := 14) hx hb hts (fun w h => List.mem_cons_of_mem _ (in_D w h)) hown hK hP 0 rfl rfl 7 (by decide) (hts _ (List.mem_cons_of_mem _ lk_438)) (fun _ h9 => h9) rfl d_D_figure_52 ?_
          obtain ⟨e0, e1, e2, e3, e4, e5, e6⟩ := wk_inj6 hf
          subst e1
          subst e2
          subst e3
          subst e4
          subst e5
          subst e6
          exact W.iret (v := (I 7)) hx hb hr (fun t ht hW => ⟨⟨(I 7), (), rfl, rfl, by rw [ht]; exact hP, va_K.moved hW.alike hK, hD⟩, hS.F ht⟩) hS.2.2 d_D_figure_55
        ·
          have hf := wk_iff hc4 hf
          by_cases hc5 : k1 = 4
          ·
            have hf := wk_ift hc5 hf
            refine wk_top (w := .int 4) (congrArg _ hc5) ?_
            refine lv_tableIn (off := 55) (tgt := 56) hx hb d_D_figure_1 (by decide) (by decide) (by decide) (by decide) ?_
            refine lv_aload_n hx hb d_D_figure_56 rfl (lv_at hl 0 rfl) ?_
            refine va_get (D := (dC, dI)) (ci := 0) (v := .int (I 1)) (C := R_D) (T := F_D) (N := 14) hx hb hts (fun w h => List.mem_cons_of_mem _ (in_D w h)) hown hK hP 0 rfl rfl 1 (by decide) (hts _ (List.mem_cons_of_mem _ lk_312)) (fun _ h9 => h9) rfl d_D_figure_57 ?_
            obtain ⟨e0, e1, e2, e3, e4, e5, e6⟩ := wk_inj6 hf
            subst e1
            subst e2
            subst e3
            subst e4
            subst e5
            subst e6
            exact W.iret (v := (I 1)) hx hb hr (fun t ht hW => ⟨⟨(I 1), (), rfl, rfl, by rw [ht]; exact hP, va_K.moved hW.alike hK, hD⟩, hS.F ht⟩) hS.2.2 d_D_figure_60
          ·
            have hf := wk_iff hc5 hf
            have nhc1 : ¬ (k1).toInt = 0 := fun z => hc1 ((wk_eq 0 (by decide)).mpr z)
            have nhc2 : ¬ (k1).toInt = 1 := fun z => hc2 ((wk_eq 1 (by decide)).mpr z)
            have nhc3 : ¬ (k1).toInt = 2 := fun z => hc3 ((wk_eq 2 (by decide)).mpr z)
            have nhc4 : ¬ (k1).toInt = 3 := fun z => hc4 ((wk_eq 3 (by decide)).mpr z)
            have nhc5 : ¬ (k1).toInt = 4 := fun z => hc5 ((wk_eq 4 (by decide)).mpr z)
            refine lv_tableOut (tgt := 61) hx hb d_D_figure_1 (by omega) (by decide) ?_
            exact (wk_tag (by decide) hf).elim
set_option maxHeartbeats 8000000 in
set_option maxRecDepth 100000 in
theorem ct_D_figure_3 (l : Launch) (hfl : l.flags = flags0) (dC : Nat → ClassId) (dI : Nat → Nat → Nat) (h : Nat) (q : Nat → Nat) (g : Nat → ClassId) (hp : Nat) (qp : Nat → Nat) (gp : Nat → ClassId) (tq : Nat) (tg : ClassId) (tn : Nat) (tx : Nat → Int32) (sz : Nat) (I : MI) (A : MA) (M : MI) (MB : MA) (L : ML) (k1 : Int32) (r : Int32) (I' : MI) (A' : MA) (M' : MI) (MB' : MA) (L' : ML) (hf : f_D_figure tn tx I A M MB L  k1 = some (3, r, I', A', M', MB', L')) : th_Met l y_D_figure w_D_figure ({ frames := 6, cells := 1, slots := 6, locals := 81 }) (va_Pc [.ref h, .int k1] (fun U => U.heap.size = sz ∧ va_P (dC, dI) vwCl (dw_W h q g hp qp gp tq tg tn tx I A M MB L) U.heap ∧ va_K (dC, dI) vwCl (dw_T h q g hp qp gp tq tg tn tx) U ∧ va_D (fun _ => True) (dw_W h q g hp qp gp tq tg tn tx I A M MB L) ∧ th_ZA (va_A (dw_W h q g hp qp gp tq tg tn tx I A M MB L) sz) U)) (th_Qw "java/lang/IllegalArgumentException" (fun t => va_P (dC, dI) vwCl (dw_W h q g hp qp gp tq tg tn tx I' A' M' MB' L') t.heap ∧ va_K (dC, dI) vwCl (dw_T h q g hp qp gp tq tg tn tx) t ∧ va_D (va_A (dw_W h q g hp qp gp tq tg tn tx I A M MB L) sz) (dw_W h q g hp qp gp tq tg tn tx I' A' M' MB' L')) (va_A (dw_W h q g hp qp gp tq tg tn tx I A M MB L) sz)) 1 6 (va_A (dw_W h q g hp qp gp tq tg tn tx I A M MB L) sz) := by
  refine th_Met.ofW (cc := prog_1_method_17_code) (maxL := 2) (ret := (some .int)) (by decide) rfl ?_
  intro p e s m args below meth c s₁ B hml hnh hv
  obtain ⟨rfl, hsz, hP, hK, hD0, hZ⟩ := hv
  have hx := B.exec
  have hb := B.bytes
  have hr := B.returns
  have hts := atoms_spec (ws := w_D_figure) B.pre
  have hown : s.vm.findClass "DraftTree" = some m.cls := findClass_of_methodNamed B.named
  have hlocks := B.notSynchronized
  have htr := Launch.traces_off hfl B.admits
  subst hsz
  have hD := hD0.self (sz := s.heap.size)
  generalize hAe : va_A (dw_W h q g hp qp gp tq tg tn tx I A M MB L) s.heap.size = B9 at hD hZ ⊢
  have hA : ∀ q : Nat, s.heap.size ≤ q → B9 q := fun q h => by rw [← hAe]; exact Or.inr h
  clear hAe
  have hS : va_S B9 s.heap s.heap [] := va_S.rf
  have hl := lv_entry ([.ref h, .int k1]) (n := 2) (Nat.le_of_ble_eq_true rfl)
  rw [lg_entry_eq]
  generalize (lg_sl ([.ref h, .int k1]) ++ List.replicate (2 - (lg_sl ([.ref h, .int k1])).length) Slot.unset).toArray = ls at hl ⊢
  have hl : lv_has ls 2 [(0, .ref h), (1, .int k1)] := hl
  unfold f_D_figure at hf
  refine lv_iload_n hx hb d_D_figure_0 rfl (lv_at hl 1 rfl) ?_
  by_cases hc1 : k1 = 0
  ·
    have hf := wk_ift hc1 hf
    refine wk_top (w := .int 0) (congrArg _ hc1) ?_
    refine lv_tableIn (off := 35) (tgt := 36) hx hb d_D_figure_1 (by decide) (by decide) (by decide) (by decide) ?_
    refine lv_aload_n hx hb d_D_figure_36 rfl (lv_at hl 0 rfl) ?_
    refine va_get (D := (dC, dI)) (ci := 0) (v := .int (I 4)) (C := R_D) (T := F_D) (N := 14) hx hb hts (fun w h => List.mem_cons_of_mem _ (in_D w h)) hown hK hP 0 rfl rfl 4 (by decide) (hts _ (List.mem_cons_of_mem _ lk_435)) (fun _ h9 => h9) rfl d_D_figure_37 ?_
    exact (wk_tag (by decide) hf).elim
  ·
    have hf := wk_iff hc1 hf
    by_cases hc2 : k1 = 1
    ·
      have hf := wk_ift hc2 hf
      refine wk_top (w := .int 1) (congrArg _ hc2) ?_
      refine lv_tableIn (off := 40) (tgt := 41) hx hb d_D_figure_1 (by decide) (by decide) (by decide) (by decide) ?_
      refine lv_aload_n hx hb d_D_figure_41 rfl (lv_at hl 0 rfl) ?_
      refine va_get (D := (dC, dI)) (ci := 0) (v := .int (I 3)) (C := R_D) (T := F_D) (N := 14) hx hb hts (fun w h => List.mem_cons_of_mem _ (in_D w h)) hown hK hP 0 rfl rfl 3 (by decide) (hts _ (List.mem_cons_of_mem _ lk_436)) (fun _ h9 => h9) rfl d_D_figure_42 ?_
      exact (wk_tag (by decide) hf).elim
    ·
      have hf := wk_iff hc2 hf
      by_cases hc3 : k1 = 2
      ·
        have hf := wk_ift hc3 hf
        refine wk_top (w := .int 2) (congrArg _ hc3) ?_
        refine lv_tableIn (off := 45) (tgt := 46) hx hb d_D_figure_1 (by decide) (by decide) (by decide) (by decide) ?_
        refine lv_aload_n hx hb d_D_figure_46 rfl (lv_at hl 0 rfl) ?_
        refine va_get (D := (dC, dI)) (ci := 0) (v := .int (I 6)) (C := R_D) (T := F_D) (N := 14) hx hb hts (fun w h => List.mem_cons_of_mem _ (in_D w h)) hown hK hP 0 rfl rfl 6 (by decide) (hts _ (List.mem_cons_of_mem _ lk_437)) (fun _ h9 => h9) rfl d_D_figure_47 ?_
        exact (wk_tag (by decide) hf).elim
      ·
        have hf := wk_iff hc3 hf
        by_cases hc4 : k1 = 3
        ·
          have hf := wk_ift hc4 hf
          refine wk_top (w := .int 3) (congrArg _ hc4) ?_
          refine lv_tableIn (off := 50) (tgt := 51) hx hb d_D_figure_1 (by decide) (by decide) (by decide) (by decide) ?_
          refine lv_aload_n hx hb d_D_figure_51 rfl (lv_at hl 0 rfl) ?_
          refine va_get (D := (dC, dI)) (ci := 0) (v := .int (I 7)) (C := R_D) (T := F_D) (N := 14) hx hb hts (fun w h => List.mem_cons_of_mem _ (in_D w h)) hown hK hP 0 rfl rfl 7 (by decide) (hts _ (List.mem_cons_of_mem _ lk_438)) (fun _ h9 => h9) rfl d_D_figure_52 ?_
          exact (wk_tag (by decide) hf).elim
        ·
          have hf := wk_iff hc4 hf
          by_cases hc5 : k1 = 4
          ·
            have hf := wk_ift hc5 hf
            refine wk_top (w := .int 4) (congrArg _ hc5) ?_
            refine lv_tableIn (off := 55) (tgt := 56) hx hb d_D_figure_1 (by decide) (by decide) (by decide) (by decide) ?_
            refine lv_aload_n hx hb d_D_figure_56 rfl (lv_at hl 0 rfl) ?_
            refine va_get (D := (dC, dI)) (ci := 0) (v := .int (I 1)) (C := R_D) (T := F_D) (N := 14) hx hb hts (fun w h => List.mem_cons_of_mem _ (in_D w h)) hown hK hP 0 rfl rfl 1 (by decide) (hts _ (List.mem_cons_of_mem _ lk_312)) (fun _ h9 => h9) rfl d_D_figure_57 ?_
            exact (wk_tag (by decide) hf).elim
          ·
            have hf := wk_iff hc5 hf
            have nhc1 : ¬ (k1).toInt = 0 := fun z => hc1 ((wk_eq 0 (by decide)).mpr z)
            have nhc2 : ¬ (k1).toInt = 1 := fun z => hc2 ((wk_eq 1 (by decide)).mpr z)
            have nhc3 : ¬ (k1).toInt = 2 := fun z => hc3 ((wk_eq 2 (by decide)).mpr z)
            have nhc4 : ¬ (k1).toInt = 3 := fun z => hc4 ((wk_eq 3 (by decide)).mpr z)
            have nhc5 : ¬ (k1).toInt = 4 := fun z => hc5 ((wk_eq 4 (by decide)).mpr z)
            refine lv_tableOut (tgt := 61) hx hb d_D_figure_1 (by omega) (by decide) ?_
            obtain ⟨e0, e1, e2, e3, e4, e5, e6⟩ := wk_inj6 hf
            subst e1
            subst e2
            subst e3
            subst e4
            subst e5
            subst e6
            exact th_newG hx hb htr hown (by decide) (by decide) (wk_thr hts hZ hS lk_431 lk_432 (fun _ a9 b9 => oa_1 a9 b9)) hnh (by rw [hl.1, hml]) hS (Nat.le_of_ble_eq_true rfl) (Nat.le_of_ble_eq_true rfl) (Nat.le_of_ble_eq_true rfl) (Nat.le_of_ble_eq_true rfl) (Nat.le_of_ble_eq_true rfl) (Nat.le_of_ble_eq_true rfl) hlocks (fun t hal hk => ⟨hP.kept (fun k q hq => hk _ (hP k q hq).lt), va_K.moved hal hK, hD⟩) d_D_figure_61 d_D_figure_64 d_D_figure_65 d_D_figure_68

