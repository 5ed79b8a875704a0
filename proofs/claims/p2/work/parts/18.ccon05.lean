set_option maxHeartbeats 8000000 in
set_option maxRecDepth 100000 in
theorem cm_P_readLiteral (l : Launch) (dC : Nat → ClassId) (dI : Nat → Nat → Nat) (h : Nat) (q : Nat → Nat) (g : Nat → ClassId) (hm : Nat) (qm : Nat → Nat) (gm : Nat → ClassId) (so : Nat) (sg : ClassId) (sx : Nat → Int32) (sz : Nat) (I : MI) (A : MA) (M : MI) (MB : MA) (L : ML) (k1 : Int32) (r : Int32) (I' : MI) (A' : MA) (M' : MI) (MB' : MA) (L' : ML) (hf : f_P_readLiteral sx I A M MB L  k1 = some (r, I', A', M', MB', L')) : Met l y_P_readLiteral w_P_readLiteral ({ frames := 2, cells := 0, slots := 0, locals := 44 }) (va_Pc [.ref h, .int k1] (fun U => U.heap.size = sz ∧ va_P (dC, dI) vwCl (rw_W h q g hm qm gm so sg sx I A M MB L) U.heap ∧ va_K (dC, dI) vwCl (rw_T h q g hm qm gm so sg sx) U ∧ va_D (fun _ => True) (rw_W h q g hm qm gm so sg sx I A M MB L))) (va_Qv (fun (u : Unit) => u = u) (fun (_ : Unit) t => va_P (dC, dI) vwCl (rw_W h q g hm qm gm so sg sx I' A' M' MB' L') t.heap ∧ va_K (dC, dI) vwCl (rw_T h q g hm qm gm so sg sx) t ∧ va_D (va_A (rw_W h q g hm qm gm so sg sx I A M MB L) sz) (rw_W h q g hm qm gm so sg sx I' A' M' MB' L')) (va_A (rw_W h q g hm qm gm so sg sx I A M MB L) sz)) 0 0 (va_A (rw_W h q g hm qm gm so sg sx I A M MB L) sz) := by
  refine Met.ofW (cc := prog_3_method_8_code) (maxL := 3) (ret := none) (by decide) rfl ?_
  intro p e s m args below meth c s₁ B hml hv
  obtain ⟨rfl, hsz, hP, hK, hD0⟩ := hv
  have hx := B.exec
  have hb := B.bytes
  have hr := B.returns
  have hts := atoms_spec (ws := w_P_readLiteral) B.pre
  have hown : s.vm.findClass "DraftTree$PatternReader" = some m.cls := findClass_of_methodNamed B.named
  have hlocks := B.notSynchronized
  subst hsz
  have hD := hD0.self (sz := s.heap.size)
  generalize hAe : va_A (rw_W h q g hm qm gm so sg sx I A M MB L) s.heap.size = B9 at hD ⊢
  have hA : ∀ q : Nat, s.heap.size ≤ q → B9 q := fun q h => by rw [← hAe]; exact Or.inr h
  clear hAe
  have hS : va_S B9 s.heap s.heap [] := va_S.rf
  have hl := lv_entry ([.ref h, .int k1]) (n := 3) (Nat.le_of_ble_eq_true rfl)
  rw [lg_entry_eq]
  generalize (lg_sl ([.ref h, .int k1]) ++ List.replicate (3 - (lg_sl ([.ref h, .int k1])).length) Slot.unset).toArray = ls at hl ⊢
  have hl : lv_has ls 3 [(0, .ref h), (1, .int k1)] := hl
  unfold f_P_readLiteral at hf
  refine lv_aload_n hx hb d_P_readLiteral_0 rfl (lv_at hl 0 rfl) ?_
  refine lv_iconst (v := 1) hx hb d_P_readLiteral_1 (by decide) ?_
  have hPc := hP.sub (ws' := (rw_W h q g hm qm gm so sg sx I A M MB L)) [0, 1, 2, 3, 4, 5, 6, 7, 8, 9, 10, 11] rfl
  have hDc := hD.sub (ws' := (rw_W h q g hm qm gm so sg sx I A M MB L)) [0, 1, 2, 3, 4, 5, 6, 7, 8, 9, 10, 11] (by decide) rfl
  have hKc := hK.sub (tys' := (rw_T h q g hm qm gm so sg sx)) [0, 1, 2, 3, 4, 5, 6, 7, 8, 9] rfl
  have hFc := va_free (wc := (rw_W h q g hm qm gm so sg sx I A M MB L)) hD hS hA [0, 1, 2, 3, 4, 5, 6, 7, 8, 9, 10, 11] rfl
  cases hg1 : f_P_addNodeAsPart sx I A M MB L 1 with
  | none => rw [hg1] at hf; cases hf
  | some z1 =>
    obtain ⟨r1, I1, A1, M1, MB1, L1⟩ := z1
    rw [hg1] at hf
    dsimp only [Option.bind_some] at hf
    refine va_calli (va_runV (As := [.int 1]) (rest := []) ⟨hx, hb, hml, hown, hts⟩ (cm_P_addNodeAsPart l dC dI h q g hm qm gm so sg sx _  I A M MB L 1 r1 I1 A1 M1 MB1 L1 hg1) (cwV 1 hts (gd_v lk_372 lk_373 lk_374 lk_348 lk_371) rfl rfl rfl (by decide +kernel) ⟨Nat.le_of_ble_eq_true rfl, Nat.le_of_ble_eq_true rfl⟩) ⟨fun a U g mk q => by obtain ⟨q0, q1, qP, qK, qD⟩ := q; exact ⟨q0, q1, qP, va_K.moved (u := U) (U := U.calling g mk a) (Vm.Alike.refl U.vm) qK, qD⟩, va_recv (ci := 2) (q0 := 0) hK hP rfl rfl, fun U hU hW => ⟨rfl, by rw [hU], by rw [hU]; exact hPc, va_K.moved hW.alike hKc, hDc.weaken (fun _ _ _ _ => trivial)⟩⟩ rfl rfl hl.1 rfl (lv_room (Nat.le_of_ble_eq_true rfl)) d_P_readLiteral_2 ⟨Nat.le_of_ble_eq_true rfl, Nat.le_of_ble_eq_true rfl⟩) hS (fun q _ h => hFc q h) hFc (fun r9 u t H1 locs ht hvm hw hB hz1 hk1 hS => ?_)
    obtain ⟨hP1, hK1, hD1⟩ := hB
    rw [ht] at hP1
    rw [hw]
    obtain ⟨hP, hD⟩ := va_join (wr := (([] : List Nat).map (fun i => ((rw_W h q g hm qm gm so sg sx I A M MB L)).getD i (0, .inr (0, []))))) (w1 := (rw_W h q g hm qm gm so sg sx I1 A1 M1 MB1 L1)) hP hD [0, 1, 2, 3, 4, 5, 6, 7, 8, 9, 10, 11] [] rfl rfl (by decide) (by decide) hk1 hFc hP1 hD1
    generalize H1 = H at hP hS ⊢
    have hP := hP.sub (ws' := (rw_W h q g hm qm gm so sg sx I1 A1 M1 MB1 L1)) [0, 1, 2, 3, 4, 5, 6, 7, 8, 9, 10, 11] rfl
    have hD := hD.sub (ws' := (rw_W h q g hm qm gm so sg sx I1 A1 M1 MB1 L1)) [0, 1, 2, 3, 4, 5, 6, 7, 8, 9, 10, 11] (by decide) rfl
    refine lv_istore_n (lv' := [(2, .int r1), (0, .ref h), (1, .int k1)]) hx hb d_P_readLiteral_5 rfl hl (by decide) rfl (fun ls hl => ?_)
    have hl : lv_has ls 3 [(2, .int r1), (0, .ref h), (1, .int k1)] := hl
    refine lv_aload_n hx hb d_P_readLiteral_6 rfl (lv_at hl 1 rfl) ?_
    refine va_get (D := (dC, dI)) (ci := 2) (v := .ref hm) (C := R_P) (T := F_P) (N := 13) hx hb hts (fun w h => List.mem_cons_of_mem _ (in_P w h)) hown hK hP 0 rfl rfl 4 (by decide) (hts _ (List.mem_cons_of_mem _ lk_330)) (fun _ h9 => h9) rfl d_P_readLiteral_7 ?_
    refine lv_iload_n hx hb d_P_readLiteral_10 rfl (lv_at hl 0 rfl) ?_
    refine lv_iload_n hx hb d_P_readLiteral_11 rfl (lv_at hl 2 rfl) ?_
    refine lv_iload_n hx hb d_P_readLiteral_12 rfl (lv_at hl 2 rfl) ?_
    have hPc := hP.sub (ws' := (aw_W hm qm gm M1 MB1 L1)) [5, 6, 7, 8, 9, 10] rfl
    have hDc := hD.sub (ws' := (aw_W hm qm gm M1 MB1 L1)) [5, 6, 7, 8, 9, 10] (by decide) rfl
    have hKc := hK.sub (tys' := (aw_T hm qm gm)) [4, 5, 6, 7, 8] rfl
    have hFc := va_free (wc := (aw_W hm qm gm M1 MB1 L1)) hD hS hA [5, 6, 7, 8, 9, 10] rfl
    cases hg2 : f_A_takeCodes M1 MB1 L1 r1 k1 k1 with
    | none => rw [hg2] at hf; cases hf
    | some z2 =>
      obtain ⟨r2, M2, MB2, L2⟩ := z2
      rw [hg2] at hf
      dsimp only [Option.bind_some] at hf
      refine va_callv (va_runV (As := [.int r1, .int k1, .int k1]) (rest := []) ⟨hx, hb, hml, hown, hts⟩ (cm_A_takeCodes l dC dI hm qm gm _  M1 MB1 L1 r1 k1 k1 r2 M2 MB2 L2 hg2) (cwV 3 hts (gd_v lk_376 lk_377 lk_378 lk_273 lk_375) rfl rfl rfl (by decide +kernel) ⟨Nat.le_of_ble_eq_true rfl, Nat.le_of_ble_eq_true rfl⟩) ⟨fun a U g mk q => by obtain ⟨q0, q1, qP, qK, qD⟩ := q; exact ⟨q0, q1, qP, va_K.moved (u := U) (U := U.calling g mk a) (Vm.Alike.refl U.vm) qK, qD⟩, va_recv (ci := 3) (q0 := 5) hK hP rfl rfl, fun U hU hW => ⟨rfl, by rw [hU], by rw [hU]; exact hPc, va_K.moved hW.alike hKc, hDc.weaken (fun _ _ _ _ => trivial)⟩⟩ rfl rfl hl.1 rfl (lv_room (Nat.le_of_ble_eq_true rfl)) d_P_readLiteral_13 ⟨Nat.le_of_ble_eq_true rfl, Nat.le_of_ble_eq_true rfl⟩) hS (fun q _ h => hFc q h) hFc (fun u t H1 locs ht hvm hw hB hz1 hk1 hS => ?_)
      obtain ⟨hP1, hK1, hD1⟩ := hB
      rw [ht] at hP1
      obtain ⟨hP, hD⟩ := va_join (wr := (([0, 1, 2, 3, 4, 11] : List Nat).map (fun i => ((rw_W h q g hm qm gm so sg sx I1 A1 M1 MB1 L1)).getD i (0, .inr (0, []))))) (w1 := (aw_W hm qm gm M2 MB2 L2)) hP hD [5, 6, 7, 8, 9, 10] [0, 1, 2, 3, 4, 11] rfl rfl (by decide) (by decide) hk1 hFc hP1 hD1
      generalize H1 = H at hP hS ⊢
      have hP := hP.sub (ws' := (rw_W h q g hm qm gm so sg sx I1 A1 M2 MB2 L2)) [0, 1, 2, 3, 4, 6, 7, 8, 9, 10, 11, 5] rfl
      have hD := hD.sub (ws' := (rw_W h q g hm qm gm so sg sx I1 A1 M2 MB2 L2)) [0, 1, 2, 3, 4, 6, 7, 8, 9, 10, 11, 5] (by decide) rfl
      obtain ⟨e0, e1, e2, e3, e4, e5⟩ := wk_inj5 hf
      subst e0
      subst e1
      subst e2
      subst e3
      subst e4
      subst e5
      exact W.vret hx hb hr (fun t ht hW => ⟨⟨(), rfl, rfl, by rw [ht]; exact hP, va_K.moved hW.alike hK, hD⟩, hS.F ht⟩) hS.2.2 d_P_readLiteral_16

set_option maxHeartbeats 8000000 in
set_option maxRecDepth 100000 in
theorem cm_P_readEscaped (l : Launch) (dC : Nat → ClassId) (dI : Nat → Nat → Nat) (h : Nat) (q : Nat → Nat) (g : Nat → ClassId) (hm : Nat) (qm : Nat → Nat) (gm : Nat → ClassId) (so : Nat) (sg : ClassId) (sx : Nat → Int32) (sz : Nat) (I : MI) (A : MA) (M : MI) (MB : MA) (L : ML) (r : Int32) (I' : MI) (A' : MA) (M' : MI) (MB' : MA) (L' : ML) (hf : f_P_readEscaped sx I A M MB L  = some (r, I', A', M', MB', L')) : Met l y_P_readEscaped w_P_readEscaped ({ frames := 3, cells := 0, slots := 0, locals := 66 }) (va_Pc [.ref h] (fun U => U.heap.size = sz ∧ va_P (dC, dI) vwCl (rw_W h q g hm qm gm so sg sx I A M MB L) U.heap ∧ va_K (dC, dI) vwCl (rw_T h q g hm qm gm so sg sx) U ∧ va_D (fun _ => True) (rw_W h q g hm qm gm so sg sx I A M MB L))) (va_Qv (fun (u : Unit) => u = u) (fun (_ : Unit) t => va_P (dC, dI) vwCl (rw_W h q g hm qm gm so sg sx I' A' M' MB' L') t.heap ∧ va_K (dC, dI) vwCl (rw_T h q g hm qm gm so sg sx) t ∧ va_D (va_A (rw_W h q g hm qm gm so sg sx I A M MB L) sz) (rw_W h q g hm qm gm so sg sx I' A' M' MB' L')) (va_A (rw_W h q g hm qm gm so sg sx I A M MB L) sz)) 0 0 (va_A (rw_W h q g hm qm gm so sg sx I A M MB L) sz) := by
  refine Met.ofW (cc := prog_3_method_9_code) (maxL := 1) (ret := none) (by decide) rfl ?_
  intro p e s m args below meth c s₁ B hml hv
  obtain ⟨rfl, hsz, hP, hK, hD0⟩ := hv
  have hx := B.exec
  have hb := B.bytes
  have hr := B.returns
  have hts := atoms_spec (ws := w_P_readEscaped) B.pre
  have hown : s.vm.findClass "DraftTree$PatternReader" = some m.cls := findClass_of_methodNamed B.named
  have hlocks := B.notSynchronized
  subst hsz
  have hD := hD0.self (sz := s.heap.size)
  generalize hAe : va_A (rw_W h q g hm qm gm so sg sx I A M MB L) s.heap.size = B9 at hD ⊢
  have hA : ∀ q : Nat, s.heap.size ≤ q → B9 q := fun q h => by rw [← hAe]; exact Or.inr h
  clear hAe
  have hS : va_S B9 s.heap s.heap [] := va_S.rf
  have hl := lv_entry ([.ref h]) (n := 1) (Nat.le_of_ble_eq_true rfl)
  rw [lg_entry_eq]
  generalize (lg_sl ([.ref h]) ++ List.replicate (1 - (lg_sl ([.ref h])).length) Slot.unset).toArray = ls at hl ⊢
  have hl : lv_has ls 1 [(0, .ref h)] := hl
  unfold f_P_readEscaped at hf
  refine lv_aload_n hx hb d_P_readEscaped_0 rfl (lv_at hl 0 rfl) ?_
  refine lv_dup hx hb d_P_readEscaped_1 rfl ?_
  refine va_get (D := (dC, dI)) (ci := 2) (v := .int (I 7)) (C := R_P) (T := F_P) (N := 13) hx hb hts (fun w h => List.mem_cons_of_mem _ (in_P w h)) hown hK hP 0 rfl rfl 7 (by decide) (hts _ (List.mem_cons_of_mem _ lk_328)) (fun _ h9 => h9) rfl d_P_readEscaped_2 ?_
  refine lv_iconst (v := 1) hx hb d_P_readEscaped_5 (by decide) ?_
  refine lv_iadd hx hb d_P_readEscaped_6 ?_
  refine va_put (D := (dC, dI)) (ci := 2) (v := .int ((I 7) + 1)) (ty := .int) (C := R_P) (T := F_P) (N := 13) hx hb hts (fun w h => List.mem_cons_of_mem _ (in_P w h)) t_P tk_P n_P hown hK hP hD hS 0 rfl rfl 7 (by decide) (hts _ (List.mem_cons_of_mem _ lk_328)) (fun _ h9 => h9) rfl (by decide +kernel) rfl rfl (Nat.le_of_ble_eq_true rfl) d_P_readEscaped_7 (fun H locs hP hD hS => ?_)
  obtain ⟨I1, hI1, hf⟩ := wk_letE hf
  have hP : va_P (dC, dI) vwCl (rw_W h q g hm qm gm so sg sx I1 A M MB L) H := by rw [hI1]; exact hP
  have hD : va_D B9 (rw_W h q g hm qm gm so sg sx I1 A M MB L) := by rw [hI1]; exact hD
  clear hI1
  refine lv_aload_n hx hb d_P_readEscaped_10 rfl (lv_at hl 0 rfl) ?_
  refine va_get (D := (dC, dI)) (ci := 2) (v := .int (I1 7)) (C := R_P) (T := F_P) (N := 13) hx hb hts (fun w h => List.mem_cons_of_mem _ (in_P w h)) hown hK hP 0 rfl rfl 7 (by decide) (hts _ (List.mem_cons_of_mem _ lk_328)) (fun _ h9 => h9) rfl d_P_readEscaped_11 ?_
  refine lv_aload_n hx hb d_P_readEscaped_14 rfl (lv_at hl 0 rfl) ?_
  refine va_get (D := (dC, dI)) (ci := 2) (v := .int (I1 6)) (C := R_P) (T := F_P) (N := 13) hx hb hts (fun w h => List.mem_cons_of_mem _ (in_P w h)) hown hK hP 0 rfl rfl 6 (by decide) (hts _ (List.mem_cons_of_mem _ lk_327)) (fun _ h9 => h9) rfl d_P_readEscaped_15 ?_
  refine lv_icmp_ne (tgt := 30) hx hb d_P_readEscaped_18 (by decide) (fun hc1 => ?_) (fun hc1 => ?_)
  ·
    have hf := wk_iff hc1 hf
    refine lv_aload_n hx hb d_P_readEscaped_30 rfl (lv_at hl 0 rfl) ?_
    refine lv_aload_n hx hb d_P_readEscaped_31 rfl (lv_at hl 0 rfl) ?_
    refine va_get (D := (dC, dI)) (ci := 2) (v := .ref so) (C := R_P) (T := F_P) (N := 13) hx hb hts (fun w h => List.mem_cons_of_mem _ (in_P w h)) hown hK hP 0 rfl rfl 5 (by decide) (hts _ (List.mem_cons_of_mem _ lk_326)) (fun _ h9 => h9) rfl d_P_readEscaped_32 ?_
    refine lv_aload_n hx hb d_P_readEscaped_35 rfl (lv_at hl 0 rfl) ?_
    refine va_get (D := (dC, dI)) (ci := 2) (v := .int (I1 7)) (C := R_P) (T := F_P) (N := 13) hx hb hts (fun w h => List.mem_cons_of_mem _ (in_P w h)) hown hK hP 0 rfl rfl 7 (by decide) (hts _ (List.mem_cons_of_mem _ lk_328)) (fun _ h9 => h9) rfl d_P_readEscaped_36 ?_
    obtain ⟨hc2, hf⟩ := wk_if hf
    refine va_cald hx hb hK hP 11 9 rfl rfl (wk_inb_ok hc2) d_P_readEscaped_39 ?_
    have hPc := hP.sub (ws' := (rw_W h q g hm qm gm so sg sx I1 A M MB L)) [0, 1, 2, 3, 4, 5, 6, 7, 8, 9, 10, 11] rfl
    have hDc := hD.sub (ws' := (rw_W h q g hm qm gm so sg sx I1 A M MB L)) [0, 1, 2, 3, 4, 5, 6, 7, 8, 9, 10, 11] (by decide) rfl
    have hKc := hK.sub (tys' := (rw_T h q g hm qm gm so sg sx)) [0, 1, 2, 3, 4, 5, 6, 7, 8, 9] rfl
    have hFc := va_free (wc := (rw_W h q g hm qm gm so sg sx I1 A M MB L)) hD hS hA [0, 1, 2, 3, 4, 5, 6, 7, 8, 9, 10, 11] rfl
    cases hg2 : f_P_readLiteral sx I1 A M MB L (sx ((I1 7)).toNatClampNeg) with
    | none => rw [hg2] at hf; cases hf
    | some z2 =>
      obtain ⟨r2, I2, A2, M2, MB2, L2⟩ := z2
      rw [hg2] at hf
      dsimp only [Option.bind_some] at hf
      refine va_callv (va_runV (As := [.int (sx ((I1 7)).toNatClampNeg)]) (rest := []) ⟨hx, hb, hml, hown, hts⟩ (cm_P_readLiteral l dC dI h q g hm qm gm so sg sx _  I1 A M MB L (sx ((I1 7)).toNatClampNeg) r2 I2 A2 M2 MB2 L2 hg2) (cwV 1 hts (gd_v lk_392 lk_393 lk_394 lk_348 lk_391) rfl rfl rfl (by decide +kernel) ⟨Nat.le_of_ble_eq_true rfl, Nat.le_of_ble_eq_true rfl⟩) ⟨fun a U g mk q => by obtain ⟨q0, q1, qP, qK, qD⟩ := q; exact ⟨q0, q1, qP, va_K.moved (u := U) (U := U.calling g mk a) (Vm.Alike.refl U.vm) qK, qD⟩, va_recv (ci := 2) (q0 := 0) hK hP rfl rfl, fun U hU hW => ⟨rfl, by rw [hU], by rw [hU]; exact hPc, va_K.moved hW.alike hKc, hDc.weaken (fun _ _ _ _ => trivial)⟩⟩ rfl rfl hl.1 rfl (lv_room (Nat.le_of_ble_eq_true rfl)) d_P_readEscaped_40 ⟨Nat.le_of_ble_eq_true rfl, Nat.le_of_ble_eq_true rfl⟩) hS (fun q _ h => hFc q h) hFc (fun u t H1 locs ht hvm hw hB hz1 hk1 hS => ?_)
      obtain ⟨hP1, hK1, hD1⟩ := hB
      rw [ht] at hP1
      obtain ⟨hP, hD⟩ := va_join (wr := (([] : List Nat).map (fun i => ((rw_W h q g hm qm gm so sg sx I1 A M MB L)).getD i (0, .inr (0, []))))) (w1 := (rw_W h q g hm qm gm so sg sx I2 A2 M2 MB2 L2)) hP hD [0, 1, 2, 3, 4, 5, 6, 7, 8, 9, 10, 11] [] rfl rfl (by decide) (by decide) hk1 hFc hP1 hD1
      generalize H1 = H at hP hS ⊢
      have hP := hP.sub (ws' := (rw_W h q g hm qm gm so sg sx I2 A2 M2 MB2 L2)) [0, 1, 2, 3, 4, 5, 6, 7, 8, 9, 10, 11] rfl
      have hD := hD.sub (ws' := (rw_W h q g hm qm gm so sg sx I2 A2 M2 MB2 L2)) [0, 1, 2, 3, 4, 5, 6, 7, 8, 9, 10, 11] (by decide) rfl
      obtain ⟨e0, e1, e2, e3, e4, e5⟩ := wk_inj5 hf
      subst e0
      subst e1
      subst e2
      subst e3
      subst e4
      subst e5
      exact W.vret hx hb hr (fun t ht hW => ⟨⟨(), rfl, rfl, by rw [ht]; exact hP, va_K.moved hW.alike hK, hD⟩, hS.F ht⟩) hS.2.2 d_P_readEscaped_43
  ·
    have hf := wk_ift hc1 hf
    refine lv_aload_n hx hb d_P_readEscaped_21 rfl (lv_at hl 0 rfl) ?_
    refine lv_aload_n hx hb d_P_readEscaped_22 rfl (lv_at hl 0 rfl) ?_
    refine va_get (D := (dC, dI)) (ci := 2) (v := .int (I1 7)) (C := R_P) (T := F_P) (N := 13) hx hb hts (fun w h => List.mem_cons_of_mem _ (in_P w h)) hown hK hP 0 rfl rfl 7 (by decide) (hts _ (List.mem_cons_of_mem _ lk_328)) (fun _ h9 => h9) rfl d_P_readEscaped_23 ?_
    refine va_put (D := (dC, dI)) (ci := 2) (v := .int (I1 7)) (ty := .int) (C := R_P) (T := F_P) (N := 13) hx hb hts (fun w h => List.mem_cons_of_mem _ (in_P w h)) t_P tk_P n_P hown hK hP hD hS 0 rfl rfl 9 (by decide) (hts _ (List.mem_cons_of_mem _ lk_329)) (fun _ h9 => h9) rfl (by decide +kernel) rfl rfl (Nat.le_of_ble_eq_true rfl) d_P_readEscaped_26 (fun H locs hP hD hS => ?_)
    obtain ⟨I2, hI2, hf⟩ := wk_letE hf
    have hP : va_P (dC, dI) vwCl (rw_W h q g hm qm gm so sg sx I2 A M MB L) H := by rw [hI2]; exact hP
    have hD : va_D B9 (rw_W h q g hm qm gm so sg sx I2 A M MB L) := by rw [hI2]; exact hD
    clear hI2
    obtain ⟨e0, e1, e2, e3, e4, e5⟩ := wk_inj5 hf
    subst e0
    subst e1
    subst e2
    subst e3
    subst e4
    subst e5
    exact W.vret hx hb hr (fun t ht hW => ⟨⟨(), rfl, rfl, by rw [ht]; exact hP, va_K.moved hW.alike hK, hD⟩, hS.F ht⟩) hS.2.2 d_P_readEscaped_29

set_option maxHeartbeats 8000000 in
set_option maxRecDepth 100000 in
theorem cm_P_openRow (l : Launch) (dC : Nat → ClassId) (dI : Nat → Nat → Nat) (h : Nat) (q : Nat → Nat) (g : Nat → ClassId) (hm : Nat) (qm : Nat → Nat) (gm : Nat → ClassId) (so : Nat) (sg : ClassId) (sx : Nat → Int32) (sz : Nat) (I : MI) (A : MA) (M : MI) (MB : MA) (L : ML) (r : Int32) (I' : MI) (A' : MA) (M' : MI) (MB' : MA) (L' : ML) (hf : f_P_openRow sx I A M MB L  = some (r, I', A', M', MB', L')) : Met l y_P_openRow w_P_openRow ({ frames := 1, cells := 0, slots := 0, locals := 22 }) (va_Pc [.ref h] (fun U => U.heap.size = sz ∧ va_P (dC, dI) vwCl (rw_W h q g hm qm gm so sg sx I A M MB L) U.heap ∧ va_K (dC, dI) vwCl (rw_T h q g hm qm gm so sg sx) U ∧ va_D (fun _ => True) (rw_W h q g hm qm gm so sg sx I A M MB L))) (va_Qv (fun (u : Unit) => u = u) (fun (_ : Unit) t => va_P (dC, dI) vwCl (rw_W h q g hm qm gm so sg sx I' A' M' MB' L') t.heap ∧ va_K (dC, dI) vwCl (rw_T h q g hm qm gm so sg sx) t ∧ va_D (va_A (rw_W h q g hm qm gm so sg sx I A M MB L) sz) (rw_W h q g hm qm gm so sg sx I' A' M' MB' L')) (va_A (rw_W h q g hm qm gm so sg sx I A M MB L) sz)) 0 0 (va_A (rw_W h q g hm qm gm so sg sx I A M MB L) sz) := by
  refine Met.ofW (cc := prog_3_method_15_code) (maxL := 2) (ret := none) (by decide) rfl ?_
  intro p e s m args below meth c s₁ B hml hv
  obtain ⟨rfl, hsz, hP, hK, hD0⟩ := hv
  have hx := B.exec
  have hb := B.bytes
  have hr := B.returns
  have hts := atoms_spec (ws := w_P_openRow) B.pre
  have hown : s.vm.findClass "DraftTree$PatternReader" = some m.cls := findClass_of_methodNamed B.named
  have hlocks := B.notSynchronized
  subst hsz
  have hD := hD0.self (sz := s.heap.size)
  generalize hAe : va_A (rw_W h q g hm qm gm so sg sx I A M MB L) s.heap.size = B9 at hD ⊢
  have hA : ∀ q : Nat, s.heap.size ≤ q → B9 q := fun q h => by rw [← hAe]; exact Or.inr h
  clear hAe
  have hS : va_S B9 s.heap s.heap [] := va_S.rf
  have hl := lv_entry ([.ref h]) (n := 2) (Nat.le_of_ble_eq_true rfl)
  rw [lg_entry_eq]
  generalize (lg_sl ([.ref h]) ++ List.replicate (2 - (lg_sl ([.ref h])).length) Slot.unset).toArray = ls at hl ⊢
  have hl : lv_has ls 2 [(0, .ref h)] := hl
  unfold f_P_openRow at hf
  refine lv_aload_n hx hb d_P_openRow_0 rfl (lv_at hl 0 rfl) ?_
  refine va_get (D := (dC, dI)) (ci := 2) (v := .ref hm) (C := R_P) (T := F_P) (N := 13) hx hb hts (fun w h => List.mem_cons_of_mem _ (in_P w h)) hown hK hP 0 rfl rfl 4 (by decide) (hts _ (List.mem_cons_of_mem _ lk_330)) (fun _ h9 => h9) rfl d_P_openRow_1 ?_
  refine va_get (D := (dC, dI)) (ci := 3) (v := .ref (qm 1)) (C := R_A) (T := F_A) (N := 10) hx hb hts (fun w h => List.mem_cons_of_mem _ (in_A w h)) hown hK hP 5 rfl rfl 1 (by decide) (hts _ (List.mem_cons_of_mem _ lk_357)) (fun _ h9 => h9) rfl d_P_openRow_4 ?_
  refine lv_aload_n hx hb d_P_openRow_7 rfl (lv_at hl 0 rfl) ?_
  refine va_get (D := (dC, dI)) (ci := 2) (v := .int (I 12)) (C := R_P) (T := F_P) (N := 13) hx hb hts (fun w h => List.mem_cons_of_mem _ (in_P w h)) hown hK hP 0 rfl rfl 12 (by decide) (hts _ (List.mem_cons_of_mem _ lk_343)) (fun _ h9 => h9) rfl d_P_openRow_8 ?_
  refine lv_aload_n hx hb d_P_openRow_11 rfl (lv_at hl 0 rfl) ?_
  refine va_get (D := (dC, dI)) (ci := 2) (v := .ref (q 1)) (C := R_P) (T := F_P) (N := 13) hx hb hts (fun w h => List.mem_cons_of_mem _ (in_P w h)) hown hK hP 0 rfl rfl 1 (by decide) (hts _ (List.mem_cons_of_mem _ lk_338)) (fun _ h9 => h9) rfl d_P_openRow_12 ?_
  refine lv_aload_n hx hb d_P_openRow_15 rfl (lv_at hl 0 rfl) ?_
  refine va_get (D := (dC, dI)) (ci := 2) (v := .int (I 8)) (C := R_P) (T := F_P) (N := 13) hx hb hts (fun w h => List.mem_cons_of_mem _ (in_P w h)) hown hK hP 0 rfl rfl 8 (by decide) (hts _ (List.mem_cons_of_mem _ lk_332)) (fun _ h9 => h9) rfl d_P_openRow_16 ?_
  obtain ⟨hc1, hf⟩ := wk_if hf
  refine va_iald hx hb hK hP 2 1 rfl rfl (wk_inb_ok hc1) d_P_openRow_19 ?_
  obtain ⟨hc2, hf⟩ := wk_if hf
  refine va_iast hx hb hK hP hD hS 7 5 rfl rfl (wk_inb_ok hc2) d_P_openRow_20 (fun H locs hP hD hS => ?_)
  obtain ⟨MB1, hMB1, hf⟩ := wk_letE hf
  have hP : va_P (dC, dI) vwCl (rw_W h q g hm qm gm so sg sx I A M MB1 L) H := by rw [hMB1]; exact hP
  have hD : va_D B9 (rw_W h q g hm qm gm so sg sx I A M MB1 L) := by rw [hMB1]; exact hD
  clear hMB1
  refine lv_aload_n hx hb d_P_openRow_21 rfl (lv_at hl 0 rfl) ?_
  refine va_get (D := (dC, dI)) (ci := 2) (v := .ref hm) (C := R_P) (T := F_P) (N := 13) hx hb hts (fun w h => List.mem_cons_of_mem _ (in_P w h)) hown hK hP 0 rfl rfl 4 (by decide) (hts _ (List.mem_cons_of_mem _ lk_330)) (fun _ h9 => h9) rfl d_P_openRow_22 ?_
  refine lv_iconst (v := 0) hx hb d_P_openRow_25 (by decide) ?_
  have hPc := hP.sub (ws' := (aw_W hm qm gm M MB1 L)) [5, 6, 7, 8, 9, 10] rfl
  have hDc := hD.sub (ws' := (aw_W hm qm gm M MB1 L)) [5, 6, 7, 8, 9, 10] (by decide) rfl
  have hKc := hK.sub (tys' := (aw_T hm qm gm)) [4, 5, 6, 7, 8] rfl
  have hFc := va_free (wc := (aw_W hm qm gm M MB1 L)) hD hS hA [5, 6, 7, 8, 9, 10] rfl
  cases hg2 : f_A_addNode M MB1 L 0 with
  | none => rw [hg2] at hf; cases hf
  | some z2 =>
    obtain ⟨r2, M2, MB2, L2⟩ := z2
    rw [hg2] at hf
    dsimp only [Option.bind_some] at hf
    refine va_calli (va_runV (As := [.int 0]) (rest := []) ⟨hx, hb, hml, hown, hts⟩ (cm_A_addNode l dC dI hm qm gm _  M MB1 L 0 r2 M2 MB2 L2 hg2) (cwV 1 hts (gd_v lk_334 lk_335 lk_336 lk_273 lk_333) rfl rfl rfl (by decide +kernel) ⟨Nat.le_of_ble_eq_true rfl, Nat.le_of_ble_eq_true rfl⟩) ⟨fun a U g mk q => by obtain ⟨q0, q1, qP, qK, qD⟩ := q; exact ⟨q0, q1, qP, va_K.moved (u := U) (U := U.calling g mk a) (Vm.Alike.refl U.vm) qK, qD⟩, va_recv (ci := 3) (q0 := 5) hK hP rfl rfl, fun U hU hW => ⟨rfl, by rw [hU], by rw [hU]; exact hPc, va_K.moved hW.alike hKc, hDc.weaken (fun _ _ _ _ => trivial)⟩⟩ rfl rfl hl.1 rfl (lv_room (Nat.le_of_ble_eq_true rfl)) d_P_openRow_26 ⟨Nat.le_of_ble_eq_true rfl, Nat.le_of_ble_eq_true rfl⟩) hS (fun q _ h => hFc q h) hFc (fun r9 u t H1 locs ht hvm hw hB hz1 hk1 hS => ?_)
    obtain ⟨hP1, hK1, hD1⟩ := hB
    rw [ht] at hP1
    rw [hw]
    obtain ⟨hP, hD⟩ := va_join (wr := (([0, 1, 2, 3, 4, 11] : List Nat).map (fun i => ((rw_W h q g hm qm gm so sg sx I A M MB1 L)).getD i (0, .inr (0, []))))) (w1 := (aw_W hm qm gm M2 MB2 L2)) hP hD [5, 6, 7, 8, 9, 10] [0, 1, 2, 3, 4, 11] rfl rfl (by decide) (by decide) hk1 hFc hP1 hD1
    generalize H1 = H at hP hS ⊢
    have hP := hP.sub (ws' := (rw_W h q g hm qm gm so sg sx I A M2 MB2 L2)) [0, 1, 2, 3, 4, 6, 7, 8, 9, 10, 11, 5] rfl
    have hD := hD.sub (ws' := (rw_W h q g hm qm gm so sg sx I A M2 MB2 L2)) [0, 1, 2, 3, 4, 6, 7, 8, 9, 10, 11, 5] (by decide) rfl
    refine lv_istore_n (lv' := [(1, .int r2), (0, .ref h)]) hx hb d_P_openRow_29 rfl hl (by decide) rfl (fun ls hl => ?_)
    have hl : lv_has ls 2 [(1, .int r2), (0, .ref h)] := hl
    refine lv_aload_n hx hb d_P_openRow_30 rfl (lv_at hl 1 rfl) ?_
    refine va_get (D := (dC, dI)) (ci := 2) (v := .ref hm) (C := R_P) (T := F_P) (N := 13) hx hb hts (fun w h => List.mem_cons_of_mem _ (in_P w h)) hown hK hP 0 rfl rfl 4 (by decide) (hts _ (List.mem_cons_of_mem _ lk_330)) (fun _ h9 => h9) rfl d_P_openRow_31 ?_
    refine va_get (D := (dC, dI)) (ci := 3) (v := .ref (qm 2)) (C := R_A) (T := F_A) (N := 10) hx hb hts (fun w h => List.mem_cons_of_mem _ (in_A w h)) hown hK hP 5 rfl rfl 2 (by decide) (hts _ (List.mem_cons_of_mem _ lk_366)) (fun _ h9 => h9) rfl d_P_openRow_34 ?_
    refine lv_aload_n hx hb d_P_openRow_37 rfl (lv_at hl 1 rfl) ?_
    refine va_get (D := (dC, dI)) (ci := 2) (v := .ref (q 2)) (C := R_P) (T := F_P) (N := 13) hx hb hts (fun w h => List.mem_cons_of_mem _ (in_P w h)) hown hK hP 0 rfl rfl 2 (by decide) (hts _ (List.mem_cons_of_mem _ lk_340)) (fun _ h9 => h9) rfl d_P_openRow_38 ?_
    refine lv_aload_n hx hb d_P_openRow_41 rfl (lv_at hl 1 rfl) ?_
    refine va_get (D := (dC, dI)) (ci := 2) (v := .int (I 8)) (C := R_P) (T := F_P) (N := 13) hx hb hts (fun w h => List.mem_cons_of_mem _ (in_P w h)) hown hK hP 0 rfl rfl 8 (by decide) (hts _ (List.mem_cons_of_mem _ lk_332)) (fun _ h9 => h9) rfl d_P_openRow_42 ?_
    obtain ⟨hc3, hf⟩ := wk_if hf
    refine va_iald hx hb hK hP 3 2 rfl rfl (wk_inb_ok hc3) d_P_openRow_45 ?_
    refine lv_iload_n hx hb d_P_openRow_46 rfl (lv_at hl 0 rfl) ?_
    obtain ⟨hc4, hf⟩ := wk_if hf
    refine va_iast hx hb hK hP hD hS 8 6 rfl rfl (wk_inb_ok hc4) d_P_openRow_47 (fun H locs hP hD hS => ?_)
    obtain ⟨MB3, hMB3, hf⟩ := wk_letE hf
    have hP : va_P (dC, dI) vwCl (rw_W h q g hm qm gm so sg sx I A M2 MB3 L2) H := by rw [hMB3]; exact hP
    have hD : va_D B9 (rw_W h q g hm qm gm so sg sx I A M2 MB3 L2) := by rw [hMB3]; exact hD
    clear hMB3
    refine lv_aload_n hx hb d_P_openRow_48 rfl (lv_at hl 1 rfl) ?_
    refine lv_iload_n hx hb d_P_openRow_49 rfl (lv_at hl 0 rfl) ?_
    have hPc := hP.sub (ws' := (rw_W h q g hm qm gm so sg sx I A M2 MB3 L2)) [0, 1, 2, 3, 4, 5, 6, 7, 8, 9, 10, 11] rfl
    have hDc := hD.sub (ws' := (rw_W h q g hm qm gm so sg sx I A M2 MB3 L2)) [0, 1, 2, 3, 4, 5, 6, 7, 8, 9, 10, 11] (by decide) rfl
    have hKc := hK.sub (tys' := (rw_T h q g hm qm gm so sg sx)) [0, 1, 2, 3, 4, 5, 6, 7, 8, 9] rfl
    have hFc := va_free (wc := (rw_W h q g hm qm gm so sg sx I A M2 MB3 L2)) hD hS hA [0, 1, 2, 3, 4, 5, 6, 7, 8, 9, 10, 11] rfl
    cases hg4 : f_P_beginRow sx I A M2 MB3 L2 r2 with
    | none => rw [hg4] at hf; cases hf
    | some z4 =>
      obtain ⟨r4, I4, A4, M4, MB4, L4⟩ := z4
      rw [hg4] at hf
      dsimp only [Option.bind_some] at hf
      refine va_callv (va_runV (As := [.int r2]) (rest := []) ⟨hx, hb, hml, hown, hts⟩ (cm_P_beginRow l dC dI h q g hm qm gm so sg sx _  I A M2 MB3 L2 r2 r4 I4 A4 M4 MB4 L4 hg4) (cwV 1 hts (gd_v lk_345 lk_346 lk_347 lk_348 lk_344) rfl rfl rfl (by decide +kernel) ⟨Nat.le_of_ble_eq_true rfl, Nat.le_of_ble_eq_true rfl⟩) ⟨fun a U g mk q => by obtain ⟨q0, q1, qP, qK, qD⟩ := q; exact ⟨q0, q1, qP, va_K.moved (u := U) (U := U.calling g mk a) (Vm.Alike.refl U.vm) qK, qD⟩, va_recv (ci := 2) (q0 := 0) hK hP rfl rfl, fun U hU hW => ⟨rfl, by rw [hU], by rw [hU]; exact hPc, va_K.moved hW.alike hKc, hDc.weaken (fun _ _ _ _ => trivial)⟩⟩ rfl rfl hl.1 rfl (lv_room (Nat.le_of_ble_eq_true rfl)) d_P_openRow_50 ⟨Nat.le_of_ble_eq_true rfl, Nat.le_of_ble_eq_true rfl⟩) hS (fun q _ h => hFc q h) hFc (fun u t H1 locs ht hvm hw hB hz1 hk1 hS => ?_)
      obtain ⟨hP1, hK1, hD1⟩ := hB
      rw [ht] at hP1
      obtain ⟨hP, hD⟩ := va_join (wr := (([] : List Nat).map (fun i => ((rw_W h q g hm qm gm so sg sx I A M2 MB3 L2)).getD i (0, .inr (0, []))))) (w1 := (rw_W h q g hm qm gm so sg sx I4 A4 M4 MB4 L4)) hP hD [0, 1, 2, 3, 4, 5, 6, 7, 8, 9, 10, 11] [] rfl rfl (by decide) (by decide) hk1 hFc hP1 hD1
      generalize H1 = H at hP hS ⊢
      have hP := hP.sub (ws' := (rw_W h q g hm qm gm so sg sx I4 A4 M4 MB4 L4)) [0, 1, 2, 3, 4, 5, 6, 7, 8, 9, 10, 11] rfl
      have hD := hD.sub (ws' := (rw_W h q g hm qm gm so sg sx I4 A4 M4 MB4 L4)) [0, 1, 2, 3, 4, 5, 6, 7, 8, 9, 10, 11] (by decide) rfl
      obtain ⟨e0, e1, e2, e3, e4, e5⟩ := wk_inj5 hf
      subst e0
      subst e1
      subst e2
      subst e3
      subst e4
      subst e5
      exact W.vret hx hb hr (fun t ht hW => ⟨⟨(), rfl, rfl, by rw [ht]; exact hP, va_K.moved hW.alike hK, hD⟩, hS.F ht⟩) hS.2.2 d_P_openRow_53

set_option maxHeartbeats 8000000 in
set_option maxRecDepth 100000 in
theorem cm_P_readDot (l : Launch) (dC : Nat → ClassId) (dI : Nat → Nat → Nat) (h : Nat) (q : Nat → Nat) (g : Nat → ClassId) (hm : Nat) (qm : Nat → Nat) (gm : Nat → ClassId) (so : Nat) (sg : ClassId) (sx : Nat → Int32) (sz : Nat) (I : MI) (A : MA) (M : MI) (MB : MA) (L : ML) (r : Int32) (I' : MI) (A' : MA) (M' : MI) (MB' : MA) (L' : ML) (hf : f_P_readDot sx I A M MB L  = some (r, I', A', M', MB', L')) : Met l y_P_readDot w_P_readDot ({ frames := 2, cells := 0, slots := 0, locals := 44 }) (va_Pc [.ref h] (fun U => U.heap.size = sz ∧ va_P (dC, dI) vwCl (rw_W h q g hm qm gm so sg sx I A M MB L) U.heap ∧ va_K (dC, dI) vwCl (rw_T h q g hm qm gm so sg sx) U ∧ va_D (fun _ => True) (rw_W h q g hm qm gm so sg sx I A M MB L))) (va_Qv (fun (u : Unit) => u = u) (fun (_ : Unit) t => va_P (dC, dI) vwCl (rw_W h q g hm qm gm so sg sx I' A' M' MB' L') t.heap ∧ va_K (dC, dI) vwCl (rw_T h q g hm qm gm so sg sx) t ∧ va_D (va_A (rw_W h q g hm qm gm so sg sx I A M MB L) sz) (rw_W h q g hm qm gm so sg sx I' A' M' MB' L')) (va_A (rw_W h q g hm qm gm so sg sx I A M MB L) sz)) 0 0 (va_A (rw_W h q g hm qm gm so sg sx I A M MB L) sz) := by
  refine Met.ofW (cc := prog_3_method_7_code) (maxL := 2) (ret := none) (by decide) rfl ?_
  intro p e s m args below meth c s₁ B hml hv
  obtain ⟨rfl, hsz, hP, hK, hD0⟩ := hv
  have hx := B.exec
  have hb := B.bytes
  have hr := B.returns
  have hts := atoms_spec (ws := w_P_readDot) B.pre
  have hown : s.vm.findClass "DraftTree$PatternReader" = some m.cls := findClass_of_methodNamed B.named
  have hlocks := B.notSynchronized
  subst hsz
  have hD := hD0.self (sz := s.heap.size)
  generalize hAe : va_A (rw_W h q g hm qm gm so sg sx I A M MB L) s.heap.size = B9 at hD ⊢
  have hA : ∀ q : Nat, s.heap.size ≤ q → B9 q := fun q h => by rw [← hAe]; exact Or.inr h
  clear hAe
  have hS : va_S B9 s.heap s.heap [] := va_S.rf
  have hl := lv_entry ([.ref h]) (n := 2) (Nat.le_of_ble_eq_true rfl)
  rw [lg_entry_eq]
  generalize (lg_sl ([.ref h]) ++ List.replicate (2 - (lg_sl ([.ref h])).length) Slot.unset).toArray = ls at hl ⊢
  have hl : lv_has ls 2 [(0, .ref h)] := hl
  unfold f_P_readDot at hf
  refine lv_aload_n hx hb d_P_readDot_0 rfl (lv_at hl 0 rfl) ?_
  refine lv_iconst (v := 1) hx hb d_P_readDot_1 (by decide) ?_
  have hPc := hP.sub (ws' := (rw_W h q g hm qm gm so sg sx I A M MB L)) [0, 1, 2, 3, 4, 5, 6, 7, 8, 9, 10, 11] rfl
  have hDc := hD.sub (ws' := (rw_W h q g hm qm gm so sg sx I A M MB L)) [0, 1, 2, 3, 4, 5, 6, 7, 8, 9, 10, 11] (by decide) rfl
  have hKc := hK.sub (tys' := (rw_T h q g hm qm gm so sg sx)) [0, 1, 2, 3, 4, 5, 6, 7, 8, 9] rfl
  have hFc := va_free (wc := (rw_W h q g hm qm gm so sg sx I A M MB L)) hD hS hA [0, 1, 2, 3, 4, 5, 6, 7, 8, 9, 10, 11] rfl
  cases hg1 : f_P_addNodeAsPart sx I A M MB L 1 with
  | none => rw [hg1] at hf; cases hf
  | some z1 =>
    obtain ⟨r1, I1, A1, M1, MB1, L1⟩ := z1
    rw [hg1] at hf
    dsimp only [Option.bind_some] at hf
    refine va_calli (va_runV (As := [.int 1]) (rest := []) ⟨hx, hb, hml, hown, hts⟩ (cm_P_addNodeAsPart l dC dI h q g hm qm gm so sg sx _  I A M MB L 1 r1 I1 A1 M1 MB1 L1 hg1) (cwV 1 hts (gd_v lk_372 lk_373 lk_374 lk_348 lk_371) rfl rfl rfl (by decide +kernel) ⟨Nat.le_of_ble_eq_true rfl, Nat.le_of_ble_eq_true rfl⟩) ⟨fun a U g mk q => by obtain ⟨q0, q1, qP, qK, qD⟩ := q; exact ⟨q0, q1, qP, va_K.moved (u := U) (U := U.calling g mk a) (Vm.Alike.refl U.vm) qK, qD⟩, va_recv (ci := 2) (q0 := 0) hK hP rfl rfl, fun U hU hW => ⟨rfl, by rw [hU], by rw [hU]; exact hPc, va_K.moved hW.alike hKc, hDc.weaken (fun _ _ _ _ => trivial)⟩⟩ rfl rfl hl.1 rfl (lv_room (Nat.le_of_ble_eq_true rfl)) d_P_readDot_2 ⟨Nat.le_of_ble_eq_true rfl, Nat.le_of_ble_eq_true rfl⟩) hS (fun q _ h => hFc q h) hFc (fun r9 u t H1 locs ht hvm hw hB hz1 hk1 hS => ?_)
    obtain ⟨hP1, hK1, hD1⟩ := hB
    rw [ht] at hP1
    rw [hw]
    obtain ⟨hP, hD⟩ := va_join (wr := (([] : List Nat).map (fun i => ((rw_W h q g hm qm gm so sg sx I A M MB L)).getD i (0, .inr (0, []))))) (w1 := (rw_W h q g hm qm gm so sg sx I1 A1 M1 MB1 L1)) hP hD [0, 1, 2, 3, 4, 5, 6, 7, 8, 9, 10, 11] [] rfl rfl (by decide) (by decide) hk1 hFc hP1 hD1
    generalize H1 = H at hP hS ⊢
    have hP := hP.sub (ws' := (rw_W h q g hm qm gm so sg sx I1 A1 M1 MB1 L1)) [0, 1, 2, 3, 4, 5, 6, 7, 8, 9, 10, 11] rfl
    have hD := hD.sub (ws' := (rw_W h q g hm qm gm so sg sx I1 A1 M1 MB1 L1)) [0, 1, 2, 3, 4, 5, 6, 7, 8, 9, 10, 11] (by decide) rfl
    refine lv_istore_n (lv' := [(1, .int r1), (0, .ref h)]) hx hb d_P_readDot_5 rfl hl (by decide) rfl (fun ls hl => ?_)
    have hl : lv_has ls 2 [(1, .int r1), (0, .ref h)] := hl
    refine lv_aload_n hx hb d_P_readDot_6 rfl (lv_at hl 1 rfl) ?_
    refine va_get (D := (dC, dI)) (ci := 2) (v := .ref hm) (C := R_P) (T := F_P) (N := 13) hx hb hts (fun w h => List.mem_cons_of_mem _ (in_P w h)) hown hK hP 0 rfl rfl 4 (by decide) (hts _ (List.mem_cons_of_mem _ lk_330)) (fun _ h9 => h9) rfl d_P_readDot_7 ?_
    refine lv_iload_n hx hb d_P_readDot_10 rfl (lv_at hl 0 rfl) ?_
    refine lv_bipush (v := 10) hx hb d_P_readDot_11 (by decide) ?_
    refine lv_bipush (v := 10) hx hb d_P_readDot_13 (by decide) ?_
    have hPc := hP.sub (ws' := (aw_W hm qm gm M1 MB1 L1)) [5, 6, 7, 8, 9, 10] rfl
    have hDc := hD.sub (ws' := (aw_W hm qm gm M1 MB1 L1)) [5, 6, 7, 8, 9, 10] (by decide) rfl
    have hKc := hK.sub (tys' := (aw_T hm qm gm)) [4, 5, 6, 7, 8] rfl
    have hFc := va_free (wc := (aw_W hm qm gm M1 MB1 L1)) hD hS hA [5, 6, 7, 8, 9, 10] rfl
    cases hg2 : f_A_takeCodes M1 MB1 L1 r1 10 10 with
    | none => rw [hg2] at hf; cases hf
    | some z2 =>
      obtain ⟨r2, M2, MB2, L2⟩ := z2
      rw [hg2] at hf
      dsimp only [Option.bind_some] at hf
      refine va_callv (va_runV (As := [.int r1, .int 10, .int 10]) (rest := []) ⟨hx, hb, hml, hown, hts⟩ (cm_A_takeCodes l dC dI hm qm gm _  M1 MB1 L1 r1 10 10 r2 M2 MB2 L2 hg2) (cwV 3 hts (gd_v lk_376 lk_377 lk_378 lk_273 lk_375) rfl rfl rfl (by decide +kernel) ⟨Nat.le_of_ble_eq_true rfl, Nat.le_of_ble_eq_true rfl⟩) ⟨fun a U g mk q => by obtain ⟨q0, q1, qP, qK, qD⟩ := q; exact ⟨q0, q1, qP, va_K.moved (u := U) (U := U.calling g mk a) (Vm.Alike.refl U.vm) qK, qD⟩, va_recv (ci := 3) (q0 := 5) hK hP rfl rfl, fun U hU hW => ⟨rfl, by rw [hU], by rw [hU]; exact hPc, va_K.moved hW.alike hKc, hDc.weaken (fun _ _ _ _ => trivial)⟩⟩ rfl rfl hl.1 rfl (lv_room (Nat.le_of_ble_eq_true rfl)) d_P_readDot_15 ⟨Nat.le_of_ble_eq_true rfl, Nat.le_of_ble_eq_true rfl⟩) hS (fun q _ h => hFc q h) hFc (fun u t H1 locs ht hvm hw hB hz1 hk1 hS => ?_)
      obtain ⟨hP1, hK1, hD1⟩ := hB
      rw [ht] at hP1
      obtain ⟨hP, hD⟩ := va_join (wr := (([0, 1, 2, 3, 4, 11] : List Nat).map (fun i => ((rw_W h q g hm qm gm so sg sx I1 A1 M1 MB1 L1)).getD i (0, .inr (0, []))))) (w1 := (aw_W hm qm gm M2 MB2 L2)) hP hD [5, 6, 7, 8, 9, 10] [0, 1, 2, 3, 4, 11] rfl rfl (by decide) (by decide) hk1 hFc hP1 hD1
      generalize H1 = H at hP hS ⊢
      have hP := hP.sub (ws' := (rw_W h q g hm qm gm so sg sx I1 A1 M2 MB2 L2)) [0, 1, 2, 3, 4, 6, 7, 8, 9, 10, 11, 5] rfl
      have hD := hD.sub (ws' := (rw_W h q g hm qm gm so sg sx I1 A1 M2 MB2 L2)) [0, 1, 2, 3, 4, 6, 7, 8, 9, 10, 11, 5] (by decide) rfl
      refine lv_aload_n hx hb d_P_readDot_18 rfl (lv_at hl 1 rfl) ?_
      refine va_get (D := (dC, dI)) (ci := 2) (v := .ref hm) (C := R_P) (T := F_P) (N := 13) hx hb hts (fun w h => List.mem_cons_of_mem _ (in_P w h)) hown hK hP 0 rfl rfl 4 (by decide) (hts _ (List.mem_cons_of_mem _ lk_330)) (fun _ h9 => h9) rfl d_P_readDot_19 ?_
      refine lv_iload_n hx hb d_P_readDot_22 rfl (lv_at hl 0 rfl) ?_
      have hPc := hP.sub (ws' := (aw_W hm qm gm M2 MB2 L2)) [5, 6, 7, 8, 9, 10] rfl
      have hDc := hD.sub (ws' := (aw_W hm qm gm M2 MB2 L2)) [5, 6, 7, 8, 9, 10] (by decide) rfl
      have hKc := hK.sub (tys' := (aw_T hm qm gm)) [4, 5, 6, 7, 8] rfl
      have hFc := va_free (wc := (aw_W hm qm gm M2 MB2 L2)) hD hS hA [5, 6, 7, 8, 9, 10] rfl
      cases hg3 : f_A_takeOtherCodes M2 MB2 L2 r1 with
      | none => rw [hg3] at hf; cases hf
      | some z3 =>
        obtain ⟨r3, M3, MB3, L3⟩ := z3
        rw [hg3] at hf
        dsimp only [Option.bind_some] at hf
        refine va_callv (va_runV (As := [.int r1]) (rest := []) ⟨hx, hb, hml, hown, hts⟩ (cm_A_takeOtherCodes l dC dI hm qm gm _  M2 MB2 L2 r1 r3 M3 MB3 L3 hg3) (cwV 1 hts (gd_v lk_384 lk_385 lk_386 lk_273 lk_383) rfl rfl rfl (by decide +kernel) ⟨Nat.le_of_ble_eq_true rfl, Nat.le_of_ble_eq_true rfl⟩) ⟨fun a U g mk q => by obtain ⟨q0, q1, qP, qK, qD⟩ := q; exact ⟨q0, q1, qP, va_K.moved (u := U) (U := U.calling g mk a) (Vm.Alike.refl U.vm) qK, qD⟩, va_recv (ci := 3) (q0 := 5) hK hP rfl rfl, fun U hU hW => ⟨rfl, by rw [hU], by rw [hU]; exact hPc, va_K.moved hW.alike hKc, hDc.weaken (fun _ _ _ _ => trivial)⟩⟩ rfl rfl hl.1 rfl (lv_room (Nat.le_of_ble_eq_true rfl)) d_P_readDot_23 ⟨Nat.le_of_ble_eq_true rfl, Nat.le_of_ble_eq_true rfl⟩) hS (fun q _ h => hFc q h) hFc (fun u t H1 locs ht hvm hw hB hz1 hk1 hS => ?_)
        obtain ⟨hP1, hK1, hD1⟩ := hB
        rw [ht] at hP1
        obtain ⟨hP, hD⟩ := va_join (wr := (([0, 1, 2, 3, 4, 11] : List Nat).map (fun i => ((rw_W h q g hm qm gm so sg sx I1 A1 M2 MB2 L2)).getD i (0, .inr (0, []))))) (w1 := (aw_W hm qm gm M3 MB3 L3)) hP hD [5, 6, 7, 8, 9, 10] [0, 1, 2, 3, 4, 11] rfl rfl (by decide) (by decide) hk1 hFc hP1 hD1
        generalize H1 = H at hP hS ⊢
        have hP := hP.sub (ws' := (rw_W h q g hm qm gm so sg sx I1 A1 M3 MB3 L3)) [0, 1, 2, 3, 4, 6, 7, 8, 9, 10, 11, 5] rfl
        have hD := hD.sub (ws' := (rw_W h q g hm qm gm so sg sx I1 A1 M3 MB3 L3)) [0, 1, 2, 3, 4, 6, 7, 8, 9, 10, 11, 5] (by decide) rfl
        obtain ⟨e0, e1, e2, e3, e4, e5⟩ := wk_inj5 hf
        subst e0
        subst e1
        subst e2
        subst e3
        subst e4
        subst e5
        exact W.vret hx hb hr (fun t ht hW => ⟨⟨(), rfl, rfl, by rw [ht]; exact hP, va_K.moved hW.alike hK, hD⟩, hS.F ht⟩) hS.2.2 d_P_readDot_26

set_option maxHeartbeats 8000000 in
set_option maxRecDepth 100000 in
theorem cm_P_readSingle (l : Launch) (dC : Nat → ClassId) (dI : Nat → Nat → Nat) (h : Nat) (q : Nat → Nat) (g : Nat → ClassId) (hm : Nat) (qm : Nat → Nat) (gm : Nat → ClassId) (so : Nat) (sg : ClassId) (sx : Nat → Int32) (sz : Nat) (I : MI) (A : MA) (M : MI) (MB : MA) (L : ML) (k1 : Int32) (r : Int32) (I' : MI) (A' : MA) (M' : MI) (MB' : MA) (L' : ML) (hf : f_P_readSingle sx I A M MB L  k1 = some (r, I', A', M', MB', L')) : Met l y_P_readSingle w_P_readSingle ({ frames := 3, cells := 0, slots := 0, locals := 66 }) (va_Pc [.ref h, .int k1] (fun U => U.heap.size = sz ∧ va_P (dC, dI) vwCl (rw_W h q g hm qm gm so sg sx I A M MB L) U.heap ∧ va_K (dC, dI) vwCl (rw_T h q g hm qm gm so sg sx) U ∧ va_D (fun _ => True) (rw_W h q g hm qm gm so sg sx I A M MB L))) (va_Qv (fun (u : Unit) => u = u) (fun (_ : Unit) t => va_P (dC, dI) vwCl (rw_W h q g hm qm gm so sg sx I' A' M' MB' L') t.heap ∧ va_K (dC, dI) vwCl (rw_T h q g hm qm gm so sg sx) t ∧ va_D (va_A (rw_W h q g hm qm gm so sg sx I A M MB L) sz) (rw_W h q g hm qm gm so sg sx I' A' M' MB' L')) (va_A (rw_W h q g hm qm gm so sg sx I A M MB L) sz)) 0 0 (va_A (rw_W h q g hm qm gm so sg sx I A M MB L) sz) := by
  refine Met.ofW (cc := prog_3_method_6_code) (maxL := 2) (ret := none) (by decide) rfl ?_
  intro p e s m args below meth c s₁ B hml hv
  obtain ⟨rfl, hsz, hP, hK, hD0⟩ := hv
  have hx := B.exec
  have hb := B.bytes
  have hr := B.returns
  have hts := atoms_spec (ws := w_P_readSingle) B.pre
  have hown : s.vm.findClass "DraftTree$PatternReader" = some m.cls := findClass_of_methodNamed B.named
  have hlocks := B.notSynchronized
  subst hsz
  have hD := hD0.self (sz := s.heap.size)
  generalize hAe : va_A (rw_W h q g hm qm gm so sg sx I A M MB L) s.heap.size = B9 at hD ⊢
  have hA : ∀ q : Nat, s.heap.size ≤ q → B9 q := fun q h => by rw [← hAe]; exact Or.inr h
  clear hAe
  have hS : va_S B9 s.heap s.heap [] := va_S.rf
  have hl := lv_entry ([.ref h, .int k1]) (n := 2) (Nat.le_of_ble_eq_true rfl)
  rw [lg_entry_eq]
  generalize (lg_sl ([.ref h, .int k1]) ++ List.replicate (2 - (lg_sl ([.ref h, .int k1])).length) Slot.unset).toArray = ls at hl ⊢
  have hl : lv_has ls 2 [(0, .ref h), (1, .int k1)] := hl
  have blk66 : ∀ (I : MI) (A : MA) (M : MI) (MB : MA) (L : ML) (X : Nat → Int32) (Y : Nat → Int64) (ls : Array Slot) (H : Heap) (locs : List Loc), f_P_readSingle_66 sx I A M MB L X Y = some (r, I', A', M', MB', L') → lv_has ls 2 [(0, .ref h), (1, .int (X 1))] → va_P (dC, dI) vwCl (rw_W h q g hm qm gm so sg sx I A M MB L) H → va_D B9 (rw_W h q g hm qm gm so sg sx I A M MB L) → va_S B9 s.heap H locs → W p l e (headSpec w_P_readSingle ({ frames := 3, cells := 0, slots := 0, locals := 66 })).room s m ([.ref h, .int k1] : List Value).toArray below meth c H locs 0 0 (MQ below (va_Qv (fun (u : Unit) => u = u) (fun (_ : Unit) t => va_P (dC, dI) vwCl (rw_W h q g hm qm gm so sg sx I' A' M' MB' L') t.heap ∧ va_K (dC, dI) vwCl (rw_T h q g hm qm gm so sg sx) t ∧ va_D B9 (rw_W h q g hm qm gm so sg sx I' A' M' MB' L')) B9) ([.ref h, .int k1] : List Value).toArray s 0 0 B9) (F0 m 66 ls []) := by
    intro I A M MB L X Y ls H locs hf hl hP hD hS
    unfold f_P_readSingle_66 at hf
    obtain ⟨e0, e1, e2, e3, e4, e5⟩ := wk_inj5 hf
    subst e0
    subst e1
    subst e2
    subst e3
    subst e4
    subst e5
    exact W.vret hx hb hr (fun t ht hW => ⟨⟨(), rfl, rfl, by rw [ht]; exact hP, va_K.moved hW.alike hK, hD⟩, hS.F ht⟩) hS.2.2 d_P_readSingle_66
  unfold f_P_readSingle at hf
  refine lv_iload_n hx hb d_P_readSingle_0 rfl (lv_at hl 1 rfl) ?_
  by_cases hc1 : k1 = 36
  ·
    have hf := wk_ift hc1 hf
    refine wk_top (w := .int 36) (congrArg _ hc1) ?_
    refine lv_lookup (off := 44) (tgt := 45) hx hb d_P_readSingle_1 (by decide) (by decide) (by decide) ?_
    refine lv_aload_n hx hb d_P_readSingle_45 rfl (lv_at hl 0 rfl) ?_
    refine lv_iconst (v := 3) hx hb d_P_readSingle_46 (by decide) ?_
    have hPc := hP.sub (ws' := (rw_W h q g hm qm gm so sg sx I A M MB L)) [0, 1, 2, 3, 4, 5, 6, 7, 8, 9, 10, 11] rfl
    have hDc := hD.sub (ws' := (rw_W h q g hm qm gm so sg sx I A M MB L)) [0, 1, 2, 3, 4, 5, 6, 7, 8, 9, 10, 11] (by decide) rfl
    have hKc := hK.sub (tys' := (rw_T h q g hm qm gm so sg sx)) [0, 1, 2, 3, 4, 5, 6, 7, 8, 9] rfl
    have hFc := va_free (wc := (rw_W h q g hm qm gm so sg sx I A M MB L)) hD hS hA [0, 1, 2, 3, 4, 5, 6, 7, 8, 9, 10, 11] rfl
    cases hg1 : f_P_addNodeAsPart sx I A M MB L 3 with
    | none => rw [hg1] at hf; cases hf
    | some z1 =>
      obtain ⟨r1, I1, A1, M1, MB1, L1⟩ := z1
      rw [hg1] at hf
      dsimp only [Option.bind_some] at hf
      refine va_calli (va_runV (As := [.int 3]) (rest := []) ⟨hx, hb, hml, hown, hts⟩ (cm_P_addNodeAsPart l dC dI h q g hm qm gm so sg sx _  I A M MB L 3 r1 I1 A1 M1 MB1 L1 hg1) (cwV 1 hts (gd_v lk_372 lk_373 lk_374 lk_348 lk_371) rfl rfl rfl (by decide +kernel) ⟨Nat.le_of_ble_eq_true rfl, Nat.le_of_ble_eq_true rfl⟩) ⟨fun a U g mk q => by obtain ⟨q0, q1, qP, qK, qD⟩ := q; exact ⟨q0, q1, qP, va_K.moved (u := U) (U := U.calling g mk a) (Vm.Alike.refl U.vm) qK, qD⟩, va_recv (ci := 2) (q0 := 0) hK hP rfl rfl, fun U hU hW => ⟨rfl, by rw [hU], by rw [hU]; exact hPc, va_K.moved hW.alike hKc, hDc.weaken (fun _ _ _ _ => trivial)⟩⟩ rfl rfl hl.1 rfl (lv_room (Nat.le_of_ble_eq_true rfl)) d_P_readSingle_47 ⟨Nat.le_of_ble_eq_true rfl, Nat.le_of_ble_eq_true rfl⟩) hS (fun q _ h => hFc q h) hFc (fun r9 u t H1 locs ht hvm hw hB hz1 hk1 hS => ?_)
      obtain ⟨hP1, hK1, hD1⟩ := hB
      rw [ht] at hP1
      rw [hw]
      obtain ⟨hP, hD⟩ := va_join (wr := (([] : List Nat).map (fun i => ((rw_W h q g hm qm gm so sg sx I A M MB L)).getD i (0, .inr (0, []))))) (w1 := (rw_W h q g hm qm gm so sg sx I1 A1 M1 MB1 L1)) hP hD [0, 1, 2, 3, 4, 5, 6, 7, 8, 9, 10, 11] [] rfl rfl (by decide) (by decide) hk1 hFc hP1 hD1
      generalize H1 = H at hP hS ⊢
      have hP := hP.sub (ws' := (rw_W h q g hm qm gm so sg sx I1 A1 M1 MB1 L1)) [0, 1, 2, 3, 4, 5, 6, 7, 8, 9, 10, 11] rfl
      have hD := hD.sub (ws' := (rw_W h q g hm qm gm so sg sx I1 A1 M1 MB1 L1)) [0, 1, 2, 3, 4, 5, 6, 7, 8, 9, 10, 11] (by decide) rfl
      refine lv_pop hx hb d_P_readSingle_50 rfl ?_
      refine lv_goto (tgt := 66) hx hb d_P_readSingle_51 (by decide) ?_
      exact blk66 I1 A1 M1 MB1 L1 (upd (fun _ => 0) 1 k1) (fun _ => 0) _ _ _ hf (lv_sub hl [0, 1] rfl) hP hD hS
  ·
    have hf := wk_iff hc1 hf
    by_cases hc2 : k1 = 46
    ·
      have hf := wk_ift hc2 hf
      refine wk_top (w := .int 46) (congrArg _ hc2) ?_
      refine lv_lookup (off := 53) (tgt := 54) hx hb d_P_readSingle_1 (by decide) (by decide) (by decide) ?_
      refine lv_aload_n hx hb d_P_readSingle_54 rfl (lv_at hl 0 rfl) ?_
      have hPc := hP.sub (ws' := (rw_W h q g hm qm gm so sg sx I A M MB L)) [0, 1, 2, 3, 4, 5, 6, 7, 8, 9, 10, 11] rfl
      have hDc := hD.sub (ws' := (rw_W h q g hm qm gm so sg sx I A M MB L)) [0, 1, 2, 3, 4, 5, 6, 7, 8, 9, 10, 11] (by decide) rfl
      have hKc := hK.sub (tys' := (rw_T h q g hm qm gm so sg sx)) [0, 1, 2, 3, 4, 5, 6, 7, 8, 9] rfl
      have hFc := va_free (wc := (rw_W h q g hm qm gm so sg sx I A M MB L)) hD hS hA [0, 1, 2, 3, 4, 5, 6, 7, 8, 9, 10, 11] rfl
      cases hg1 : f_P_readDot sx I A M MB L with
      | none => rw [hg1] at hf; cases hf
      | some z1 =>
        obtain ⟨r1, I1, A1, M1, MB1, L1⟩ := z1
        rw [hg1] at hf
        dsimp only [Option.bind_some] at hf
        refine va_callv (va_runV (As := []) (rest := []) ⟨hx, hb, hml, hown, hts⟩ (cm_P_readDot l dC dI h q g hm qm gm so sg sx _  I A M MB L r1 I1 A1 M1 MB1 L1 hg1) (cwV 0 hts (gd_v lk_404 lk_405 lk_406 lk_348 lk_403) rfl rfl rfl (by decide +kernel) ⟨Nat.le_of_ble_eq_true rfl, Nat.le_of_ble_eq_true rfl⟩) ⟨fun a U g mk q => by obtain ⟨q0, q1, qP, qK, qD⟩ := q; exact ⟨q0, q1, qP, va_K.moved (u := U) (U := U.calling g mk a) (Vm.Alike.refl U.vm) qK, qD⟩, va_recv (ci := 2) (q0 := 0) hK hP rfl rfl, fun U hU hW => ⟨rfl, by rw [hU], by rw [hU]; exact hPc, va_K.moved hW.alike hKc, hDc.weaken (fun _ _ _ _ => trivial)⟩⟩ rfl rfl hl.1 rfl (lv_room (Nat.le_of_ble_eq_true rfl)) d_P_readSingle_55 ⟨Nat.le_of_ble_eq_true rfl, Nat.le_of_ble_eq_true rfl⟩) hS (fun q _ h => hFc q h) hFc (fun u t H1 locs ht hvm hw hB hz1 hk1 hS => ?_)
        obtain ⟨hP1, hK1, hD1⟩ := hB
        rw [ht] at hP1
        obtain ⟨hP, hD⟩ := va_join (wr := (([] : List Nat).map (fun i => ((rw_W h q g hm qm gm so sg sx I A M MB L)).getD i (0, .inr (0, []))))) (w1 := (rw_W h q g hm qm gm so sg sx I1 A1 M1 MB1 L1)) hP hD [0, 1, 2, 3, 4, 5, 6, 7, 8, 9, 10, 11] [] rfl rfl (by decide) (by decide) hk1 hFc hP1 hD1
        generalize H1 = H at hP hS ⊢
        have hP := hP.sub (ws' := (rw_W h q g hm qm gm so sg sx I1 A1 M1 MB1 L1)) [0, 1, 2, 3, 4, 5, 6, 7, 8, 9, 10, 11] rfl
        have hD := hD.sub (ws' := (rw_W h q g hm qm gm so sg sx I1 A1 M1 MB1 L1)) [0, 1, 2, 3, 4, 5, 6, 7, 8, 9, 10, 11] (by decide) rfl
        refine lv_goto (tgt := 66) hx hb d_P_readSingle_58 (by decide) ?_
        exact blk66 I1 A1 M1 MB1 L1 (upd (fun _ => 0) 1 k1) (fun _ => 0) _ _ _ hf (lv_sub hl [0, 1] rfl) hP hD hS
    ·
      have hf := wk_iff hc2 hf
      by_cases hc3 : k1 = 94
      ·
        have hf := wk_ift hc3 hf
        refine wk_top (w := .int 94) (congrArg _ hc3) ?_
        refine lv_lookup (off := 35) (tgt := 36) hx hb d_P_readSingle_1 (by decide) (by decide) (by decide) ?_
        refine lv_aload_n hx hb d_P_readSingle_36 rfl (lv_at hl 0 rfl) ?_
        refine lv_iconst (v := 2) hx hb d_P_readSingle_37 (by decide) ?_
        have hPc := hP.sub (ws' := (rw_W h q g hm qm gm so sg sx I A M MB L)) [0, 1, 2, 3, 4, 5, 6, 7, 8, 9, 10, 11] rfl
        have hDc := hD.sub (ws' := (rw_W h q g hm qm gm so sg sx I A M MB L)) [0, 1, 2, 3, 4, 5, 6, 7, 8, 9, 10, 11] (by decide) rfl
        have hKc := hK.sub (tys' := (rw_T h q g hm qm gm so sg sx)) [0, 1, 2, 3, 4, 5, 6, 7, 8, 9] rfl
        have hFc := va_free (wc := (rw_W h q g hm qm gm so sg sx I A M MB L)) hD hS hA [0, 1, 2, 3, 4, 5, 6, 7, 8, 9, 10, 11] rfl
        cases hg1 : f_P_addNodeAsPart sx I A M MB L 2 with
        | none => rw [hg1] at hf; cases hf
        | some z1 =>
          obtain ⟨r1, I1, A1, M1, MB1, L1⟩ := z1
          rw [hg1] at hf
          dsimp only [Option.bind_some] at hf
          refine va_calli (va_runV (As := [.int 2]) (rest := []) ⟨hx, hb, hml, hown, hts⟩ (cm_P_addNodeAsPart l dC dI h q g hm qm gm so sg sx _  I A M MB L 2 r1 I1 A1 M1 MB1 L1 hg1) (cwV 1 hts (gd_v lk_372 lk_373 lk_374 lk_348 lk_371) rfl rfl rfl (by decide +kernel) ⟨Nat.le_of_ble_eq_true rfl, Nat.le_of_ble_eq_true rfl⟩) ⟨fun a U g mk q => by obtain ⟨q0, q1, qP, qK, qD⟩ := q; exact ⟨q0, q1, qP, va_K.moved (u := U) (U := U.calling g mk a) (Vm.Alike.refl U.vm) qK, qD⟩, va_recv (ci := 2) (q0 := 0) hK hP rfl rfl, fun U hU hW => ⟨rfl, by rw [hU], by rw [hU]; exact hPc, va_K.moved hW.alike hKc, hDc.weaken (fun _ _ _ _ => trivial)⟩⟩ rfl rfl hl.1 rfl (lv_room (Nat.le_of_ble_eq_true rfl)) d_P_readSingle_38 ⟨Nat.le_of_ble_eq_true rfl, Nat.le_of_ble_eq_true rfl⟩) hS (fun q _ h => hFc q h) hFc (fun r9 u t H1 locs ht hvm hw hB hz1 hk1 hS => ?_)
          obtain ⟨hP1, hK1, hD1⟩ := hB
          rw [ht] at hP1
          rw [hw]
          obtain ⟨hP, hD⟩ := va_join (wr := (([] : List Nat).map (fun i => ((rw_W h q g hm qm gm so sg sx I A M MB L)).getD i (0, .inr (0, []))))) (w1 := (rw_W h q g hm qm gm so sg sx I1 A1 M1 MB1 L1)) hP hD [0, 1, 2, 3, 4, 5, 6, 7, 8, 9, 10, 11] [] rfl rfl (by decide) (by decide) hk1 hFc hP1 hD1
          generalize H1 = H at hP hS ⊢
          have hP := hP.sub (ws' := (rw_W h q g hm qm gm so sg sx I1 A1 M1 MB1 L1)) [0, 1, 2, 3, 4, 5, 6, 7, 8, 9, 10, 11] rfl
          have hD := hD.sub (ws' := (rw_W h q g hm qm gm so sg sx I1 A1 M1 MB1 L1)) [0, 1, 2, 3, 4, 5, 6, 7, 8, 9, 10, 11] (by decide) rfl
          refine lv_pop hx hb d_P_readSingle_41 rfl ?_
          refine lv_goto (tgt := 66) hx hb d_P_readSingle_42 (by decide) ?_
          exact blk66 I1 A1 M1 MB1 L1 (upd (fun _ => 0) 1 k1) (fun _ => 0) _ _ _ hf (lv_sub hl [0, 1] rfl) hP hD hS
      ·
        have hf := wk_iff hc3 hf
        refine lv_lookup (off := 60) (tgt := 61) hx hb d_P_readSingle_1 (by decide) (by refine (lv_osw hc1 (by decide)).trans ?_; refine (lv_osw hc2 (by decide)).trans ?_; refine (lv_osw hc3 (by decide)).trans ?_; rfl) (by decide) ?_
        refine lv_aload_n hx hb d_P_readSingle_61 rfl (lv_at hl 0 rfl) ?_
        refine lv_iload_n hx hb d_P_readSingle_62 rfl (lv_at hl 1 rfl) ?_
        have hPc := hP.sub (ws' := (rw_W h q g hm qm gm so sg sx I A M MB L)) [0, 1, 2, 3, 4, 5, 6, 7, 8, 9, 10, 11] rfl
        have hDc := hD.sub (ws' := (rw_W h q g hm qm gm so sg sx I A M MB L)) [0, 1, 2, 3, 4, 5, 6, 7, 8, 9, 10, 11] (by decide) rfl
        have hKc := hK.sub (tys' := (rw_T h q g hm qm gm so sg sx)) [0, 1, 2, 3, 4, 5, 6, 7, 8, 9] rfl
        have hFc := va_free (wc := (rw_W h q g hm qm gm so sg sx I A M MB L)) hD hS hA [0, 1, 2, 3, 4, 5, 6, 7, 8, 9, 10, 11] rfl
        cases hg1 : f_P_readLiteral sx I A M MB L k1 with
        | none => rw [hg1] at hf; cases hf
        | some z1 =>
          obtain ⟨r1, I1, A1, M1, MB1, L1⟩ := z1
          rw [hg1] at hf
          dsimp only [Option.bind_some] at hf
          refine va_callv (va_runV (As := [.int k1]) (rest := []) ⟨hx, hb, hml, hown, hts⟩ (cm_P_readLiteral l dC dI h q g hm qm gm so sg sx _  I A M MB L k1 r1 I1 A1 M1 MB1 L1 hg1) (cwV 1 hts (gd_v lk_392 lk_393 lk_394 lk_348 lk_391) rfl rfl rfl (by decide +kernel) ⟨Nat.le_of_ble_eq_true rfl, Nat.le_of_ble_eq_true rfl⟩) ⟨fun a U g mk q => by obtain ⟨q0, q1, qP, qK, qD⟩ := q; exact ⟨q0, q1, qP, va_K.moved (u := U) (U := U.calling g mk a) (Vm.Alike.refl U.vm) qK, qD⟩, va_recv (ci := 2) (q0 := 0) hK hP rfl rfl, fun U hU hW => ⟨rfl, by rw [hU], by rw [hU]; exact hPc, va_K.moved hW.alike hKc, hDc.weaken (fun _ _ _ _ => trivial)⟩⟩ rfl rfl hl.1 rfl (lv_room (Nat.le_of_ble_eq_true rfl)) d_P_readSingle_63 ⟨Nat.le_of_ble_eq_true rfl, Nat.le_of_ble_eq_true rfl⟩) hS (fun q _ h => hFc q h) hFc (fun u t H1 locs ht hvm hw hB hz1 hk1 hS => ?_)
          obtain ⟨hP1, hK1, hD1⟩ := hB
          rw [ht] at hP1
          obtain ⟨hP, hD⟩ := va_join (wr := (([] : List Nat).map (fun i => ((rw_W h q g hm qm gm so sg sx I A M MB L)).getD i (0, .inr (0, []))))) (w1 := (rw_W h q g hm qm gm so sg sx I1 A1 M1 MB1 L1)) hP hD [0, 1, 2, 3, 4, 5, 6, 7, 8, 9, 10, 11] [] rfl rfl (by decide) (by decide) hk1 hFc hP1 hD1
          generalize H1 = H at hP hS ⊢
          have hP := hP.sub (ws' := (rw_W h q g hm qm gm so sg sx I1 A1 M1 MB1 L1)) [0, 1, 2, 3, 4, 5, 6, 7, 8, 9, 10, 11] rfl
          have hD := hD.sub (ws' := (rw_W h q g hm qm gm so sg sx I1 A1 M1 MB1 L1)) [0, 1, 2, 3, 4, 5, 6, 7, 8, 9, 10, 11] (by decide) rfl
          exact blk66 I1 A1 M1 MB1 L1 (upd (fun _ => 0) 1 k1) (fun _ => 0) _ _ _ hf (lv_sub hl [0, 1] rfl) hP hD hS

