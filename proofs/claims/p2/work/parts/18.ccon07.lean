set_option maxHeartbeats 8000000 in
set_option maxRecDepth 100000 in
theorem cm_P_openChoice (l : Launch) (dC : Nat → ClassId) (dI : Nat → Nat → Nat) (h : Nat) (q : Nat → Nat) (g : Nat → ClassId) (hm : Nat) (qm : Nat → Nat) (gm : Nat → ClassId) (so : Nat) (sg : ClassId) (sx : Nat → Int32) (sz : Nat) (I : MI) (A : MA) (M : MI) (MB : MA) (L : ML) (k1 : Int32) (r : Int32) (I' : MI) (A' : MA) (M' : MI) (MB' : MA) (L' : ML) (hf : f_P_openChoice sx I A M MB L  k1 = some (r, I', A', M', MB', L')) : Met l y_P_openChoice w_P_openChoice ({ frames := 1, cells := 0, slots := 0, locals := 22 }) (va_Pc [.ref h, .int k1] (fun U => U.heap.size = sz ∧ va_P (dC, dI) vwCl (rw_W h q g hm qm gm so sg sx I A M MB L) U.heap ∧ va_K (dC, dI) vwCl (rw_T h q g hm qm gm so sg sx) U ∧ va_D (fun _ => True) (rw_W h q g hm qm gm so sg sx I A M MB L))) (va_Qv (fun (u : Unit) => u = u) (fun (_ : Unit) t => va_P (dC, dI) vwCl (rw_W h q g hm qm gm so sg sx I' A' M' MB' L') t.heap ∧ va_K (dC, dI) vwCl (rw_T h q g hm qm gm so sg sx) t ∧ va_D (va_A (rw_W h q g hm qm gm so sg sx I A M MB L) sz) (rw_W h q g hm qm gm so sg sx I' A' M' MB' L')) (va_A (rw_W h q g hm qm gm so sg sx I A M MB L) sz)) 0 0 (va_A (rw_W h q g hm qm gm so sg sx I A M MB L) sz) := by
  refine Met.ofW (cc := prog_3_method_12_code) (maxL := 3) (ret := none) (by decide) rfl ?_
  intro p e s m args below meth c s₁ B hml hv
  obtain ⟨rfl, hsz, hP, hK, hD0⟩ := hv
  have hx := B.exec
  have hb := B.bytes
  have hr := B.returns
  have hts := atoms_spec (ws := w_P_openChoice) B.pre
  have hown : s.vm.findClass "DraftTree$PatternReader" = some m.cls := findClass_of_methodNamed B.named
  have hlocks := B.notSynchronized
  subst hsz
  have hD := hD0.self (sz := s.heap.size)
  generalize hAe : va_A (rw_W h q g hm qm gm so sg sx I A M MB L) s.heap.size = B9 at hD ⊢
  have hA : ∀ q : Nat, s.heap.size ≤ q → B9 q := fun q h => by rw [← hAe]; exact Or.inr h
  clear hAe
  have hS : va_S B9 s.heap s.heap [] := va_S.rf
  have hl := lv_entry ([.ref h, .int k1]) (n := 3) (Nat.le_of_ble_eq_true rfl)
  rw [lg_entry_eq]
  generalize (lg_sl ([.ref h, .int k1]) ++ List.replicate (3 - (lg_sl ([.ref h, .int k1])).length) Slot.unset).toArray = ls at hl ⊢
  have hl : lv_has ls 3 [(0, .ref h), (1, .int k1)] := hl
  unfold f_P_openChoice at hf
  refine lv_aload_n hx hb d_P_openChoice_0 rfl (lv_at hl 0 rfl) ?_
  refine va_get (D := (dC, dI)) (ci := 2) (v := .ref hm) (C := R_P) (T := F_P) (N := 13) hx hb hts (fun w h => List.mem_cons_of_mem _ (in_P w h)) hown hK hP 0 rfl rfl 4 (by decide) (hts _ (List.mem_cons_of_mem _ lk_375)) (fun _ h9 => h9) rfl d_P_openChoice_1 ?_
  refine lv_iconst (v := 0) hx hb d_P_openChoice_4 (by decide) ?_
  have hPc := hP.sub (ws' := (aw_W hm qm gm M MB L)) [5, 6, 7, 8, 9, 10] rfl
  have hDc := hD.sub (ws' := (aw_W hm qm gm M MB L)) [5, 6, 7, 8, 9, 10] (by decide) rfl
  have hKc := hK.sub (tys' := (aw_T hm qm gm)) [4, 5, 6, 7, 8] rfl
  have hFc := va_free (wc := (aw_W hm qm gm M MB L)) hD hS hA [5, 6, 7, 8, 9, 10] rfl
  cases hg1 : f_A_addNode M MB L 0 with
  | none => rw [hg1] at hf; cases hf
  | some z1 =>
    obtain ⟨r1, M1, MB1, L1⟩ := z1
    rw [hg1] at hf
    dsimp only [Option.bind_some] at hf
    refine va_calli (va_runV (As := [.int 0]) (rest := []) ⟨hx, hb, hml, hown, hts⟩ (cm_A_addNode l dC dI hm qm gm _  M MB L 0 r1 M1 MB1 L1 hg1) (cwV 1 hts (gd_v lk_376 lk_377 lk_378 lk_273 lk_359) rfl rfl rfl (by decide +kernel) ⟨Nat.le_of_ble_eq_true rfl, Nat.le_of_ble_eq_true rfl⟩) ⟨fun a U g mk q => by obtain ⟨q0, q1, qP, qK, qD⟩ := q; exact ⟨q0, q1, qP, va_K.moved (u := U) (U := U.calling g mk a) (Vm.Alike.refl U.vm) qK, qD⟩, va_recv (ci := 3) (q0 := 5) hK hP rfl rfl, fun U hU hW => ⟨rfl, by rw [hU], by rw [hU]; exact hPc, va_K.moved hW.alike hKc, hDc.weaken (fun _ _ _ _ => trivial)⟩⟩ rfl rfl hl.1 rfl (lv_room (Nat.le_of_ble_eq_true rfl)) d_P_openChoice_5 ⟨Nat.le_of_ble_eq_true rfl, Nat.le_of_ble_eq_true rfl⟩) hS (fun q _ h => hFc q h) hFc (fun r9 u t H1 locs ht hvm hw hB hz1 hk1 hS => ?_)
    obtain ⟨hP1, hK1, hD1⟩ := hB
    rw [ht] at hP1
    rw [hw]
    obtain ⟨hP, hD⟩ := va_join (wr := (([0, 1, 2, 3, 4, 11] : List Nat).map (fun i => ((rw_W h q g hm qm gm so sg sx I A M MB L)).getD i (0, .inr (0, []))))) (w1 := (aw_W hm qm gm M1 MB1 L1)) hP hD [5, 6, 7, 8, 9, 10] [0, 1, 2, 3, 4, 11] rfl rfl (by decide) (by decide) hk1 hFc hP1 hD1
    generalize H1 = H at hP hS ⊢
    have hP := hP.sub (ws' := (rw_W h q g hm qm gm so sg sx I A M1 MB1 L1)) [0, 1, 2, 3, 4, 6, 7, 8, 9, 10, 11, 5] rfl
    have hD := hD.sub (ws' := (rw_W h q g hm qm gm so sg sx I A M1 MB1 L1)) [0, 1, 2, 3, 4, 6, 7, 8, 9, 10, 11, 5] (by decide) rfl
    refine lv_istore_n (lv' := [(2, .int r1), (0, .ref h), (1, .int k1)]) hx hb d_P_openChoice_8 rfl hl (by decide) rfl (fun ls hl => ?_)
    have hl : lv_has ls 3 [(2, .int r1), (0, .ref h), (1, .int k1)] := hl
    refine lv_aload_n hx hb d_P_openChoice_9 rfl (lv_at hl 1 rfl) ?_
    refine va_get (D := (dC, dI)) (ci := 2) (v := .ref (q 0)) (C := R_P) (T := F_P) (N := 13) hx hb hts (fun w h => List.mem_cons_of_mem _ (in_P w h)) hown hK hP 0 rfl rfl 0 (by decide) (hts _ (List.mem_cons_of_mem _ lk_392)) (fun _ h9 => h9) rfl d_P_openChoice_10 ?_
    refine lv_aload_n hx hb d_P_openChoice_13 rfl (lv_at hl 1 rfl) ?_
    refine va_get (D := (dC, dI)) (ci := 2) (v := .int (I 8)) (C := R_P) (T := F_P) (N := 13) hx hb hts (fun w h => List.mem_cons_of_mem _ (in_P w h)) hown hK hP 0 rfl rfl 8 (by decide) (hts _ (List.mem_cons_of_mem _ lk_390)) (fun _ h9 => h9) rfl d_P_openChoice_14 ?_
    refine lv_iload_n hx hb d_P_openChoice_17 rfl (lv_at hl 0 rfl) ?_
    obtain ⟨hc1, hf⟩ := wk_if hf
    refine va_iast hx hb hK hP hD hS 1 0 rfl rfl (wk_inb_ok hc1) d_P_openChoice_18 (fun H locs hP hD hS => ?_)
    obtain ⟨A2, hA2, hf⟩ := wk_letE hf
    have hP : va_P (dC, dI) vwCl (rw_W h q g hm qm gm so sg sx I A2 M1 MB1 L1) H := by rw [hA2]; exact hP
    have hD : va_D B9 (rw_W h q g hm qm gm so sg sx I A2 M1 MB1 L1) := by rw [hA2]; exact hD
    clear hA2
    refine lv_aload_n hx hb d_P_openChoice_19 rfl (lv_at hl 1 rfl) ?_
    refine va_get (D := (dC, dI)) (ci := 2) (v := .ref (q 1)) (C := R_P) (T := F_P) (N := 13) hx hb hts (fun w h => List.mem_cons_of_mem _ (in_P w h)) hown hK hP 0 rfl rfl 1 (by decide) (hts _ (List.mem_cons_of_mem _ lk_393)) (fun _ h9 => h9) rfl d_P_openChoice_20 ?_
    refine lv_aload_n hx hb d_P_openChoice_23 rfl (lv_at hl 1 rfl) ?_
    refine va_get (D := (dC, dI)) (ci := 2) (v := .int (I 8)) (C := R_P) (T := F_P) (N := 13) hx hb hts (fun w h => List.mem_cons_of_mem _ (in_P w h)) hown hK hP 0 rfl rfl 8 (by decide) (hts _ (List.mem_cons_of_mem _ lk_390)) (fun _ h9 => h9) rfl d_P_openChoice_24 ?_
    refine lv_aload_n hx hb d_P_openChoice_27 rfl (lv_at hl 1 rfl) ?_
    refine va_get (D := (dC, dI)) (ci := 2) (v := .ref hm) (C := R_P) (T := F_P) (N := 13) hx hb hts (fun w h => List.mem_cons_of_mem _ (in_P w h)) hown hK hP 0 rfl rfl 4 (by decide) (hts _ (List.mem_cons_of_mem _ lk_375)) (fun _ h9 => h9) rfl d_P_openChoice_28 ?_
    refine lv_iconst (v := 0) hx hb d_P_openChoice_31 (by decide) ?_
    have hPc := hP.sub (ws' := (aw_W hm qm gm M1 MB1 L1)) [5, 6, 7, 8, 9, 10] rfl
    have hDc := hD.sub (ws' := (aw_W hm qm gm M1 MB1 L1)) [5, 6, 7, 8, 9, 10] (by decide) rfl
    have hKc := hK.sub (tys' := (aw_T hm qm gm)) [4, 5, 6, 7, 8] rfl
    have hFc := va_free (wc := (aw_W hm qm gm M1 MB1 L1)) hD hS hA [5, 6, 7, 8, 9, 10] rfl
    cases hg3 : f_A_addNode M1 MB1 L1 0 with
    | none => rw [hg3] at hf; cases hf
    | some z3 =>
      obtain ⟨r3, M3, MB3, L3⟩ := z3
      rw [hg3] at hf
      dsimp only [Option.bind_some] at hf
      refine va_calli (va_runV (As := [.int 0]) (rest := [.int (I 8), .ref (q 1)]) ⟨hx, hb, hml, hown, hts⟩ (cm_A_addNode l dC dI hm qm gm _  M1 MB1 L1 0 r3 M3 MB3 L3 hg3) (cwV 1 hts (gd_v lk_376 lk_377 lk_378 lk_273 lk_359) rfl rfl rfl (by decide +kernel) ⟨Nat.le_of_ble_eq_true rfl, Nat.le_of_ble_eq_true rfl⟩) ⟨fun a U g mk q => by obtain ⟨q0, q1, qP, qK, qD⟩ := q; exact ⟨q0, q1, qP, va_K.moved (u := U) (U := U.calling g mk a) (Vm.Alike.refl U.vm) qK, qD⟩, va_recv (ci := 3) (q0 := 5) hK hP rfl rfl, fun U hU hW => ⟨rfl, by rw [hU], by rw [hU]; exact hPc, va_K.moved hW.alike hKc, hDc.weaken (fun _ _ _ _ => trivial)⟩⟩ rfl rfl hl.1 rfl (lv_room (Nat.le_of_ble_eq_true rfl)) d_P_openChoice_32 ⟨Nat.le_of_ble_eq_true rfl, Nat.le_of_ble_eq_true rfl⟩) hS (fun q _ h => hFc q h) hFc (fun r9 u t H1 locs ht hvm hw hB hz1 hk1 hS => ?_)
      obtain ⟨hP1, hK1, hD1⟩ := hB
      rw [ht] at hP1
      rw [hw]
      obtain ⟨hP, hD⟩ := va_join (wr := (([0, 1, 2, 3, 4, 11] : List Nat).map (fun i => ((rw_W h q g hm qm gm so sg sx I A2 M1 MB1 L1)).getD i (0, .inr (0, []))))) (w1 := (aw_W hm qm gm M3 MB3 L3)) hP hD [5, 6, 7, 8, 9, 10] [0, 1, 2, 3, 4, 11] rfl rfl (by decide) (by decide) hk1 hFc hP1 hD1
      generalize H1 = H at hP hS ⊢
      have hP := hP.sub (ws' := (rw_W h q g hm qm gm so sg sx I A2 M3 MB3 L3)) [0, 1, 2, 3, 4, 6, 7, 8, 9, 10, 11, 5] rfl
      have hD := hD.sub (ws' := (rw_W h q g hm qm gm so sg sx I A2 M3 MB3 L3)) [0, 1, 2, 3, 4, 6, 7, 8, 9, 10, 11, 5] (by decide) rfl
      obtain ⟨hc2, hf⟩ := wk_if hf
      refine va_iast hx hb hK hP hD hS 2 1 rfl rfl (wk_inb_ok hc2) d_P_openChoice_35 (fun H locs hP hD hS => ?_)
      obtain ⟨A4, hA4, hf⟩ := wk_letE hf
      have hP : va_P (dC, dI) vwCl (rw_W h q g hm qm gm so sg sx I A4 M3 MB3 L3) H := by rw [hA4]; exact hP
      have hD : va_D B9 (rw_W h q g hm qm gm so sg sx I A4 M3 MB3 L3) := by rw [hA4]; exact hD
      clear hA4
      refine lv_aload_n hx hb d_P_openChoice_36 rfl (lv_at hl 1 rfl) ?_
      refine va_get (D := (dC, dI)) (ci := 2) (v := .ref (q 3)) (C := R_P) (T := F_P) (N := 13) hx hb hts (fun w h => List.mem_cons_of_mem _ (in_P w h)) hown hK hP 0 rfl rfl 3 (by decide) (hts _ (List.mem_cons_of_mem _ lk_394)) (fun _ h9 => h9) rfl d_P_openChoice_37 ?_
      refine lv_aload_n hx hb d_P_openChoice_40 rfl (lv_at hl 1 rfl) ?_
      refine va_get (D := (dC, dI)) (ci := 2) (v := .int (I 8)) (C := R_P) (T := F_P) (N := 13) hx hb hts (fun w h => List.mem_cons_of_mem _ (in_P w h)) hown hK hP 0 rfl rfl 8 (by decide) (hts _ (List.mem_cons_of_mem _ lk_390)) (fun _ h9 => h9) rfl d_P_openChoice_41 ?_
      refine lv_iload_n hx hb d_P_openChoice_44 rfl (lv_at hl 2 rfl) ?_
      obtain ⟨hc3, hf⟩ := wk_if hf
      refine va_iast hx hb hK hP hD hS 4 3 rfl rfl (wk_inb_ok hc3) d_P_openChoice_45 (fun H locs hP hD hS => ?_)
      obtain ⟨A5, hA5, hf⟩ := wk_letE hf
      have hP : va_P (dC, dI) vwCl (rw_W h q g hm qm gm so sg sx I A5 M3 MB3 L3) H := by rw [hA5]; exact hP
      have hD : va_D B9 (rw_W h q g hm qm gm so sg sx I A5 M3 MB3 L3) := by rw [hA5]; exact hD
      clear hA5
      refine lv_aload_n hx hb d_P_openChoice_46 rfl (lv_at hl 1 rfl) ?_
      refine lv_iload_n hx hb d_P_openChoice_47 rfl (lv_at hl 0 rfl) ?_
      have hPc := hP.sub (ws' := (rw_W h q g hm qm gm so sg sx I A5 M3 MB3 L3)) [0, 1, 2, 3, 4, 5, 6, 7, 8, 9, 10, 11] rfl
      have hDc := hD.sub (ws' := (rw_W h q g hm qm gm so sg sx I A5 M3 MB3 L3)) [0, 1, 2, 3, 4, 5, 6, 7, 8, 9, 10, 11] (by decide) rfl
      have hKc := hK.sub (tys' := (rw_T h q g hm qm gm so sg sx)) [0, 1, 2, 3, 4, 5, 6, 7, 8, 9] rfl
      have hFc := va_free (wc := (rw_W h q g hm qm gm so sg sx I A5 M3 MB3 L3)) hD hS hA [0, 1, 2, 3, 4, 5, 6, 7, 8, 9, 10, 11] rfl
      cases hg6 : f_P_beginRow sx I A5 M3 MB3 L3 r1 with
      | none => rw [hg6] at hf; cases hf
      | some z6 =>
        obtain ⟨r6, I6, A6, M6, MB6, L6⟩ := z6
        rw [hg6] at hf
        dsimp only [Option.bind_some] at hf
        refine va_callv (va_runV (As := [.int r1]) (rest := []) ⟨hx, hb, hml, hown, hts⟩ (cm_P_beginRow l dC dI h q g hm qm gm so sg sx _  I A5 M3 MB3 L3 r1 r6 I6 A6 M6 MB6 L6 hg6) (cwV 1 hts (gd_v lk_401 lk_402 lk_403 lk_387 lk_391) rfl rfl rfl (by decide +kernel) ⟨Nat.le_of_ble_eq_true rfl, Nat.le_of_ble_eq_true rfl⟩) ⟨fun a U g mk q => by obtain ⟨q0, q1, qP, qK, qD⟩ := q; exact ⟨q0, q1, qP, va_K.moved (u := U) (U := U.calling g mk a) (Vm.Alike.refl U.vm) qK, qD⟩, va_recv (ci := 2) (q0 := 0) hK hP rfl rfl, fun U hU hW => ⟨rfl, by rw [hU], by rw [hU]; exact hPc, va_K.moved hW.alike hKc, hDc.weaken (fun _ _ _ _ => trivial)⟩⟩ rfl rfl hl.1 rfl (lv_room (Nat.le_of_ble_eq_true rfl)) d_P_openChoice_48 ⟨Nat.le_of_ble_eq_true rfl, Nat.le_of_ble_eq_true rfl⟩) hS (fun q _ h => hFc q h) hFc (fun u t H1 locs ht hvm hw hB hz1 hk1 hS => ?_)
        obtain ⟨hP1, hK1, hD1⟩ := hB
        rw [ht] at hP1
        obtain ⟨hP, hD⟩ := va_join (wr := (([] : List Nat).map (fun i => ((rw_W h q g hm qm gm so sg sx I A5 M3 MB3 L3)).getD i (0, .inr (0, []))))) (w1 := (rw_W h q g hm qm gm so sg sx I6 A6 M6 MB6 L6)) hP hD [0, 1, 2, 3, 4, 5, 6, 7, 8, 9, 10, 11] [] rfl rfl (by decide) (by decide) hk1 hFc hP1 hD1
        generalize H1 = H at hP hS ⊢
        have hP := hP.sub (ws' := (rw_W h q g hm qm gm so sg sx I6 A6 M6 MB6 L6)) [0, 1, 2, 3, 4, 5, 6, 7, 8, 9, 10, 11] rfl
        have hD := hD.sub (ws' := (rw_W h q g hm qm gm so sg sx I6 A6 M6 MB6 L6)) [0, 1, 2, 3, 4, 5, 6, 7, 8, 9, 10, 11] (by decide) rfl
        obtain ⟨e0, e1, e2, e3, e4, e5⟩ := wk_inj5 hf
        subst e0
        subst e1
        subst e2
        subst e3
        subst e4
        subst e5
        exact W.vret hx hb hr (fun t ht hW => ⟨⟨(), rfl, rfl, by rw [ht]; exact hP, va_K.moved hW.alike hK, hD⟩, hS.F ht⟩) hS.2.2 d_P_openChoice_51

set_option maxHeartbeats 8000000 in
set_option maxRecDepth 100000 in
theorem cm_P_openGroup (l : Launch) (dC : Nat → ClassId) (dI : Nat → Nat → Nat) (h : Nat) (q : Nat → Nat) (g : Nat → ClassId) (hm : Nat) (qm : Nat → Nat) (gm : Nat → ClassId) (so : Nat) (sg : ClassId) (sx : Nat → Int32) (sz : Nat) (I : MI) (A : MA) (M : MI) (MB : MA) (L : ML) (r : Int32) (I' : MI) (A' : MA) (M' : MI) (MB' : MA) (L' : ML) (hf : f_P_openGroup sx I A M MB L  = some (r, I', A', M', MB', L')) : Met l y_P_openGroup w_P_openGroup ({ frames := 2, cells := 0, slots := 0, locals := 44 }) (va_Pc [.ref h] (fun U => U.heap.size = sz ∧ va_P (dC, dI) vwCl (rw_W h q g hm qm gm so sg sx I A M MB L) U.heap ∧ va_K (dC, dI) vwCl (rw_T h q g hm qm gm so sg sx) U ∧ va_D (fun _ => True) (rw_W h q g hm qm gm so sg sx I A M MB L))) (va_Qv (fun (u : Unit) => u = u) (fun (_ : Unit) t => va_P (dC, dI) vwCl (rw_W h q g hm qm gm so sg sx I' A' M' MB' L') t.heap ∧ va_K (dC, dI) vwCl (rw_T h q g hm qm gm so sg sx) t ∧ va_D (va_A (rw_W h q g hm qm gm so sg sx I A M MB L) sz) (rw_W h q g hm qm gm so sg sx I' A' M' MB' L')) (va_A (rw_W h q g hm qm gm so sg sx I A M MB L) sz)) 0 0 (va_A (rw_W h q g hm qm gm so sg sx I A M MB L) sz) := by
  refine Met.ofW (cc := prog_3_method_13_code) (maxL := 1) (ret := none) (by decide) rfl ?_
  intro p e s m args below meth c s₁ B hml hv
  obtain ⟨rfl, hsz, hP, hK, hD0⟩ := hv
  have hx := B.exec
  have hb := B.bytes
  have hr := B.returns
  have hts := atoms_spec (ws := w_P_openGroup) B.pre
  have hown : s.vm.findClass "DraftTree$PatternReader" = some m.cls := findClass_of_methodNamed B.named
  have hlocks := B.notSynchronized
  subst hsz
  have hD := hD0.self (sz := s.heap.size)
  generalize hAe : va_A (rw_W h q g hm qm gm so sg sx I A M MB L) s.heap.size = B9 at hD ⊢
  have hA : ∀ q : Nat, s.heap.size ≤ q → B9 q := fun q h => by rw [← hAe]; exact Or.inr h
  clear hAe
  have hS : va_S B9 s.heap s.heap [] := va_S.rf
  have hl := lv_entry ([.ref h]) (n := 1) (Nat.le_of_ble_eq_true rfl)
  rw [lg_entry_eq]
  generalize (lg_sl ([.ref h]) ++ List.replicate (1 - (lg_sl ([.ref h])).length) Slot.unset).toArray = ls at hl ⊢
  have hl : lv_has ls 1 [(0, .ref h)] := hl
  unfold f_P_openGroup at hf
  refine lv_aload_n hx hb d_P_openGroup_0 rfl (lv_at hl 0 rfl) ?_
  refine va_get (D := (dC, dI)) (ci := 2) (v := .int (I 8)) (C := R_P) (T := F_P) (N := 13) hx hb hts (fun w h => List.mem_cons_of_mem _ (in_P w h)) hown hK hP 0 rfl rfl 8 (by decide) (hts _ (List.mem_cons_of_mem _ lk_390)) (fun _ h9 => h9) rfl d_P_openGroup_1 ?_
  refine lv_bipush (v := 8) hx hb d_P_openGroup_4 (by decide) ?_
  refine lv_icmp_ne (tgt := 18) hx hb d_P_openGroup_6 (by decide) (fun hc1 => ?_) (fun hc1 => ?_)
  ·
    have hf := wk_iff hc1 hf
    refine lv_aload_n hx hb d_P_openGroup_18 rfl (lv_at hl 0 rfl) ?_
    refine lv_dup hx hb d_P_openGroup_19 rfl ?_
    refine va_get (D := (dC, dI)) (ci := 2) (v := .int (I 8)) (C := R_P) (T := F_P) (N := 13) hx hb hts (fun w h => List.mem_cons_of_mem _ (in_P w h)) hown hK hP 0 rfl rfl 8 (by decide) (hts _ (List.mem_cons_of_mem _ lk_390)) (fun _ h9 => h9) rfl d_P_openGroup_20 ?_
    refine lv_iconst (v := 1) hx hb d_P_openGroup_23 (by decide) ?_
    refine lv_iadd hx hb d_P_openGroup_24 ?_
    refine va_put (D := (dC, dI)) (ci := 2) (v := .int ((I 8) + 1)) (ty := .int) (C := R_P) (T := F_P) (N := 13) hx hb hts (fun w h => List.mem_cons_of_mem _ (in_P w h)) t_P tk_P n_P hown hK hP hD hS 0 rfl rfl 8 (by decide) (hts _ (List.mem_cons_of_mem _ lk_390)) (fun _ h9 => h9) rfl (by decide +kernel) rfl rfl (Nat.le_of_ble_eq_true rfl) d_P_openGroup_25 (fun H locs hP hD hS => ?_)
    obtain ⟨I1, hI1, hf⟩ := wk_letE hf
    have hP : va_P (dC, dI) vwCl (rw_W h q g hm qm gm so sg sx I1 A M MB L) H := by rw [hI1]; exact hP
    have hD : va_D B9 (rw_W h q g hm qm gm so sg sx I1 A M MB L) := by rw [hI1]; exact hD
    clear hI1
    refine lv_aload_n hx hb d_P_openGroup_28 rfl (lv_at hl 0 rfl) ?_
    refine lv_aload_n hx hb d_P_openGroup_29 rfl (lv_at hl 0 rfl) ?_
    refine va_get (D := (dC, dI)) (ci := 2) (v := .int (I1 12)) (C := R_P) (T := F_P) (N := 13) hx hb hts (fun w h => List.mem_cons_of_mem _ (in_P w h)) hown hK hP 0 rfl rfl 12 (by decide) (hts _ (List.mem_cons_of_mem _ lk_379)) (fun _ h9 => h9) rfl d_P_openGroup_30 ?_
    have hPc := hP.sub (ws' := (rw_W h q g hm qm gm so sg sx I1 A M MB L)) [0, 1, 2, 3, 4, 5, 6, 7, 8, 9, 10, 11] rfl
    have hDc := hD.sub (ws' := (rw_W h q g hm qm gm so sg sx I1 A M MB L)) [0, 1, 2, 3, 4, 5, 6, 7, 8, 9, 10, 11] (by decide) rfl
    have hKc := hK.sub (tys' := (rw_T h q g hm qm gm so sg sx)) [0, 1, 2, 3, 4, 5, 6, 7, 8, 9] rfl
    have hFc := va_free (wc := (rw_W h q g hm qm gm so sg sx I1 A M MB L)) hD hS hA [0, 1, 2, 3, 4, 5, 6, 7, 8, 9, 10, 11] rfl
    cases hg2 : f_P_openChoice sx I1 A M MB L (I1 12) with
    | none => rw [hg2] at hf; cases hf
    | some z2 =>
      obtain ⟨r2, I2, A2, M2, MB2, L2⟩ := z2
      rw [hg2] at hf
      dsimp only [Option.bind_some] at hf
      refine va_callv (va_runV (As := [.int (I1 12)]) (rest := []) ⟨hx, hb, hml, hown, hts⟩ (cm_P_openChoice l dC dI h q g hm qm gm so sg sx _  I1 A M MB L (I1 12) r2 I2 A2 M2 MB2 L2 hg2) (cwV 1 hts (gd_v lk_405 lk_406 lk_407 lk_387 lk_404) rfl rfl rfl (by decide +kernel) ⟨Nat.le_of_ble_eq_true rfl, Nat.le_of_ble_eq_true rfl⟩) ⟨fun a U g mk q => by obtain ⟨q0, q1, qP, qK, qD⟩ := q; exact ⟨q0, q1, qP, va_K.moved (u := U) (U := U.calling g mk a) (Vm.Alike.refl U.vm) qK, qD⟩, va_recv (ci := 2) (q0 := 0) hK hP rfl rfl, fun U hU hW => ⟨rfl, by rw [hU], by rw [hU]; exact hPc, va_K.moved hW.alike hKc, hDc.weaken (fun _ _ _ _ => trivial)⟩⟩ rfl rfl hl.1 rfl (lv_room (Nat.le_of_ble_eq_true rfl)) d_P_openGroup_33 ⟨Nat.le_of_ble_eq_true rfl, Nat.le_of_ble_eq_true rfl⟩) hS (fun q _ h => hFc q h) hFc (fun u t H1 locs ht hvm hw hB hz1 hk1 hS => ?_)
      obtain ⟨hP1, hK1, hD1⟩ := hB
      rw [ht] at hP1
      obtain ⟨hP, hD⟩ := va_join (wr := (([] : List Nat).map (fun i => ((rw_W h q g hm qm gm so sg sx I1 A M MB L)).getD i (0, .inr (0, []))))) (w1 := (rw_W h q g hm qm gm so sg sx I2 A2 M2 MB2 L2)) hP hD [0, 1, 2, 3, 4, 5, 6, 7, 8, 9, 10, 11] [] rfl rfl (by decide) (by decide) hk1 hFc hP1 hD1
      generalize H1 = H at hP hS ⊢
      have hP := hP.sub (ws' := (rw_W h q g hm qm gm so sg sx I2 A2 M2 MB2 L2)) [0, 1, 2, 3, 4, 5, 6, 7, 8, 9, 10, 11] rfl
      have hD := hD.sub (ws' := (rw_W h q g hm qm gm so sg sx I2 A2 M2 MB2 L2)) [0, 1, 2, 3, 4, 5, 6, 7, 8, 9, 10, 11] (by decide) rfl
      obtain ⟨e0, e1, e2, e3, e4, e5⟩ := wk_inj5 hf
      subst e0
      subst e1
      subst e2
      subst e3
      subst e4
      subst e5
      exact W.vret hx hb hr (fun t ht hW => ⟨⟨(), rfl, rfl, by rw [ht]; exact hP, va_K.moved hW.alike hK, hD⟩, hS.F ht⟩) hS.2.2 d_P_openGroup_36
  ·
    have hf := wk_ift hc1 hf
    refine lv_aload_n hx hb d_P_openGroup_9 rfl (lv_at hl 0 rfl) ?_
    refine lv_aload_n hx hb d_P_openGroup_10 rfl (lv_at hl 0 rfl) ?_
    refine va_get (D := (dC, dI)) (ci := 2) (v := .int (I 7)) (C := R_P) (T := F_P) (N := 13) hx hb hts (fun w h => List.mem_cons_of_mem _ (in_P w h)) hown hK hP 0 rfl rfl 7 (by decide) (hts _ (List.mem_cons_of_mem _ lk_395)) (fun _ h9 => h9) rfl d_P_openGroup_11 ?_
    refine va_put (D := (dC, dI)) (ci := 2) (v := .int (I 7)) (ty := .int) (C := R_P) (T := F_P) (N := 13) hx hb hts (fun w h => List.mem_cons_of_mem _ (in_P w h)) t_P tk_P n_P hown hK hP hD hS 0 rfl rfl 9 (by decide) (hts _ (List.mem_cons_of_mem _ lk_396)) (fun _ h9 => h9) rfl (by decide +kernel) rfl rfl (Nat.le_of_ble_eq_true rfl) d_P_openGroup_14 (fun H locs hP hD hS => ?_)
    obtain ⟨I1, hI1, hf⟩ := wk_letE hf
    have hP : va_P (dC, dI) vwCl (rw_W h q g hm qm gm so sg sx I1 A M MB L) H := by rw [hI1]; exact hP
    have hD : va_D B9 (rw_W h q g hm qm gm so sg sx I1 A M MB L) := by rw [hI1]; exact hD
    clear hI1
    obtain ⟨e0, e1, e2, e3, e4, e5⟩ := wk_inj5 hf
    subst e0
    subst e1
    subst e2
    subst e3
    subst e4
    subst e5
    exact W.vret hx hb hr (fun t ht hW => ⟨⟨(), rfl, rfl, by rw [ht]; exact hP, va_K.moved hW.alike hK, hD⟩, hS.F ht⟩) hS.2.2 d_P_openGroup_17

set_option maxHeartbeats 8000000 in
set_option maxRecDepth 100000 in
theorem cm_P_openRow (l : Launch) (dC : Nat → ClassId) (dI : Nat → Nat → Nat) (h : Nat) (q : Nat → Nat) (g : Nat → ClassId) (hm : Nat) (qm : Nat → Nat) (gm : Nat → ClassId) (so : Nat) (sg : ClassId) (sx : Nat → Int32) (sz : Nat) (I : MI) (A : MA) (M : MI) (MB : MA) (L : ML) (r : Int32) (I' : MI) (A' : MA) (M' : MI) (MB' : MA) (L' : ML) (hf : f_P_openRow sx I A M MB L  = some (r, I', A', M', MB', L')) : Met l y_P_openRow w_P_openRow ({ frames := 1, cells := 0, slots := 0, locals := 22 }) (va_Pc [.ref h] (fun U => U.heap.size = sz ∧ va_P (dC, dI) vwCl (rw_W h q g hm qm gm so sg sx I A M MB L) U.heap ∧ va_K (dC, dI) vwCl (rw_T h q g hm qm gm so sg sx) U ∧ va_D (fun _ => True) (rw_W h q g hm qm gm so sg sx I A M MB L))) (va_Qv (fun (u : Unit) => u = u) (fun (_ : Unit) t => va_P (dC, dI) vwCl (rw_W h q g hm qm gm so sg sx I' A' M' MB' L') t.heap ∧ va_K (dC, dI) vwCl (rw_T h q g hm qm gm so sg sx) t ∧ va_D (va_A (rw_W h q g hm qm gm so sg sx I A M MB L) sz) (rw_W h q g hm qm gm so sg sx I' A' M' MB' L')) (va_A (rw_W h q g hm qm gm so sg sx I A M MB L) sz)) 0 0 (va_A (rw_W h q g hm qm gm so sg sx I A M MB L) sz) := by
  refine Met.ofW (cc := prog_3_method_15_code) (maxL := 2) (ret := none) (by decide) rfl ?_
  intro p e s m args below meth c s₁ B hml hv
  obtain ⟨rfl, hsz, hP, hK, hD0⟩ := hv
  have hx := B.exec
  have hb := B.bytes
  have hr := B.returns
  have hts := atoms_spec (ws := w_P_openRow) B.pre
  have hown : s.vm.findClass "DraftTree$PatternReader" = some m.cls := findClass_of_methodNamed B.named
  have hlocks := B.notSynchronized
  subst hsz
  have hD := hD0.self (sz := s.heap.size)
  generalize hAe : va_A (rw_W h q g hm qm gm so sg sx I A M MB L) s.heap.size = B9 at hD ⊢
  have hA : ∀ q : Nat, s.heap.size ≤ q → B9 q := fun q h => by rw [← hAe]; exact Or.inr h
  clear hAe
  have hS : va_S B9 s.heap s.heap [] := va_S.rf
  have hl := lv_entry ([.ref h]) (n := 2) (Nat.le_of_ble_eq_true rfl)
  rw [lg_entry_eq]
  generalize (lg_sl ([.ref h]) ++ List.replicate (2 - (lg_sl ([.ref h])).length) Slot.unset).toArray = ls at hl ⊢
  have hl : lv_has ls 2 [(0, .ref h)] := hl
  unfold f_P_openRow at hf
  refine lv_aload_n hx hb d_P_openRow_0 rfl (lv_at hl 0 rfl) ?_
  refine va_get (D := (dC, dI)) (ci := 2) (v := .ref hm) (C := R_P) (T := F_P) (N := 13) hx hb hts (fun w h => List.mem_cons_of_mem _ (in_P w h)) hown hK hP 0 rfl rfl 4 (by decide) (hts _ (List.mem_cons_of_mem _ lk_375)) (fun _ h9 => h9) rfl d_P_openRow_1 ?_
  refine va_get (D := (dC, dI)) (ci := 3) (v := .ref (qm 1)) (C := R_A) (T := F_A) (N := 10) hx hb hts (fun w h => List.mem_cons_of_mem _ (in_A w h)) hown hK hP 5 rfl rfl 1 (by decide) (hts _ (List.mem_cons_of_mem _ lk_381)) (fun _ h9 => h9) rfl d_P_openRow_4 ?_
  refine lv_aload_n hx hb d_P_openRow_7 rfl (lv_at hl 0 rfl) ?_
  refine va_get (D := (dC, dI)) (ci := 2) (v := .int (I 12)) (C := R_P) (T := F_P) (N := 13) hx hb hts (fun w h => List.mem_cons_of_mem _ (in_P w h)) hown hK hP 0 rfl rfl 12 (by decide) (hts _ (List.mem_cons_of_mem _ lk_379)) (fun _ h9 => h9) rfl d_P_openRow_8 ?_
  refine lv_aload_n hx hb d_P_openRow_11 rfl (lv_at hl 0 rfl) ?_
  refine va_get (D := (dC, dI)) (ci := 2) (v := .ref (q 1)) (C := R_P) (T := F_P) (N := 13) hx hb hts (fun w h => List.mem_cons_of_mem _ (in_P w h)) hown hK hP 0 rfl rfl 1 (by decide) (hts _ (List.mem_cons_of_mem _ lk_393)) (fun _ h9 => h9) rfl d_P_openRow_12 ?_
  refine lv_aload_n hx hb d_P_openRow_15 rfl (lv_at hl 0 rfl) ?_
  refine va_get (D := (dC, dI)) (ci := 2) (v := .int (I 8)) (C := R_P) (T := F_P) (N := 13) hx hb hts (fun w h => List.mem_cons_of_mem _ (in_P w h)) hown hK hP 0 rfl rfl 8 (by decide) (hts _ (List.mem_cons_of_mem _ lk_390)) (fun _ h9 => h9) rfl d_P_openRow_16 ?_
  obtain ⟨hc1, hf⟩ := wk_if hf
  refine va_iald hx hb hK hP 2 1 rfl rfl (wk_inb_ok hc1) d_P_openRow_19 ?_
  obtain ⟨hc2, hf⟩ := wk_if hf
  refine va_iast hx hb hK hP hD hS 7 5 rfl rfl (wk_inb_ok hc2) d_P_openRow_20 (fun H locs hP hD hS => ?_)
  obtain ⟨MB1, hMB1, hf⟩ := wk_letE hf
  have hP : va_P (dC, dI) vwCl (rw_W h q g hm qm gm so sg sx I A M MB1 L) H := by rw [hMB1]; exact hP
  have hD : va_D B9 (rw_W h q g hm qm gm so sg sx I A M MB1 L) := by rw [hMB1]; exact hD
  clear hMB1
  refine lv_aload_n hx hb d_P_openRow_21 rfl (lv_at hl 0 rfl) ?_
  refine va_get (D := (dC, dI)) (ci := 2) (v := .ref hm) (C := R_P) (T := F_P) (N := 13) hx hb hts (fun w h => List.mem_cons_of_mem _ (in_P w h)) hown hK hP 0 rfl rfl 4 (by decide) (hts _ (List.mem_cons_of_mem _ lk_375)) (fun _ h9 => h9) rfl d_P_openRow_22 ?_
  refine lv_iconst (v := 0) hx hb d_P_openRow_25 (by decide) ?_
  have hPc := hP.sub (ws' := (aw_W hm qm gm M MB1 L)) [5, 6, 7, 8, 9, 10] rfl
  have hDc := hD.sub (ws' := (aw_W hm qm gm M MB1 L)) [5, 6, 7, 8, 9, 10] (by decide) rfl
  have hKc := hK.sub (tys' := (aw_T hm qm gm)) [4, 5, 6, 7, 8] rfl
  have hFc := va_free (wc := (aw_W hm qm gm M MB1 L)) hD hS hA [5, 6, 7, 8, 9, 10] rfl
  cases hg2 : f_A_addNode M MB1 L 0 with
  | none => rw [hg2] at hf; cases hf
  | some z2 =>
    obtain ⟨r2, M2, MB2, L2⟩ := z2
    rw [hg2] at hf
    dsimp only [Option.bind_some] at hf
    refine va_calli (va_runV (As := [.int 0]) (rest := []) ⟨hx, hb, hml, hown, hts⟩ (cm_A_addNode l dC dI hm qm gm _  M MB1 L 0 r2 M2 MB2 L2 hg2) (cwV 1 hts (gd_v lk_376 lk_377 lk_378 lk_273 lk_359) rfl rfl rfl (by decide +kernel) ⟨Nat.le_of_ble_eq_true rfl, Nat.le_of_ble_eq_true rfl⟩) ⟨fun a U g mk q => by obtain ⟨q0, q1, qP, qK, qD⟩ := q; exact ⟨q0, q1, qP, va_K.moved (u := U) (U := U.calling g mk a) (Vm.Alike.refl U.vm) qK, qD⟩, va_recv (ci := 3) (q0 := 5) hK hP rfl rfl, fun U hU hW => ⟨rfl, by rw [hU], by rw [hU]; exact hPc, va_K.moved hW.alike hKc, hDc.weaken (fun _ _ _ _ => trivial)⟩⟩ rfl rfl hl.1 rfl (lv_room (Nat.le_of_ble_eq_true rfl)) d_P_openRow_26 ⟨Nat.le_of_ble_eq_true rfl, Nat.le_of_ble_eq_true rfl⟩) hS (fun q _ h => hFc q h) hFc (fun r9 u t H1 locs ht hvm hw hB hz1 hk1 hS => ?_)
    obtain ⟨hP1, hK1, hD1⟩ := hB
    rw [ht] at hP1
    rw [hw]
    obtain ⟨hP, hD⟩ := va_join (wr := (([0, 1, 2, 3, 4, 11] : List Nat).map (fun i => ((rw_W h q g hm qm gm so sg sx I A M MB1 L)).getD i (0, .inr (0, []))))) (w1 := (aw_W hm qm gm M2 MB2 L2)) hP hD [5, 6, 7, 8, 9, 10] [0, 1, 2, 3, 4, 11] rfl rfl (by decide) (by decide) hk1 hFc hP1 hD1
    generalize H1 = H at hP hS ⊢
    have hP := hP.sub (ws' := (rw_W h q g hm qm gm so sg sx I A M2 MB2 L2)) [0, 1, 2, 3, 4, 6, 7, 8, 9, 10, 11, 5] rfl
    have hD := hD.sub (ws' := (rw_W h q g hm qm gm so sg sx I A M2 MB2 L2)) [0, 1, 2, 3, 4, 6, 7, 8, 9, 10, 11, 5] (by decide) rfl
    refine lv_istore_n (lv' := [(1, .int r2), (0, .ref h)]) hx hb d_P_openRow_29 rfl hl (by decide) rfl (fun ls hl => ?_)
    have hl : lv_has ls 2 [(1, .int r2), (0, .ref h)] := hl
    refine lv_aload_n hx hb d_P_openRow_30 rfl (lv_at hl 1 rfl) ?_
    refine va_get (D := (dC, dI)) (ci := 2) (v := .ref hm) (C := R_P) (T := F_P) (N := 13) hx hb hts (fun w h => List.mem_cons_of_mem _ (in_P w h)) hown hK hP 0 rfl rfl 4 (by decide) (hts _ (List.mem_cons_of_mem _ lk_375)) (fun _ h9 => h9) rfl d_P_openRow_31 ?_
    refine va_get (D := (dC, dI)) (ci := 3) (v := .ref (qm 2)) (C := R_A) (T := F_A) (N := 10) hx hb hts (fun w h => List.mem_cons_of_mem _ (in_A w h)) hown hK hP 5 rfl rfl 2 (by decide) (hts _ (List.mem_cons_of_mem _ lk_409)) (fun _ h9 => h9) rfl d_P_openRow_34 ?_
    refine lv_aload_n hx hb d_P_openRow_37 rfl (lv_at hl 1 rfl) ?_
    refine va_get (D := (dC, dI)) (ci := 2) (v := .ref (q 2)) (C := R_P) (T := F_P) (N := 13) hx hb hts (fun w h => List.mem_cons_of_mem _ (in_P w h)) hown hK hP 0 rfl rfl 2 (by decide) (hts _ (List.mem_cons_of_mem _ lk_389)) (fun _ h9 => h9) rfl d_P_openRow_38 ?_
    refine lv_aload_n hx hb d_P_openRow_41 rfl (lv_at hl 1 rfl) ?_
    refine va_get (D := (dC, dI)) (ci := 2) (v := .int (I 8)) (C := R_P) (T := F_P) (N := 13) hx hb hts (fun w h => List.mem_cons_of_mem _ (in_P w h)) hown hK hP 0 rfl rfl 8 (by decide) (hts _ (List.mem_cons_of_mem _ lk_390)) (fun _ h9 => h9) rfl d_P_openRow_42 ?_
    obtain ⟨hc3, hf⟩ := wk_if hf
    refine va_iald hx hb hK hP 3 2 rfl rfl (wk_inb_ok hc3) d_P_openRow_45 ?_
    refine lv_iload_n hx hb d_P_openRow_46 rfl (lv_at hl 0 rfl) ?_
    obtain ⟨hc4, hf⟩ := wk_if hf
    refine va_iast hx hb hK hP hD hS 8 6 rfl rfl (wk_inb_ok hc4) d_P_openRow_47 (fun H locs hP hD hS => ?_)
    obtain ⟨MB3, hMB3, hf⟩ := wk_letE hf
    have hP : va_P (dC, dI) vwCl (rw_W h q g hm qm gm so sg sx I A M2 MB3 L2) H := by rw [hMB3]; exact hP
    have hD : va_D B9 (rw_W h q g hm qm gm so sg sx I A M2 MB3 L2) := by rw [hMB3]; exact hD
    clear hMB3
    refine lv_aload_n hx hb d_P_openRow_48 rfl (lv_at hl 1 rfl) ?_
    refine lv_iload_n hx hb d_P_openRow_49 rfl (lv_at hl 0 rfl) ?_
    have hPc := hP.sub (ws' := (rw_W h q g hm qm gm so sg sx I A M2 MB3 L2)) [0, 1, 2, 3, 4, 5, 6, 7, 8, 9, 10, 11] rfl
    have hDc := hD.sub (ws' := (rw_W h q g hm qm gm so sg sx I A M2 MB3 L2)) [0, 1, 2, 3, 4, 5, 6, 7, 8, 9, 10, 11] (by decide) rfl
    have hKc := hK.sub (tys' := (rw_T h q g hm qm gm so sg sx)) [0, 1, 2, 3, 4, 5, 6, 7, 8, 9] rfl
    have hFc := va_free (wc := (rw_W h q g hm qm gm so sg sx I A M2 MB3 L2)) hD hS hA [0, 1, 2, 3, 4, 5, 6, 7, 8, 9, 10, 11] rfl
    cases hg4 : f_P_beginRow sx I A M2 MB3 L2 r2 with
    | none => rw [hg4] at hf; cases hf
    | some z4 =>
      obtain ⟨r4, I4, A4, M4, MB4, L4⟩ := z4
      rw [hg4] at hf
      dsimp only [Option.bind_some] at hf
      refine va_callv (va_runV (As := [.int r2]) (rest := []) ⟨hx, hb, hml, hown, hts⟩ (cm_P_beginRow l dC dI h q g hm qm gm so sg sx _  I A M2 MB3 L2 r2 r4 I4 A4 M4 MB4 L4 hg4) (cwV 1 hts (gd_v lk_401 lk_402 lk_403 lk_387 lk_391) rfl rfl rfl (by decide +kernel) ⟨Nat.le_of_ble_eq_true rfl, Nat.le_of_ble_eq_true rfl⟩) ⟨fun a U g mk q => by obtain ⟨q0, q1, qP, qK, qD⟩ := q; exact ⟨q0, q1, qP, va_K.moved (u := U) (U := U.calling g mk a) (Vm.Alike.refl U.vm) qK, qD⟩, va_recv (ci := 2) (q0 := 0) hK hP rfl rfl, fun U hU hW => ⟨rfl, by rw [hU], by rw [hU]; exact hPc, va_K.moved hW.alike hKc, hDc.weaken (fun _ _ _ _ => trivial)⟩⟩ rfl rfl hl.1 rfl (lv_room (Nat.le_of_ble_eq_true rfl)) d_P_openRow_50 ⟨Nat.le_of_ble_eq_true rfl, Nat.le_of_ble_eq_true rfl⟩) hS (fun q _ h => hFc q h) hFc (fun u t H1 locs ht hvm hw hB hz1 hk1 hS => ?_)
      obtain ⟨hP1, hK1, hD1⟩ := hB
      rw [ht] at hP1
      obtain ⟨hP, hD⟩ := va_join (wr := (([] : List Nat).map (fun i => ((rw_W h q g hm qm gm so sg sx I A M2 MB3 L2)).getD i (0, .inr (0, []))))) (w1 := (rw_W h q g hm qm gm so sg sx I4 A4 M4 MB4 L4)) hP hD [0, 1, 2, 3, 4, 5, 6, 7, 8, 9, 10, 11] [] rfl rfl (by decide) (by decide) hk1 hFc hP1 hD1
      generalize H1 = H at hP hS ⊢
      have hP := hP.sub (ws' := (rw_W h q g hm qm gm so sg sx I4 A4 M4 MB4 L4)) [0, 1, 2, 3, 4, 5, 6, 7, 8, 9, 10, 11] rfl
      have hD := hD.sub (ws' := (rw_W h q g hm qm gm so sg sx I4 A4 M4 MB4 L4)) [0, 1, 2, 3, 4, 5, 6, 7, 8, 9, 10, 11] (by decide) rfl
      obtain ⟨e0, e1, e2, e3, e4, e5⟩ := wk_inj5 hf
      subst e0
      subst e1
      subst e2
      subst e3
      subst e4
      subst e5
      exact W.vret hx hb hr (fun t ht hW => ⟨⟨(), rfl, rfl, by rw [ht]; exact hP, va_K.moved hW.alike hK, hD⟩, hS.F ht⟩) hS.2.2 d_P_openRow_53

set_option maxHeartbeats 8000000 in
set_option maxRecDepth 100000 in
theorem cm_P_repeatPart (l : Launch) (dC : Nat → ClassId) (dI : Nat → Nat → Nat) (h : Nat) (q : Nat → Nat) (g : Nat → ClassId) (hm : Nat) (qm : Nat → Nat) (gm : Nat → ClassId) (so : Nat) (sg : ClassId) (sx : Nat → Int32) (sz : Nat) (I : MI) (A : MA) (M : MI) (MB : MA) (L : ML) (k1 : Int32) (r : Int32) (I' : MI) (A' : MA) (M' : MI) (MB' : MA) (L' : ML) (hf : f_P_repeatPart sx I A M MB L  k1 = some (r, I', A', M', MB', L')) : Met l y_P_repeatPart w_P_repeatPart ({ frames := 1, cells := 0, slots := 0, locals := 22 }) (va_Pc [.ref h, .int k1] (fun U => U.heap.size = sz ∧ va_P (dC, dI) vwCl (rw_W h q g hm qm gm so sg sx I A M MB L) U.heap ∧ va_K (dC, dI) vwCl (rw_T h q g hm qm gm so sg sx) U ∧ va_D (fun _ => True) (rw_W h q g hm qm gm so sg sx I A M MB L))) (va_Qv (fun (u : Unit) => u = u) (fun (_ : Unit) t => va_P (dC, dI) vwCl (rw_W h q g hm qm gm so sg sx I' A' M' MB' L') t.heap ∧ va_K (dC, dI) vwCl (rw_T h q g hm qm gm so sg sx) t ∧ va_D (va_A (rw_W h q g hm qm gm so sg sx I A M MB L) sz) (rw_W h q g hm qm gm so sg sx I' A' M' MB' L')) (va_A (rw_W h q g hm qm gm so sg sx I A M MB L) sz)) 0 0 (va_A (rw_W h q g hm qm gm so sg sx I A M MB L) sz) := by
  refine Met.ofW (cc := prog_3_method_19_code) (maxL := 4) (ret := none) (by decide) rfl ?_
  intro p e s m args below meth c s₁ B hml hv
  obtain ⟨rfl, hsz, hP, hK, hD0⟩ := hv
  have hx := B.exec
  have hb := B.bytes
  have hr := B.returns
  have hts := atoms_spec (ws := w_P_repeatPart) B.pre
  have hown : s.vm.findClass "DraftTree$PatternReader" = some m.cls := findClass_of_methodNamed B.named
  have hlocks := B.notSynchronized
  subst hsz
  have hD := hD0.self (sz := s.heap.size)
  generalize hAe : va_A (rw_W h q g hm qm gm so sg sx I A M MB L) s.heap.size = B9 at hD ⊢
  have hA : ∀ q : Nat, s.heap.size ≤ q → B9 q := fun q h => by rw [← hAe]; exact Or.inr h
  clear hAe
  have hS : va_S B9 s.heap s.heap [] := va_S.rf
  have hl := lv_entry ([.ref h, .int k1]) (n := 4) (Nat.le_of_ble_eq_true rfl)
  rw [lg_entry_eq]
  generalize (lg_sl ([.ref h, .int k1]) ++ List.replicate (4 - (lg_sl ([.ref h, .int k1])).length) Slot.unset).toArray = ls at hl ⊢
  have hl : lv_has ls 4 [(0, .ref h), (1, .int k1)] := hl
  have blk108 : ∀ (I : MI) (A : MA) (M : MI) (MB : MA) (L : ML) (X : Nat → Int32) (Y : Nat → Int64) (ls : Array Slot) (H : Heap) (locs : List Loc), f_P_repeatPart_108 sx I A M MB L X Y = some (r, I', A', M', MB', L') → lv_has ls 4 [(0, .ref h), (1, .int (X 1)), (2, .int (X 2)), (3, .int (X 3))] → va_P (dC, dI) vwCl (rw_W h q g hm qm gm so sg sx I A M MB L) H → va_D B9 (rw_W h q g hm qm gm so sg sx I A M MB L) → va_S B9 s.heap H locs → W p l e (headSpec w_P_repeatPart ({ frames := 1, cells := 0, slots := 0, locals := 22 })).room s m ([.ref h, .int k1] : List Value).toArray below meth c H locs 0 0 (MQ below (va_Qv (fun (u : Unit) => u = u) (fun (_ : Unit) t => va_P (dC, dI) vwCl (rw_W h q g hm qm gm so sg sx I' A' M' MB' L') t.heap ∧ va_K (dC, dI) vwCl (rw_T h q g hm qm gm so sg sx) t ∧ va_D B9 (rw_W h q g hm qm gm so sg sx I' A' M' MB' L')) B9) ([.ref h, .int k1] : List Value).toArray s 0 0 B9) (F0 m 108 ls []) := by
    intro I A M MB L X Y ls H locs hf hl hP hD hS
    unfold f_P_repeatPart_108 at hf
    obtain ⟨e0, e1, e2, e3, e4, e5⟩ := wk_inj5 hf
    subst e0
    subst e1
    subst e2
    subst e3
    subst e4
    subst e5
    exact W.vret hx hb hr (fun t ht hW => ⟨⟨(), rfl, rfl, by rw [ht]; exact hP, va_K.moved hW.alike hK, hD⟩, hS.F ht⟩) hS.2.2 d_P_repeatPart_108
  have blk66 : ∀ (I : MI) (A : MA) (M : MI) (MB : MA) (L : ML) (X : Nat → Int32) (Y : Nat → Int64) (ls : Array Slot) (H : Heap) (locs : List Loc), f_P_repeatPart_66 sx I A M MB L X Y = some (r, I', A', M', MB', L') → lv_has ls 4 [(0, .ref h), (1, .int (X 1)), (2, .int (X 2)), (3, .int (X 3))] → va_P (dC, dI) vwCl (rw_W h q g hm qm gm so sg sx I A M MB L) H → va_D B9 (rw_W h q g hm qm gm so sg sx I A M MB L) → va_S B9 s.heap H locs → W p l e (headSpec w_P_repeatPart ({ frames := 1, cells := 0, slots := 0, locals := 22 })).room s m ([.ref h, .int k1] : List Value).toArray below meth c H locs 0 0 (MQ below (va_Qv (fun (u : Unit) => u = u) (fun (_ : Unit) t => va_P (dC, dI) vwCl (rw_W h q g hm qm gm so sg sx I' A' M' MB' L') t.heap ∧ va_K (dC, dI) vwCl (rw_T h q g hm qm gm so sg sx) t ∧ va_D B9 (rw_W h q g hm qm gm so sg sx I' A' M' MB' L')) B9) ([.ref h, .int k1] : List Value).toArray s 0 0 B9) (F0 m 66 ls []) := by
    intro I A M MB L X Y ls H locs hf hl hP hD hS
    unfold f_P_repeatPart_66 at hf
    refine lv_aload_n hx hb d_P_repeatPart_66 rfl (lv_at hl 0 rfl) ?_
    refine va_get (D := (dC, dI)) (ci := 2) (v := .ref hm) (C := R_P) (T := F_P) (N := 13) hx hb hts (fun w h => List.mem_cons_of_mem _ (in_P w h)) hown hK hP 0 rfl rfl 4 (by decide) (hts _ (List.mem_cons_of_mem _ lk_375)) (fun _ h9 => h9) rfl d_P_repeatPart_67 ?_
    refine va_get (D := (dC, dI)) (ci := 3) (v := .ref (qm 1)) (C := R_A) (T := F_A) (N := 10) hx hb hts (fun w h => List.mem_cons_of_mem _ (in_A w h)) hown hK hP 5 rfl rfl 1 (by decide) (hts _ (List.mem_cons_of_mem _ lk_381)) (fun _ h9 => h9) rfl d_P_repeatPart_70 ?_
    refine lv_aload_n hx hb d_P_repeatPart_73 rfl (lv_at hl 0 rfl) ?_
    refine va_get (D := (dC, dI)) (ci := 2) (v := .int (I 12)) (C := R_P) (T := F_P) (N := 13) hx hb hts (fun w h => List.mem_cons_of_mem _ (in_P w h)) hown hK hP 0 rfl rfl 12 (by decide) (hts _ (List.mem_cons_of_mem _ lk_379)) (fun _ h9 => h9) rfl d_P_repeatPart_74 ?_
    refine lv_iload_n hx hb d_P_repeatPart_77 rfl (lv_at hl 3 rfl) ?_
    obtain ⟨hc1, hf⟩ := wk_if hf
    refine va_iast hx hb hK hP hD hS 7 5 rfl rfl (wk_inb_ok hc1) d_P_repeatPart_78 (fun H locs hP hD hS => ?_)
    obtain ⟨MB1, hMB1, hf⟩ := wk_letE hf
    have hP : va_P (dC, dI) vwCl (rw_W h q g hm qm gm so sg sx I A M MB1 L) H := by rw [hMB1]; exact hP
    have hD : va_D B9 (rw_W h q g hm qm gm so sg sx I A M MB1 L) := by rw [hMB1]; exact hD
    clear hMB1
    refine lv_aload_n hx hb d_P_repeatPart_79 rfl (lv_at hl 0 rfl) ?_
    refine lv_iload_n hx hb d_P_repeatPart_80 rfl (lv_at hl 3 rfl) ?_
    refine va_put (D := (dC, dI)) (ci := 2) (v := .int (X 3)) (ty := .int) (C := R_P) (T := F_P) (N := 13) hx hb hts (fun w h => List.mem_cons_of_mem _ (in_P w h)) t_P tk_P n_P hown hK hP hD hS 0 rfl rfl 12 (by decide) (hts _ (List.mem_cons_of_mem _ lk_379)) (fun _ h9 => h9) rfl (by decide +kernel) rfl rfl (Nat.le_of_ble_eq_true rfl) d_P_repeatPart_81 (fun H locs hP hD hS => ?_)
    obtain ⟨I2, hI2, hf⟩ := wk_letE hf
    have hP : va_P (dC, dI) vwCl (rw_W h q g hm qm gm so sg sx I2 A M MB1 L) H := by rw [hI2]; exact hP
    have hD : va_D B9 (rw_W h q g hm qm gm so sg sx I2 A M MB1 L) := by rw [hI2]; exact hD
    clear hI2
    refine lv_iload_n hx hb d_P_repeatPart_84 rfl (lv_at hl 1 rfl) ?_
    refine lv_bipush (v := 43) hx hb d_P_repeatPart_85 (by decide) ?_
    refine lv_icmp_eq (tgt := 108) hx hb d_P_repeatPart_87 (by decide) (fun hc2 => ?_) (fun hc2 => ?_)
    ·
      have hf := wk_ift hc2 hf
      exact blk108 I2 A M MB1 L X Y _ _ _ hf (lv_sub hl [0, 1, 2, 3] rfl) hP hD hS
    ·
      have hf := wk_iff hc2 hf
      refine lv_aload_n hx hb d_P_repeatPart_90 rfl (lv_at hl 0 rfl) ?_
      refine va_get (D := (dC, dI)) (ci := 2) (v := .ref hm) (C := R_P) (T := F_P) (N := 13) hx hb hts (fun w h => List.mem_cons_of_mem _ (in_P w h)) hown hK hP 0 rfl rfl 4 (by decide) (hts _ (List.mem_cons_of_mem _ lk_375)) (fun _ h9 => h9) rfl d_P_repeatPart_91 ?_
      refine va_get (D := (dC, dI)) (ci := 3) (v := .ref (qm 1)) (C := R_A) (T := F_A) (N := 10) hx hb hts (fun w h => List.mem_cons_of_mem _ (in_A w h)) hown hK hP 5 rfl rfl 1 (by decide) (hts _ (List.mem_cons_of_mem _ lk_381)) (fun _ h9 => h9) rfl d_P_repeatPart_94 ?_
      refine lv_aload_n hx hb d_P_repeatPart_97 rfl (lv_at hl 0 rfl) ?_
      refine va_get (D := (dC, dI)) (ci := 2) (v := .int (I2 10)) (C := R_P) (T := F_P) (N := 13) hx hb hts (fun w h => List.mem_cons_of_mem _ (in_P w h)) hown hK hP 0 rfl rfl 10 (by decide) (hts _ (List.mem_cons_of_mem _ lk_380)) (fun _ h9 => h9) rfl d_P_repeatPart_98 ?_
      refine lv_iload_n hx hb d_P_repeatPart_101 rfl (lv_at hl 2 rfl) ?_
      obtain ⟨hc3, hf⟩ := wk_if hf
      refine va_iast hx hb hK hP hD hS 7 5 rfl rfl (wk_inb_ok hc3) d_P_repeatPart_102 (fun H locs hP hD hS => ?_)
      obtain ⟨MB3, hMB3, hf⟩ := wk_letE hf
      have hP : va_P (dC, dI) vwCl (rw_W h q g hm qm gm so sg sx I2 A M MB3 L) H := by rw [hMB3]; exact hP
      have hD : va_D B9 (rw_W h q g hm qm gm so sg sx I2 A M MB3 L) := by rw [hMB3]; exact hD
      clear hMB3
      refine lv_aload_n hx hb d_P_repeatPart_103 rfl (lv_at hl 0 rfl) ?_
      refine lv_iload_n hx hb d_P_repeatPart_104 rfl (lv_at hl 2 rfl) ?_
      refine va_put (D := (dC, dI)) (ci := 2) (v := .int (X 2)) (ty := .int) (C := R_P) (T := F_P) (N := 13) hx hb hts (fun w h => List.mem_cons_of_mem _ (in_P w h)) t_P tk_P n_P hown hK hP hD hS 0 rfl rfl 11 (by decide) (hts _ (List.mem_cons_of_mem _ lk_382)) (fun _ h9 => h9) rfl (by decide +kernel) rfl rfl (Nat.le_of_ble_eq_true rfl) d_P_repeatPart_105 (fun H locs hP hD hS => ?_)
      obtain ⟨I4, hI4, hf⟩ := wk_letE hf
      have hP : va_P (dC, dI) vwCl (rw_W h q g hm qm gm so sg sx I4 A M MB3 L) H := by rw [hI4]; exact hP
      have hD : va_D B9 (rw_W h q g hm qm gm so sg sx I4 A M MB3 L) := by rw [hI4]; exact hD
      clear hI4
      exact blk108 I4 A M MB3 L X Y _ _ _ hf (lv_sub hl [0, 1, 2, 3] rfl) hP hD hS
  unfold f_P_repeatPart at hf
  refine lv_aload_n hx hb d_P_repeatPart_0 rfl (lv_at hl 0 rfl) ?_
  refine va_get (D := (dC, dI)) (ci := 2) (v := .int (I 11)) (C := R_P) (T := F_P) (N := 13) hx hb hts (fun w h => List.mem_cons_of_mem _ (in_P w h)) hown hK hP 0 rfl rfl 11 (by decide) (hts _ (List.mem_cons_of_mem _ lk_382)) (fun _ h9 => h9) rfl d_P_repeatPart_1 ?_
  refine lv_iconst (v := (-1)) hx hb d_P_repeatPart_4 (by decide) ?_
  refine lv_icmp_ne (tgt := 17) hx hb d_P_repeatPart_5 (by decide) (fun hc1 => ?_) (fun hc1 => ?_)
  ·
    have hf := wk_iff hc1 hf
    refine lv_aload_n hx hb d_P_repeatPart_17 rfl (lv_at hl 0 rfl) ?_
    refine va_get (D := (dC, dI)) (ci := 2) (v := .ref hm) (C := R_P) (T := F_P) (N := 13) hx hb hts (fun w h => List.mem_cons_of_mem _ (in_P w h)) hown hK hP 0 rfl rfl 4 (by decide) (hts _ (List.mem_cons_of_mem _ lk_375)) (fun _ h9 => h9) rfl d_P_repeatPart_18 ?_
    refine lv_iconst (v := 0) hx hb d_P_repeatPart_21 (by decide) ?_
    have hPc := hP.sub (ws' := (aw_W hm qm gm M MB L)) [5, 6, 7, 8, 9, 10] rfl
    have hDc := hD.sub (ws' := (aw_W hm qm gm M MB L)) [5, 6, 7, 8, 9, 10] (by decide) rfl
    have hKc := hK.sub (tys' := (aw_T hm qm gm)) [4, 5, 6, 7, 8] rfl
    have hFc := va_free (wc := (aw_W hm qm gm M MB L)) hD hS hA [5, 6, 7, 8, 9, 10] rfl
    cases hg1 : f_A_addNode M MB L 0 with
    | none => rw [hg1] at hf; cases hf
    | some z1 =>
      obtain ⟨r1, M1, MB1, L1⟩ := z1
      rw [hg1] at hf
      dsimp only [Option.bind_some] at hf
      refine va_calli (va_runV (As := [.int 0]) (rest := []) ⟨hx, hb, hml, hown, hts⟩ (cm_A_addNode l dC dI hm qm gm _  M MB L 0 r1 M1 MB1 L1 hg1) (cwV 1 hts (gd_v lk_376 lk_377 lk_378 lk_273 lk_359) rfl rfl rfl (by decide +kernel) ⟨Nat.le_of_ble_eq_true rfl, Nat.le_of_ble_eq_true rfl⟩) ⟨fun a U g mk q => by obtain ⟨q0, q1, qP, qK, qD⟩ := q; exact ⟨q0, q1, qP, va_K.moved (u := U) (U := U.calling g mk a) (Vm.Alike.refl U.vm) qK, qD⟩, va_recv (ci := 3) (q0 := 5) hK hP rfl rfl, fun U hU hW => ⟨rfl, by rw [hU], by rw [hU]; exact hPc, va_K.moved hW.alike hKc, hDc.weaken (fun _ _ _ _ => trivial)⟩⟩ rfl rfl hl.1 rfl (lv_room (Nat.le_of_ble_eq_true rfl)) d_P_repeatPart_22 ⟨Nat.le_of_ble_eq_true rfl, Nat.le_of_ble_eq_true rfl⟩) hS (fun q _ h => hFc q h) hFc (fun r9 u t H1 locs ht hvm hw hB hz1 hk1 hS => ?_)
      obtain ⟨hP1, hK1, hD1⟩ := hB
      rw [ht] at hP1
      rw [hw]
      obtain ⟨hP, hD⟩ := va_join (wr := (([0, 1, 2, 3, 4, 11] : List Nat).map (fun i => ((rw_W h q g hm qm gm so sg sx I A M MB L)).getD i (0, .inr (0, []))))) (w1 := (aw_W hm qm gm M1 MB1 L1)) hP hD [5, 6, 7, 8, 9, 10] [0, 1, 2, 3, 4, 11] rfl rfl (by decide) (by decide) hk1 hFc hP1 hD1
      generalize H1 = H at hP hS ⊢
      have hP := hP.sub (ws' := (rw_W h q g hm qm gm so sg sx I A M1 MB1 L1)) [0, 1, 2, 3, 4, 6, 7, 8, 9, 10, 11, 5] rfl
      have hD := hD.sub (ws' := (rw_W h q g hm qm gm so sg sx I A M1 MB1 L1)) [0, 1, 2, 3, 4, 6, 7, 8, 9, 10, 11, 5] (by decide) rfl
      refine lv_istore_n (lv' := [(2, .int r1), (0, .ref h), (1, .int k1)]) hx hb d_P_repeatPart_25 rfl hl (by decide) rfl (fun ls hl => ?_)
      have hl : lv_has ls 4 [(2, .int r1), (0, .ref h), (1, .int k1)] := hl
      refine lv_aload_n hx hb d_P_repeatPart_26 rfl (lv_at hl 1 rfl) ?_
      refine va_get (D := (dC, dI)) (ci := 2) (v := .ref hm) (C := R_P) (T := F_P) (N := 13) hx hb hts (fun w h => List.mem_cons_of_mem _ (in_P w h)) hown hK hP 0 rfl rfl 4 (by decide) (hts _ (List.mem_cons_of_mem _ lk_375)) (fun _ h9 => h9) rfl d_P_repeatPart_27 ?_
      refine va_get (D := (dC, dI)) (ci := 3) (v := .ref (qm 2)) (C := R_A) (T := F_A) (N := 10) hx hb hts (fun w h => List.mem_cons_of_mem _ (in_A w h)) hown hK hP 5 rfl rfl 2 (by decide) (hts _ (List.mem_cons_of_mem _ lk_409)) (fun _ h9 => h9) rfl d_P_repeatPart_30 ?_
      refine lv_iload_n hx hb d_P_repeatPart_33 rfl (lv_at hl 0 rfl) ?_
      refine lv_aload_n hx hb d_P_repeatPart_34 rfl (lv_at hl 1 rfl) ?_
      refine va_get (D := (dC, dI)) (ci := 2) (v := .int (I 11)) (C := R_P) (T := F_P) (N := 13) hx hb hts (fun w h => List.mem_cons_of_mem _ (in_P w h)) hown hK hP 0 rfl rfl 11 (by decide) (hts _ (List.mem_cons_of_mem _ lk_382)) (fun _ h9 => h9) rfl d_P_repeatPart_35 ?_
      obtain ⟨hc2, hf⟩ := wk_if hf
      refine va_iast hx hb hK hP hD hS 8 6 rfl rfl (wk_inb_ok hc2) d_P_repeatPart_38 (fun H locs hP hD hS => ?_)
      obtain ⟨MB2, hMB2, hf⟩ := wk_letE hf
      have hP : va_P (dC, dI) vwCl (rw_W h q g hm qm gm so sg sx I A M1 MB2 L1) H := by rw [hMB2]; exact hP
      have hD : va_D B9 (rw_W h q g hm qm gm so sg sx I A M1 MB2 L1) := by rw [hMB2]; exact hD
      clear hMB2
      refine lv_iload_n hx hb d_P_repeatPart_39 rfl (lv_at hl 0 rfl) ?_
      refine lv_istore_n (lv' := [(3, .int r1), (2, .int r1), (0, .ref h), (1, .int k1)]) hx hb d_P_repeatPart_40 rfl hl (by decide) rfl (fun ls hl => ?_)
      have hl : lv_has ls 4 [(3, .int r1), (2, .int r1), (0, .ref h), (1, .int k1)] := hl
      refine lv_iload_n hx hb d_P_repeatPart_41 rfl (lv_at hl 3 rfl) ?_
      refine lv_bipush (v := 63) hx hb d_P_repeatPart_42 (by decide) ?_
      refine lv_icmp_ne (tgt := 66) hx hb d_P_repeatPart_44 (by decide) (fun hc3 => ?_) (fun hc3 => ?_)
      ·
        have hf := wk_iff hc3 hf
        exact blk66 I A M1 MB2 L1 (upd (upd (upd (fun _ => 0) 1 k1) 2 r1) 3 r1) (fun _ => 0) _ _ _ hf (lv_sub hl [2, 3, 1, 0] rfl) hP hD hS
      ·
        have hf := wk_ift hc3 hf
        refine lv_aload_n hx hb d_P_repeatPart_47 rfl (lv_at hl 2 rfl) ?_
        refine va_get (D := (dC, dI)) (ci := 2) (v := .ref hm) (C := R_P) (T := F_P) (N := 13) hx hb hts (fun w h => List.mem_cons_of_mem _ (in_P w h)) hown hK hP 0 rfl rfl 4 (by decide) (hts _ (List.mem_cons_of_mem _ lk_375)) (fun _ h9 => h9) rfl d_P_repeatPart_48 ?_
        refine lv_iconst (v := 0) hx hb d_P_repeatPart_51 (by decide) ?_
        have hPc := hP.sub (ws' := (aw_W hm qm gm M1 MB2 L1)) [5, 6, 7, 8, 9, 10] rfl
        have hDc := hD.sub (ws' := (aw_W hm qm gm M1 MB2 L1)) [5, 6, 7, 8, 9, 10] (by decide) rfl
        have hKc := hK.sub (tys' := (aw_T hm qm gm)) [4, 5, 6, 7, 8] rfl
        have hFc := va_free (wc := (aw_W hm qm gm M1 MB2 L1)) hD hS hA [5, 6, 7, 8, 9, 10] rfl
        cases hg3 : f_A_addNode M1 MB2 L1 0 with
        | none => rw [hg3] at hf; cases hf
        | some z3 =>
          obtain ⟨r3, M3, MB3, L3⟩ := z3
          rw [hg3] at hf
          dsimp only [Option.bind_some] at hf
          refine va_calli (va_runV (As := [.int 0]) (rest := []) ⟨hx, hb, hml, hown, hts⟩ (cm_A_addNode l dC dI hm qm gm _  M1 MB2 L1 0 r3 M3 MB3 L3 hg3) (cwV 1 hts (gd_v lk_376 lk_377 lk_378 lk_273 lk_359) rfl rfl rfl (by decide +kernel) ⟨Nat.le_of_ble_eq_true rfl, Nat.le_of_ble_eq_true rfl⟩) ⟨fun a U g mk q => by obtain ⟨q0, q1, qP, qK, qD⟩ := q; exact ⟨q0, q1, qP, va_K.moved (u := U) (U := U.calling g mk a) (Vm.Alike.refl U.vm) qK, qD⟩, va_recv (ci := 3) (q0 := 5) hK hP rfl rfl, fun U hU hW => ⟨rfl, by rw [hU], by rw [hU]; exact hPc, va_K.moved hW.alike hKc, hDc.weaken (fun _ _ _ _ => trivial)⟩⟩ rfl rfl hl.1 rfl (lv_room (Nat.le_of_ble_eq_true rfl)) d_P_repeatPart_52 ⟨Nat.le_of_ble_eq_true rfl, Nat.le_of_ble_eq_true rfl⟩) hS (fun q _ h => hFc q h) hFc (fun r9 u t H1 locs ht hvm hw hB hz1 hk1 hS => ?_)
          obtain ⟨hP1, hK1, hD1⟩ := hB
          rw [ht] at hP1
          rw [hw]
          obtain ⟨hP, hD⟩ := va_join (wr := (([0, 1, 2, 3, 4, 11] : List Nat).map (fun i => ((rw_W h q g hm qm gm so sg sx I A M1 MB2 L1)).getD i (0, .inr (0, []))))) (w1 := (aw_W hm qm gm M3 MB3 L3)) hP hD [5, 6, 7, 8, 9, 10] [0, 1, 2, 3, 4, 11] rfl rfl (by decide) (by decide) hk1 hFc hP1 hD1
          generalize H1 = H at hP hS ⊢
          have hP := hP.sub (ws' := (rw_W h q g hm qm gm so sg sx I A M3 MB3 L3)) [0, 1, 2, 3, 4, 6, 7, 8, 9, 10, 11, 5] rfl
          have hD := hD.sub (ws' := (rw_W h q g hm qm gm so sg sx I A M3 MB3 L3)) [0, 1, 2, 3, 4, 6, 7, 8, 9, 10, 11, 5] (by decide) rfl
          refine lv_istore_n (lv' := [(3, .int r3), (2, .int r1), (0, .ref h), (1, .int k1)]) hx hb d_P_repeatPart_55 rfl hl (by decide) rfl (fun ls hl => ?_)
          have hl : lv_has ls 4 [(3, .int r3), (2, .int r1), (0, .ref h), (1, .int k1)] := hl
          refine lv_aload_n hx hb d_P_repeatPart_56 rfl (lv_at hl 2 rfl) ?_
          refine va_get (D := (dC, dI)) (ci := 2) (v := .ref hm) (C := R_P) (T := F_P) (N := 13) hx hb hts (fun w h => List.mem_cons_of_mem _ (in_P w h)) hown hK hP 0 rfl rfl 4 (by decide) (hts _ (List.mem_cons_of_mem _ lk_375)) (fun _ h9 => h9) rfl d_P_repeatPart_57 ?_
          refine va_get (D := (dC, dI)) (ci := 3) (v := .ref (qm 1)) (C := R_A) (T := F_A) (N := 10) hx hb hts (fun w h => List.mem_cons_of_mem _ (in_A w h)) hown hK hP 5 rfl rfl 1 (by decide) (hts _ (List.mem_cons_of_mem _ lk_381)) (fun _ h9 => h9) rfl d_P_repeatPart_60 ?_
          refine lv_iload_n hx hb d_P_repeatPart_63 rfl (lv_at hl 1 rfl) ?_
          refine lv_iload_n hx hb d_P_repeatPart_64 rfl (lv_at hl 0 rfl) ?_
          obtain ⟨hc4, hf⟩ := wk_if hf
          refine va_iast hx hb hK hP hD hS 7 5 rfl rfl (wk_inb_ok hc4) d_P_repeatPart_65 (fun H locs hP hD hS => ?_)
          obtain ⟨MB4, hMB4, hf⟩ := wk_letE hf
          have hP : va_P (dC, dI) vwCl (rw_W h q g hm qm gm so sg sx I A M3 MB4 L3) H := by rw [hMB4]; exact hP
          have hD : va_D B9 (rw_W h q g hm qm gm so sg sx I A M3 MB4 L3) := by rw [hMB4]; exact hD
          clear hMB4
          exact blk66 I A M3 MB4 L3 (upd (upd (upd (fun _ => 0) 1 k1) 2 r1) 3 r3) (fun _ => 0) _ _ _ hf (lv_sub hl [2, 3, 1, 0] rfl) hP hD hS
  ·
    have hf := wk_ift hc1 hf
    refine lv_aload_n hx hb d_P_repeatPart_8 rfl (lv_at hl 0 rfl) ?_
    refine lv_aload_n hx hb d_P_repeatPart_9 rfl (lv_at hl 0 rfl) ?_
    refine va_get (D := (dC, dI)) (ci := 2) (v := .int (I 7)) (C := R_P) (T := F_P) (N := 13) hx hb hts (fun w h => List.mem_cons_of_mem _ (in_P w h)) hown hK hP 0 rfl rfl 7 (by decide) (hts _ (List.mem_cons_of_mem _ lk_395)) (fun _ h9 => h9) rfl d_P_repeatPart_10 ?_
    refine va_put (D := (dC, dI)) (ci := 2) (v := .int (I 7)) (ty := .int) (C := R_P) (T := F_P) (N := 13) hx hb hts (fun w h => List.mem_cons_of_mem _ (in_P w h)) t_P tk_P n_P hown hK hP hD hS 0 rfl rfl 9 (by decide) (hts _ (List.mem_cons_of_mem _ lk_396)) (fun _ h9 => h9) rfl (by decide +kernel) rfl rfl (Nat.le_of_ble_eq_true rfl) d_P_repeatPart_13 (fun H locs hP hD hS => ?_)
    obtain ⟨I1, hI1, hf⟩ := wk_letE hf
    have hP : va_P (dC, dI) vwCl (rw_W h q g hm qm gm so sg sx I1 A M MB L) H := by rw [hI1]; exact hP
    have hD : va_D B9 (rw_W h q g hm qm gm so sg sx I1 A M MB L) := by rw [hI1]; exact hD
    clear hI1
    obtain ⟨e0, e1, e2, e3, e4, e5⟩ := wk_inj5 hf
    subst e0
    subst e1
    subst e2
    subst e3
    subst e4
    subst e5
    exact W.vret hx hb hr (fun t ht hW => ⟨⟨(), rfl, rfl, by rw [ht]; exact hP, va_K.moved hW.alike hK, hD⟩, hS.F ht⟩) hS.2.2 d_P_repeatPart_16

