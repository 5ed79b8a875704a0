set_option maxHeartbeats 8000000 in
set_option maxRecDepth 100000 in
theorem cm_P_readNext (l : Launch) (dC : Nat → ClassId) (dI : Nat → Nat → Nat) (h : Nat) (q : Nat → Nat) (g : Nat → ClassId) (hm : Nat) (qm : Nat → Nat) (gm : Nat → ClassId) (so : Nat) (sg : ClassId) (sx : Nat → Int32) (sz : Nat) (I : MI) (A : MA) (M : MI) (MB : MA) (L : ML) (r : Int32) (I' : MI) (A' : MA) (M' : MI) (MB' : MA) (L' : ML) (hf : f_P_readNext sx I A M MB L  = some (r, I', A', M', MB', L')) : Met l y_P_readNext w_P_readNext ({ frames := 4, cells := 0, slots := 0, locals := 87 }) (va_Pc [.ref h] (fun U => U.heap.size = sz ∧ va_P (dC, dI) vwCl (rw_W h q g hm qm gm so sg sx I A M MB L) U.heap ∧ va_K (dC, dI) vwCl (rw_T h q g hm qm gm so sg sx) U ∧ va_D (fun _ => True) (rw_W h q g hm qm gm so sg sx I A M MB L))) (va_Qv (fun (u : Unit) => u = u) (fun (_ : Unit) t => va_P (dC, dI) vwCl (rw_W h q g hm qm gm so sg sx I' A' M' MB' L') t.heap ∧ va_K (dC, dI) vwCl (rw_T h q g hm qm gm so sg sx) t ∧ va_D (va_A (rw_W h q g hm qm gm so sg sx I A M MB L) sz) (rw_W h q g hm qm gm so sg sx I' A' M' MB' L')) (va_A (rw_W h q g hm qm gm so sg sx I A M MB L) sz)) 0 0 (va_A (rw_W h q g hm qm gm so sg sx I A M MB L) sz) := by
  refine Met.ofW (cc := prog_3_method_5_code) (maxL := 2) (ret := none) (by decide) rfl ?_
  intro p e s m args below meth c s₁ B hml hv
  obtain ⟨rfl, hsz, hP, hK, hD0⟩ := hv
  have hx := B.exec
  have hb := B.bytes
  have hr := B.returns
  have hts := atoms_spec (ws := w_P_readNext) B.pre
  have hown : s.vm.findClass "DraftTree$PatternReader" = some m.cls := findClass_of_methodNamed B.named
  have hlocks := B.notSynchronized
  subst hsz
  have hD := hD0.self (sz := s.heap.size)
  generalize hAe : va_A (rw_W h q g hm qm gm so sg sx I A M MB L) s.heap.size = B9 at hD ⊢
  have hA : ∀ q : Nat, s.heap.size ≤ q → B9 q := fun q h => by rw [← hAe]; exact Or.inr h
  clear hAe
  have hS : va_S B9 s.heap s.heap [] := va_S.rf
  have hl := lv_entry ([.ref h]) (n := 2) (Nat.le_of_ble_eq_true rfl)
  rw [lg_entry_eq]
  generalize (lg_sl ([.ref h]) ++ List.replicate (2 - (lg_sl ([.ref h])).length) Slot.unset).toArray = ls at hl ⊢
  have hl : lv_has ls 2 [(0, .ref h)] := hl
  have blk151 : ∀ (I : MI) (A : MA) (M : MI) (MB : MA) (L : ML) (X : Nat → Int32) (Y : Nat → Int64) (ls : Array Slot) (H : Heap) (locs : List Loc), f_P_readNext_151 sx I A M MB L X Y = some (r, I', A', M', MB', L') → lv_has ls 2 [(0, .ref h), (1, .int (X 1))] → va_P (dC, dI) vwCl (rw_W h q g hm qm gm so sg sx I A M MB L) H → va_D B9 (rw_W h q g hm qm gm so sg sx I A M MB L) → va_S B9 s.heap H locs → W p l e (headSpec w_P_readNext ({ frames := 4, cells := 0, slots := 0, locals := 87 })).room s m ([.ref h] : List Value).toArray below meth c H locs 0 0 (MQ below (va_Qv (fun (u : Unit) => u = u) (fun (_ : Unit) t => va_P (dC, dI) vwCl (rw_W h q g hm qm gm so sg sx I' A' M' MB' L') t.heap ∧ va_K (dC, dI) vwCl (rw_T h q g hm qm gm so sg sx) t ∧ va_D B9 (rw_W h q g hm qm gm so sg sx I' A' M' MB' L')) B9) ([.ref h] : List Value).toArray s 0 0 B9) (F0 m 151 ls []) := by
    intro I A M MB L X Y ls H locs hf hl hP hD hS
    unfold f_P_readNext_151 at hf
    refine lv_aload_n hx hb d_P_readNext_151 rfl (lv_at hl 0 rfl) ?_
    refine lv_dup hx hb d_P_readNext_152 rfl ?_
    refine va_get (D := (dC, dI)) (ci := 2) (v := .int (I 7)) (C := R_P) (T := F_P) (N := 13) hx hb hts (fun w h => List.mem_cons_of_mem _ (in_P w h)) hown hK hP 0 rfl rfl 7 (by decide) (hts _ (List.mem_cons_of_mem _ lk_328)) (fun _ h9 => h9) rfl d_P_readNext_153 ?_
    refine lv_iconst (v := 1) hx hb d_P_readNext_156 (by decide) ?_
    refine lv_iadd hx hb d_P_readNext_157 ?_
    refine va_put (D := (dC, dI)) (ci := 2) (v := .int ((I 7) + 1)) (ty := .int) (C := R_P) (T := F_P) (N := 13) hx hb hts (fun w h => List.mem_cons_of_mem _ (in_P w h)) t_P tk_P n_P hown hK hP hD hS 0 rfl rfl 7 (by decide) (hts _ (List.mem_cons_of_mem _ lk_328)) (fun _ h9 => h9) rfl (by decide +kernel) rfl rfl (Nat.le_of_ble_eq_true rfl) d_P_readNext_158 (fun H locs hP hD hS => ?_)
    obtain ⟨I1, hI1, hf⟩ := wk_letE hf
    have hP : va_P (dC, dI) vwCl (rw_W h q g hm qm gm so sg sx I1 A M MB L) H := by rw [hI1]; exact hP
    have hD : va_D B9 (rw_W h q g hm qm gm so sg sx I1 A M MB L) := by rw [hI1]; exact hD
    clear hI1
    obtain ⟨e0, e1, e2, e3, e4, e5⟩ := wk_inj5 hf
    subst e0
    subst e1
    subst e2
    subst e3
    subst e4
    subst e5
    exact W.vret hx hb hr (fun t ht hW => ⟨⟨(), rfl, rfl, by rw [ht]; exact hP, va_K.moved hW.alike hK, hD⟩, hS.F ht⟩) hS.2.2 d_P_readNext_161
  unfold f_P_readNext at hf
  refine lv_aload_n hx hb d_P_readNext_0 rfl (lv_at hl 0 rfl) ?_
  refine va_get (D := (dC, dI)) (ci := 2) (v := .ref so) (C := R_P) (T := F_P) (N := 13) hx hb hts (fun w h => List.mem_cons_of_mem _ (in_P w h)) hown hK hP 0 rfl rfl 5 (by decide) (hts _ (List.mem_cons_of_mem _ lk_326)) (fun _ h9 => h9) rfl d_P_readNext_1 ?_
  refine lv_aload_n hx hb d_P_readNext_4 rfl (lv_at hl 0 rfl) ?_
  refine va_get (D := (dC, dI)) (ci := 2) (v := .int (I 7)) (C := R_P) (T := F_P) (N := 13) hx hb hts (fun w h => List.mem_cons_of_mem _ (in_P w h)) hown hK hP 0 rfl rfl 7 (by decide) (hts _ (List.mem_cons_of_mem _ lk_328)) (fun _ h9 => h9) rfl d_P_readNext_5 ?_
  obtain ⟨hc1, hf⟩ := wk_if hf
  refine va_cald hx hb hK hP 11 9 rfl rfl (wk_inb_ok hc1) d_P_readNext_8 ?_
  refine lv_istore_n (lv' := [(1, .int (sx ((I 7)).toNatClampNeg)), (0, .ref h)]) hx hb d_P_readNext_9 rfl hl (by decide) rfl (fun ls hl => ?_)
  have hl : lv_has ls 2 [(1, .int (sx ((I 7)).toNatClampNeg)), (0, .ref h)] := hl
  refine lv_iload_n hx hb d_P_readNext_10 rfl (lv_at hl 0 rfl) ?_
  by_cases hc2 : (sx ((I 7)).toNatClampNeg) = 40
  ·
    have hf := wk_ift hc2 hf
    refine wk_top (w := .int 40) (congrArg _ hc2) ?_
    refine lv_lookup (off := 81) (tgt := 92) hx hb d_P_readNext_11 (by decide) (by decide) (by decide) ?_
    refine lv_aload_n hx hb d_P_readNext_92 rfl (lv_at hl 1 rfl) ?_
    have hPc := hP.sub (ws' := (rw_W h q g hm qm gm so sg sx I A M MB L)) [0, 1, 2, 3, 4, 5, 6, 7, 8, 9, 10, 11] rfl
    have hDc := hD.sub (ws' := (rw_W h q g hm qm gm so sg sx I A M MB L)) [0, 1, 2, 3, 4, 5, 6, 7, 8, 9, 10, 11] (by decide) rfl
    have hKc := hK.sub (tys' := (rw_T h q g hm qm gm so sg sx)) [0, 1, 2, 3, 4, 5, 6, 7, 8, 9] rfl
    have hFc := va_free (wc := (rw_W h q g hm qm gm so sg sx I A M MB L)) hD hS hA [0, 1, 2, 3, 4, 5, 6, 7, 8, 9, 10, 11] rfl
    cases hg1 : f_P_openGroup sx I A M MB L with
    | none => rw [hg1] at hf; cases hf
    | some z1 =>
      obtain ⟨r1, I1, A1, M1, MB1, L1⟩ := z1
      rw [hg1] at hf
      dsimp only [Option.bind_some] at hf
      refine va_callv (va_runV (As := []) (rest := []) ⟨hx, hb, hml, hown, hts⟩ (cm_P_openGroup l dC dI h q g hm qm gm so sg sx _  I A M MB L r1 I1 A1 M1 MB1 L1 hg1) (cwV 0 hts (gd_v lk_354 lk_355 lk_356 lk_348 lk_353) rfl rfl rfl (by decide +kernel) ⟨Nat.le_of_ble_eq_true rfl, Nat.le_of_ble_eq_true rfl⟩) ⟨fun a U g mk q => by obtain ⟨q0, q1, qP, qK, qD⟩ := q; exact ⟨q0, q1, qP, va_K.moved (u := U) (U := U.calling g mk a) (Vm.Alike.refl U.vm) qK, qD⟩, va_recv (ci := 2) (q0 := 0) hK hP rfl rfl, fun U hU hW => ⟨rfl, by rw [hU], by rw [hU]; exact hPc, va_K.moved hW.alike hKc, hDc.weaken (fun _ _ _ _ => trivial)⟩⟩ rfl rfl hl.1 rfl (lv_room (Nat.le_of_ble_eq_true rfl)) d_P_readNext_93 ⟨Nat.le_of_ble_eq_true rfl, Nat.le_of_ble_eq_true rfl⟩) hS (fun q _ h => hFc q h) hFc (fun u t H1 locs ht hvm hw hB hz1 hk1 hS => ?_)
      obtain ⟨hP1, hK1, hD1⟩ := hB
      rw [ht] at hP1
      obtain ⟨hP, hD⟩ := va_join (wr := (([] : List Nat).map (fun i => ((rw_W h q g hm qm gm so sg sx I A M MB L)).getD i (0, .inr (0, []))))) (w1 := (rw_W h q g hm qm gm so sg sx I1 A1 M1 MB1 L1)) hP hD [0, 1, 2, 3, 4, 5, 6, 7, 8, 9, 10, 11] [] rfl rfl (by decide) (by decide) hk1 hFc hP1 hD1
      generalize H1 = H at hP hS ⊢
      have hP := hP.sub (ws' := (rw_W h q g hm qm gm so sg sx I1 A1 M1 MB1 L1)) [0, 1, 2, 3, 4, 5, 6, 7, 8, 9, 10, 11] rfl
      have hD := hD.sub (ws' := (rw_W h q g hm qm gm so sg sx I1 A1 M1 MB1 L1)) [0, 1, 2, 3, 4, 5, 6, 7, 8, 9, 10, 11] (by decide) rfl
      refine lv_goto (tgt := 151) hx hb d_P_readNext_96 (by decide) ?_
      exact blk151 I1 A1 M1 MB1 L1 (upd (fun _ => 0) 1 (sx ((I 7)).toNatClampNeg)) (fun _ => 0) _ _ _ hf (lv_sub hl [1, 0] rfl) hP hD hS
  ·
    have hf := wk_iff hc2 hf
    by_cases hc3 : (sx ((I 7)).toNatClampNeg) = 41
    ·
      have hf := wk_ift hc3 hf
      refine wk_top (w := .int 41) (congrArg _ hc3) ?_
      refine lv_lookup (off := 88) (tgt := 99) hx hb d_P_readNext_11 (by decide) (by decide) (by decide) ?_
      refine lv_aload_n hx hb d_P_readNext_99 rfl (lv_at hl 1 rfl) ?_
      have hPc := hP.sub (ws' := (rw_W h q g hm qm gm so sg sx I A M MB L)) [0, 1, 2, 3, 4, 5, 6, 7, 8, 9, 10, 11] rfl
      have hDc := hD.sub (ws' := (rw_W h q g hm qm gm so sg sx I A M MB L)) [0, 1, 2, 3, 4, 5, 6, 7, 8, 9, 10, 11] (by decide) rfl
      have hKc := hK.sub (tys' := (rw_T h q g hm qm gm so sg sx)) [0, 1, 2, 3, 4, 5, 6, 7, 8, 9] rfl
      have hFc := va_free (wc := (rw_W h q g hm qm gm so sg sx I A M MB L)) hD hS hA [0, 1, 2, 3, 4, 5, 6, 7, 8, 9, 10, 11] rfl
      cases hg1 : f_P_closeGroup sx I A M MB L with
      | none => rw [hg1] at hf; cases hf
      | some z1 =>
        obtain ⟨r1, I1, A1, M1, MB1, L1⟩ := z1
        rw [hg1] at hf
        dsimp only [Option.bind_some] at hf
        refine va_callv (va_runV (As := []) (rest := []) ⟨hx, hb, hml, hown, hts⟩ (cm_P_closeGroup l dC dI h q g hm qm gm so sg sx _  I A M MB L r1 I1 A1 M1 MB1 L1 hg1) (cwV 0 hts (gd_v lk_363 lk_364 lk_365 lk_348 lk_362) rfl rfl rfl (by decide +kernel) ⟨Nat.le_of_ble_eq_true rfl, Nat.le_of_ble_eq_true rfl⟩) ⟨fun a U g mk q => by obtain ⟨q0, q1, qP, qK, qD⟩ := q; exact ⟨q0, q1, qP, va_K.moved (u := U) (U := U.calling g mk a) (Vm.Alike.refl U.vm) qK, qD⟩, va_recv (ci := 2) (q0 := 0) hK hP rfl rfl, fun U hU hW => ⟨rfl, by rw [hU], by rw [hU]; exact hPc, va_K.moved hW.alike hKc, hDc.weaken (fun _ _ _ _ => trivial)⟩⟩ rfl rfl hl.1 rfl (lv_room (Nat.le_of_ble_eq_true rfl)) d_P_readNext_100 ⟨Nat.le_of_ble_eq_true rfl, Nat.le_of_ble_eq_true rfl⟩) hS (fun q _ h => hFc q h) hFc (fun u t H1 locs ht hvm hw hB hz1 hk1 hS => ?_)
        obtain ⟨hP1, hK1, hD1⟩ := hB
        rw [ht] at hP1
        obtain ⟨hP, hD⟩ := va_join (wr := (([] : List Nat).map (fun i => ((rw_W h q g hm qm gm so sg sx I A M MB L)).getD i (0, .inr (0, []))))) (w1 := (rw_W h q g hm qm gm so sg sx I1 A1 M1 MB1 L1)) hP hD [0, 1, 2, 3, 4, 5, 6, 7, 8, 9, 10, 11] [] rfl rfl (by decide) (by decide) hk1 hFc hP1 hD1
        generalize H1 = H at hP hS ⊢
        have hP := hP.sub (ws' := (rw_W h q g hm qm gm so sg sx I1 A1 M1 MB1 L1)) [0, 1, 2, 3, 4, 5, 6, 7, 8, 9, 10, 11] rfl
        have hD := hD.sub (ws' := (rw_W h q g hm qm gm so sg sx I1 A1 M1 MB1 L1)) [0, 1, 2, 3, 4, 5, 6, 7, 8, 9, 10, 11] (by decide) rfl
        refine lv_goto (tgt := 151) hx hb d_P_readNext_103 (by decide) ?_
        exact blk151 I1 A1 M1 MB1 L1 (upd (fun _ => 0) 1 (sx ((I 7)).toNatClampNeg)) (fun _ => 0) _ _ _ hf (lv_sub hl [1, 0] rfl) hP hD hS
    ·
      have hf := wk_iff hc3 hf
      by_cases hc4 : (sx ((I 7)).toNatClampNeg) = 42
      ·
        have hf := wk_ift hc4 hf
        refine wk_top (w := .int 42) (congrArg _ hc4) ?_
        refine lv_lookup (off := 102) (tgt := 113) hx hb d_P_readNext_11 (by decide) (by decide) (by decide) ?_
        refine lv_aload_n hx hb d_P_readNext_113 rfl (lv_at hl 1 rfl) ?_
        refine lv_iload_n hx hb d_P_readNext_114 rfl (lv_at hl 0 rfl) ?_
        have hPc := hP.sub (ws' := (rw_W h q g hm qm gm so sg sx I A M MB L)) [0, 1, 2, 3, 4, 5, 6, 7, 8, 9, 10, 11] rfl
        have hDc := hD.sub (ws' := (rw_W h q g hm qm gm so sg sx I A M MB L)) [0, 1, 2, 3, 4, 5, 6, 7, 8, 9, 10, 11] (by decide) rfl
        have hKc := hK.sub (tys' := (rw_T h q g hm qm gm so sg sx)) [0, 1, 2, 3, 4, 5, 6, 7, 8, 9] rfl
        have hFc := va_free (wc := (rw_W h q g hm qm gm so sg sx I A M MB L)) hD hS hA [0, 1, 2, 3, 4, 5, 6, 7, 8, 9, 10, 11] rfl
        cases hg1 : f_P_repeatPart sx I A M MB L (sx ((I 7)).toNatClampNeg) with
        | none => rw [hg1] at hf; cases hf
        | some z1 =>
          obtain ⟨r1, I1, A1, M1, MB1, L1⟩ := z1
          rw [hg1] at hf
          dsimp only [Option.bind_some] at hf
          refine va_callv (va_runV (As := [.int (sx ((I 7)).toNatClampNeg)]) (rest := []) ⟨hx, hb, hml, hown, hts⟩ (cm_P_repeatPart l dC dI h q g hm qm gm so sg sx _  I A M MB L (sx ((I 7)).toNatClampNeg) r1 I1 A1 M1 MB1 L1 hg1) (cwV 1 hts (gd_v lk_368 lk_369 lk_370 lk_348 lk_367) rfl rfl rfl (by decide +kernel) ⟨Nat.le_of_ble_eq_true rfl, Nat.le_of_ble_eq_true rfl⟩) ⟨fun a U g mk q => by obtain ⟨q0, q1, qP, qK, qD⟩ := q; exact ⟨q0, q1, qP, va_K.moved (u := U) (U := U.calling g mk a) (Vm.Alike.refl U.vm) qK, qD⟩, va_recv (ci := 2) (q0 := 0) hK hP rfl rfl, fun U hU hW => ⟨rfl, by rw [hU], by rw [hU]; exact hPc, va_K.moved hW.alike hKc, hDc.weaken (fun _ _ _ _ => trivial)⟩⟩ rfl rfl hl.1 rfl (lv_room (Nat.le_of_ble_eq_true rfl)) d_P_readNext_115 ⟨Nat.le_of_ble_eq_true rfl, Nat.le_of_ble_eq_true rfl⟩) hS (fun q _ h => hFc q h) hFc (fun u t H1 locs ht hvm hw hB hz1 hk1 hS => ?_)
          obtain ⟨hP1, hK1, hD1⟩ := hB
          rw [ht] at hP1
          obtain ⟨hP, hD⟩ := va_join (wr := (([] : List Nat).map (fun i => ((rw_W h q g hm qm gm so sg sx I A M MB L)).getD i (0, .inr (0, []))))) (w1 := (rw_W h q g hm qm gm so sg sx I1 A1 M1 MB1 L1)) hP hD [0, 1, 2, 3, 4, 5, 6, 7, 8, 9, 10, 11] [] rfl rfl (by decide) (by decide) hk1 hFc hP1 hD1
          generalize H1 = H at hP hS ⊢
          have hP := hP.sub (ws' := (rw_W h q g hm qm gm so sg sx I1 A1 M1 MB1 L1)) [0, 1, 2, 3, 4, 5, 6, 7, 8, 9, 10, 11] rfl
          have hD := hD.sub (ws' := (rw_W h q g hm qm gm so sg sx I1 A1 M1 MB1 L1)) [0, 1, 2, 3, 4, 5, 6, 7, 8, 9, 10, 11] (by decide) rfl
          refine lv_goto (tgt := 151) hx hb d_P_readNext_118 (by decide) ?_
          exact blk151 I1 A1 M1 MB1 L1 (upd (fun _ => 0) 1 (sx ((I 7)).toNatClampNeg)) (fun _ => 0) _ _ _ hf (lv_sub hl [1, 0] rfl) hP hD hS
      ·
        have hf := wk_iff hc4 hf
        by_cases hc5 : (sx ((I 7)).toNatClampNeg) = 43
        ·
          have hf := wk_ift hc5 hf
          refine wk_top (w := .int 43) (congrArg _ hc5) ?_
          refine lv_lookup (off := 102) (tgt := 113) hx hb d_P_readNext_11 (by decide) (by decide) (by decide) ?_
          refine lv_aload_n hx hb d_P_readNext_113 rfl (lv_at hl 1 rfl) ?_
          refine lv_iload_n hx hb d_P_readNext_114 rfl (lv_at hl 0 rfl) ?_
          have hPc := hP.sub (ws' := (rw_W h q g hm qm gm so sg sx I A M MB L)) [0, 1, 2, 3, 4, 5, 6, 7, 8, 9, 10, 11] rfl
          have hDc := hD.sub (ws' := (rw_W h q g hm qm gm so sg sx I A M MB L)) [0, 1, 2, 3, 4, 5, 6, 7, 8, 9, 10, 11] (by decide) rfl
          have hKc := hK.sub (tys' := (rw_T h q g hm qm gm so sg sx)) [0, 1, 2, 3, 4, 5, 6, 7, 8, 9] rfl
          have hFc := va_free (wc := (rw_W h q g hm qm gm so sg sx I A M MB L)) hD hS hA [0, 1, 2, 3, 4, 5, 6, 7, 8, 9, 10, 11] rfl
          cases hg1 : f_P_repeatPart sx I A M MB L (sx ((I 7)).toNatClampNeg) with
          | none => rw [hg1] at hf; cases hf
          | some z1 =>
            obtain ⟨r1, I1, A1, M1, MB1, L1⟩ := z1
            rw [hg1] at hf
            dsimp only [Option.bind_some] at hf
            refine va_callv (va_runV (As := [.int (sx ((I 7)).toNatClampNeg)]) (rest := []) ⟨hx, hb, hml, hown, hts⟩ (cm_P_repeatPart l dC dI h q g hm qm gm so sg sx _  I A M MB L (sx ((I 7)).toNatClampNeg) r1 I1 A1 M1 MB1 L1 hg1) (cwV 1 hts (gd_v lk_368 lk_369 lk_370 lk_348 lk_367) rfl rfl rfl (by decide +kernel) ⟨Nat.le_of_ble_eq_true rfl, Nat.le_of_ble_eq_true rfl⟩) ⟨fun a U g mk q => by obtain ⟨q0, q1, qP, qK, qD⟩ := q; exact ⟨q0, q1, qP, va_K.moved (u := U) (U := U.calling g mk a) (Vm.Alike.refl U.vm) qK, qD⟩, va_recv (ci := 2) (q0 := 0) hK hP rfl rfl, fun U hU hW => ⟨rfl, by rw [hU], by rw [hU]; exact hPc, va_K.moved hW.alike hKc, hDc.weaken (fun _ _ _ _ => trivial)⟩⟩ rfl rfl hl.1 rfl (lv_room (Nat.le_of_ble_eq_true rfl)) d_P_readNext_115 ⟨Nat.le_of_ble_eq_true rfl, Nat.le_of_ble_eq_true rfl⟩) hS (fun q _ h => hFc q h) hFc (fun u t H1 locs ht hvm hw hB hz1 hk1 hS => ?_)
            obtain ⟨hP1, hK1, hD1⟩ := hB
            rw [ht] at hP1
            obtain ⟨hP, hD⟩ := va_join (wr := (([] : List Nat).map (fun i => ((rw_W h q g hm qm gm so sg sx I A M MB L)).getD i (0, .inr (0, []))))) (w1 := (rw_W h q g hm qm gm so sg sx I1 A1 M1 MB1 L1)) hP hD [0, 1, 2, 3, 4, 5, 6, 7, 8, 9, 10, 11] [] rfl rfl (by decide) (by decide) hk1 hFc hP1 hD1
            generalize H1 = H at hP hS ⊢
            have hP := hP.sub (ws' := (rw_W h q g hm qm gm so sg sx I1 A1 M1 MB1 L1)) [0, 1, 2, 3, 4, 5, 6, 7, 8, 9, 10, 11] rfl
            have hD := hD.sub (ws' := (rw_W h q g hm qm gm so sg sx I1 A1 M1 MB1 L1)) [0, 1, 2, 3, 4, 5, 6, 7, 8, 9, 10, 11] (by decide) rfl
            refine lv_goto (tgt := 151) hx hb d_P_readNext_118 (by decide) ?_
            exact blk151 I1 A1 M1 MB1 L1 (upd (fun _ => 0) 1 (sx ((I 7)).toNatClampNeg)) (fun _ => 0) _ _ _ hf (lv_sub hl [1, 0] rfl) hP hD hS
        ·
          have hf := wk_iff hc5 hf
          by_cases hc6 : (sx ((I 7)).toNatClampNeg) = 63
          ·
            have hf := wk_ift hc6 hf
            refine wk_top (w := .int 63) (congrArg _ hc6) ?_
            refine lv_lookup (off := 102) (tgt := 113) hx hb d_P_readNext_11 (by decide) (by decide) (by decide) ?_
            refine lv_aload_n hx hb d_P_readNext_113 rfl (lv_at hl 1 rfl) ?_
            refine lv_iload_n hx hb d_P_readNext_114 rfl (lv_at hl 0 rfl) ?_
            have hPc := hP.sub (ws' := (rw_W h q g hm qm gm so sg sx I A M MB L)) [0, 1, 2, 3, 4, 5, 6, 7, 8, 9, 10, 11] rfl
            have hDc := hD.sub (ws' := (rw_W h q g hm qm gm so sg sx I A M MB L)) [0, 1, 2, 3, 4, 5, 6, 7, 8, 9, 10, 11] (by decide) rfl
            have hKc := hK.sub (tys' := (rw_T h q g hm qm gm so sg sx)) [0, 1, 2, 3, 4, 5, 6, 7, 8, 9] rfl
            have hFc := va_free (wc := (rw_W h q g hm qm gm so sg sx I A M MB L)) hD hS hA [0, 1, 2, 3, 4, 5, 6, 7, 8, 9, 10, 11] rfl
            cases hg1 : f_P_repeatPart sx I A M MB L (sx ((I 7)).toNatClampNeg) with
            | none => rw [hg1] at hf; cases hf
            | some z1 =>
              obtain ⟨r1, I1, A1, M1, MB1, L1⟩ := z1
              rw [hg1] at hf
              dsimp only [Option.bind_some] at hf
              refine va_callv (va_runV (As := [.int (sx ((I 7)).toNatClampNeg)]) (rest := []) ⟨hx, hb, hml, hown, hts⟩ (cm_P_repeatPart l dC dI h q g hm qm gm so sg sx _  I A M MB L (sx ((I 7)).toNatClampNeg) r1 I1 A1 M1 MB1 L1 hg1) (cwV 1 hts (gd_v lk_368 lk_369 lk_370 lk_348 lk_367) rfl rfl rfl (by decide +kernel) ⟨Nat.le_of_ble_eq_true rfl, Nat.le_of_ble_eq_true rfl⟩) ⟨fun a U g mk q => by obtain ⟨q0, q1, qP, qK, qD⟩ := q; exact ⟨q0, q1, qP, va_K.moved (u := U) (U := U.calling g mk a) (Vm.Alike.refl U.vm) qK, qD⟩, va_recv (ci := 2) (q0 := 0) hK hP rfl rfl, fun U hU hW => ⟨rfl, by rw [hU], by rw [hU]; exact hPc, va_K.moved hW.alike hKc, hDc.weaken (fun _ _ _ _ => trivial)⟩⟩ rfl rfl hl.1 rfl (lv_room (Nat.le_of_ble_eq_true rfl)) d_P_readNext_115 ⟨Nat.le_of_ble_eq_true rfl, Nat.le_of_ble_eq_true rfl⟩) hS (fun q _ h => hFc q h) hFc (fun u t H1 locs ht hvm hw hB hz1 hk1 hS => ?_)
              obtain ⟨hP1, hK1, hD1⟩ := hB
              rw [ht] at hP1
              obtain ⟨hP, hD⟩ := va_join (wr := (([] : List Nat).map (fun i => ((rw_W h q g hm qm gm so sg sx I A M MB L)).getD i (0, .inr (0, []))))) (w1 := (rw_W h q g hm qm gm so sg sx I1 A1 M1 MB1 L1)) hP hD [0, 1, 2, 3, 4, 5, 6, 7, 8, 9, 10, 11] [] rfl rfl (by decide) (by decide) hk1 hFc hP1 hD1
              generalize H1 = H at hP hS ⊢
              have hP := hP.sub (ws' := (rw_W h q g hm qm gm so sg sx I1 A1 M1 MB1 L1)) [0, 1, 2, 3, 4, 5, 6, 7, 8, 9, 10, 11] rfl
              have hD := hD.sub (ws' := (rw_W h q g hm qm gm so sg sx I1 A1 M1 MB1 L1)) [0, 1, 2, 3, 4, 5, 6, 7, 8, 9, 10, 11] (by decide) rfl
              refine lv_goto (tgt := 151) hx hb d_P_readNext_118 (by decide) ?_
              exact blk151 I1 A1 M1 MB1 L1 (upd (fun _ => 0) 1 (sx ((I 7)).toNatClampNeg)) (fun _ => 0) _ _ _ hf (lv_sub hl [1, 0] rfl) hP hD hS
          ·
            have hf := wk_iff hc6 hf
            by_cases hc7 : (sx ((I 7)).toNatClampNeg) = 91
            ·
              have hf := wk_ift hc7 hf
              refine wk_top (w := .int 91) (congrArg _ hc7) ?_
              refine lv_lookup (off := 110) (tgt := 121) hx hb d_P_readNext_11 (by decide) (by decide) (by decide) ?_
              refine lv_aload_n hx hb d_P_readNext_121 rfl (lv_at hl 1 rfl) ?_
              have hPc := hP.sub (ws' := (rw_W h q g hm qm gm so sg sx I A M MB L)) [0, 1, 2, 3, 4, 5, 6, 7, 8, 9, 10, 11] rfl
              have hDc := hD.sub (ws' := (rw_W h q g hm qm gm so sg sx I A M MB L)) [0, 1, 2, 3, 4, 5, 6, 7, 8, 9, 10, 11] (by decide) rfl
              have hKc := hK.sub (tys' := (rw_T h q g hm qm gm so sg sx)) [0, 1, 2, 3, 4, 5, 6, 7, 8, 9] rfl
              have hFc := va_free (wc := (rw_W h q g hm qm gm so sg sx I A M MB L)) hD hS hA [0, 1, 2, 3, 4, 5, 6, 7, 8, 9, 10, 11] rfl
              cases hg1 : f_P_readSet sx I A M MB L with
              | none => rw [hg1] at hf; cases hf
              | some z1 =>
                obtain ⟨r1, I1, A1, M1, MB1, L1⟩ := z1
                rw [hg1] at hf
                dsimp only [Option.bind_some] at hf
                refine va_callv (va_runV (As := []) (rest := []) ⟨hx, hb, hml, hown, hts⟩ (cm_P_readSet l dC dI h q g hm qm gm so sg sx _  I A M MB L r1 I1 A1 M1 MB1 L1 hg1) (cwV 0 hts (gd_v lk_388 lk_389 lk_390 lk_348 lk_387) rfl rfl rfl (by decide +kernel) ⟨Nat.le_of_ble_eq_true rfl, Nat.le_of_ble_eq_true rfl⟩) ⟨fun a U g mk q => by obtain ⟨q0, q1, qP, qK, qD⟩ := q; exact ⟨q0, q1, qP, va_K.moved (u := U) (U := U.calling g mk a) (Vm.Alike.refl U.vm) qK, qD⟩, va_recv (ci := 2) (q0 := 0) hK hP rfl rfl, fun U hU hW => ⟨rfl, by rw [hU], by rw [hU]; exact hPc, va_K.moved hW.alike hKc, hDc.weaken (fun _ _ _ _ => trivial)⟩⟩ rfl rfl hl.1 rfl (lv_room (Nat.le_of_ble_eq_true rfl)) d_P_readNext_122 ⟨Nat.le_of_ble_eq_true rfl, Nat.le_of_ble_eq_true rfl⟩) hS (fun q _ h => hFc q h) hFc (fun u t H1 locs ht hvm hw hB hz1 hk1 hS => ?_)
                obtain ⟨hP1, hK1, hD1⟩ := hB
                rw [ht] at hP1
                obtain ⟨hP, hD⟩ := va_join (wr := (([] : List Nat).map (fun i => ((rw_W h q g hm qm gm so sg sx I A M MB L)).getD i (0, .inr (0, []))))) (w1 := (rw_W h q g hm qm gm so sg sx I1 A1 M1 MB1 L1)) hP hD [0, 1, 2, 3, 4, 5, 6, 7, 8, 9, 10, 11] [] rfl rfl (by decide) (by decide) hk1 hFc hP1 hD1
                generalize H1 = H at hP hS ⊢
                have hP := hP.sub (ws' := (rw_W h q g hm qm gm so sg sx I1 A1 M1 MB1 L1)) [0, 1, 2, 3, 4, 5, 6, 7, 8, 9, 10, 11] rfl
                have hD := hD.sub (ws' := (rw_W h q g hm qm gm so sg sx I1 A1 M1 MB1 L1)) [0, 1, 2, 3, 4, 5, 6, 7, 8, 9, 10, 11] (by decide) rfl
                refine lv_goto (tgt := 151) hx hb d_P_readNext_125 (by decide) ?_
                exact blk151 I1 A1 M1 MB1 L1 (upd (fun _ => 0) 1 (sx ((I 7)).toNatClampNeg)) (fun _ => 0) _ _ _ hf (lv_sub hl [1, 0] rfl) hP hD hS
            ·
              have hf := wk_iff hc7 hf
              by_cases hc8 : (sx ((I 7)).toNatClampNeg) = 92
              ·
                have hf := wk_ift hc8 hf
                refine wk_top (w := .int 92) (congrArg _ hc8) ?_
                refine lv_lookup (off := 128) (tgt := 139) hx hb d_P_readNext_11 (by decide) (by decide) (by decide) ?_
                refine lv_aload_n hx hb d_P_readNext_139 rfl (lv_at hl 1 rfl) ?_
                have hPc := hP.sub (ws' := (rw_W h q g hm qm gm so sg sx I A M MB L)) [0, 1, 2, 3, 4, 5, 6, 7, 8, 9, 10, 11] rfl
                have hDc := hD.sub (ws' := (rw_W h q g hm qm gm so sg sx I A M MB L)) [0, 1, 2, 3, 4, 5, 6, 7, 8, 9, 10, 11] (by decide) rfl
                have hKc := hK.sub (tys' := (rw_T h q g hm qm gm so sg sx)) [0, 1, 2, 3, 4, 5, 6, 7, 8, 9] rfl
                have hFc := va_free (wc := (rw_W h q g hm qm gm so sg sx I A M MB L)) hD hS hA [0, 1, 2, 3, 4, 5, 6, 7, 8, 9, 10, 11] rfl
                cases hg1 : f_P_readEscaped sx I A M MB L with
                | none => rw [hg1] at hf; cases hf
                | some z1 =>
                  obtain ⟨r1, I1, A1, M1, MB1, L1⟩ := z1
                  rw [hg1] at hf
                  dsimp only [Option.bind_some] at hf
                  refine va_callv (va_runV (As := []) (rest := []) ⟨hx, hb, hml, hown, hts⟩ (cm_P_readEscaped l dC dI h q g hm qm gm so sg sx _  I A M MB L r1 I1 A1 M1 MB1 L1 hg1) (cwV 0 hts (gd_v lk_396 lk_397 lk_398 lk_348 lk_395) rfl rfl rfl (by decide +kernel) ⟨Nat.le_of_ble_eq_true rfl, Nat.le_of_ble_eq_true rfl⟩) ⟨fun a U g mk q => by obtain ⟨q0, q1, qP, qK, qD⟩ := q; exact ⟨q0, q1, qP, va_K.moved (u := U) (U := U.calling g mk a) (Vm.Alike.refl U.vm) qK, qD⟩, va_recv (ci := 2) (q0 := 0) hK hP rfl rfl, fun U hU hW => ⟨rfl, by rw [hU], by rw [hU]; exact hPc, va_K.moved hW.alike hKc, hDc.weaken (fun _ _ _ _ => trivial)⟩⟩ rfl rfl hl.1 rfl (lv_room (Nat.le_of_ble_eq_true rfl)) d_P_readNext_140 ⟨Nat.le_of_ble_eq_true rfl, Nat.le_of_ble_eq_true rfl⟩) hS (fun q _ h => hFc q h) hFc (fun u t H1 locs ht hvm hw hB hz1 hk1 hS => ?_)
                  obtain ⟨hP1, hK1, hD1⟩ := hB
                  rw [ht] at hP1
                  obtain ⟨hP, hD⟩ := va_join (wr := (([] : List Nat).map (fun i => ((rw_W h q g hm qm gm so sg sx I A M MB L)).getD i (0, .inr (0, []))))) (w1 := (rw_W h q g hm qm gm so sg sx I1 A1 M1 MB1 L1)) hP hD [0, 1, 2, 3, 4, 5, 6, 7, 8, 9, 10, 11] [] rfl rfl (by decide) (by decide) hk1 hFc hP1 hD1
                  generalize H1 = H at hP hS ⊢
                  have hP := hP.sub (ws' := (rw_W h q g hm qm gm so sg sx I1 A1 M1 MB1 L1)) [0, 1, 2, 3, 4, 5, 6, 7, 8, 9, 10, 11] rfl
                  have hD := hD.sub (ws' := (rw_W h q g hm qm gm so sg sx I1 A1 M1 MB1 L1)) [0, 1, 2, 3, 4, 5, 6, 7, 8, 9, 10, 11] (by decide) rfl
                  refine lv_goto (tgt := 151) hx hb d_P_readNext_143 (by decide) ?_
                  exact blk151 I1 A1 M1 MB1 L1 (upd (fun _ => 0) 1 (sx ((I 7)).toNatClampNeg)) (fun _ => 0) _ _ _ hf (lv_sub hl [1, 0] rfl) hP hD hS
              ·
                have hf := wk_iff hc8 hf
                by_cases hc9 : (sx ((I 7)).toNatClampNeg) = 93
                ·
                  have hf := wk_ift hc9 hf
                  refine wk_top (w := .int 93) (congrArg _ hc9) ?_
                  refine lv_lookup (off := 117) (tgt := 128) hx hb d_P_readNext_11 (by decide) (by decide) (by decide) ?_
                  refine lv_aload_n hx hb d_P_readNext_128 rfl (lv_at hl 1 rfl) ?_
                  refine lv_aload_n hx hb d_P_readNext_129 rfl (lv_at hl 1 rfl) ?_
                  refine va_get (D := (dC, dI)) (ci := 2) (v := .int (I 7)) (C := R_P) (T := F_P) (N := 13) hx hb hts (fun w h => List.mem_cons_of_mem _ (in_P w h)) hown hK hP 0 rfl rfl 7 (by decide) (hts _ (List.mem_cons_of_mem _ lk_328)) (fun _ h9 => h9) rfl d_P_readNext_130 ?_
                  refine va_put (D := (dC, dI)) (ci := 2) (v := .int (I 7)) (ty := .int) (C := R_P) (T := F_P) (N := 13) hx hb hts (fun w h => List.mem_cons_of_mem _ (in_P w h)) t_P tk_P n_P hown hK hP hD hS 0 rfl rfl 9 (by decide) (hts _ (List.mem_cons_of_mem _ lk_329)) (fun _ h9 => h9) rfl (by decide +kernel) rfl rfl (Nat.le_of_ble_eq_true rfl) d_P_readNext_133 (fun H locs hP hD hS => ?_)
                  obtain ⟨I1, hI1, hf⟩ := wk_letE hf
                  have hP : va_P (dC, dI) vwCl (rw_W h q g hm qm gm so sg sx I1 A M MB L) H := by rw [hI1]; exact hP
                  have hD : va_D B9 (rw_W h q g hm qm gm so sg sx I1 A M MB L) := by rw [hI1]; exact hD
                  clear hI1
                  refine lv_goto (tgt := 151) hx hb d_P_readNext_136 (by decide) ?_
                  exact blk151 I1 A M MB L (upd (fun _ => 0) 1 (sx ((I 7)).toNatClampNeg)) (fun _ => 0) _ _ _ hf (lv_sub hl [1, 0] rfl) hP hD hS
                ·
                  have hf := wk_iff hc9 hf
                  by_cases hc10 : (sx ((I 7)).toNatClampNeg) = 124
                  ·
                    have hf := wk_ift hc10 hf
                    refine wk_top (w := .int 124) (congrArg _ hc10) ?_
                    refine lv_lookup (off := 95) (tgt := 106) hx hb d_P_readNext_11 (by decide) (by decide) (by decide) ?_
                    refine lv_aload_n hx hb d_P_readNext_106 rfl (lv_at hl 1 rfl) ?_
                    have hPc := hP.sub (ws' := (rw_W h q g hm qm gm so sg sx I A M MB L)) [0, 1, 2, 3, 4, 5, 6, 7, 8, 9, 10, 11] rfl
                    have hDc := hD.sub (ws' := (rw_W h q g hm qm gm so sg sx I A M MB L)) [0, 1, 2, 3, 4, 5, 6, 7, 8, 9, 10, 11] (by decide) rfl
                    have hKc := hK.sub (tys' := (rw_T h q g hm qm gm so sg sx)) [0, 1, 2, 3, 4, 5, 6, 7, 8, 9] rfl
                    have hFc := va_free (wc := (rw_W h q g hm qm gm so sg sx I A M MB L)) hD hS hA [0, 1, 2, 3, 4, 5, 6, 7, 8, 9, 10, 11] rfl
                    cases hg1 : f_P_openRow sx I A M MB L with
                    | none => rw [hg1] at hf; cases hf
                    | some z1 =>
                      obtain ⟨r1, I1, A1, M1, MB1, L1⟩ := z1
                      rw [hg1] at hf
                      dsimp only [Option.bind_some] at hf
                      refine va_callv (va_runV (As := []) (rest := []) ⟨hx, hb, hml, hown, hts⟩ (cm_P_openRow l dC dI h q g hm qm gm so sg sx _  I A M MB L r1 I1 A1 M1 MB1 L1 hg1) (cwV 0 hts (gd_v lk_400 lk_401 lk_402 lk_348 lk_399) rfl rfl rfl (by decide +kernel) ⟨Nat.le_of_ble_eq_true rfl, Nat.le_of_ble_eq_true rfl⟩) ⟨fun a U g mk q => by obtain ⟨q0, q1, qP, qK, qD⟩ := q; exact ⟨q0, q1, qP, va_K.moved (u := U) (U := U.calling g mk a) (Vm.Alike.refl U.vm) qK, qD⟩, va_recv (ci := 2) (q0 := 0) hK hP rfl rfl, fun U hU hW => ⟨rfl, by rw [hU], by rw [hU]; exact hPc, va_K.moved hW.alike hKc, hDc.weaken (fun _ _ _ _ => trivial)⟩⟩ rfl rfl hl.1 rfl (lv_room (Nat.le_of_ble_eq_true rfl)) d_P_readNext_107 ⟨Nat.le_of_ble_eq_true rfl, Nat.le_of_ble_eq_true rfl⟩) hS (fun q _ h => hFc q h) hFc (fun u t H1 locs ht hvm hw hB hz1 hk1 hS => ?_)
                      obtain ⟨hP1, hK1, hD1⟩ := hB
                      rw [ht] at hP1
                      obtain ⟨hP, hD⟩ := va_join (wr := (([] : List Nat).map (fun i => ((rw_W h q g hm qm gm so sg sx I A M MB L)).getD i (0, .inr (0, []))))) (w1 := (rw_W h q g hm qm gm so sg sx I1 A1 M1 MB1 L1)) hP hD [0, 1, 2, 3, 4, 5, 6, 7, 8, 9, 10, 11] [] rfl rfl (by decide) (by decide) hk1 hFc hP1 hD1
                      generalize H1 = H at hP hS ⊢
                      have hP := hP.sub (ws' := (rw_W h q g hm qm gm so sg sx I1 A1 M1 MB1 L1)) [0, 1, 2, 3, 4, 5, 6, 7, 8, 9, 10, 11] rfl
                      have hD := hD.sub (ws' := (rw_W h q g hm qm gm so sg sx I1 A1 M1 MB1 L1)) [0, 1, 2, 3, 4, 5, 6, 7, 8, 9, 10, 11] (by decide) rfl
                      refine lv_goto (tgt := 151) hx hb d_P_readNext_110 (by decide) ?_
                      exact blk151 I1 A1 M1 MB1 L1 (upd (fun _ => 0) 1 (sx ((I 7)).toNatClampNeg)) (fun _ => 0) _ _ _ hf (lv_sub hl [1, 0] rfl) hP hD hS
                  ·
                    have hf := wk_iff hc10 hf
                    refine lv_lookup (off := 135) (tgt := 146) hx hb d_P_readNext_11 (by decide) (by refine (lv_osw hc2 (by decide)).trans ?_; refine (lv_osw hc3 (by decide)).trans ?_; refine (lv_osw hc4 (by decide)).trans ?_; refine (lv_osw hc5 (by decide)).trans ?_; refine (lv_osw hc6 (by decide)).trans ?_; refine (lv_osw hc7 (by decide)).trans ?_; refine (lv_osw hc8 (by decide)).trans ?_; refine (lv_osw hc9 (by decide)).trans ?_; refine (lv_osw hc10 (by decide)).trans ?_; rfl) (by decide) ?_
                    refine lv_aload_n hx hb d_P_readNext_146 rfl (lv_at hl 1 rfl) ?_
                    refine lv_iload_n hx hb d_P_readNext_147 rfl (lv_at hl 0 rfl) ?_
                    have hPc := hP.sub (ws' := (rw_W h q g hm qm gm so sg sx I A M MB L)) [0, 1, 2, 3, 4, 5, 6, 7, 8, 9, 10, 11] rfl
                    have hDc := hD.sub (ws' := (rw_W h q g hm qm gm so sg sx I A M MB L)) [0, 1, 2, 3, 4, 5, 6, 7, 8, 9, 10, 11] (by decide) rfl
                    have hKc := hK.sub (tys' := (rw_T h q g hm qm gm so sg sx)) [0, 1, 2, 3, 4, 5, 6, 7, 8, 9] rfl
                    have hFc := va_free (wc := (rw_W h q g hm qm gm so sg sx I A M MB L)) hD hS hA [0, 1, 2, 3, 4, 5, 6, 7, 8, 9, 10, 11] rfl
                    cases hg1 : f_P_readSingle sx I A M MB L (sx ((I 7)).toNatClampNeg) with
                    | none => rw [hg1] at hf; cases hf
                    | some z1 =>
                      obtain ⟨r1, I1, A1, M1, MB1, L1⟩ := z1
                      rw [hg1] at hf
                      dsimp only [Option.bind_some] at hf
                      refine va_callv (va_runV (As := [.int (sx ((I 7)).toNatClampNeg)]) (rest := []) ⟨hx, hb, hml, hown, hts⟩ (cm_P_readSingle l dC dI h q g hm qm gm so sg sx _  I A M MB L (sx ((I 7)).toNatClampNeg) r1 I1 A1 M1 MB1 L1 hg1) (cwV 1 hts (gd_v lk_408 lk_409 lk_410 lk_348 lk_407) rfl rfl rfl (by decide +kernel) ⟨Nat.le_of_ble_eq_true rfl, Nat.le_of_ble_eq_true rfl⟩) ⟨fun a U g mk q => by obtain ⟨q0, q1, qP, qK, qD⟩ := q; exact ⟨q0, q1, qP, va_K.moved (u := U) (U := U.calling g mk a) (Vm.Alike.refl U.vm) qK, qD⟩, va_recv (ci := 2) (q0 := 0) hK hP rfl rfl, fun U hU hW => ⟨rfl, by rw [hU], by rw [hU]; exact hPc, va_K.moved hW.alike hKc, hDc.weaken (fun _ _ _ _ => trivial)⟩⟩ rfl rfl hl.1 rfl (lv_room (Nat.le_of_ble_eq_true rfl)) d_P_readNext_148 ⟨Nat.le_of_ble_eq_true rfl, Nat.le_of_ble_eq_true rfl⟩) hS (fun q _ h => hFc q h) hFc (fun u t H1 locs ht hvm hw hB hz1 hk1 hS => ?_)
                      obtain ⟨hP1, hK1, hD1⟩ := hB
                      rw [ht] at hP1
                      obtain ⟨hP, hD⟩ := va_join (wr := (([] : List Nat).map (fun i => ((rw_W h q g hm qm gm so sg sx I A M MB L)).getD i (0, .inr (0, []))))) (w1 := (rw_W h q g hm qm gm so sg sx I1 A1 M1 MB1 L1)) hP hD [0, 1, 2, 3, 4, 5, 6, 7, 8, 9, 10, 11] [] rfl rfl (by decide) (by decide) hk1 hFc hP1 hD1
                      generalize H1 = H at hP hS ⊢
                      have hP := hP.sub (ws' := (rw_W h q g hm qm gm so sg sx I1 A1 M1 MB1 L1)) [0, 1, 2, 3, 4, 5, 6, 7, 8, 9, 10, 11] rfl
                      have hD := hD.sub (ws' := (rw_W h q g hm qm gm so sg sx I1 A1 M1 MB1 L1)) [0, 1, 2, 3, 4, 5, 6, 7, 8, 9, 10, 11] (by decide) rfl
                      exact blk151 I1 A1 M1 MB1 L1 (upd (fun _ => 0) 1 (sx ((I 7)).toNatClampNeg)) (fun _ => 0) _ _ _ hf (lv_sub hl [1, 0] rfl) hP hD hS

set_option maxHeartbeats 8000000 in
set_option maxRecDepth 100000 in
theorem cm_P_finish (l : Launch) (dC : Nat → ClassId) (dI : Nat → Nat → Nat) (h : Nat) (q : Nat → Nat) (g : Nat → ClassId) (hm : Nat) (qm : Nat → Nat) (gm : Nat → ClassId) (so : Nat) (sg : ClassId) (sx : Nat → Int32) (sz : Nat) (I : MI) (A : MA) (M : MI) (MB : MA) (L : ML) (r : Int32) (I' : MI) (A' : MA) (M' : MI) (MB' : MA) (L' : ML) (hf : f_P_finish sx I A M MB L  = some (r, I', A', M', MB', L')) : Met l y_P_finish w_P_finish ({ frames := 0, cells := 0, slots := 0, locals := 0 }) (va_Pc [.ref h] (fun U => U.heap.size = sz ∧ va_P (dC, dI) vwCl (rw_W h q g hm qm gm so sg sx I A M MB L) U.heap ∧ va_K (dC, dI) vwCl (rw_T h q g hm qm gm so sg sx) U ∧ va_D (fun _ => True) (rw_W h q g hm qm gm so sg sx I A M MB L))) (va_Qv (fun (u : Unit) => u = u) (fun (_ : Unit) t => va_P (dC, dI) vwCl (rw_W h q g hm qm gm so sg sx I' A' M' MB' L') t.heap ∧ va_K (dC, dI) vwCl (rw_T h q g hm qm gm so sg sx) t ∧ va_D (va_A (rw_W h q g hm qm gm so sg sx I A M MB L) sz) (rw_W h q g hm qm gm so sg sx I' A' M' MB' L')) (va_A (rw_W h q g hm qm gm so sg sx I A M MB L) sz)) 0 0 (va_A (rw_W h q g hm qm gm so sg sx I A M MB L) sz) := by
  refine Met.ofW (cc := prog_3_method_4_code) (maxL := 1) (ret := none) (by decide) rfl ?_
  intro p e s m args below meth c s₁ B hml hv
  obtain ⟨rfl, hsz, hP, hK, hD0⟩ := hv
  have hx := B.exec
  have hb := B.bytes
  have hr := B.returns
  have hts := atoms_spec (ws := w_P_finish) B.pre
  have hown : s.vm.findClass "DraftTree$PatternReader" = some m.cls := findClass_of_methodNamed B.named
  have hlocks := B.notSynchronized
  subst hsz
  have hD := hD0.self (sz := s.heap.size)
  generalize hAe : va_A (rw_W h q g hm qm gm so sg sx I A M MB L) s.heap.size = B9 at hD ⊢
  have hA : ∀ q : Nat, s.heap.size ≤ q → B9 q := fun q h => by rw [← hAe]; exact Or.inr h
  clear hAe
  have hS : va_S B9 s.heap s.heap [] := va_S.rf
  have hl := lv_entry ([.ref h]) (n := 1) (Nat.le_of_ble_eq_true rfl)
  rw [lg_entry_eq]
  generalize (lg_sl ([.ref h]) ++ List.replicate (1 - (lg_sl ([.ref h])).length) Slot.unset).toArray = ls at hl ⊢
  have hl : lv_has ls 1 [(0, .ref h)] := hl
  unfold f_P_finish at hf
  refine lv_aload_n hx hb d_P_finish_0 rfl (lv_at hl 0 rfl) ?_
  refine va_get (D := (dC, dI)) (ci := 2) (v := .ref hm) (C := R_P) (T := F_P) (N := 13) hx hb hts (fun w h => List.mem_cons_of_mem _ (in_P w h)) hown hK hP 0 rfl rfl 4 (by decide) (hts _ (List.mem_cons_of_mem _ lk_330)) (fun _ h9 => h9) rfl d_P_finish_1 ?_
  refine va_get (D := (dC, dI)) (ci := 3) (v := .ref (qm 1)) (C := R_A) (T := F_A) (N := 10) hx hb hts (fun w h => List.mem_cons_of_mem _ (in_A w h)) hown hK hP 5 rfl rfl 1 (by decide) (hts _ (List.mem_cons_of_mem _ lk_357)) (fun _ h9 => h9) rfl d_P_finish_4 ?_
  refine lv_aload_n hx hb d_P_finish_7 rfl (lv_at hl 0 rfl) ?_
  refine va_get (D := (dC, dI)) (ci := 2) (v := .int (I 12)) (C := R_P) (T := F_P) (N := 13) hx hb hts (fun w h => List.mem_cons_of_mem _ (in_P w h)) hown hK hP 0 rfl rfl 12 (by decide) (hts _ (List.mem_cons_of_mem _ lk_343)) (fun _ h9 => h9) rfl d_P_finish_8 ?_
  refine lv_aload_n hx hb d_P_finish_11 rfl (lv_at hl 0 rfl) ?_
  refine va_get (D := (dC, dI)) (ci := 2) (v := .ref (q 1)) (C := R_P) (T := F_P) (N := 13) hx hb hts (fun w h => List.mem_cons_of_mem _ (in_P w h)) hown hK hP 0 rfl rfl 1 (by decide) (hts _ (List.mem_cons_of_mem _ lk_338)) (fun _ h9 => h9) rfl d_P_finish_12 ?_
  refine lv_iconst (v := 0) hx hb d_P_finish_15 (by decide) ?_
  obtain ⟨hc1, hf⟩ := wk_if hf
  refine va_iald hx hb hK hP 2 1 rfl rfl (wk_inb_ok hc1) d_P_finish_16 ?_
  obtain ⟨hc2, hf⟩ := wk_if hf
  refine va_iast hx hb hK hP hD hS 7 5 rfl rfl (wk_inb_ok hc2) d_P_finish_17 (fun H locs hP hD hS => ?_)
  obtain ⟨MB1, hMB1, hf⟩ := wk_letE hf
  have hP : va_P (dC, dI) vwCl (rw_W h q g hm qm gm so sg sx I A M MB1 L) H := by rw [hMB1]; exact hP
  have hD : va_D B9 (rw_W h q g hm qm gm so sg sx I A M MB1 L) := by rw [hMB1]; exact hD
  clear hMB1
  refine lv_aload_n hx hb d_P_finish_18 rfl (lv_at hl 0 rfl) ?_
  refine va_get (D := (dC, dI)) (ci := 2) (v := .ref hm) (C := R_P) (T := F_P) (N := 13) hx hb hts (fun w h => List.mem_cons_of_mem _ (in_P w h)) hown hK hP 0 rfl rfl 4 (by decide) (hts _ (List.mem_cons_of_mem _ lk_330)) (fun _ h9 => h9) rfl d_P_finish_19 ?_
  refine lv_aload_n hx hb d_P_finish_22 rfl (lv_at hl 0 rfl) ?_
  refine va_get (D := (dC, dI)) (ci := 2) (v := .ref (q 0)) (C := R_P) (T := F_P) (N := 13) hx hb hts (fun w h => List.mem_cons_of_mem _ (in_P w h)) hown hK hP 0 rfl rfl 0 (by decide) (hts _ (List.mem_cons_of_mem _ lk_337)) (fun _ h9 => h9) rfl d_P_finish_23 ?_
  refine lv_iconst (v := 0) hx hb d_P_finish_26 (by decide) ?_
  obtain ⟨hc3, hf⟩ := wk_if hf
  refine va_iald hx hb hK hP 1 0 rfl rfl (wk_inb_ok hc3) d_P_finish_27 ?_
  refine va_put (D := (dC, dI)) (ci := 3) (v := .int (A 0 (0 : Int32).toNatClampNeg)) (ty := .int) (C := R_A) (T := F_A) (N := 10) hx hb hts (fun w h => List.mem_cons_of_mem _ (in_A w h)) t_A tk_A n_A hown hK hP hD hS 5 rfl rfl 6 (by decide) (hts _ (List.mem_cons_of_mem _ lk_415)) (fun _ h9 => h9) rfl (by decide +kernel) rfl rfl (Nat.le_of_ble_eq_true rfl) d_P_finish_28 (fun H locs hP hD hS => ?_)
  obtain ⟨M2, hM2, hf⟩ := wk_letE hf
  have hP : va_P (dC, dI) vwCl (rw_W h q g hm qm gm so sg sx I A M2 MB1 L) H := by rw [hM2]; exact hP
  have hD : va_D B9 (rw_W h q g hm qm gm so sg sx I A M2 MB1 L) := by rw [hM2]; exact hD
  clear hM2
  refine lv_aload_n hx hb d_P_finish_31 rfl (lv_at hl 0 rfl) ?_
  refine va_get (D := (dC, dI)) (ci := 2) (v := .ref hm) (C := R_P) (T := F_P) (N := 13) hx hb hts (fun w h => List.mem_cons_of_mem _ (in_P w h)) hown hK hP 0 rfl rfl 4 (by decide) (hts _ (List.mem_cons_of_mem _ lk_330)) (fun _ h9 => h9) rfl d_P_finish_32 ?_
  refine lv_aload_n hx hb d_P_finish_35 rfl (lv_at hl 0 rfl) ?_
  refine va_get (D := (dC, dI)) (ci := 2) (v := .ref (q 1)) (C := R_P) (T := F_P) (N := 13) hx hb hts (fun w h => List.mem_cons_of_mem _ (in_P w h)) hown hK hP 0 rfl rfl 1 (by decide) (hts _ (List.mem_cons_of_mem _ lk_338)) (fun _ h9 => h9) rfl d_P_finish_36 ?_
  refine lv_iconst (v := 0) hx hb d_P_finish_39 (by decide) ?_
  obtain ⟨hc4, hf⟩ := wk_if hf
  refine va_iald hx hb hK hP 2 1 rfl rfl (wk_inb_ok hc4) d_P_finish_40 ?_
  refine va_put (D := (dC, dI)) (ci := 3) (v := .int (A 1 (0 : Int32).toNatClampNeg)) (ty := .int) (C := R_A) (T := F_A) (N := 10) hx hb hts (fun w h => List.mem_cons_of_mem _ (in_A w h)) t_A tk_A n_A hown hK hP hD hS 5 rfl rfl 7 (by decide) (hts _ (List.mem_cons_of_mem _ lk_416)) (fun _ h9 => h9) rfl (by decide +kernel) rfl rfl (Nat.le_of_ble_eq_true rfl) d_P_finish_41 (fun H locs hP hD hS => ?_)
  obtain ⟨M3, hM3, hf⟩ := wk_letE hf
  have hP : va_P (dC, dI) vwCl (rw_W h q g hm qm gm so sg sx I A M3 MB1 L) H := by rw [hM3]; exact hP
  have hD : va_D B9 (rw_W h q g hm qm gm so sg sx I A M3 MB1 L) := by rw [hM3]; exact hD
  clear hM3
  obtain ⟨e0, e1, e2, e3, e4, e5⟩ := wk_inj5 hf
  subst e0
  subst e1
  subst e2
  subst e3
  subst e4
  subst e5
  exact W.vret hx hb hr (fun t ht hW => ⟨⟨(), rfl, rfl, by rw [ht]; exact hP, va_K.moved hW.alike hK, hD⟩, hS.F ht⟩) hS.2.2 d_P_finish_44

set_option maxHeartbeats 8000000 in
set_option maxRecDepth 100000 in
theorem cm_P_read (l : Launch) (dC : Nat → ClassId) (dI : Nat → Nat → Nat) (h : Nat) (q : Nat → Nat) (g : Nat → ClassId) (hm : Nat) (qm : Nat → Nat) (gm : Nat → ClassId) (so : Nat) (sg : ClassId) (sx : Nat → Int32) (sf : Value) (sz : Nat) (I : MI) (A : MA) (M : MI) (MB : MA) (L : ML) (k2 : Int32) (r : Int32) (I' : MI) (A' : MA) (M' : MI) (MB' : MA) (L' : ML) (hf : f_P_read sx I A M MB L  k2 = some (r, I', A', M', MB', L')) : Met l y_P_read w_P_read ({ frames := 5, cells := 0, slots := 0, locals := 108 }) (va_Pc [.ref h, .ref so, .int k2] (fun U => U.heap.size = sz ∧ va_P (dC, dI) vwCl (rq_W h q g hm qm gm so sg sx sf I A M MB L) U.heap ∧ va_K (dC, dI) vwCl (rq_T h q g hm qm gm so sg sx sf) U ∧ va_D (fun _ => True) (rq_W h q g hm qm gm so sg sx sf I A M MB L))) (va_Qi (fun (r9 : Int32) (_ : Unit) => r9 = r) (fun (_ : Unit) t => va_P (dC, dI) vwCl (rw_W h q g hm qm gm so sg sx I' A' M' MB' L') t.heap ∧ va_K (dC, dI) vwCl (rq_T h q g hm qm gm so sg sx sf) t ∧ va_D (va_A (rq_W h q g hm qm gm so sg sx sf I A M MB L) sz) (rw_W h q g hm qm gm so sg sx I' A' M' MB' L')) (va_A (rq_W h q g hm qm gm so sg sx sf I A M MB L) sz)) 0 0 (va_A (rq_W h q g hm qm gm so sg sx sf I A M MB L) sz) := by
  refine Met.ofW (cc := prog_3_method_3_code) (maxL := 4) (ret := (some .int)) (by decide) rfl ?_
  intro p e s m args below meth c s₁ B hml hv
  obtain ⟨rfl, hsz, hP, hK, hD0⟩ := hv
  have hx := B.exec
  have hb := B.bytes
  have hr := B.returns
  have hts := atoms_spec (ws := w_P_read) B.pre
  have hown : s.vm.findClass "DraftTree$PatternReader" = some m.cls := findClass_of_methodNamed B.named
  have hlocks := B.notSynchronized
  subst hsz
  have hD := hD0.self (sz := s.heap.size)
  generalize hAe : va_A (rq_W h q g hm qm gm so sg sx sf I A M MB L) s.heap.size = B9 at hD ⊢
  have hA : ∀ q : Nat, s.heap.size ≤ q → B9 q := fun q h => by rw [← hAe]; exact Or.inr h
  clear hAe
  have hS : va_S B9 s.heap s.heap [] := va_S.rf
  have hl := lv_entry ([.ref h, .ref so, .int k2]) (n := 4) (Nat.le_of_ble_eq_true rfl)
  rw [lg_entry_eq]
  generalize (lg_sl ([.ref h, .ref so, .int k2]) ++ List.replicate (4 - (lg_sl ([.ref h, .ref so, .int k2])).length) Slot.unset).toArray = ls at hl ⊢
  have hl : lv_has ls 4 [(0, .ref h), (1, .ref so), (2, .int k2)] := hl
  have blk112 : ∀ (rc : Nat → MI → MA → MI → MA → ML → (Nat → Int32) → (Nat → Int64) → Option (Int32 × MI × MA × MI × MA × ML)) (hrc40 : ∀ (I : MI) (A : MA) (M : MI) (MB : MA) (L : ML) (X : Nat → Int32) (Y : Nat → Int64) (ls : Array Slot) (H : Heap) (locs : List Loc), rc 40 I A M MB L X Y = some (r, I', A', M', MB', L') → lv_has ls 4 [(0, .ref h), (1, .ref so), (2, .int (X 2)), (3, .int (X 3))] → va_P (dC, dI) vwCl (rw_W h q g hm qm gm so sg sx I A M MB L) H → va_D B9 (rw_W h q g hm qm gm so sg sx I A M MB L) → va_S B9 s.heap H locs → W p l e (headSpec w_P_read ({ frames := 5, cells := 0, slots := 0, locals := 108 })).room s m ([.ref h, .ref so, .int k2] : List Value).toArray below meth c H locs 0 0 (MQ below (va_Qi (fun (r9 : Int32) (_ : Unit) => r9 = r) (fun (_ : Unit) t => va_P (dC, dI) vwCl (rw_W h q g hm qm gm so sg sx I' A' M' MB' L') t.heap ∧ va_K (dC, dI) vwCl (rq_T h q g hm qm gm so sg sx sf) t ∧ va_D B9 (rw_W h q g hm qm gm so sg sx I' A' M' MB' L')) B9) ([.ref h, .ref so, .int k2] : List Value).toArray s 0 0 B9) (F0 m 40 ls [])), ∀ (I : MI) (A : MA) (M : MI) (MB : MA) (L : ML) (X : Nat → Int32) (Y : Nat → Int64) (ls : Array Slot) (H : Heap) (locs : List Loc), f_P_read_112 sx rc I A M MB L X Y = some (r, I', A', M', MB', L') → lv_has ls 4 [(0, .ref h), (1, .ref so), (2, .int (X 2)), (3, .int (X 3))] → va_P (dC, dI) vwCl (rw_W h q g hm qm gm so sg sx I A M MB L) H → va_D B9 (rw_W h q g hm qm gm so sg sx I A M MB L) → va_S B9 s.heap H locs → W p l e (headSpec w_P_read ({ frames := 5, cells := 0, slots := 0, locals := 108 })).room s m ([.ref h, .ref so, .int k2] : List Value).toArray below meth c H locs 0 0 (MQ below (va_Qi (fun (r9 : Int32) (_ : Unit) => r9 = r) (fun (_ : Unit) t => va_P (dC, dI) vwCl (rw_W h q g hm qm gm so sg sx I' A' M' MB' L') t.heap ∧ va_K (dC, dI) vwCl (rq_T h q g hm qm gm so sg sx sf) t ∧ va_D B9 (rw_W h q g hm qm gm so sg sx I' A' M' MB' L')) B9) ([.ref h, .ref so, .int k2] : List Value).toArray s 0 0 B9) (F0 m 112 ls []) := by
    intro rc hrc40 I A M MB L X Y ls H locs hf hl hP hD hS
    unfold f_P_read_112 at hf
    refine lv_aload_n hx hb d_P_read_112 rfl (lv_at hl 0 rfl) ?_
    refine va_get (D := (dC, dI)) (ci := 2) (v := .int (I 9)) (C := R_P) (T := F_P) (N := 13) hx hb hts (fun w h => List.mem_cons_of_mem _ (in_P w h)) hown hK hP 0 rfl rfl 9 (by decide) (hts _ (List.mem_cons_of_mem _ lk_329)) (fun _ h9 => h9) rfl d_P_read_113 ?_
    obtain ⟨e0, e1, e2, e3, e4, e5⟩ := wk_inj5 hf
    subst e0
    subst e1
    subst e2
    subst e3
    subst e4
    subst e5
    exact W.iret (v := (I 9)) hx hb hr (fun t ht hW => ⟨⟨(I 9), (), rfl, rfl, by rw [ht]; exact hP, va_K.moved hW.alike hK, hD⟩, hS.F ht⟩) hS.2.2 d_P_read_116
  have blk100 : ∀ (rc : Nat → MI → MA → MI → MA → ML → (Nat → Int32) → (Nat → Int64) → Option (Int32 × MI × MA × MI × MA × ML)) (hrc40 : ∀ (I : MI) (A : MA) (M : MI) (MB : MA) (L : ML) (X : Nat → Int32) (Y : Nat → Int64) (ls : Array Slot) (H : Heap) (locs : List Loc), rc 40 I A M MB L X Y = some (r, I', A', M', MB', L') → lv_has ls 4 [(0, .ref h), (1, .ref so), (2, .int (X 2)), (3, .int (X 3))] → va_P (dC, dI) vwCl (rw_W h q g hm qm gm so sg sx I A M MB L) H → va_D B9 (rw_W h q g hm qm gm so sg sx I A M MB L) → va_S B9 s.heap H locs → W p l e (headSpec w_P_read ({ frames := 5, cells := 0, slots := 0, locals := 108 })).room s m ([.ref h, .ref so, .int k2] : List Value).toArray below meth c H locs 0 0 (MQ below (va_Qi (fun (r9 : Int32) (_ : Unit) => r9 = r) (fun (_ : Unit) t => va_P (dC, dI) vwCl (rw_W h q g hm qm gm so sg sx I' A' M' MB' L') t.heap ∧ va_K (dC, dI) vwCl (rq_T h q g hm qm gm so sg sx sf) t ∧ va_D B9 (rw_W h q g hm qm gm so sg sx I' A' M' MB' L')) B9) ([.ref h, .ref so, .int k2] : List Value).toArray s 0 0 B9) (F0 m 40 ls [])), ∀ (I : MI) (A : MA) (M : MI) (MB : MA) (L : ML) (X : Nat → Int32) (Y : Nat → Int64) (ls : Array Slot) (H : Heap) (locs : List Loc), f_P_read_100 sx rc I A M MB L X Y = some (r, I', A', M', MB', L') → lv_has ls 4 [(0, .ref h), (1, .ref so), (2, .int (X 2)), (3, .int (X 3))] → va_P (dC, dI) vwCl (rw_W h q g hm qm gm so sg sx I A M MB L) H → va_D B9 (rw_W h q g hm qm gm so sg sx I A M MB L) → va_S B9 s.heap H locs → W p l e (headSpec w_P_read ({ frames := 5, cells := 0, slots := 0, locals := 108 })).room s m ([.ref h, .ref so, .int k2] : List Value).toArray below meth c H locs 0 0 (MQ below (va_Qi (fun (r9 : Int32) (_ : Unit) => r9 = r) (fun (_ : Unit) t => va_P (dC, dI) vwCl (rw_W h q g hm qm gm so sg sx I' A' M' MB' L') t.heap ∧ va_K (dC, dI) vwCl (rq_T h q g hm qm gm so sg sx sf) t ∧ va_D B9 (rw_W h q g hm qm gm so sg sx I' A' M' MB' L')) B9) ([.ref h, .ref so, .int k2] : List Value).toArray s 0 0 B9) (F0 m 100 ls []) := by
    intro rc hrc40 I A M MB L X Y ls H locs hf hl hP hD hS
    unfold f_P_read_100 at hf
    refine lv_aload_n hx hb d_P_read_100 rfl (lv_at hl 0 rfl) ?_
    refine va_get (D := (dC, dI)) (ci := 2) (v := .int (I 9)) (C := R_P) (T := F_P) (N := 13) hx hb hts (fun w h => List.mem_cons_of_mem _ (in_P w h)) hown hK hP 0 rfl rfl 9 (by decide) (hts _ (List.mem_cons_of_mem _ lk_329)) (fun _ h9 => h9) rfl d_P_read_101 ?_
    refine lv_iconst (v := (-1)) hx hb d_P_read_104 (by decide) ?_
    refine lv_icmp_ne (tgt := 112) hx hb d_P_read_105 (by decide) (fun hc1 => ?_) (fun hc1 => ?_)
    ·
      have hf := wk_iff hc1 hf
      exact blk112 rc hrc40 I A M MB L X Y _ _ _ hf (lv_sub hl [0, 1, 2, 3] rfl) hP hD hS
    ·
      have hf := wk_ift hc1 hf
      refine lv_aload_n hx hb d_P_read_108 rfl (lv_at hl 0 rfl) ?_
      have hPc := hP.sub (ws' := (rw_W h q g hm qm gm so sg sx I A M MB L)) [0, 1, 2, 3, 4, 5, 6, 7, 8, 9, 10, 11] rfl
      have hDc := hD.sub (ws' := (rw_W h q g hm qm gm so sg sx I A M MB L)) [0, 1, 2, 3, 4, 5, 6, 7, 8, 9, 10, 11] (by decide) rfl
      have hKc := hK.sub (tys' := (rw_T h q g hm qm gm so sg sx)) [0, 1, 2, 3, 4, 5, 6, 7, 8, 9] rfl
      have hFc := va_free (wc := (rw_W h q g hm qm gm so sg sx I A M MB L)) hD hS hA [0, 1, 2, 3, 4, 5, 6, 7, 8, 9, 10, 11] rfl
      cases hg1 : f_P_finish sx I A M MB L with
      | none => rw [hg1] at hf; cases hf
      | some z1 =>
        obtain ⟨r1, I1, A1, M1, MB1, L1⟩ := z1
        rw [hg1] at hf
        dsimp only [Option.bind_some] at hf
        refine va_callv (va_runV (As := []) (rest := []) ⟨hx, hb, hml, hown, hts⟩ (cm_P_finish l dC dI h q g hm qm gm so sg sx _  I A M MB L r1 I1 A1 M1 MB1 L1 hg1) (cwV 0 hts (gd_v lk_418 lk_419 lk_420 lk_348 lk_417) rfl rfl rfl (by decide +kernel) ⟨Nat.le_of_ble_eq_true rfl, Nat.le_of_ble_eq_true rfl⟩) ⟨fun a U g mk q => by obtain ⟨q0, q1, qP, qK, qD⟩ := q; exact ⟨q0, q1, qP, va_K.moved (u := U) (U := U.calling g mk a) (Vm.Alike.refl U.vm) qK, qD⟩, va_recv (ci := 2) (q0 := 0) hK hP rfl rfl, fun U hU hW => ⟨rfl, by rw [hU], by rw [hU]; exact hPc, va_K.moved hW.alike hKc, hDc.weaken (fun _ _ _ _ => trivial)⟩⟩ rfl rfl hl.1 rfl (lv_room (Nat.le_of_ble_eq_true rfl)) d_P_read_109 ⟨Nat.le_of_ble_eq_true rfl, Nat.le_of_ble_eq_true rfl⟩) hS (fun q _ h => hFc q h) hFc (fun u t H1 locs ht hvm hw hB hz1 hk1 hS => ?_)
        obtain ⟨hP1, hK1, hD1⟩ := hB
        rw [ht] at hP1
        obtain ⟨hP, hD⟩ := va_join (wr := (([] : List Nat).map (fun i => ((rw_W h q g hm qm gm so sg sx I A M MB L)).getD i (0, .inr (0, []))))) (w1 := (rw_W h q g hm qm gm so sg sx I1 A1 M1 MB1 L1)) hP hD [0, 1, 2, 3, 4, 5, 6, 7, 8, 9, 10, 11] [] rfl rfl (by decide) (by decide) hk1 hFc hP1 hD1
        generalize H1 = H at hP hS ⊢
        have hP := hP.sub (ws' := (rw_W h q g hm qm gm so sg sx I1 A1 M1 MB1 L1)) [0, 1, 2, 3, 4, 5, 6, 7, 8, 9, 10, 11] rfl
        have hD := hD.sub (ws' := (rw_W h q g hm qm gm so sg sx I1 A1 M1 MB1 L1)) [0, 1, 2, 3, 4, 5, 6, 7, 8, 9, 10, 11] (by decide) rfl
        exact blk112 rc hrc40 I1 A1 M1 MB1 L1 X Y _ _ _ hf (lv_sub hl [0, 1, 2, 3] rfl) hP hD hS
  have blk77 : ∀ (rc : Nat → MI → MA → MI → MA → ML → (Nat → Int32) → (Nat → Int64) → Option (Int32 × MI × MA × MI × MA × ML)) (hrc40 : ∀ (I : MI) (A : MA) (M : MI) (MB : MA) (L : ML) (X : Nat → Int32) (Y : Nat → Int64) (ls : Array Slot) (H : Heap) (locs : List Loc), rc 40 I A M MB L X Y = some (r, I', A', M', MB', L') → lv_has ls 4 [(0, .ref h), (1, .ref so), (2, .int (X 2)), (3, .int (X 3))] → va_P (dC, dI) vwCl (rw_W h q g hm qm gm so sg sx I A M MB L) H → va_D B9 (rw_W h q g hm qm gm so sg sx I A M MB L) → va_S B9 s.heap H locs → W p l e (headSpec w_P_read ({ frames := 5, cells := 0, slots := 0, locals := 108 })).room s m ([.ref h, .ref so, .int k2] : List Value).toArray below meth c H locs 0 0 (MQ below (va_Qi (fun (r9 : Int32) (_ : Unit) => r9 = r) (fun (_ : Unit) t => va_P (dC, dI) vwCl (rw_W h q g hm qm gm so sg sx I' A' M' MB' L') t.heap ∧ va_K (dC, dI) vwCl (rq_T h q g hm qm gm so sg sx sf) t ∧ va_D B9 (rw_W h q g hm qm gm so sg sx I' A' M' MB' L')) B9) ([.ref h, .ref so, .int k2] : List Value).toArray s 0 0 B9) (F0 m 40 ls [])), ∀ (I : MI) (A : MA) (M : MI) (MB : MA) (L : ML) (X : Nat → Int32) (Y : Nat → Int64) (ls : Array Slot) (H : Heap) (locs : List Loc), f_P_read_77 sx rc I A M MB L X Y = some (r, I', A', M', MB', L') → lv_has ls 4 [(0, .ref h), (1, .ref so), (2, .int (X 2)), (3, .int (X 3))] → va_P (dC, dI) vwCl (rw_W h q g hm qm gm so sg sx I A M MB L) H → va_D B9 (rw_W h q g hm qm gm so sg sx I A M MB L) → va_S B9 s.heap H locs → W p l e (headSpec w_P_read ({ frames := 5, cells := 0, slots := 0, locals := 108 })).room s m ([.ref h, .ref so, .int k2] : List Value).toArray below meth c H locs 0 0 (MQ below (va_Qi (fun (r9 : Int32) (_ : Unit) => r9 = r) (fun (_ : Unit) t => va_P (dC, dI) vwCl (rw_W h q g hm qm gm so sg sx I' A' M' MB' L') t.heap ∧ va_K (dC, dI) vwCl (rq_T h q g hm qm gm so sg sx sf) t ∧ va_D B9 (rw_W h q g hm qm gm so sg sx I' A' M' MB' L')) B9) ([.ref h, .ref so, .int k2] : List Value).toArray s 0 0 B9) (F0 m 77 ls []) := by
    intro rc hrc40 I A M MB L X Y ls H locs hf hl hP hD hS
    unfold f_P_read_77 at hf
    refine lv_aload_n hx hb d_P_read_77 rfl (lv_at hl 0 rfl) ?_
    refine va_get (D := (dC, dI)) (ci := 2) (v := .int (I 9)) (C := R_P) (T := F_P) (N := 13) hx hb hts (fun w h => List.mem_cons_of_mem _ (in_P w h)) hown hK hP 0 rfl rfl 9 (by decide) (hts _ (List.mem_cons_of_mem _ lk_329)) (fun _ h9 => h9) rfl d_P_read_78 ?_
    refine lv_iconst (v := (-1)) hx hb d_P_read_81 (by decide) ?_
    refine lv_icmp_ne (tgt := 100) hx hb d_P_read_82 (by decide) (fun hc1 => ?_) (fun hc1 => ?_)
    ·
      have hf := wk_iff hc1 hf
      exact blk100 rc hrc40 I A M MB L X Y _ _ _ hf (lv_sub hl [0, 1, 2, 3] rfl) hP hD hS
    ·
      have hf := wk_ift hc1 hf
      refine lv_aload_n hx hb d_P_read_85 rfl (lv_at hl 0 rfl) ?_
      refine va_get (D := (dC, dI)) (ci := 2) (v := .int (I 8)) (C := R_P) (T := F_P) (N := 13) hx hb hts (fun w h => List.mem_cons_of_mem _ (in_P w h)) hown hK hP 0 rfl rfl 8 (by decide) (hts _ (List.mem_cons_of_mem _ lk_332)) (fun _ h9 => h9) rfl d_P_read_86 ?_
      refine lv_if_le (tgt := 100) hx hb d_P_read_89 (by decide) (fun hc2 => ?_) (fun hc2 => ?_)
      ·
        have hf := wk_ift hc2 hf
        exact blk100 rc hrc40 I A M MB L X Y _ _ _ hf (lv_sub hl [0, 1, 2, 3] rfl) hP hD hS
      ·
        have hf := wk_iff hc2 hf
        refine lv_aload_n hx hb d_P_read_92 rfl (lv_at hl 0 rfl) ?_
        refine lv_aload_n hx hb d_P_read_93 rfl (lv_at hl 0 rfl) ?_
        refine va_get (D := (dC, dI)) (ci := 2) (v := .int (I 6)) (C := R_P) (T := F_P) (N := 13) hx hb hts (fun w h => List.mem_cons_of_mem _ (in_P w h)) hown hK hP 0 rfl rfl 6 (by decide) (hts _ (List.mem_cons_of_mem _ lk_327)) (fun _ h9 => h9) rfl d_P_read_94 ?_
        refine va_put (D := (dC, dI)) (ci := 2) (v := .int (I 6)) (ty := .int) (C := R_P) (T := F_P) (N := 13) hx hb hts (fun w h => List.mem_cons_of_mem _ (in_P w h)) t_P tk_P n_P hown hK hP hD hS 0 rfl rfl 9 (by decide) (hts _ (List.mem_cons_of_mem _ lk_329)) (fun _ h9 => h9) rfl (by decide +kernel) rfl rfl (Nat.le_of_ble_eq_true rfl) d_P_read_97 (fun H locs hP hD hS => ?_)
        obtain ⟨I1, hI1, hf⟩ := wk_letE hf
        have hP : va_P (dC, dI) vwCl (rw_W h q g hm qm gm so sg sx I1 A M MB L) H := by rw [hI1]; exact hP
        have hD : va_D B9 (rw_W h q g hm qm gm so sg sx I1 A M MB L) := by rw [hI1]; exact hD
        clear hI1
        exact blk100 rc hrc40 I1 A M MB L X Y _ _ _ hf (lv_sub hl [0, 1, 2, 3] rfl) hP hD hS
  have stp40 : ∀ (rc : Nat → MI → MA → MI → MA → ML → (Nat → Int32) → (Nat → Int64) → Option (Int32 × MI × MA × MI × MA × ML)) (hrc40 : ∀ (I : MI) (A : MA) (M : MI) (MB : MA) (L : ML) (X : Nat → Int32) (Y : Nat → Int64) (ls : Array Slot) (H : Heap) (locs : List Loc), rc 40 I A M MB L X Y = some (r, I', A', M', MB', L') → lv_has ls 4 [(0, .ref h), (1, .ref so), (2, .int (X 2)), (3, .int (X 3))] → va_P (dC, dI) vwCl (rw_W h q g hm qm gm so sg sx I A M MB L) H → va_D B9 (rw_W h q g hm qm gm so sg sx I A M MB L) → va_S B9 s.heap H locs → W p l e (headSpec w_P_read ({ frames := 5, cells := 0, slots := 0, locals := 108 })).room s m ([.ref h, .ref so, .int k2] : List Value).toArray below meth c H locs 0 0 (MQ below (va_Qi (fun (r9 : Int32) (_ : Unit) => r9 = r) (fun (_ : Unit) t => va_P (dC, dI) vwCl (rw_W h q g hm qm gm so sg sx I' A' M' MB' L') t.heap ∧ va_K (dC, dI) vwCl (rq_T h q g hm qm gm so sg sx sf) t ∧ va_D B9 (rw_W h q g hm qm gm so sg sx I' A' M' MB' L')) B9) ([.ref h, .ref so, .int k2] : List Value).toArray s 0 0 B9) (F0 m 40 ls [])), ∀ (I : MI) (A : MA) (M : MI) (MB : MA) (L : ML) (X : Nat → Int32) (Y : Nat → Int64) (ls : Array Slot) (H : Heap) (locs : List Loc), f_P_read_40 sx rc I A M MB L X Y = some (r, I', A', M', MB', L') → lv_has ls 4 [(0, .ref h), (1, .ref so), (2, .int (X 2)), (3, .int (X 3))] → va_P (dC, dI) vwCl (rw_W h q g hm qm gm so sg sx I A M MB L) H → va_D B9 (rw_W h q g hm qm gm so sg sx I A M MB L) → va_S B9 s.heap H locs → W p l e (headSpec w_P_read ({ frames := 5, cells := 0, slots := 0, locals := 108 })).room s m ([.ref h, .ref so, .int k2] : List Value).toArray below meth c H locs 0 0 (MQ below (va_Qi (fun (r9 : Int32) (_ : Unit) => r9 = r) (fun (_ : Unit) t => va_P (dC, dI) vwCl (rw_W h q g hm qm gm so sg sx I' A' M' MB' L') t.heap ∧ va_K (dC, dI) vwCl (rq_T h q g hm qm gm so sg sx sf) t ∧ va_D B9 (rw_W h q g hm qm gm so sg sx I' A' M' MB' L')) B9) ([.ref h, .ref so, .int k2] : List Value).toArray s 0 0 B9) (F0 m 40 ls []) := by
    intro rc hrc40 I A M MB L X Y ls H locs hf hl hP hD hS
    unfold f_P_read_40 at hf
    refine lv_iload_n hx hb d_P_read_40 rfl (lv_at hl 3 rfl) ?_
    refine lv_aload_n hx hb d_P_read_41 rfl (lv_at hl 0 rfl) ?_
    refine va_get (D := (dC, dI)) (ci := 2) (v := .int (I 6)) (C := R_P) (T := F_P) (N := 13) hx hb hts (fun w h => List.mem_cons_of_mem _ (in_P w h)) hown hK hP 0 rfl rfl 6 (by decide) (hts _ (List.mem_cons_of_mem _ lk_327)) (fun _ h9 => h9) rfl d_P_read_42 ?_
    refine lv_icmp_ge (tgt := 77) hx hb d_P_read_45 (by decide) (fun hc1 => ?_) (fun hc1 => ?_)
    ·
      have hf := wk_ift hc1 hf
      exact blk77 rc hrc40 I A M MB L X Y _ _ _ hf (lv_sub hl [0, 1, 2, 3] rfl) hP hD hS
    ·
      have hf := wk_iff hc1 hf
      refine lv_aload_n hx hb d_P_read_48 rfl (lv_at hl 0 rfl) ?_
      refine va_get (D := (dC, dI)) (ci := 2) (v := .int (I 7)) (C := R_P) (T := F_P) (N := 13) hx hb hts (fun w h => List.mem_cons_of_mem _ (in_P w h)) hown hK hP 0 rfl rfl 7 (by decide) (hts _ (List.mem_cons_of_mem _ lk_328)) (fun _ h9 => h9) rfl d_P_read_49 ?_
      refine lv_aload_n hx hb d_P_read_52 rfl (lv_at hl 0 rfl) ?_
      refine va_get (D := (dC, dI)) (ci := 2) (v := .int (I 6)) (C := R_P) (T := F_P) (N := 13) hx hb hts (fun w h => List.mem_cons_of_mem _ (in_P w h)) hown hK hP 0 rfl rfl 6 (by decide) (hts _ (List.mem_cons_of_mem _ lk_327)) (fun _ h9 => h9) rfl d_P_read_53 ?_
      refine lv_icmp_ge (tgt := 77) hx hb d_P_read_56 (by decide) (fun hc2 => ?_) (fun hc2 => ?_)
      ·
        have hf := wk_ift hc2 hf
        exact blk77 rc hrc40 I A M MB L X Y _ _ _ hf (lv_sub hl [0, 1, 2, 3] rfl) hP hD hS
      ·
        have hf := wk_iff hc2 hf
        refine lv_aload_n hx hb d_P_read_59 rfl (lv_at hl 0 rfl) ?_
        refine va_get (D := (dC, dI)) (ci := 2) (v := .int (I 9)) (C := R_P) (T := F_P) (N := 13) hx hb hts (fun w h => List.mem_cons_of_mem _ (in_P w h)) hown hK hP 0 rfl rfl 9 (by decide) (hts _ (List.mem_cons_of_mem _ lk_329)) (fun _ h9 => h9) rfl d_P_read_60 ?_
        refine lv_iconst (v := (-1)) hx hb d_P_read_63 (by decide) ?_
        refine lv_icmp_ne (tgt := 77) hx hb d_P_read_64 (by decide) (fun hc3 => ?_) (fun hc3 => ?_)
        ·
          have hf := wk_iff hc3 hf
          exact blk77 rc hrc40 I A M MB L X Y _ _ _ hf (lv_sub hl [0, 1, 2, 3] rfl) hP hD hS
        ·
          have hf := wk_ift hc3 hf
          refine lv_aload_n hx hb d_P_read_67 rfl (lv_at hl 0 rfl) ?_
          have hPc := hP.sub (ws' := (rw_W h q g hm qm gm so sg sx I A M MB L)) [0, 1, 2, 3, 4, 5, 6, 7, 8, 9, 10, 11] rfl
          have hDc := hD.sub (ws' := (rw_W h q g hm qm gm so sg sx I A M MB L)) [0, 1, 2, 3, 4, 5, 6, 7, 8, 9, 10, 11] (by decide) rfl
          have hKc := hK.sub (tys' := (rw_T h q g hm qm gm so sg sx)) [0, 1, 2, 3, 4, 5, 6, 7, 8, 9] rfl
          have hFc := va_free (wc := (rw_W h q g hm qm gm so sg sx I A M MB L)) hD hS hA [0, 1, 2, 3, 4, 5, 6, 7, 8, 9, 10, 11] rfl
          cases hg1 : f_P_readNext sx I A M MB L with
          | none => rw [hg1] at hf; cases hf
          | some z1 =>
            obtain ⟨r1, I1, A1, M1, MB1, L1⟩ := z1
            rw [hg1] at hf
            dsimp only [Option.bind_some] at hf
            refine va_callv (va_runV (As := []) (rest := []) ⟨hx, hb, hml, hown, hts⟩ (cm_P_readNext l dC dI h q g hm qm gm so sg sx _  I A M MB L r1 I1 A1 M1 MB1 L1 hg1) (cwV 0 hts (gd_v lk_412 lk_413 lk_414 lk_348 lk_411) rfl rfl rfl (by decide +kernel) ⟨Nat.le_of_ble_eq_true rfl, Nat.le_of_ble_eq_true rfl⟩) ⟨fun a U g mk q => by obtain ⟨q0, q1, qP, qK, qD⟩ := q; exact ⟨q0, q1, qP, va_K.moved (u := U) (U := U.calling g mk a) (Vm.Alike.refl U.vm) qK, qD⟩, va_recv (ci := 2) (q0 := 0) hK hP rfl rfl, fun U hU hW => ⟨rfl, by rw [hU], by rw [hU]; exact hPc, va_K.moved hW.alike hKc, hDc.weaken (fun _ _ _ _ => trivial)⟩⟩ rfl rfl hl.1 rfl (lv_room (Nat.le_of_ble_eq_true rfl)) d_P_read_68 ⟨Nat.le_of_ble_eq_true rfl, Nat.le_of_ble_eq_true rfl⟩) hS (fun q _ h => hFc q h) hFc (fun u t H1 locs ht hvm hw hB hz1 hk1 hS => ?_)
            obtain ⟨hP1, hK1, hD1⟩ := hB
            rw [ht] at hP1
            obtain ⟨hP, hD⟩ := va_join (wr := (([] : List Nat).map (fun i => ((rw_W h q g hm qm gm so sg sx I A M MB L)).getD i (0, .inr (0, []))))) (w1 := (rw_W h q g hm qm gm so sg sx I1 A1 M1 MB1 L1)) hP hD [0, 1, 2, 3, 4, 5, 6, 7, 8, 9, 10, 11] [] rfl rfl (by decide) (by decide) hk1 hFc hP1 hD1
            generalize H1 = H at hP hS ⊢
            have hP := hP.sub (ws' := (rw_W h q g hm qm gm so sg sx I1 A1 M1 MB1 L1)) [0, 1, 2, 3, 4, 5, 6, 7, 8, 9, 10, 11] rfl
            have hD := hD.sub (ws' := (rw_W h q g hm qm gm so sg sx I1 A1 M1 MB1 L1)) [0, 1, 2, 3, 4, 5, 6, 7, 8, 9, 10, 11] (by decide) rfl
            refine lv_iinc (k := 3) (v := ((X 3) + 1)) (lv' := [(3, .int ((X 3) + 1)), (0, .ref h), (1, .ref so), (2, .int (X 2))]) hx hb d_P_read_71 hl rfl (wk_inc (by decide)) (by decide) rfl (fun ls hl => ?_)
            have hl : lv_has ls 4 [(3, .int ((X 3) + 1)), (0, .ref h), (1, .ref so), (2, .int (X 2))] := hl
            refine lv_goto (tgt := 40) hx hb d_P_read_74 (by decide) ?_
            exact hrc40 I1 A1 M1 MB1 L1 (upd X 3 ((X 3) + 1)) Y _ _ _ hf (lv_sub hl [1, 2, 3, 0] rfl) hP hD hS
  have key : ∀ n : Nat, (∀ (I : MI) (A : MA) (M : MI) (MB : MA) (L : ML) (X : Nat → Int32) (Y : Nat → Int64) (ls : Array Slot) (H : Heap) (locs : List Loc), f_P_read_go sx n 40 I A M MB L X Y = some (r, I', A', M', MB', L') → lv_has ls 4 [(0, .ref h), (1, .ref so), (2, .int (X 2)), (3, .int (X 3))] → va_P (dC, dI) vwCl (rw_W h q g hm qm gm so sg sx I A M MB L) H → va_D B9 (rw_W h q g hm qm gm so sg sx I A M MB L) → va_S B9 s.heap H locs → W p l e (headSpec w_P_read ({ frames := 5, cells := 0, slots := 0, locals := 108 })).room s m ([.ref h, .ref so, .int k2] : List Value).toArray below meth c H locs 0 0 (MQ below (va_Qi (fun (r9 : Int32) (_ : Unit) => r9 = r) (fun (_ : Unit) t => va_P (dC, dI) vwCl (rw_W h q g hm qm gm so sg sx I' A' M' MB' L') t.heap ∧ va_K (dC, dI) vwCl (rq_T h q g hm qm gm so sg sx sf) t ∧ va_D B9 (rw_W h q g hm qm gm so sg sx I' A' M' MB' L')) B9) ([.ref h, .ref so, .int k2] : List Value).toArray s 0 0 B9) (F0 m 40 ls [])) := by
    intro n
    induction n with
    | zero => exact fun I A M MB L X Y ls H locs hf => (by cases hf)
    | succ n ih =>
      have ih40 := ih
      exact stp40 (f_P_read_go sx n) ih40
  unfold f_P_read f_P_read_e at hf
  have hrc40 := key wk_FUEL
  refine lv_aload_n hx hb d_P_read_0 rfl (lv_at hl 0 rfl) ?_
  refine lv_aload_n hx hb d_P_read_1 rfl (lv_at hl 1 rfl) ?_
  refine va_put (D := (dC, dI)) (ci := 2) (v := .ref so) (ty := .array .char) (C := R_P) (T := F_P) (N := 13) hx hb hts (fun w h => List.mem_cons_of_mem _ (in_P w h)) t_P tk_P n_P hown hK hP hD hS 0 rfl rfl 5 (by decide) (hts _ (List.mem_cons_of_mem _ lk_326)) (fun _ h9 => h9) rfl (by decide +kernel) rfl rfl (Nat.le_of_ble_eq_true rfl) d_P_read_2 (fun H locs hP hD hS => ?_)
  have hP : va_P (dC, dI) vwCl (rw_W h q g hm qm gm so sg sx I A M MB L) H := hP
  have hD : va_D B9 (rw_W h q g hm qm gm so sg sx I A M MB L) := hD
  refine lv_aload_n hx hb d_P_read_5 rfl (lv_at hl 0 rfl) ?_
  refine lv_iload_n hx hb d_P_read_6 rfl (lv_at hl 2 rfl) ?_
  refine va_put (D := (dC, dI)) (ci := 2) (v := .int k2) (ty := .int) (C := R_P) (T := F_P) (N := 13) hx hb hts (fun w h => List.mem_cons_of_mem _ (in_P w h)) t_P tk_P n_P hown hK hP hD hS 0 rfl rfl 6 (by decide) (hts _ (List.mem_cons_of_mem _ lk_327)) (fun _ h9 => h9) rfl (by decide +kernel) rfl rfl (Nat.le_of_ble_eq_true rfl) d_P_read_7 (fun H locs hP hD hS => ?_)
  obtain ⟨I1, hI1, hf⟩ := wk_letE hf
  have hP : va_P (dC, dI) vwCl (rw_W h q g hm qm gm so sg sx I1 A M MB L) H := by rw [hI1]; exact hP
  have hD : va_D B9 (rw_W h q g hm qm gm so sg sx I1 A M MB L) := by rw [hI1]; exact hD
  clear hI1
  refine lv_aload_n hx hb d_P_read_10 rfl (lv_at hl 0 rfl) ?_
  refine lv_iconst (v := 0) hx hb d_P_read_11 (by decide) ?_
  refine va_put (D := (dC, dI)) (ci := 2) (v := .int 0) (ty := .int) (C := R_P) (T := F_P) (N := 13) hx hb hts (fun w h => List.mem_cons_of_mem _ (in_P w h)) t_P tk_P n_P hown hK hP hD hS 0 rfl rfl 7 (by decide) (hts _ (List.mem_cons_of_mem _ lk_328)) (fun _ h9 => h9) rfl (by decide +kernel) rfl rfl (Nat.le_of_ble_eq_true rfl) d_P_read_12 (fun H locs hP hD hS => ?_)
  obtain ⟨I2, hI2, hf⟩ := wk_letE hf
  have hP : va_P (dC, dI) vwCl (rw_W h q g hm qm gm so sg sx I2 A M MB L) H := by rw [hI2]; exact hP
  have hD : va_D B9 (rw_W h q g hm qm gm so sg sx I2 A M MB L) := by rw [hI2]; exact hD
  clear hI2
  refine lv_aload_n hx hb d_P_read_15 rfl (lv_at hl 0 rfl) ?_
  refine lv_iconst (v := (-1)) hx hb d_P_read_16 (by decide) ?_
  refine va_put (D := (dC, dI)) (ci := 2) (v := .int (-1)) (ty := .int) (C := R_P) (T := F_P) (N := 13) hx hb hts (fun w h => List.mem_cons_of_mem _ (in_P w h)) t_P tk_P n_P hown hK hP hD hS 0 rfl rfl 9 (by decide) (hts _ (List.mem_cons_of_mem _ lk_329)) (fun _ h9 => h9) rfl (by decide +kernel) rfl rfl (Nat.le_of_ble_eq_true rfl) d_P_read_17 (fun H locs hP hD hS => ?_)
  obtain ⟨I3, hI3, hf⟩ := wk_letE hf
  have hP : va_P (dC, dI) vwCl (rw_W h q g hm qm gm so sg sx I3 A M MB L) H := by rw [hI3]; exact hP
  have hD : va_D B9 (rw_W h q g hm qm gm so sg sx I3 A M MB L) := by rw [hI3]; exact hD
  clear hI3
  refine lv_aload_n hx hb d_P_read_20 rfl (lv_at hl 0 rfl) ?_
  refine va_get (D := (dC, dI)) (ci := 2) (v := .ref hm) (C := R_P) (T := F_P) (N := 13) hx hb hts (fun w h => List.mem_cons_of_mem _ (in_P w h)) hown hK hP 0 rfl rfl 4 (by decide) (hts _ (List.mem_cons_of_mem _ lk_330)) (fun _ h9 => h9) rfl d_P_read_21 ?_
  refine lv_iconst (v := 0) hx hb d_P_read_24 (by decide) ?_
  refine va_put (D := (dC, dI)) (ci := 3) (v := .int 0) (ty := .int) (C := R_A) (T := F_A) (N := 10) hx hb hts (fun w h => List.mem_cons_of_mem _ (in_A w h)) t_A tk_A n_A hown hK hP hD hS 5 rfl rfl 5 (by decide) (hts _ (List.mem_cons_of_mem _ lk_331)) (fun _ h9 => h9) rfl (by decide +kernel) rfl rfl (Nat.le_of_ble_eq_true rfl) d_P_read_25 (fun H locs hP hD hS => ?_)
  obtain ⟨M4, hM4, hf⟩ := wk_letE hf
  have hP : va_P (dC, dI) vwCl (rw_W h q g hm qm gm so sg sx I3 A M4 MB L) H := by rw [hM4]; exact hP
  have hD : va_D B9 (rw_W h q g hm qm gm so sg sx I3 A M4 MB L) := by rw [hM4]; exact hD
  clear hM4
  refine lv_aload_n hx hb d_P_read_28 rfl (lv_at hl 0 rfl) ?_
  refine lv_iconst (v := 0) hx hb d_P_read_29 (by decide) ?_
  refine va_put (D := (dC, dI)) (ci := 2) (v := .int 0) (ty := .int) (C := R_P) (T := F_P) (N := 13) hx hb hts (fun w h => List.mem_cons_of_mem _ (in_P w h)) t_P tk_P n_P hown hK hP hD hS 0 rfl rfl 8 (by decide) (hts _ (List.mem_cons_of_mem _ lk_332)) (fun _ h9 => h9) rfl (by decide +kernel) rfl rfl (Nat.le_of_ble_eq_true rfl) d_P_read_30 (fun H locs hP hD hS => ?_)
  obtain ⟨I5, hI5, hf⟩ := wk_letE hf
  have hP : va_P (dC, dI) vwCl (rw_W h q g hm qm gm so sg sx I5 A M4 MB L) H := by rw [hI5]; exact hP
  have hD : va_D B9 (rw_W h q g hm qm gm so sg sx I5 A M4 MB L) := by rw [hI5]; exact hD
  clear hI5
  refine lv_aload_n hx hb d_P_read_33 rfl (lv_at hl 0 rfl) ?_
  refine lv_iconst (v := (-1)) hx hb d_P_read_34 (by decide) ?_
  have hPc := hP.sub (ws' := (rw_W h q g hm qm gm so sg sx I5 A M4 MB L)) [0, 1, 2, 3, 4, 5, 6, 7, 8, 9, 10, 11] rfl
  have hDc := hD.sub (ws' := (rw_W h q g hm qm gm so sg sx I5 A M4 MB L)) [0, 1, 2, 3, 4, 5, 6, 7, 8, 9, 10, 11] (by decide) rfl
  have hKc := hK.sub (tys' := (rw_T h q g hm qm gm so sg sx)) [0, 1, 2, 3, 4, 5, 6, 7, 8, 9] rfl
  have hFc := va_free (wc := (rw_W h q g hm qm gm so sg sx I5 A M4 MB L)) hD hS hA [0, 1, 2, 3, 4, 5, 6, 7, 8, 9, 10, 11] rfl
  cases hg6 : f_P_openChoice sx I5 A M4 MB L (-1) with
  | none => rw [hg6] at hf; cases hf
  | some z6 =>
    obtain ⟨r6, I6, A6, M6, MB6, L6⟩ := z6
    rw [hg6] at hf
    dsimp only [Option.bind_some] at hf
    refine va_callv (va_runV (As := [.int (-1)]) (rest := []) ⟨hx, hb, hml, hown, hts⟩ (cm_P_openChoice l dC dI h q g hm qm gm so sg sx _  I5 A M4 MB L (-1) r6 I6 A6 M6 MB6 L6 hg6) (cwV 1 hts (gd_v lk_350 lk_351 lk_352 lk_348 lk_349) rfl rfl rfl (by decide +kernel) ⟨Nat.le_of_ble_eq_true rfl, Nat.le_of_ble_eq_true rfl⟩) ⟨fun a U g mk q => by obtain ⟨q0, q1, qP, qK, qD⟩ := q; exact ⟨q0, q1, qP, va_K.moved (u := U) (U := U.calling g mk a) (Vm.Alike.refl U.vm) qK, qD⟩, va_recv (ci := 2) (q0 := 0) hK hP rfl rfl, fun U hU hW => ⟨rfl, by rw [hU], by rw [hU]; exact hPc, va_K.moved hW.alike hKc, hDc.weaken (fun _ _ _ _ => trivial)⟩⟩ rfl rfl hl.1 rfl (lv_room (Nat.le_of_ble_eq_true rfl)) d_P_read_35 ⟨Nat.le_of_ble_eq_true rfl, Nat.le_of_ble_eq_true rfl⟩) hS (fun q _ h => hFc q h) hFc (fun u t H1 locs ht hvm hw hB hz1 hk1 hS => ?_)
    obtain ⟨hP1, hK1, hD1⟩ := hB
    rw [ht] at hP1
    obtain ⟨hP, hD⟩ := va_join (wr := (([] : List Nat).map (fun i => ((rw_W h q g hm qm gm so sg sx I5 A M4 MB L)).getD i (0, .inr (0, []))))) (w1 := (rw_W h q g hm qm gm so sg sx I6 A6 M6 MB6 L6)) hP hD [0, 1, 2, 3, 4, 5, 6, 7, 8, 9, 10, 11] [] rfl rfl (by decide) (by decide) hk1 hFc hP1 hD1
    generalize H1 = H at hP hS ⊢
    have hP := hP.sub (ws' := (rw_W h q g hm qm gm so sg sx I6 A6 M6 MB6 L6)) [0, 1, 2, 3, 4, 5, 6, 7, 8, 9, 10, 11] rfl
    have hD := hD.sub (ws' := (rw_W h q g hm qm gm so sg sx I6 A6 M6 MB6 L6)) [0, 1, 2, 3, 4, 5, 6, 7, 8, 9, 10, 11] (by decide) rfl
    refine lv_iconst (v := 0) hx hb d_P_read_38 (by decide) ?_
    refine lv_istore_n (lv' := [(3, .int 0), (0, .ref h), (1, .ref so), (2, .int k2)]) hx hb d_P_read_39 rfl hl (by decide) rfl (fun ls hl => ?_)
    have hl : lv_has ls 4 [(3, .int 0), (0, .ref h), (1, .ref so), (2, .int k2)] := hl
    exact hrc40 I6 A6 M6 MB6 L6 (upd (upd (fun _ => 0) 2 k2) 3 0) (fun _ => 0) _ _ _ hf (lv_sub hl [1, 2, 3, 0] rfl) hP hD hS

