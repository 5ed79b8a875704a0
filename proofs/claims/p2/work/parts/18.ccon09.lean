set_option maxHeartbeats 8000000 in
set_option maxRecDepth 100000 in
theorem cm_D_go (l : Launch) (dC : Nat → ClassId) (dI : Nat → Nat → Nat) (h : Nat) (q : Nat → Nat) (g : Nat → ClassId) (hp : Nat) (qp : Nat → Nat) (gp : Nat → ClassId) (tq : Nat) (tg : ClassId) (tn : Nat) (tx : Nat → Int32) (sz : Nat) (I : MI) (A : MA) (M : MI) (MB : MA) (L : ML) (k1 : Int32) (k2 : Int32) (r : Int32) (I' : MI) (A' : MA) (M' : MI) (MB' : MA) (L' : ML) (hf : f_D_go tn tx I A M MB L  k1 k2 = some (0, r, I', A', M', MB', L')) : Met l y_D_go w_D_go ({ frames := 1, cells := 0, slots := 0, locals := 21 }) (va_Pc [.ref h, .int k1, .int k2] (fun U => U.heap.size = sz ∧ va_P (dC, dI) vwCl (dw_W h q g hp qp gp tq tg tn tx I A M MB L) U.heap ∧ va_K (dC, dI) vwCl (dw_T h q g hp qp gp tq tg tn tx) U ∧ va_D (fun _ => True) (dw_W h q g hp qp gp tq tg tn tx I A M MB L))) (va_Qv (fun (u : Unit) => u = u) (fun (_ : Unit) t => va_P (dC, dI) vwCl (dw_W h q g hp qp gp tq tg tn tx I' A' M' MB' L') t.heap ∧ va_K (dC, dI) vwCl (dw_T h q g hp qp gp tq tg tn tx) t ∧ va_D (va_A (dw_W h q g hp qp gp tq tg tn tx I A M MB L) sz) (dw_W h q g hp qp gp tq tg tn tx I' A' M' MB' L')) (va_A (dw_W h q g hp qp gp tq tg tn tx I A M MB L) sz)) 0 0 (va_A (dw_W h q g hp qp gp tq tg tn tx I A M MB L) sz) := by
  refine Met.ofW (cc := prog_1_method_6_code) (maxL := 3) (ret := none) (by decide) rfl ?_
  intro p e s m args below meth c s₁ B hml hv
  obtain ⟨rfl, hsz, hP, hK, hD0⟩ := hv
  have hx := B.exec
  have hb := B.bytes
  have hr := B.returns
  have hts := atoms_spec (ws := w_D_go) B.pre
  have hown : s.vm.findClass "DraftTree" = some m.cls := findClass_of_methodNamed B.named
  have hlocks := B.notSynchronized
  subst hsz
  have hD := hD0.self (sz := s.heap.size)
  generalize hAe : va_A (dw_W h q g hp qp gp tq tg tn tx I A M MB L) s.heap.size = B9 at hD ⊢
  have hA : ∀ q : Nat, s.heap.size ≤ q → B9 q := fun q h => by rw [← hAe]; exact Or.inr h
  clear hAe
  have hS : va_S B9 s.heap s.heap [] := va_S.rf
  have hl := lv_entry ([.ref h, .int k1, .int k2]) (n := 3) (Nat.le_of_ble_eq_true rfl)
  rw [lg_entry_eq]
  generalize (lg_sl ([.ref h, .int k1, .int k2]) ++ List.replicate (3 - (lg_sl ([.ref h, .int k1, .int k2])).length) Slot.unset).toArray = ls at hl ⊢
  have hl : lv_has ls 3 [(0, .ref h), (1, .int k1), (2, .int k2)] := hl
  have blk54 : ∀ (I : MI) (A : MA) (M : MI) (MB : MA) (L : ML) (X : Nat → Int32) (Y : Nat → Int64) (ls : Array Slot) (H : Heap) (locs : List Loc), f_D_go_54 tn tx I A M MB L X Y = some (0, r, I', A', M', MB', L') → lv_has ls 3 [(0, .ref h), (1, .int (X 1)), (2, .int (X 2))] → va_P (dC, dI) vwCl (dw_W h q g hp qp gp tq tg tn tx I A M MB L) H → va_D B9 (dw_W h q g hp qp gp tq tg tn tx I A M MB L) → va_S B9 s.heap H locs → W p l e (headSpec w_D_go ({ frames := 1, cells := 0, slots := 0, locals := 21 })).room s m ([.ref h, .int k1, .int k2] : List Value).toArray below meth c H locs 0 0 (MQ below (va_Qv (fun (u : Unit) => u = u) (fun (_ : Unit) t => va_P (dC, dI) vwCl (dw_W h q g hp qp gp tq tg tn tx I' A' M' MB' L') t.heap ∧ va_K (dC, dI) vwCl (dw_T h q g hp qp gp tq tg tn tx) t ∧ va_D B9 (dw_W h q g hp qp gp tq tg tn tx I' A' M' MB' L')) B9) ([.ref h, .int k1, .int k2] : List Value).toArray s 0 0 B9) (F0 m 54 ls []) := by
    intro I A M MB L X Y ls H locs hf hl hP hD hS
    unfold f_D_go_54 at hf
    obtain ⟨e0, e1, e2, e3, e4, e5, e6⟩ := wk_inj6 hf
    subst e1
    subst e2
    subst e3
    subst e4
    subst e5
    subst e6
    exact W.vret hx hb hr (fun t ht hW => ⟨⟨(), rfl, rfl, by rw [ht]; exact hP, va_K.moved hW.alike hK, hD⟩, hS.F ht⟩) hS.2.2 d_D_go_54
  have blk33 : ∀ (I : MI) (A : MA) (M : MI) (MB : MA) (L : ML) (X : Nat → Int32) (Y : Nat → Int64) (ls : Array Slot) (H : Heap) (locs : List Loc), f_D_go_33 tn tx I A M MB L X Y = some (0, r, I', A', M', MB', L') → lv_has ls 3 [(0, .ref h), (1, .int (X 1)), (2, .int (X 2))] → va_P (dC, dI) vwCl (dw_W h q g hp qp gp tq tg tn tx I A M MB L) H → va_D B9 (dw_W h q g hp qp gp tq tg tn tx I A M MB L) → va_S B9 s.heap H locs → W p l e (headSpec w_D_go ({ frames := 1, cells := 0, slots := 0, locals := 21 })).room s m ([.ref h, .int k1, .int k2] : List Value).toArray below meth c H locs 0 0 (MQ below (va_Qv (fun (u : Unit) => u = u) (fun (_ : Unit) t => va_P (dC, dI) vwCl (dw_W h q g hp qp gp tq tg tn tx I' A' M' MB' L') t.heap ∧ va_K (dC, dI) vwCl (dw_T h q g hp qp gp tq tg tn tx) t ∧ va_D B9 (dw_W h q g hp qp gp tq tg tn tx I' A' M' MB' L')) B9) ([.ref h, .int k1, .int k2] : List Value).toArray s 0 0 B9) (F0 m 33 ls []) := by
    intro I A M MB L X Y ls H locs hf hl hP hD hS
    unfold f_D_go_33 at hf
    refine lv_aload_n hx hb d_D_go_33 rfl (lv_at hl 0 rfl) ?_
    refine lv_iload_n hx hb d_D_go_34 rfl (lv_at hl 1 rfl) ?_
    refine va_put (D := (dC, dI)) (ci := 0) (v := .int (X 1)) (ty := .int) (C := R_D) (T := F_D) (N := 14) hx hb hts (fun w h => List.mem_cons_of_mem _ (in_D w h)) t_D tk_D n_D hown hK hP hD hS 0 rfl rfl 6 (by decide) (hts _ (List.mem_cons_of_mem _ lk_437)) (fun _ h9 => h9) rfl (by decide +kernel) rfl rfl (Nat.le_of_ble_eq_true rfl) d_D_go_35 (fun H locs hP hD hS => ?_)
    obtain ⟨I1, hI1, hf⟩ := wk_letE hf
    have hP : va_P (dC, dI) vwCl (dw_W h q g hp qp gp tq tg tn tx I1 A M MB L) H := by rw [hI1]; exact hP
    have hD : va_D B9 (dw_W h q g hp qp gp tq tg tn tx I1 A M MB L) := by rw [hI1]; exact hD
    clear hI1
    refine lv_aload_n hx hb d_D_go_38 rfl (lv_at hl 0 rfl) ?_
    refine va_get (D := (dC, dI)) (ci := 0) (v := .int (I1 7)) (C := R_D) (T := F_D) (N := 14) hx hb hts (fun w h => List.mem_cons_of_mem _ (in_D w h)) hown hK hP 0 rfl rfl 7 (by decide) (hts _ (List.mem_cons_of_mem _ lk_438)) (fun _ h9 => h9) rfl d_D_go_39 ?_
    refine lv_aload_n hx hb d_D_go_42 rfl (lv_at hl 0 rfl) ?_
    refine va_get (D := (dC, dI)) (ci := 0) (v := .int (I1 6)) (C := R_D) (T := F_D) (N := 14) hx hb hts (fun w h => List.mem_cons_of_mem _ (in_D w h)) hown hK hP 0 rfl rfl 6 (by decide) (hts _ (List.mem_cons_of_mem _ lk_437)) (fun _ h9 => h9) rfl d_D_go_43 ?_
    refine lv_icmp_ne (tgt := 54) hx hb d_D_go_46 (by decide) (fun hc1 => ?_) (fun hc1 => ?_)
    ·
      have hf := wk_iff hc1 hf
      exact blk54 I1 A M MB L X Y _ _ _ hf (lv_sub hl [0, 1, 2] rfl) hP hD hS
    ·
      have hf := wk_ift hc1 hf
      refine lv_aload_n hx hb d_D_go_49 rfl (lv_at hl 0 rfl) ?_
      refine lv_iconst (v := (-1)) hx hb d_D_go_50 (by decide) ?_
      refine va_put (D := (dC, dI)) (ci := 0) (v := .int (-1)) (ty := .int) (C := R_D) (T := F_D) (N := 14) hx hb hts (fun w h => List.mem_cons_of_mem _ (in_D w h)) t_D tk_D n_D hown hK hP hD hS 0 rfl rfl 7 (by decide) (hts _ (List.mem_cons_of_mem _ lk_438)) (fun _ h9 => h9) rfl (by decide +kernel) rfl rfl (Nat.le_of_ble_eq_true rfl) d_D_go_51 (fun H locs hP hD hS => ?_)
      obtain ⟨I2, hI2, hf⟩ := wk_letE hf
      have hP : va_P (dC, dI) vwCl (dw_W h q g hp qp gp tq tg tn tx I2 A M MB L) H := by rw [hI2]; exact hP
      have hD : va_D B9 (dw_W h q g hp qp gp tq tg tn tx I2 A M MB L) := by rw [hI2]; exact hD
      clear hI2
      exact blk54 I2 A M MB L X Y _ _ _ hf (lv_sub hl [0, 1, 2] rfl) hP hD hS
  unfold f_D_go at hf
  refine lv_aload_n hx hb d_D_go_0 rfl (lv_at hl 0 rfl) ?_
  refine lv_iload_n hx hb d_D_go_1 rfl (lv_at hl 1 rfl) ?_
  have hPc := hP.sub (ws' := (dw_W h q g hp qp gp tq tg tn tx I A M MB L)) [0, 1, 2, 3, 4, 5, 6, 7, 8, 9, 10] rfl
  have hDc := hD.sub (ws' := (dw_W h q g hp qp gp tq tg tn tx I A M MB L)) [0, 1, 2, 3, 4, 5, 6, 7, 8, 9, 10] (by decide) rfl
  have hKc := hK.sub (tys' := (dw_T h q g hp qp gp tq tg tn tx)) [0, 1, 2, 3, 4, 5, 6, 7, 8] rfl
  have hFc := va_free (wc := (dw_W h q g hp qp gp tq tg tn tx I A M MB L)) hD hS hA [0, 1, 2, 3, 4, 5, 6, 7, 8, 9, 10] rfl
  cases hg1 : f_D_requirePlace tn tx I A M MB L k1 with
  | none => rw [hg1] at hf; cases hf
  | some z1 =>
    obtain ⟨tg1, r1, I1, A1, M1, MB1, L1⟩ := z1
    rw [hg1] at hf
    dsimp only [Option.bind_some] at hf
    by_cases ht1 : tg1 = 0
    ·
      have hf := wk_ift ht1 hf
      rw [ht1] at hg1
      refine va_callv (va_runV (As := [.int k1]) (rest := []) ⟨hx, hb, hml, hown, hts⟩ (cm_D_requirePlace l dC dI h q g hp qp gp tq tg tn tx _  I A M MB L k1 r1 I1 A1 M1 MB1 L1 hg1) (cwV 1 hts (gd_v lk_441 lk_442 lk_443 lk_444 lk_440) rfl rfl rfl (by decide +kernel) ⟨Nat.le_of_ble_eq_true rfl, Nat.le_of_ble_eq_true rfl⟩) ⟨fun a U g mk q => by obtain ⟨q0, q1, qP, qK, qD⟩ := q; exact ⟨q0, q1, qP, va_K.moved (u := U) (U := U.calling g mk a) (Vm.Alike.refl U.vm) qK, qD⟩, va_recv (ci := 0) (q0 := 0) hK hP rfl rfl, fun U hU hW => ⟨rfl, by rw [hU], by rw [hU]; exact hPc, va_K.moved hW.alike hKc, hDc.weaken (fun _ _ _ _ => trivial)⟩⟩ rfl rfl hl.1 rfl (lv_room (Nat.le_of_ble_eq_true rfl)) d_D_go_2 ⟨Nat.le_of_ble_eq_true rfl, Nat.le_of_ble_eq_true rfl⟩) hS (fun q _ h => hFc q h) hFc (fun u t H1 locs ht hvm hw hB hz1 hk1 hS => ?_)
      obtain ⟨hP1, hK1, hD1⟩ := hB
      rw [ht] at hP1
      obtain ⟨hP, hD⟩ := va_join (wr := (([] : List Nat).map (fun i => ((dw_W h q g hp qp gp tq tg tn tx I A M MB L)).getD i (0, .inr (0, []))))) (w1 := (dw_W h q g hp qp gp tq tg tn tx I1 A1 M1 MB1 L1)) hP hD [0, 1, 2, 3, 4, 5, 6, 7, 8, 9, 10] [] rfl rfl (by decide) (by decide) hk1 hFc hP1 hD1
      generalize H1 = H at hP hS ⊢
      have hP := hP.sub (ws' := (dw_W h q g hp qp gp tq tg tn tx I1 A1 M1 MB1 L1)) [0, 1, 2, 3, 4, 5, 6, 7, 8, 9, 10] rfl
      have hD := hD.sub (ws' := (dw_W h q g hp qp gp tq tg tn tx I1 A1 M1 MB1 L1)) [0, 1, 2, 3, 4, 5, 6, 7, 8, 9, 10] (by decide) rfl
      refine lv_iload_n hx hb d_D_go_5 rfl (lv_at hl 2 rfl) ?_
      refine lv_if_ne (tgt := 17) hx hb d_D_go_6 (by decide) (fun hc1 => ?_) (fun hc1 => ?_)
      ·
        have hf := wk_iff hc1 hf
        refine lv_aload_n hx hb d_D_go_17 rfl (lv_at hl 0 rfl) ?_
        refine va_get (D := (dC, dI)) (ci := 0) (v := .int (I1 7)) (C := R_D) (T := F_D) (N := 14) hx hb hts (fun w h => List.mem_cons_of_mem _ (in_D w h)) hown hK hP 0 rfl rfl 7 (by decide) (hts _ (List.mem_cons_of_mem _ lk_438)) (fun _ h9 => h9) rfl d_D_go_18 ?_
        refine lv_iconst (v := (-1)) hx hb d_D_go_21 (by decide) ?_
        refine lv_icmp_ne (tgt := 33) hx hb d_D_go_22 (by decide) (fun hc2 => ?_) (fun hc2 => ?_)
        ·
          have hf := wk_iff hc2 hf
          exact blk33 I1 A1 M1 MB1 L1 (upd (upd (fun _ => 0) 1 k1) 2 k2) (fun _ => 0) _ _ _ hf (lv_sub hl [0, 1, 2] rfl) hP hD hS
        ·
          have hf := wk_ift hc2 hf
          refine lv_aload_n hx hb d_D_go_25 rfl (lv_at hl 0 rfl) ?_
          refine lv_aload_n hx hb d_D_go_26 rfl (lv_at hl 0 rfl) ?_
          refine va_get (D := (dC, dI)) (ci := 0) (v := .int (I1 6)) (C := R_D) (T := F_D) (N := 14) hx hb hts (fun w h => List.mem_cons_of_mem _ (in_D w h)) hown hK hP 0 rfl rfl 6 (by decide) (hts _ (List.mem_cons_of_mem _ lk_437)) (fun _ h9 => h9) rfl d_D_go_27 ?_
          refine va_put (D := (dC, dI)) (ci := 0) (v := .int (I1 6)) (ty := .int) (C := R_D) (T := F_D) (N := 14) hx hb hts (fun w h => List.mem_cons_of_mem _ (in_D w h)) t_D tk_D n_D hown hK hP hD hS 0 rfl rfl 7 (by decide) (hts _ (List.mem_cons_of_mem _ lk_438)) (fun _ h9 => h9) rfl (by decide +kernel) rfl rfl (Nat.le_of_ble_eq_true rfl) d_D_go_30 (fun H locs hP hD hS => ?_)
          obtain ⟨I2, hI2, hf⟩ := wk_letE hf
          have hP : va_P (dC, dI) vwCl (dw_W h q g hp qp gp tq tg tn tx I2 A1 M1 MB1 L1) H := by rw [hI2]; exact hP
          have hD : va_D B9 (dw_W h q g hp qp gp tq tg tn tx I2 A1 M1 MB1 L1) := by rw [hI2]; exact hD
          clear hI2
          exact blk33 I2 A1 M1 MB1 L1 (upd (upd (fun _ => 0) 1 k1) 2 k2) (fun _ => 0) _ _ _ hf (lv_sub hl [0, 1, 2] rfl) hP hD hS
      ·
        have hf := wk_ift hc1 hf
        refine lv_aload_n hx hb d_D_go_9 rfl (lv_at hl 0 rfl) ?_
        refine lv_iconst (v := (-1)) hx hb d_D_go_10 (by decide) ?_
        refine va_put (D := (dC, dI)) (ci := 0) (v := .int (-1)) (ty := .int) (C := R_D) (T := F_D) (N := 14) hx hb hts (fun w h => List.mem_cons_of_mem _ (in_D w h)) t_D tk_D n_D hown hK hP hD hS 0 rfl rfl 7 (by decide) (hts _ (List.mem_cons_of_mem _ lk_438)) (fun _ h9 => h9) rfl (by decide +kernel) rfl rfl (Nat.le_of_ble_eq_true rfl) d_D_go_11 (fun H locs hP hD hS => ?_)
        obtain ⟨I2, hI2, hf⟩ := wk_letE hf
        have hP : va_P (dC, dI) vwCl (dw_W h q g hp qp gp tq tg tn tx I2 A1 M1 MB1 L1) H := by rw [hI2]; exact hP
        have hD : va_D B9 (dw_W h q g hp qp gp tq tg tn tx I2 A1 M1 MB1 L1) := by rw [hI2]; exact hD
        clear hI2
        refine lv_goto (tgt := 33) hx hb d_D_go_14 (by decide) ?_
        exact blk33 I2 A1 M1 MB1 L1 (upd (upd (fun _ => 0) 1 k1) 2 k2) (fun _ => 0) _ _ _ hf (lv_sub hl [0, 1, 2] rfl) hP hD hS
    ·
      have hf := wk_iff ht1 hf
      by_cases hq1_2 : tg1 = 2
      ·
        have hf := wk_ift hq1_2 hf
        exact (wk_tag (by decide) hf).elim
      ·
        have hf := wk_iff hq1_2 hf
        cases hf
set_option maxHeartbeats 8000000 in
set_option maxRecDepth 100000 in
theorem ct_D_go_2 (l : Launch) (hfl : l.flags = flags0) (dC : Nat → ClassId) (dI : Nat → Nat → Nat) (h : Nat) (q : Nat → Nat) (g : Nat → ClassId) (hp : Nat) (qp : Nat → Nat) (gp : Nat → ClassId) (tq : Nat) (tg : ClassId) (tn : Nat) (tx : Nat → Int32) (sz : Nat) (I : MI) (A : MA) (M : MI) (MB : MA) (L : ML) (k1 : Int32) (k2 : Int32) (r : Int32) (I' : MI) (A' : MA) (M' : MI) (MB' : MA) (L' : ML) (hf : f_D_go tn tx I A M MB L  k1 k2 = some (2, r, I', A', M', MB', L')) : th_Met l y_D_go w_D_go ({ frames := 7, cells := 1, slots := 6, locals := 102 }) (va_Pc [.ref h, .int k1, .int k2] (fun U => U.heap.size = sz ∧ va_P (dC, dI) vwCl (dw_W h q g hp qp gp tq tg tn tx I A M MB L) U.heap ∧ va_K (dC, dI) vwCl (dw_T h q g hp qp gp tq tg tn tx) U ∧ va_D (fun _ => True) (dw_W h q g hp qp gp tq tg tn tx I A M MB L) ∧ th_ZA (va_A (dw_W h q g hp qp gp tq tg tn tx I A M MB L) sz) U)) (th_Qw "java/lang/IndexOutOfBoundsException" (fun t => va_P (dC, dI) vwCl (dw_W h q g hp qp gp tq tg tn tx I' A' M' MB' L') t.heap ∧ va_K (dC, dI) vwCl (dw_T h q g hp qp gp tq tg tn tx) t ∧ va_D (va_A (dw_W h q g hp qp gp tq tg tn tx I A M MB L) sz) (dw_W h q g hp qp gp tq tg tn tx I' A' M' MB' L')) (va_A (dw_W h q g hp qp gp tq tg tn tx I A M MB L) sz)) 1 6 (va_A (dw_W h q g hp qp gp tq tg tn tx I A M MB L) sz) := by
  refine th_Met.ofW (cc := prog_1_method_6_code) (maxL := 3) (ret := none) (by decide) rfl ?_
  intro p e s m args below meth c s₁ B hml hnh hv
  obtain ⟨rfl, hsz, hP, hK, hD0, hZ⟩ := hv
  have hx := B.exec
  have hb := B.bytes
  have hr := B.returns
  have hts := atoms_spec (ws := w_D_go) B.pre
  have hown : s.vm.findClass "DraftTree" = some m.cls := findClass_of_methodNamed B.named
  have hlocks := B.notSynchronized
  have htr := Launch.traces_off hfl B.admits
  subst hsz
  have hD := hD0.self (sz := s.heap.size)
  generalize hAe : va_A (dw_W h q g hp qp gp tq tg tn tx I A M MB L) s.heap.size = B9 at hD hZ ⊢
  have hA : ∀ q : Nat, s.heap.size ≤ q → B9 q := fun q h => by rw [← hAe]; exact Or.inr h
  clear hAe
  have hS : va_S B9 s.heap s.heap [] := va_S.rf
  have hl := lv_entry ([.ref h, .int k1, .int k2]) (n := 3) (Nat.le_of_ble_eq_true rfl)
  rw [lg_entry_eq]
  generalize (lg_sl ([.ref h, .int k1, .int k2]) ++ List.replicate (3 - (lg_sl ([.ref h, .int k1, .int k2])).length) Slot.unset).toArray = ls at hl ⊢
  have hl : lv_has ls 3 [(0, .ref h), (1, .int k1), (2, .int k2)] := hl
  have blk54 : ∀ (I : MI) (A : MA) (M : MI) (MB : MA) (L : ML) (X : Nat → Int32) (Y : Nat → Int64) (ls : Array Slot) (H : Heap) (locs : List Loc), f_D_go_54 tn tx I A M MB L X Y = some (2, r, I', A', M', MB', L') → lv_has ls 3 [(0, .ref h), (1, .int (X 1)), (2, .int (X 2))] → va_P (dC, dI) vwCl (dw_W h q g hp qp gp tq tg tn tx I A M MB L) H → va_D B9 (dw_W h q g hp qp gp tq tg tn tx I A M MB L) → va_S B9 s.heap H locs → W p l e (headSpec w_D_go ({ frames := 7, cells := 1, slots := 6, locals := 102 })).room s m ([.ref h, .int k1, .int k2] : List Value).toArray below meth c H locs 0 0 (th_Q below (th_Qw "java/lang/IndexOutOfBoundsException" (fun t => va_P (dC, dI) vwCl (dw_W h q g hp qp gp tq tg tn tx I' A' M' MB' L') t.heap ∧ va_K (dC, dI) vwCl (dw_T h q g hp qp gp tq tg tn tx) t ∧ va_D B9 (dw_W h q g hp qp gp tq tg tn tx I' A' M' MB' L')) B9) ([.ref h, .int k1, .int k2] : List Value).toArray s 1 6 B9) (F0 m 54 ls []) := by
    intro I A M MB L X Y ls H locs hf hl hP hD hS
    unfold f_D_go_54 at hf
    exact (wk_tag (by decide) hf).elim
  have blk33 : ∀ (I : MI) (A : MA) (M : MI) (MB : MA) (L : ML) (X : Nat → Int32) (Y : Nat → Int64) (ls : Array Slot) (H : Heap) (locs : List Loc), f_D_go_33 tn tx I A M MB L X Y = some (2, r, I', A', M', MB', L') → lv_has ls 3 [(0, .ref h), (1, .int (X 1)), (2, .int (X 2))] → va_P (dC, dI) vwCl (dw_W h q g hp qp gp tq tg tn tx I A M MB L) H → va_D B9 (dw_W h q g hp qp gp tq tg tn tx I A M MB L) → va_S B9 s.heap H locs → W p l e (headSpec w_D_go ({ frames := 7, cells := 1, slots := 6, locals := 102 })).room s m ([.ref h, .int k1, .int k2] : List Value).toArray below meth c H locs 0 0 (th_Q below (th_Qw "java/lang/IndexOutOfBoundsException" (fun t => va_P (dC, dI) vwCl (dw_W h q g hp qp gp tq tg tn tx I' A' M' MB' L') t.heap ∧ va_K (dC, dI) vwCl (dw_T h q g hp qp gp tq tg tn tx) t ∧ va_D B9 (dw_W h q g hp qp gp tq tg tn tx I' A' M' MB' L')) B9) ([.ref h, .int k1, .int k2] : List Value).toArray s 1 6 B9) (F0 m 33 ls []) := by
    intro I A M MB L X Y ls H locs hf hl hP hD hS
    unfold f_D_go_33 at hf
    refine lv_aload_n hx hb d_D_go_33 rfl (lv_at hl 0 rfl) ?_
    refine lv_iload_n hx hb d_D_go_34 rfl (lv_at hl 1 rfl) ?_
    refine va_put (D := (dC, dI)) (ci := 0) (v := .int (X 1)) (ty := .int) (C := R_D) (T := F_D) (N := 14) hx hb hts (fun w h => List.mem_cons_of_mem _ (in_D w h)) t_D tk_D n_D hown hK hP hD hS 0 rfl rfl 6 (by decide) (hts _ (List.mem_cons_of_mem _ lk_437)) (fun _ h9 => h9) rfl (by decide +kernel) rfl rfl (Nat.le_of_ble_eq_true rfl) d_D_go_35 (fun H locs hP hD hS => ?_)
    obtain ⟨I1, hI1, hf⟩ := wk_letE hf
    have hP : va_P (dC, dI) vwCl (dw_W h q g hp qp gp tq tg tn tx I1 A M MB L) H := by rw [hI1]; exact hP
    have hD : va_D B9 (dw_W h q g hp qp gp tq tg tn tx I1 A M MB L) := by rw [hI1]; exact hD
    clear hI1
    refine lv_aload_n hx hb d_D_go_38 rfl (lv_at hl 0 rfl) ?_
    refine va_get (D := (dC, dI)) (ci := 0) (v := .int (I1 7)) (C := R_D) (T := F_D) (N := 14) hx hb hts (fun w h => List.mem_cons_of_mem _ (in_D w h)) hown hK hP 0 rfl rfl 7 (by decide) (hts _ (List.mem_cons_of_mem _ lk_438)) (fun _ h9 => h9) rfl d_D_go_39 ?_
    refine lv_aload_n hx hb d_D_go_42 rfl (lv_at hl 0 rfl) ?_
    refine va_get (D := (dC, dI)) (ci := 0) (v := .int (I1 6)) (C := R_D) (T := F_D) (N := 14) hx hb hts (fun w h => List.mem_cons_of_mem _ (in_D w h)) hown hK hP 0 rfl rfl 6 (by decide) (hts _ (List.mem_cons_of_mem _ lk_437)) (fun _ h9 => h9) rfl d_D_go_43 ?_
    refine lv_icmp_ne (tgt := 54) hx hb d_D_go_46 (by decide) (fun hc1 => ?_) (fun hc1 => ?_)
    ·
      have hf := wk_iff hc1 hf
      exact blk54 I1 A M MB L X Y _ _ _ hf (lv_sub hl [0, 1, 2] rfl) hP hD hS
    ·
      have hf := wk_ift hc1 hf
      refine lv_aload_n hx hb d_D_go_49 rfl (lv_at hl 0 rfl) ?_
      refine lv_iconst (v := (-1)) hx hb d_D_go_50 (by decide) ?_
      refine va_put (D := (dC, dI)) (ci := 0) (v := .int (-1)) (ty := .int) (C := R_D) (T := F_D) (N := 14) hx hb hts (fun w h => List.mem_cons_of_mem _ (in_D w h)) t_D tk_D n_D hown hK hP hD hS 0 rfl rfl 7 (by decide) (hts _ (List.mem_cons_of_mem _ lk_438)) (fun _ h9 => h9) rfl (by decide +kernel) rfl rfl (Nat.le_of_ble_eq_true rfl) d_D_go_51 (fun H locs hP hD hS => ?_)
      obtain ⟨I2, hI2, hf⟩ := wk_letE hf
      have hP : va_P (dC, dI) vwCl (dw_W h q g hp qp gp tq tg tn tx I2 A M MB L) H := by rw [hI2]; exact hP
      have hD : va_D B9 (dw_W h q g hp qp gp tq tg tn tx I2 A M MB L) := by rw [hI2]; exact hD
      clear hI2
      exact blk54 I2 A M MB L X Y _ _ _ hf (lv_sub hl [0, 1, 2] rfl) hP hD hS
  unfold f_D_go at hf
  refine lv_aload_n hx hb d_D_go_0 rfl (lv_at hl 0 rfl) ?_
  refine lv_iload_n hx hb d_D_go_1 rfl (lv_at hl 1 rfl) ?_
  have hPc := hP.sub (ws' := (dw_W h q g hp qp gp tq tg tn tx I A M MB L)) [0, 1, 2, 3, 4, 5, 6, 7, 8, 9, 10] rfl
  have hDc := hD.sub (ws' := (dw_W h q g hp qp gp tq tg tn tx I A M MB L)) [0, 1, 2, 3, 4, 5, 6, 7, 8, 9, 10] (by decide) rfl
  have hKc := hK.sub (tys' := (dw_T h q g hp qp gp tq tg tn tx)) [0, 1, 2, 3, 4, 5, 6, 7, 8] rfl
  have hFc := va_free (wc := (dw_W h q g hp qp gp tq tg tn tx I A M MB L)) hD hS hA [0, 1, 2, 3, 4, 5, 6, 7, 8, 9, 10] rfl
  cases hg1 : f_D_requirePlace tn tx I A M MB L k1 with
  | none => rw [hg1] at hf; cases hf
  | some z1 =>
    obtain ⟨tg1, r1, I1, A1, M1, MB1, L1⟩ := z1
    rw [hg1] at hf
    dsimp only [Option.bind_some] at hf
    by_cases ht1 : tg1 = 0
    ·
      have hf := wk_ift ht1 hf
      rw [ht1] at hg1
      refine va_callv (va_runV (As := [.int k1]) (rest := []) ⟨hx, hb, hml, hown, hts⟩ (cm_D_requirePlace l dC dI h q g hp qp gp tq tg tn tx _  I A M MB L k1 r1 I1 A1 M1 MB1 L1 hg1) (cwV 1 hts (gd_v lk_441 lk_442 lk_443 lk_444 lk_440) rfl rfl rfl (by decide +kernel) ⟨Nat.le_of_ble_eq_true rfl, Nat.le_of_ble_eq_true rfl⟩) ⟨fun a U g mk q => by obtain ⟨q0, q1, qP, qK, qD⟩ := q; exact ⟨q0, q1, qP, va_K.moved (u := U) (U := U.calling g mk a) (Vm.Alike.refl U.vm) qK, qD⟩, va_recv (ci := 0) (q0 := 0) hK hP rfl rfl, fun U hU hW => ⟨rfl, by rw [hU], by rw [hU]; exact hPc, va_K.moved hW.alike hKc, hDc.weaken (fun _ _ _ _ => trivial)⟩⟩ rfl rfl hl.1 rfl (lv_room (Nat.le_of_ble_eq_true rfl)) d_D_go_2 ⟨Nat.le_of_ble_eq_true rfl, Nat.le_of_ble_eq_true rfl⟩) hS (fun q _ h => hFc q h) hFc (fun u t H1 locs ht hvm hw hB hz1 hk1 hS => ?_)
      obtain ⟨hP1, hK1, hD1⟩ := hB
      rw [ht] at hP1
      obtain ⟨hP, hD⟩ := va_join (wr := (([] : List Nat).map (fun i => ((dw_W h q g hp qp gp tq tg tn tx I A M MB L)).getD i (0, .inr (0, []))))) (w1 := (dw_W h q g hp qp gp tq tg tn tx I1 A1 M1 MB1 L1)) hP hD [0, 1, 2, 3, 4, 5, 6, 7, 8, 9, 10] [] rfl rfl (by decide) (by decide) hk1 hFc hP1 hD1
      generalize H1 = H at hP hS ⊢
      have hP := hP.sub (ws' := (dw_W h q g hp qp gp tq tg tn tx I1 A1 M1 MB1 L1)) [0, 1, 2, 3, 4, 5, 6, 7, 8, 9, 10] rfl
      have hD := hD.sub (ws' := (dw_W h q g hp qp gp tq tg tn tx I1 A1 M1 MB1 L1)) [0, 1, 2, 3, 4, 5, 6, 7, 8, 9, 10] (by decide) rfl
      refine lv_iload_n hx hb d_D_go_5 rfl (lv_at hl 2 rfl) ?_
      refine lv_if_ne (tgt := 17) hx hb d_D_go_6 (by decide) (fun hc1 => ?_) (fun hc1 => ?_)
      ·
        have hf := wk_iff hc1 hf
        refine lv_aload_n hx hb d_D_go_17 rfl (lv_at hl 0 rfl) ?_
        refine va_get (D := (dC, dI)) (ci := 0) (v := .int (I1 7)) (C := R_D) (T := F_D) (N := 14) hx hb hts (fun w h => List.mem_cons_of_mem _ (in_D w h)) hown hK hP 0 rfl rfl 7 (by decide) (hts _ (List.mem_cons_of_mem _ lk_438)) (fun _ h9 => h9) rfl d_D_go_18 ?_
        refine lv_iconst (v := (-1)) hx hb d_D_go_21 (by decide) ?_
        refine lv_icmp_ne (tgt := 33) hx hb d_D_go_22 (by decide) (fun hc2 => ?_) (fun hc2 => ?_)
        ·
          have hf := wk_iff hc2 hf
          exact blk33 I1 A1 M1 MB1 L1 (upd (upd (fun _ => 0) 1 k1) 2 k2) (fun _ => 0) _ _ _ hf (lv_sub hl [0, 1, 2] rfl) hP hD hS
        ·
          have hf := wk_ift hc2 hf
          refine lv_aload_n hx hb d_D_go_25 rfl (lv_at hl 0 rfl) ?_
          refine lv_aload_n hx hb d_D_go_26 rfl (lv_at hl 0 rfl) ?_
          refine va_get (D := (dC, dI)) (ci := 0) (v := .int (I1 6)) (C := R_D) (T := F_D) (N := 14) hx hb hts (fun w h => List.mem_cons_of_mem _ (in_D w h)) hown hK hP 0 rfl rfl 6 (by decide) (hts _ (List.mem_cons_of_mem _ lk_437)) (fun _ h9 => h9) rfl d_D_go_27 ?_
          refine va_put (D := (dC, dI)) (ci := 0) (v := .int (I1 6)) (ty := .int) (C := R_D) (T := F_D) (N := 14) hx hb hts (fun w h => List.mem_cons_of_mem _ (in_D w h)) t_D tk_D n_D hown hK hP hD hS 0 rfl rfl 7 (by decide) (hts _ (List.mem_cons_of_mem _ lk_438)) (fun _ h9 => h9) rfl (by decide +kernel) rfl rfl (Nat.le_of_ble_eq_true rfl) d_D_go_30 (fun H locs hP hD hS => ?_)
          obtain ⟨I2, hI2, hf⟩ := wk_letE hf
          have hP : va_P (dC, dI) vwCl (dw_W h q g hp qp gp tq tg tn tx I2 A1 M1 MB1 L1) H := by rw [hI2]; exact hP
          have hD : va_D B9 (dw_W h q g hp qp gp tq tg tn tx I2 A1 M1 MB1 L1) := by rw [hI2]; exact hD
          clear hI2
          exact blk33 I2 A1 M1 MB1 L1 (upd (upd (fun _ => 0) 1 k1) 2 k2) (fun _ => 0) _ _ _ hf (lv_sub hl [0, 1, 2] rfl) hP hD hS
      ·
        have hf := wk_ift hc1 hf
        refine lv_aload_n hx hb d_D_go_9 rfl (lv_at hl 0 rfl) ?_
        refine lv_iconst (v := (-1)) hx hb d_D_go_10 (by decide) ?_
        refine va_put (D := (dC, dI)) (ci := 0) (v := .int (-1)) (ty := .int) (C := R_D) (T := F_D) (N := 14) hx hb hts (fun w h => List.mem_cons_of_mem _ (in_D w h)) t_D tk_D n_D hown hK hP hD hS 0 rfl rfl 7 (by decide) (hts _ (List.mem_cons_of_mem _ lk_438)) (fun _ h9 => h9) rfl (by decide +kernel) rfl rfl (Nat.le_of_ble_eq_true rfl) d_D_go_11 (fun H locs hP hD hS => ?_)
        obtain ⟨I2, hI2, hf⟩ := wk_letE hf
        have hP : va_P (dC, dI) vwCl (dw_W h q g hp qp gp tq tg tn tx I2 A1 M1 MB1 L1) H := by rw [hI2]; exact hP
        have hD : va_D B9 (dw_W h q g hp qp gp tq tg tn tx I2 A1 M1 MB1 L1) := by rw [hI2]; exact hD
        clear hI2
        refine lv_goto (tgt := 33) hx hb d_D_go_14 (by decide) ?_
        exact blk33 I2 A1 M1 MB1 L1 (upd (upd (fun _ => 0) 1 k1) 2 k2) (fun _ => 0) _ _ _ hf (lv_sub hl [0, 1, 2] rfl) hP hD hS
    ·
      have hf := wk_iff ht1 hf
      by_cases hq1_2 : tg1 = 2
      ·
        have hf := wk_ift hq1_2 hf
        rw [hq1_2] at hg1
        obtain ⟨e0, e1, e2, e3, e4, e5, e6⟩ := wk_inj6 hf
        subst e1
        subst e2
        subst e3
        subst e4
        subst e5
        subst e6
        refine th_passG (A1 := va_A (dw_W h q g hp qp gp tq tg tn tx I A M MB L) _) (th_runV (As := [.int k1]) (rest := []) ⟨hx, hb, hml, hown, hts⟩ (ct_D_requirePlace_2 l hfl dC dI h q g hp qp gp tq tg tn tx _  I A M MB L k1 r1 I1 A1 M1 MB1 L1 hg1) (cwV 1 hts (gd_v lk_441 lk_442 lk_443 lk_444 lk_440) rfl rfl rfl (by decide +kernel) ⟨Nat.le_of_ble_eq_true rfl, Nat.le_of_ble_eq_true rfl⟩) ⟨fun a U g mk q => by obtain ⟨q0, q1, qP, qK, qD, qZ⟩ := q; exact ⟨q0, q1, qP, va_K.moved (u := U) (U := U.calling g mk a) (Vm.Alike.refl U.vm) qK, qD, th_ZA.calling qZ⟩, va_recv (ci := 0) (q0 := 0) hK hP rfl rfl, fun U hU hW => ⟨rfl, by rw [hU], by rw [hU]; exact hPc, va_K.moved hW.alike hKc, hDc.weaken (fun _ _ _ _ => trivial), th_ZA.to hZ hS hU hW hFc⟩⟩ rfl rfl hl.1 rfl (lv_room (Nat.le_of_ble_eq_true rfl)) d_D_go_2 ⟨Nat.le_of_ble_eq_true rfl, Nat.le_of_ble_eq_true rfl⟩) hnh hlocks hS hFc (Nat.le_of_ble_eq_true rfl) (Nat.le_of_ble_eq_true rfl) (fun t hal hb1 hz1 hk1 u hu hau => ?_)
        obtain ⟨hP1, hK1, hD1⟩ := hb1
        obtain ⟨hP, hD⟩ := va_join (wr := (([] : List Nat).map (fun i => ((dw_W h q g hp qp gp tq tg tn tx I A M MB L)).getD i (0, .inr (0, []))))) (w1 := (dw_W h q g hp qp gp tq tg tn tx I1 A1 M1 MB1 L1)) hP hD [0, 1, 2, 3, 4, 5, 6, 7, 8, 9, 10] [] rfl rfl (by decide) (by decide) hk1 hFc hP1 hD1
        exact ⟨by rw [hu]; exact hP.sub (ws' := (dw_W h q g hp qp gp tq tg tn tx I1 A1 M1 MB1 L1)) [0, 1, 2, 3, 4, 5, 6, 7, 8, 9, 10] rfl, va_K.moved hau hK, hD.sub (ws' := (dw_W h q g hp qp gp tq tg tn tx I1 A1 M1 MB1 L1)) [0, 1, 2, 3, 4, 5, 6, 7, 8, 9, 10] (by decide) rfl⟩
      ·
        have hf := wk_iff hq1_2 hf
        cases hf

set_option maxHeartbeats 8000000 in
set_option maxRecDepth 100000 in
theorem cm_D_requireState (l : Launch) (dC : Nat → ClassId) (dI : Nat → Nat → Nat) (h : Nat) (q : Nat → Nat) (g : Nat → ClassId) (hj : Nat) (pt : Nat) (tg : ClassId) (sa : Nat → Nat) (ta : Nat → Nat) (n : Nat) (SO : Nat → Int32) (tn : Nat → Nat) (tx : Nat → Nat → Int32) (sz : Nat) (I : MI) (cx : Nat) (SP : MI) (SL : MI) (k1 : Int32) (r : Int32) (I' : MI) (cx' : Nat) (SP' : MI) (SL' : MI) (hf : f_D_requireState n SO I cx SP SL  k1 = some (0, r, I', cx', SP', SL')) : Met l y_D_requireState w_D_requireState ({ frames := 0, cells := 0, slots := 0, locals := 0 }) (va_Pc [.ref h, .int k1] (fun U => U.heap.size = sz ∧ va_P (dC, dI) vwCl (tw_W h q g hj pt tg sa ta n SO tn tx I cx SP SL) U.heap ∧ va_K (dC, dI) vwCl (tw_T h q g hj pt tg sa ta n SO tn tx) U ∧ va_D (fun _ => True) (tw_W h q g hj pt tg sa ta n SO tn tx I cx SP SL))) (va_Qv (fun (u : Unit) => u = u) (fun (_ : Unit) t => va_P (dC, dI) vwCl (tw_W h q g hj pt tg sa ta n SO tn tx I' cx' SP' SL') t.heap ∧ va_K (dC, dI) vwCl (tw_T h q g hj pt tg sa ta n SO tn tx) t ∧ va_D (va_A (tw_W h q g hj pt tg sa ta n SO tn tx I cx SP SL) sz) (tw_W h q g hj pt tg sa ta n SO tn tx I' cx' SP' SL')) (va_A (tw_W h q g hj pt tg sa ta n SO tn tx I cx SP SL) sz)) 0 0 (va_A (tw_W h q g hj pt tg sa ta n SO tn tx I cx SP SL) sz) := by
  refine Met.ofW (cc := prog_1_method_20_code) (maxL := 2) (ret := none) (by decide) rfl ?_
  intro p e s m args below meth c s₁ B hml hv
  obtain ⟨rfl, hsz, hP, hK, hD0⟩ := hv
  have hx := B.exec
  have hb := B.bytes
  have hr := B.returns
  have hts := atoms_spec (ws := w_D_requireState) B.pre
  have hown : s.vm.findClass "DraftTree" = some m.cls := findClass_of_methodNamed B.named
  have hlocks := B.notSynchronized
  subst hsz
  have hD := hD0.self (sz := s.heap.size)
  generalize hAe : va_A (tw_W h q g hj pt tg sa ta n SO tn tx I cx SP SL) s.heap.size = B9 at hD ⊢
  have hA : ∀ q : Nat, s.heap.size ≤ q → B9 q := fun q h => by rw [← hAe]; exact Or.inr h
  clear hAe
  have hS : va_S B9 s.heap s.heap [] := va_S.rf
  have hl := lv_entry ([.ref h, .int k1]) (n := 2) (Nat.le_of_ble_eq_true rfl)
  rw [lg_entry_eq]
  generalize (lg_sl ([.ref h, .int k1]) ++ List.replicate (2 - (lg_sl ([.ref h, .int k1])).length) Slot.unset).toArray = ls at hl ⊢
  have hl : lv_has ls 2 [(0, .ref h), (1, .int k1)] := hl
  have blk12 : ∀ (I : MI) (cx : Nat) (SP : MI) (SL : MI) (X : Nat → Int32) (Y : Nat → Int64) (ls : Array Slot) (H : Heap) (locs : List Loc), f_D_requireState_12 n SO I cx SP SL X Y = some (0, r, I', cx', SP', SL') → lv_has ls 2 [(0, .ref h), (1, .int (X 1))] → va_P (dC, dI) vwCl (tw_W h q g hj pt tg sa ta n SO tn tx I cx SP SL) H → va_D B9 (tw_W h q g hj pt tg sa ta n SO tn tx I cx SP SL) → va_S B9 s.heap H locs → W p l e (headSpec w_D_requireState ({ frames := 0, cells := 0, slots := 0, locals := 0 })).room s m ([.ref h, .int k1] : List Value).toArray below meth c H locs 0 0 (MQ below (va_Qv (fun (u : Unit) => u = u) (fun (_ : Unit) t => va_P (dC, dI) vwCl (tw_W h q g hj pt tg sa ta n SO tn tx I' cx' SP' SL') t.heap ∧ va_K (dC, dI) vwCl (tw_T h q g hj pt tg sa ta n SO tn tx) t ∧ va_D B9 (tw_W h q g hj pt tg sa ta n SO tn tx I' cx' SP' SL')) B9) ([.ref h, .int k1] : List Value).toArray s 0 0 B9) (F0 m 12 ls []) := by
    intro I cx SP SL X Y ls H locs hf hl hP hD hS
    unfold f_D_requireState_12 at hf
    exact (wk_tag (by decide) hf).elim
  unfold f_D_requireState at hf
  refine lv_iload_n hx hb d_D_requireState_0 rfl (lv_at hl 1 rfl) ?_
  refine lv_if_lt (tgt := 12) hx hb d_D_requireState_1 (by decide) (fun hc1 => ?_) (fun hc1 => ?_)
  ·
    have hf := wk_ift hc1 hf
    exact blk12 I cx SP SL (upd (fun _ => 0) 1 k1) (fun _ => 0) _ _ _ hf (lv_sub hl [0, 1] rfl) hP hD hS
  ·
    have hf := wk_iff hc1 hf
    refine lv_iload_n hx hb d_D_requireState_4 rfl (lv_at hl 1 rfl) ?_
    refine lv_aload_n hx hb d_D_requireState_5 rfl (lv_at hl 0 rfl) ?_
    refine va_get (D := (dC, dI)) (ci := 0) (v := .int (I 3)) (C := R_D) (T := F_D) (N := 14) hx hb hts (fun w h => List.mem_cons_of_mem _ (in_D w h)) hown hK hP 0 rfl rfl 3 (by decide) (hts _ (List.mem_cons_of_mem _ lk_436)) (fun _ h9 => h9) rfl d_D_requireState_6 ?_
    refine lv_icmp_lt (tgt := 20) hx hb d_D_requireState_9 (by decide) (fun hc2 => ?_) (fun hc2 => ?_)
    ·
      have hf := wk_ift hc2 hf
      obtain ⟨e0, e1, e2, e3, e4, e5⟩ := wk_inj5 hf
      subst e1
      subst e2
      subst e3
      subst e4
      subst e5
      exact W.vret hx hb hr (fun t ht hW => ⟨⟨(), rfl, rfl, by rw [ht]; exact hP, va_K.moved hW.alike hK, hD⟩, hS.F ht⟩) hS.2.2 d_D_requireState_20
    ·
      have hf := wk_iff hc2 hf
      exact blk12 I cx SP SL (upd (fun _ => 0) 1 k1) (fun _ => 0) _ _ _ hf (lv_sub hl [0, 1] rfl) hP hD hS
set_option maxHeartbeats 8000000 in
set_option maxRecDepth 100000 in
theorem ct_D_requireState_3 (l : Launch) (hfl : l.flags = flags0) (dC : Nat → ClassId) (dI : Nat → Nat → Nat) (h : Nat) (q : Nat → Nat) (g : Nat → ClassId) (hj : Nat) (pt : Nat) (tg : ClassId) (sa : Nat → Nat) (ta : Nat → Nat) (n : Nat) (SO : Nat → Int32) (tn : Nat → Nat) (tx : Nat → Nat → Int32) (sz : Nat) (I : MI) (cx : Nat) (SP : MI) (SL : MI) (k1 : Int32) (r : Int32) (I' : MI) (cx' : Nat) (SP' : MI) (SL' : MI) (hf : f_D_requireState n SO I cx SP SL  k1 = some (3, r, I', cx', SP', SL')) : th_Met l y_D_requireState w_D_requireState ({ frames := 6, cells := 1, slots := 6, locals := 81 }) (va_Pc [.ref h, .int k1] (fun U => U.heap.size = sz ∧ va_P (dC, dI) vwCl (tw_W h q g hj pt tg sa ta n SO tn tx I cx SP SL) U.heap ∧ va_K (dC, dI) vwCl (tw_T h q g hj pt tg sa ta n SO tn tx) U ∧ va_D (fun _ => True) (tw_W h q g hj pt tg sa ta n SO tn tx I cx SP SL) ∧ th_ZA (va_A (tw_W h q g hj pt tg sa ta n SO tn tx I cx SP SL) sz) U)) (th_Qw "java/lang/IllegalArgumentException" (fun t => va_P (dC, dI) vwCl (tw_W h q g hj pt tg sa ta n SO tn tx I' cx' SP' SL') t.heap ∧ va_K (dC, dI) vwCl (tw_T h q g hj pt tg sa ta n SO tn tx) t ∧ va_D (va_A (tw_W h q g hj pt tg sa ta n SO tn tx I cx SP SL) sz) (tw_W h q g hj pt tg sa ta n SO tn tx I' cx' SP' SL')) (va_A (tw_W h q g hj pt tg sa ta n SO tn tx I cx SP SL) sz)) 1 6 (va_A (tw_W h q g hj pt tg sa ta n SO tn tx I cx SP SL) sz) := by
  refine th_Met.ofW (cc := prog_1_method_20_code) (maxL := 2) (ret := none) (by decide) rfl ?_
  intro p e s m args below meth c s₁ B hml hnh hv
  obtain ⟨rfl, hsz, hP, hK, hD0, hZ⟩ := hv
  have hx := B.exec
  have hb := B.bytes
  have hr := B.returns
  have hts := atoms_spec (ws := w_D_requireState) B.pre
  have hown : s.vm.findClass "DraftTree" = some m.cls := findClass_of_methodNamed B.named
  have hlocks := B.notSynchronized
  have htr := Launch.traces_off hfl B.admits
  subst hsz
  have hD := hD0.self (sz := s.heap.size)
  generalize hAe : va_A (tw_W h q g hj pt tg sa ta n SO tn tx I cx SP SL) s.heap.size = B9 at hD hZ ⊢
  have hA : ∀ q : Nat, s.heap.size ≤ q → B9 q := fun q h => by rw [← hAe]; exact Or.inr h
  clear hAe
  have hS : va_S B9 s.heap s.heap [] := va_S.rf
  have hl := lv_entry ([.ref h, .int k1]) (n := 2) (Nat.le_of_ble_eq_true rfl)
  rw [lg_entry_eq]
  generalize (lg_sl ([.ref h, .int k1]) ++ List.replicate (2 - (lg_sl ([.ref h, .int k1])).length) Slot.unset).toArray = ls at hl ⊢
  have hl : lv_has ls 2 [(0, .ref h), (1, .int k1)] := hl
  have blk12 : ∀ (I : MI) (cx : Nat) (SP : MI) (SL : MI) (X : Nat → Int32) (Y : Nat → Int64) (ls : Array Slot) (H : Heap) (locs : List Loc), f_D_requireState_12 n SO I cx SP SL X Y = some (3, r, I', cx', SP', SL') → lv_has ls 2 [(0, .ref h), (1, .int (X 1))] → va_P (dC, dI) vwCl (tw_W h q g hj pt tg sa ta n SO tn tx I cx SP SL) H → va_D B9 (tw_W h q g hj pt tg sa ta n SO tn tx I cx SP SL) → va_S B9 s.heap H locs → W p l e (headSpec w_D_requireState ({ frames := 6, cells := 1, slots := 6, locals := 81 })).room s m ([.ref h, .int k1] : List Value).toArray below meth c H locs 0 0 (th_Q below (th_Qw "java/lang/IllegalArgumentException" (fun t => va_P (dC, dI) vwCl (tw_W h q g hj pt tg sa ta n SO tn tx I' cx' SP' SL') t.heap ∧ va_K (dC, dI) vwCl (tw_T h q g hj pt tg sa ta n SO tn tx) t ∧ va_D B9 (tw_W h q g hj pt tg sa ta n SO tn tx I' cx' SP' SL')) B9) ([.ref h, .int k1] : List Value).toArray s 1 6 B9) (F0 m 12 ls []) := by
    intro I cx SP SL X Y ls H locs hf hl hP hD hS
    unfold f_D_requireState_12 at hf
    obtain ⟨e0, e1, e2, e3, e4, e5⟩ := wk_inj5 hf
    subst e1
    subst e2
    subst e3
    subst e4
    subst e5
    exact th_newG hx hb htr hown (by decide) (by decide) (wk_thr hts hZ hS lk_431 lk_432 (fun _ a9 b9 => oa_1 a9 b9)) hnh (by rw [hl.1, hml]) hS (Nat.le_of_ble_eq_true rfl) (Nat.le_of_ble_eq_true rfl) (Nat.le_of_ble_eq_true rfl) (Nat.le_of_ble_eq_true rfl) (Nat.le_of_ble_eq_true rfl) (Nat.le_of_ble_eq_true rfl) hlocks (fun t hal hk => ⟨hP.kept (fun k q hq => hk _ (hP k q hq).lt), va_K.moved hal hK, hD⟩) d_D_requireState_12 d_D_requireState_15 d_D_requireState_16 d_D_requireState_19
  unfold f_D_requireState at hf
  refine lv_iload_n hx hb d_D_requireState_0 rfl (lv_at hl 1 rfl) ?_
  refine lv_if_lt (tgt := 12) hx hb d_D_requireState_1 (by decide) (fun hc1 => ?_) (fun hc1 => ?_)
  ·
    have hf := wk_ift hc1 hf
    exact blk12 I cx SP SL (upd (fun _ => 0) 1 k1) (fun _ => 0) _ _ _ hf (lv_sub hl [0, 1] rfl) hP hD hS
  ·
    have hf := wk_iff hc1 hf
    refine lv_iload_n hx hb d_D_requireState_4 rfl (lv_at hl 1 rfl) ?_
    refine lv_aload_n hx hb d_D_requireState_5 rfl (lv_at hl 0 rfl) ?_
    refine va_get (D := (dC, dI)) (ci := 0) (v := .int (I 3)) (C := R_D) (T := F_D) (N := 14) hx hb hts (fun w h => List.mem_cons_of_mem _ (in_D w h)) hown hK hP 0 rfl rfl 3 (by decide) (hts _ (List.mem_cons_of_mem _ lk_436)) (fun _ h9 => h9) rfl d_D_requireState_6 ?_
    refine lv_icmp_lt (tgt := 20) hx hb d_D_requireState_9 (by decide) (fun hc2 => ?_) (fun hc2 => ?_)
    ·
      have hf := wk_ift hc2 hf
      exact (wk_tag (by decide) hf).elim
    ·
      have hf := wk_iff hc2 hf
      exact blk12 I cx SP SL (upd (fun _ => 0) 1 k1) (fun _ => 0) _ _ _ hf (lv_sub hl [0, 1] rfl) hP hD hS

set_option maxHeartbeats 8000000 in
set_option maxRecDepth 100000 in
theorem cm_D_moveTo (l : Launch) (dC : Nat → ClassId) (dI : Nat → Nat → Nat) (h : Nat) (q : Nat → Nat) (g : Nat → ClassId) (hj : Nat) (pt : Nat) (tg : ClassId) (sa : Nat → Nat) (ta : Nat → Nat) (n : Nat) (SO : Nat → Int32) (tn : Nat → Nat) (tx : Nat → Nat → Int32) (sz : Nat) (I : MI) (cx : Nat) (SP : MI) (SL : MI) (k1 : Int32) (r : Int32) (I' : MI) (cx' : Nat) (SP' : MI) (SL' : MI) (hf : f_D_moveTo n SO I cx SP SL  k1 = some (r, I', cx', SP', SL')) : Met l y_D_moveTo w_D_moveTo ({ frames := 0, cells := 0, slots := 0, locals := 0 }) (va_Pc [.ref h, .int k1] (fun U => U.heap.size = sz ∧ va_P (dC, dI) vwCl (tw_W h q g hj pt tg sa ta n SO tn tx I cx SP SL) U.heap ∧ va_K (dC, dI) vwCl (tw_T h q g hj pt tg sa ta n SO tn tx) U ∧ va_D (fun _ => True) (tw_W h q g hj pt tg sa ta n SO tn tx I cx SP SL))) (va_Qv (fun (u : Unit) => u = u) (fun (_ : Unit) t => va_P (dC, dI) vwCl (tw_W h q g hj pt tg sa ta n SO tn tx I' cx' SP' SL') t.heap ∧ va_K (dC, dI) vwCl (tw_T h q g hj pt tg sa ta n SO tn tx) t ∧ va_D (va_A (tw_W h q g hj pt tg sa ta n SO tn tx I cx SP SL) sz) (tw_W h q g hj pt tg sa ta n SO tn tx I' cx' SP' SL')) (va_A (tw_W h q g hj pt tg sa ta n SO tn tx I cx SP SL) sz)) 0 0 (va_A (tw_W h q g hj pt tg sa ta n SO tn tx I cx SP SL) sz) := by
  refine Met.ofW (cc := prog_1_method_23_code) (maxL := 3) (ret := none) (by decide) rfl ?_
  intro p e s m args below meth c s₁ B hml hv
  obtain ⟨rfl, hsz, hP, hK, hD0⟩ := hv
  have hx := B.exec
  have hb := B.bytes
  have hr := B.returns
  have hts := atoms_spec (ws := w_D_moveTo) B.pre
  have hown : s.vm.findClass "DraftTree" = some m.cls := findClass_of_methodNamed B.named
  have hlocks := B.notSynchronized
  subst hsz
  have hD := hD0.self (sz := s.heap.size)
  generalize hAe : va_A (tw_W h q g hj pt tg sa ta n SO tn tx I cx SP SL) s.heap.size = B9 at hD ⊢
  have hA : ∀ q : Nat, s.heap.size ≤ q → B9 q := fun q h => by rw [← hAe]; exact Or.inr h
  clear hAe
  have hS : va_S B9 s.heap s.heap [] := va_S.rf
  have hl := lv_entry ([.ref h, .int k1]) (n := 3) (Nat.le_of_ble_eq_true rfl)
  rw [lg_entry_eq]
  generalize (lg_sl ([.ref h, .int k1]) ++ List.replicate (3 - (lg_sl ([.ref h, .int k1])).length) Slot.unset).toArray = ls at hl ⊢
  have hl : lv_has ls 3 [(0, .ref h), (1, .int k1)] := hl
  have blk70 : ∀ (I : MI) (cx : Nat) (SP : MI) (SL : MI) (X : Nat → Int32) (Y : Nat → Int64) (ls : Array Slot) (H : Heap) (locs : List Loc), f_D_moveTo_70 n SO I cx SP SL X Y = some (r, I', cx', SP', SL') → lv_has ls 3 [(0, .ref h), (1, .int (X 1)), (2, .ref (sa (k1).toNatClampNeg))] → va_P (dC, dI) vwCl (tw_W h q g hj pt tg sa ta n SO tn tx I cx SP SL) H → va_D B9 (tw_W h q g hj pt tg sa ta n SO tn tx I cx SP SL) → va_S B9 s.heap H locs → W p l e (headSpec w_D_moveTo ({ frames := 0, cells := 0, slots := 0, locals := 0 })).room s m ([.ref h, .int k1] : List Value).toArray below meth c H locs 0 0 (MQ below (va_Qv (fun (u : Unit) => u = u) (fun (_ : Unit) t => va_P (dC, dI) vwCl (tw_W h q g hj pt tg sa ta n SO tn tx I' cx' SP' SL') t.heap ∧ va_K (dC, dI) vwCl (tw_T h q g hj pt tg sa ta n SO tn tx) t ∧ va_D B9 (tw_W h q g hj pt tg sa ta n SO tn tx I' cx' SP' SL')) B9) ([.ref h, .int k1] : List Value).toArray s 0 0 B9) (F0 m 70 ls []) := by
    intro I cx SP SL X Y ls H locs hf hl hP hD hS
    unfold f_D_moveTo_70 at hf
    obtain ⟨e0, e1, e2, e3, e4⟩ := wk_inj4 hf
    subst e0
    subst e1
    subst e2
    subst e3
    subst e4
    exact W.vret hx hb hr (fun t ht hW => ⟨⟨(), rfl, rfl, by rw [ht]; exact hP, va_K.moved hW.alike hK, hD⟩, hS.F ht⟩) hS.2.2 d_D_moveTo_70
  unfold f_D_moveTo at hf
  refine lv_aload_n hx hb d_D_moveTo_0 rfl (lv_at hl 0 rfl) ?_
  refine va_get (D := (dC, dI)) (ci := 0) (v := .ref (q 2)) (C := R_D) (T := F_D) (N := 14) hx hb hts (fun w h => List.mem_cons_of_mem _ (in_D w h)) hown hK hP 0 rfl rfl 2 (by decide) (hts _ (List.mem_cons_of_mem _ lk_455)) (fun _ h9 => h9) rfl d_D_moveTo_1 ?_
  refine lv_aload_n hx hb d_D_moveTo_4 rfl (lv_at hl 0 rfl) ?_
  refine va_get (D := (dC, dI)) (ci := 0) (v := .int (I 4)) (C := R_D) (T := F_D) (N := 14) hx hb hts (fun w h => List.mem_cons_of_mem _ (in_D w h)) hown hK hP 0 rfl rfl 4 (by decide) (hts _ (List.mem_cons_of_mem _ lk_435)) (fun _ h9 => h9) rfl d_D_moveTo_5 ?_
  obtain ⟨hc1, hf⟩ := wk_if hf
  obtain ⟨hc1n, hf⟩ := wk_if hf
  have hc1i := wk_inb_lt hc1n
  refine va_aldq hx hb hK hP 1 0 rfl rfl (wk_inb_ok hc1) d_D_moveTo_8 ?_
  refine wk_top (w := .ref (sa ((I 4)).toNatClampNeg)) (tw_rf hc1i) ?_
  refine lv_aload_n hx hb d_D_moveTo_9 rfl (lv_at hl 0 rfl) ?_
  refine va_get (D := (dC, dI)) (ci := 0) (v := .int (I 6)) (C := R_D) (T := F_D) (N := 14) hx hb hts (fun w h => List.mem_cons_of_mem _ (in_D w h)) hown hK hP 0 rfl rfl 6 (by decide) (hts _ (List.mem_cons_of_mem _ lk_437)) (fun _ h9 => h9) rfl d_D_moveTo_10 ?_
  refine va_put (D := (dC, dI)) (ci := 1) (v := .int (I 6)) (ty := .int) (C := R_S) (T := F_S) (N := 4) hx hb hts (fun w h => List.mem_cons_of_mem _ (in_S w h)) t_S tk_S n_S hown hK hP hD hS (2 + ((I 4)).toNatClampNeg) (va_poolAt rfl hc1i) rfl 2 (by decide) (hts _ (List.mem_cons_of_mem _ lk_460)) (fun _ h9 => h9) rfl (by decide +kernel) rfl rfl (Nat.le_of_ble_eq_true rfl) d_D_moveTo_13 (fun H locs hP hD hS => ?_)
  have hP : va_P (dC, dI) vwCl (tw_W h q g hj pt tg sa ta n SO tn tx I cx (upd SP ((I 4)).toNatClampNeg (I 6)) SL) H := by rw [← tw_setSP (v := (I 6)) hc1i]; exact hP
  have hD : va_D B9 (tw_W h q g hj pt tg sa ta n SO tn tx I cx (upd SP ((I 4)).toNatClampNeg (I 6)) SL) := by rw [← tw_setSP (v := (I 6)) hc1i]; exact hD
  obtain ⟨SP1, hSP1, hf⟩ := wk_letE hf
  have hP : va_P (dC, dI) vwCl (tw_W h q g hj pt tg sa ta n SO tn tx I cx SP1 SL) H := by rw [hSP1]; exact hP
  have hD : va_D B9 (tw_W h q g hj pt tg sa ta n SO tn tx I cx SP1 SL) := by rw [hSP1]; exact hD
  clear hSP1
  refine lv_aload_n hx hb d_D_moveTo_16 rfl (lv_at hl 0 rfl) ?_
  refine va_get (D := (dC, dI)) (ci := 0) (v := .ref (q 2)) (C := R_D) (T := F_D) (N := 14) hx hb hts (fun w h => List.mem_cons_of_mem _ (in_D w h)) hown hK hP 0 rfl rfl 2 (by decide) (hts _ (List.mem_cons_of_mem _ lk_455)) (fun _ h9 => h9) rfl d_D_moveTo_17 ?_
  refine lv_iload_n hx hb d_D_moveTo_20 rfl (lv_at hl 1 rfl) ?_
  obtain ⟨hc2, hf⟩ := wk_if hf
  obtain ⟨hc2n, hf⟩ := wk_if hf
  have hc2i := wk_inb_lt hc2n
  refine va_aldq hx hb hK hP 1 0 rfl rfl (wk_inb_ok hc2) d_D_moveTo_21 ?_
  refine wk_top (w := .ref (sa (k1).toNatClampNeg)) (tw_rf hc2i) ?_
  refine lv_astore_n (lv' := [(2, .ref (sa (k1).toNatClampNeg)), (0, .ref h), (1, .int k1)]) hx hb d_D_moveTo_22 rfl hl (by decide) rfl (fun ls hl => ?_)
  have hl : lv_has ls 3 [(2, .ref (sa (k1).toNatClampNeg)), (0, .ref h), (1, .int k1)] := hl
  refine lv_aload_n hx hb d_D_moveTo_23 rfl (lv_at hl 1 rfl) ?_
  refine lv_iload_n hx hb d_D_moveTo_24 rfl (lv_at hl 2 rfl) ?_
  refine va_put (D := (dC, dI)) (ci := 0) (v := .int k1) (ty := .int) (C := R_D) (T := F_D) (N := 14) hx hb hts (fun w h => List.mem_cons_of_mem _ (in_D w h)) t_D tk_D n_D hown hK hP hD hS 0 rfl rfl 4 (by decide) (hts _ (List.mem_cons_of_mem _ lk_435)) (fun _ h9 => h9) rfl (by decide +kernel) rfl rfl (Nat.le_of_ble_eq_true rfl) d_D_moveTo_25 (fun H locs hP hD hS => ?_)
  obtain ⟨I2, hI2, hf⟩ := wk_letE hf
  have hP : va_P (dC, dI) vwCl (tw_W h q g hj pt tg sa ta n SO tn tx I2 cx SP1 SL) H := by rw [hI2]; exact hP
  have hD : va_D B9 (tw_W h q g hj pt tg sa ta n SO tn tx I2 cx SP1 SL) := by rw [hI2]; exact hD
  clear hI2
  refine lv_aload_n hx hb d_D_moveTo_28 rfl (lv_at hl 1 rfl) ?_
  refine lv_aload_n hx hb d_D_moveTo_29 rfl (lv_at hl 0 rfl) ?_
  refine va_get (D := (dC, dI)) (ci := 1) (v := .ref (ta (k1).toNatClampNeg)) (C := R_S) (T := F_S) (N := 4) hx hb hts (fun w h => List.mem_cons_of_mem _ (in_S w h)) hown hK hP (2 + (k1).toNatClampNeg) (va_poolAt rfl hc2i) rfl 0 (by decide) (hts _ (List.mem_cons_of_mem _ lk_461)) (fun _ h9 => h9) rfl d_D_moveTo_30 ?_
  refine va_put (D := (dC, dI)) (ci := 0) (v := .ref (ta (k1).toNatClampNeg)) (ty := .array .char) (C := R_D) (T := F_D) (N := 14) hx hb hts (fun w h => List.mem_cons_of_mem _ (in_D w h)) t_D tk_D n_D hown hK hP hD hS 0 rfl rfl 5 (by decide) (hts _ (List.mem_cons_of_mem _ lk_241)) (fun _ h9 => h9) rfl (by decide +kernel) rfl rfl (Nat.le_of_ble_eq_true rfl) d_D_moveTo_33 (fun H locs hP hD hS => ?_)
  have hP : va_P (dC, dI) vwCl (tw_W h q g hj pt tg sa ta n SO tn tx I2 (k1).toNatClampNeg SP1 SL) H := hP
  have hD : va_D B9 (tw_W h q g hj pt tg sa ta n SO tn tx I2 (k1).toNatClampNeg SP1 SL) := hD
  refine lv_aload_n hx hb d_D_moveTo_36 rfl (lv_at hl 1 rfl) ?_
  refine lv_aload_n hx hb d_D_moveTo_37 rfl (lv_at hl 0 rfl) ?_
  refine va_get (D := (dC, dI)) (ci := 1) (v := .int (SP1 (k1).toNatClampNeg)) (C := R_S) (T := F_S) (N := 4) hx hb hts (fun w h => List.mem_cons_of_mem _ (in_S w h)) hown hK hP (2 + (k1).toNatClampNeg) (va_poolAt rfl hc2i) rfl 2 (by decide) (hts _ (List.mem_cons_of_mem _ lk_460)) (fun _ h9 => h9) rfl d_D_moveTo_38 ?_
  refine va_put (D := (dC, dI)) (ci := 0) (v := .int (SP1 (k1).toNatClampNeg)) (ty := .int) (C := R_D) (T := F_D) (N := 14) hx hb hts (fun w h => List.mem_cons_of_mem _ (in_D w h)) t_D tk_D n_D hown hK hP hD hS 0 rfl rfl 6 (by decide) (hts _ (List.mem_cons_of_mem _ lk_437)) (fun _ h9 => h9) rfl (by decide +kernel) rfl rfl (Nat.le_of_ble_eq_true rfl) d_D_moveTo_41 (fun H locs hP hD hS => ?_)
  obtain ⟨I3, hI3, hf⟩ := wk_letE hf
  have hP : va_P (dC, dI) vwCl (tw_W h q g hj pt tg sa ta n SO tn tx I3 (k1).toNatClampNeg SP1 SL) H := by rw [hI3]; exact hP
  have hD : va_D B9 (tw_W h q g hj pt tg sa ta n SO tn tx I3 (k1).toNatClampNeg SP1 SL) := by rw [hI3]; exact hD
  clear hI3
  refine lv_aload_n hx hb d_D_moveTo_44 rfl (lv_at hl 1 rfl) ?_
  refine lv_iconst (v := (-1)) hx hb d_D_moveTo_45 (by decide) ?_
  refine va_put (D := (dC, dI)) (ci := 0) (v := .int (-1)) (ty := .int) (C := R_D) (T := F_D) (N := 14) hx hb hts (fun w h => List.mem_cons_of_mem _ (in_D w h)) t_D tk_D n_D hown hK hP hD hS 0 rfl rfl 7 (by decide) (hts _ (List.mem_cons_of_mem _ lk_438)) (fun _ h9 => h9) rfl (by decide +kernel) rfl rfl (Nat.le_of_ble_eq_true rfl) d_D_moveTo_46 (fun H locs hP hD hS => ?_)
  obtain ⟨I4, hI4, hf⟩ := wk_letE hf
  have hP : va_P (dC, dI) vwCl (tw_W h q g hj pt tg sa ta n SO tn tx I4 (k1).toNatClampNeg SP1 SL) H := by rw [hI4]; exact hP
  have hD : va_D B9 (tw_W h q g hj pt tg sa ta n SO tn tx I4 (k1).toNatClampNeg SP1 SL) := by rw [hI4]; exact hD
  clear hI4
  refine lv_aload_n hx hb d_D_moveTo_49 rfl (lv_at hl 0 rfl) ?_
  refine va_get (D := (dC, dI)) (ci := 1) (v := .int (SO (k1).toNatClampNeg)) (C := R_S) (T := F_S) (N := 4) hx hb hts (fun w h => List.mem_cons_of_mem _ (in_S w h)) hown hK hP (2 + (k1).toNatClampNeg) (va_poolAt rfl hc2i) rfl 1 (by decide) (hts _ (List.mem_cons_of_mem _ lk_462)) (fun _ h9 => h9) rfl d_D_moveTo_50 ?_
  refine lv_iconst (v := (-1)) hx hb d_D_moveTo_53 (by decide) ?_
  refine lv_icmp_eq (tgt := 70) hx hb d_D_moveTo_54 (by decide) (fun hc3 => ?_) (fun hc3 => ?_)
  ·
    have hf := wk_ift hc3 hf
    exact blk70 I4 (k1).toNatClampNeg SP1 SL (upd (fun _ => 0) 1 k1) (fun _ => 0) _ _ _ hf (lv_sub hl [1, 2, 0] rfl) hP hD hS
  ·
    have hf := wk_iff hc3 hf
    refine lv_aload_n hx hb d_D_moveTo_57 rfl (lv_at hl 1 rfl) ?_
    refine va_get (D := (dC, dI)) (ci := 0) (v := .ref (q 2)) (C := R_D) (T := F_D) (N := 14) hx hb hts (fun w h => List.mem_cons_of_mem _ (in_D w h)) hown hK hP 0 rfl rfl 2 (by decide) (hts _ (List.mem_cons_of_mem _ lk_455)) (fun _ h9 => h9) rfl d_D_moveTo_58 ?_
    refine lv_aload_n hx hb d_D_moveTo_61 rfl (lv_at hl 0 rfl) ?_
    refine va_get (D := (dC, dI)) (ci := 1) (v := .int (SO (k1).toNatClampNeg)) (C := R_S) (T := F_S) (N := 4) hx hb hts (fun w h => List.mem_cons_of_mem _ (in_S w h)) hown hK hP (2 + (k1).toNatClampNeg) (va_poolAt rfl hc2i) rfl 1 (by decide) (hts _ (List.mem_cons_of_mem _ lk_462)) (fun _ h9 => h9) rfl d_D_moveTo_62 ?_
    obtain ⟨hc4, hf⟩ := wk_if hf
    obtain ⟨hc4n, hf⟩ := wk_if hf
    have hc4i := wk_inb_lt hc4n
    refine va_aldq hx hb hK hP 1 0 rfl rfl (wk_inb_ok hc4) d_D_moveTo_65 ?_
    refine wk_top (w := .ref (sa ((SO (k1).toNatClampNeg)).toNatClampNeg)) (tw_rf hc4i) ?_
    refine lv_iload_n hx hb d_D_moveTo_66 rfl (lv_at hl 2 rfl) ?_
    refine va_put (D := (dC, dI)) (ci := 1) (v := .int k1) (ty := .int) (C := R_S) (T := F_S) (N := 4) hx hb hts (fun w h => List.mem_cons_of_mem _ (in_S w h)) t_S tk_S n_S hown hK hP hD hS (2 + ((SO (k1).toNatClampNeg)).toNatClampNeg) (va_poolAt rfl hc4i) rfl 3 (by decide) (hts _ (List.mem_cons_of_mem _ lk_463)) (fun _ h9 => h9) rfl (by decide +kernel) rfl rfl (Nat.le_of_ble_eq_true rfl) d_D_moveTo_67 (fun H locs hP hD hS => ?_)
    have hP : va_P (dC, dI) vwCl (tw_W h q g hj pt tg sa ta n SO tn tx I4 (k1).toNatClampNeg SP1 (upd SL ((SO (k1).toNatClampNeg)).toNatClampNeg k1)) H := by rw [← tw_setSL (v := k1) hc4i]; exact hP
    have hD : va_D B9 (tw_W h q g hj pt tg sa ta n SO tn tx I4 (k1).toNatClampNeg SP1 (upd SL ((SO (k1).toNatClampNeg)).toNatClampNeg k1)) := by rw [← tw_setSL (v := k1) hc4i]; exact hD
    obtain ⟨SL5, hSL5, hf⟩ := wk_letE hf
    have hP : va_P (dC, dI) vwCl (tw_W h q g hj pt tg sa ta n SO tn tx I4 (k1).toNatClampNeg SP1 SL5) H := by rw [hSL5]; exact hP
    have hD : va_D B9 (tw_W h q g hj pt tg sa ta n SO tn tx I4 (k1).toNatClampNeg SP1 SL5) := by rw [hSL5]; exact hD
    clear hSL5
    exact blk70 I4 (k1).toNatClampNeg SP1 SL5 (upd (fun _ => 0) 1 k1) (fun _ => 0) _ _ _ hf (lv_sub hl [1, 2, 0] rfl) hP hD hS

set_option maxHeartbeats 8000000 in
set_option maxRecDepth 100000 in
theorem cm_D_jump (l : Launch) (dC : Nat → ClassId) (dI : Nat → Nat → Nat) (h : Nat) (q : Nat → Nat) (g : Nat → ClassId) (hj : Nat) (pt : Nat) (tg : ClassId) (sa : Nat → Nat) (ta : Nat → Nat) (n : Nat) (SO : Nat → Int32) (tn : Nat → Nat) (tx : Nat → Nat → Int32) (sz : Nat) (I : MI) (cx : Nat) (SP : MI) (SL : MI) (k1 : Int32) (r : Int32) (I' : MI) (cx' : Nat) (SP' : MI) (SL' : MI) (hf : f_D_jump n SO I cx SP SL  k1 = some (0, r, I', cx', SP', SL')) : Met l y_D_jump w_D_jump ({ frames := 1, cells := 0, slots := 0, locals := 22 }) (va_Pc [.ref h, .int k1] (fun U => U.heap.size = sz ∧ va_P (dC, dI) vwCl (tw_W h q g hj pt tg sa ta n SO tn tx I cx SP SL) U.heap ∧ va_K (dC, dI) vwCl (tw_T h q g hj pt tg sa ta n SO tn tx) U ∧ va_D (fun _ => True) (tw_W h q g hj pt tg sa ta n SO tn tx I cx SP SL))) (va_Qv (fun (u : Unit) => u = u) (fun (_ : Unit) t => va_P (dC, dI) vwCl (tw_W h q g hj pt tg sa ta n SO tn tx I' cx' SP' SL') t.heap ∧ va_K (dC, dI) vwCl (tw_T h q g hj pt tg sa ta n SO tn tx) t ∧ va_D (va_A (tw_W h q g hj pt tg sa ta n SO tn tx I cx SP SL) sz) (tw_W h q g hj pt tg sa ta n SO tn tx I' cx' SP' SL')) (va_A (tw_W h q g hj pt tg sa ta n SO tn tx I cx SP SL) sz)) 0 0 (va_A (tw_W h q g hj pt tg sa ta n SO tn tx I cx SP SL) sz) := by
  refine Met.ofW (cc := prog_1_method_13_code) (maxL := 2) (ret := none) (by decide) rfl ?_
  intro p e s m args below meth c s₁ B hml hv
  obtain ⟨rfl, hsz, hP, hK, hD0⟩ := hv
  have hx := B.exec
  have hb := B.bytes
  have hr := B.returns
  have hts := atoms_spec (ws := w_D_jump) B.pre
  have hown : s.vm.findClass "DraftTree" = some m.cls := findClass_of_methodNamed B.named
  have hlocks := B.notSynchronized
  subst hsz
  have hD := hD0.self (sz := s.heap.size)
  generalize hAe : va_A (tw_W h q g hj pt tg sa ta n SO tn tx I cx SP SL) s.heap.size = B9 at hD ⊢
  have hA : ∀ q : Nat, s.heap.size ≤ q → B9 q := fun q h => by rw [← hAe]; exact Or.inr h
  clear hAe
  have hS : va_S B9 s.heap s.heap [] := va_S.rf
  have hl := lv_entry ([.ref h, .int k1]) (n := 2) (Nat.le_of_ble_eq_true rfl)
  rw [lg_entry_eq]
  generalize (lg_sl ([.ref h, .int k1]) ++ List.replicate (2 - (lg_sl ([.ref h, .int k1])).length) Slot.unset).toArray = ls at hl ⊢
  have hl : lv_has ls 2 [(0, .ref h), (1, .int k1)] := hl
  unfold f_D_jump at hf
  refine lv_aload_n hx hb d_D_jump_0 rfl (lv_at hl 0 rfl) ?_
  refine lv_iload_n hx hb d_D_jump_1 rfl (lv_at hl 1 rfl) ?_
  have hFc := va_freeM (wc := (tw_W h q g hj pt tg sa ta n SO tn tx I cx SP SL)) hD hS hA (fun _ h9 => h9)
  cases hg1 : f_D_requireState n SO I cx SP SL k1 with
  | none => rw [hg1] at hf; cases hf
  | some z1 =>
    obtain ⟨tg1, r1, I1, cx1, SP1, SL1⟩ := z1
    rw [hg1] at hf
    dsimp only [Option.bind_some] at hf
    by_cases ht1 : tg1 = 0
    ·
      have hf := wk_ift ht1 hf
      rw [ht1] at hg1
      refine va_callv (va_runV (As := [.int k1]) (rest := []) ⟨hx, hb, hml, hown, hts⟩ (cm_D_requireState l dC dI h q g hj pt tg sa ta n SO tn tx _  I cx SP SL k1 r1 I1 cx1 SP1 SL1 hg1) (cwV 1 hts (gd_v lk_452 lk_453 lk_454 lk_444 lk_451) rfl rfl rfl (by decide +kernel) ⟨Nat.le_of_ble_eq_true rfl, Nat.le_of_ble_eq_true rfl⟩) ⟨fun a U g mk q => by obtain ⟨q0, q1, qP, qK, qD⟩ := q; exact ⟨q0, q1, qP, va_K.moved (u := U) (U := U.calling g mk a) (Vm.Alike.refl U.vm) qK, qD⟩, va_recv (ci := 0) (q0 := 0) hK hP rfl rfl, fun U hU hW => ⟨rfl, by rw [hU], by rw [hU]; exact hP, va_K.moved hW.alike hK, hD.weaken (fun _ _ _ _ => trivial)⟩⟩ rfl rfl hl.1 rfl (lv_room (Nat.le_of_ble_eq_true rfl)) d_D_jump_2 ⟨Nat.le_of_ble_eq_true rfl, Nat.le_of_ble_eq_true rfl⟩) hS (fun q _ h => hFc q h) hFc (fun u t H1 locs ht hvm hw hB hz1 hk1 hS => ?_)
      obtain ⟨hP1, hK1, hD1⟩ := hB
      rw [ht] at hP1
      have hP := hP1
      have hD := hD1.weaken (fun _ q _ h => hFc q.1 h)
      generalize H1 = H at hP hS ⊢
      refine lv_aload_n hx hb d_D_jump_5 rfl (lv_at hl 0 rfl) ?_
      refine lv_iload_n hx hb d_D_jump_6 rfl (lv_at hl 1 rfl) ?_
      have hFc := va_freeM (wc := (tw_W h q g hj pt tg sa ta n SO tn tx I1 cx1 SP1 SL1)) hD hS hA (fun _ h9 => h9)
      cases hg2 : f_D_moveTo n SO I1 cx1 SP1 SL1 k1 with
      | none => rw [hg2] at hf; cases hf
      | some z2 =>
        obtain ⟨r2, I2, cx2, SP2, SL2⟩ := z2
        rw [hg2] at hf
        dsimp only [Option.bind_some] at hf
        refine va_callv (va_runV (As := [.int k1]) (rest := []) ⟨hx, hb, hml, hown, hts⟩ (cm_D_moveTo l dC dI h q g hj pt tg sa ta n SO tn tx _  I1 cx1 SP1 SL1 k1 r2 I2 cx2 SP2 SL2 hg2) (cwV 1 hts (gd_v lk_465 lk_466 lk_467 lk_444 lk_464) rfl rfl rfl (by decide +kernel) ⟨Nat.le_of_ble_eq_true rfl, Nat.le_of_ble_eq_true rfl⟩) ⟨fun a U g mk q => by obtain ⟨q0, q1, qP, qK, qD⟩ := q; exact ⟨q0, q1, qP, va_K.moved (u := U) (U := U.calling g mk a) (Vm.Alike.refl U.vm) qK, qD⟩, va_recv (ci := 0) (q0 := 0) hK hP rfl rfl, fun U hU hW => ⟨rfl, by rw [hU], by rw [hU]; exact hP, va_K.moved hW.alike hK, hD.weaken (fun _ _ _ _ => trivial)⟩⟩ rfl rfl hl.1 rfl (lv_room (Nat.le_of_ble_eq_true rfl)) d_D_jump_7 ⟨Nat.le_of_ble_eq_true rfl, Nat.le_of_ble_eq_true rfl⟩) hS (fun q _ h => hFc q h) hFc (fun u t H1 locs ht hvm hw hB hz1 hk1 hS => ?_)
        obtain ⟨hP1, hK1, hD1⟩ := hB
        rw [ht] at hP1
        have hP := hP1
        have hD := hD1.weaken (fun _ q _ h => hFc q.1 h)
        generalize H1 = H at hP hS ⊢
        obtain ⟨e0, e1, e2, e3, e4, e5⟩ := wk_inj5 hf
        subst e1
        subst e2
        subst e3
        subst e4
        subst e5
        exact W.vret hx hb hr (fun t ht hW => ⟨⟨(), rfl, rfl, by rw [ht]; exact hP, va_K.moved hW.alike hK, hD⟩, hS.F ht⟩) hS.2.2 d_D_jump_10
    ·
      have hf := wk_iff ht1 hf
      by_cases hq1_3 : tg1 = 3
      ·
        have hf := wk_ift hq1_3 hf
        exact (wk_tag (by decide) hf).elim
      ·
        have hf := wk_iff hq1_3 hf
        cases hf
set_option maxHeartbeats 8000000 in
set_option maxRecDepth 100000 in
theorem ct_D_jump_3 (l : Launch) (hfl : l.flags = flags0) (dC : Nat → ClassId) (dI : Nat → Nat → Nat) (h : Nat) (q : Nat → Nat) (g : Nat → ClassId) (hj : Nat) (pt : Nat) (tg : ClassId) (sa : Nat → Nat) (ta : Nat → Nat) (n : Nat) (SO : Nat → Int32) (tn : Nat → Nat) (tx : Nat → Nat → Int32) (sz : Nat) (I : MI) (cx : Nat) (SP : MI) (SL : MI) (k1 : Int32) (r : Int32) (I' : MI) (cx' : Nat) (SP' : MI) (SL' : MI) (hf : f_D_jump n SO I cx SP SL  k1 = some (3, r, I', cx', SP', SL')) : th_Met l y_D_jump w_D_jump ({ frames := 7, cells := 1, slots := 6, locals := 102 }) (va_Pc [.ref h, .int k1] (fun U => U.heap.size = sz ∧ va_P (dC, dI) vwCl (tw_W h q g hj pt tg sa ta n SO tn tx I cx SP SL) U.heap ∧ va_K (dC, dI) vwCl (tw_T h q g hj pt tg sa ta n SO tn tx) U ∧ va_D (fun _ => True) (tw_W h q g hj pt tg sa ta n SO tn tx I cx SP SL) ∧ th_ZA (va_A (tw_W h q g hj pt tg sa ta n SO tn tx I cx SP SL) sz) U)) (th_Qw "java/lang/IllegalArgumentException" (fun t => va_P (dC, dI) vwCl (tw_W h q g hj pt tg sa ta n SO tn tx I' cx' SP' SL') t.heap ∧ va_K (dC, dI) vwCl (tw_T h q g hj pt tg sa ta n SO tn tx) t ∧ va_D (va_A (tw_W h q g hj pt tg sa ta n SO tn tx I cx SP SL) sz) (tw_W h q g hj pt tg sa ta n SO tn tx I' cx' SP' SL')) (va_A (tw_W h q g hj pt tg sa ta n SO tn tx I cx SP SL) sz)) 1 6 (va_A (tw_W h q g hj pt tg sa ta n SO tn tx I cx SP SL) sz) := by
  refine th_Met.ofW (cc := prog_1_method_13_code) (maxL := 2) (ret := none) (by decide) rfl ?_
  intro p e s m args below meth c s₁ B hml hnh hv
  obtain ⟨rfl, hsz, hP, hK, hD0, hZ⟩ := hv
  have hx := B.exec
  have hb := B.bytes
  have hr := B.returns
  have hts := atoms_spec (ws := w_D_jump) B.pre
  have hown : s.vm.findClass "DraftTree" = some m.cls := findClass_of_methodNamed B.named
  have hlocks := B.notSynchronized
  have htr := Launch.traces_off hfl B.admits
  subst hsz
  have hD := hD0.self (sz := s.heap.size)
  generalize hAe : va_A (tw_W h q g hj pt tg sa ta n SO tn tx I cx SP SL) s.heap.size = B9 at hD hZ ⊢
  have hA : ∀ q : Nat, s.heap.size ≤ q → B9 q := fun q h => by rw [← hAe]; exact Or.inr h
  clear hAe
  have hS : va_S B9 s.heap s.heap [] := va_S.rf
  have hl := lv_entry ([.ref h, .int k1]) (n := 2) (Nat.le_of_ble_eq_true rfl)
  rw [lg_entry_eq]
  generalize (lg_sl ([.ref h, .int k1]) ++ List.replicate (2 - (lg_sl ([.ref h, .int k1])).length) Slot.unset).toArray = ls at hl ⊢
  have hl : lv_has ls 2 [(0, .ref h), (1, .int k1)] := hl
  unfold f_D_jump at hf
  refine lv_aload_n hx hb d_D_jump_0 rfl (lv_at hl 0 rfl) ?_
  refine lv_iload_n hx hb d_D_jump_1 rfl (lv_at hl 1 rfl) ?_
  have hFc := va_freeM (wc := (tw_W h q g hj pt tg sa ta n SO tn tx I cx SP SL)) hD hS hA (fun _ h9 => h9)
  cases hg1 : f_D_requireState n SO I cx SP SL k1 with
  | none => rw [hg1] at hf; cases hf
  | some z1 =>
    obtain ⟨tg1, r1, I1, cx1, SP1, SL1⟩ := z1
    rw [hg1] at hf
    dsimp only [Option.bind_some] at hf
    by_cases ht1 : tg1 = 0
    ·
      have hf := wk_ift ht1 hf
      rw [ht1] at hg1
      refine va_callv (va_runV (As := [.int k1]) (rest := []) ⟨hx, hb, hml, hown, hts⟩ (cm_D_requireState l dC dI h q g hj pt tg sa ta n SO tn tx _  I cx SP SL k1 r1 I1 cx1 SP1 SL1 hg1) (cwV 1 hts (gd_v lk_452 lk_453 lk_454 lk_444 lk_451) rfl rfl rfl (by decide +kernel) ⟨Nat.le_of_ble_eq_true rfl, Nat.le_of_ble_eq_true rfl⟩) ⟨fun a U g mk q => by obtain ⟨q0, q1, qP, qK, qD⟩ := q; exact ⟨q0, q1, qP, va_K.moved (u := U) (U := U.calling g mk a) (Vm.Alike.refl U.vm) qK, qD⟩, va_recv (ci := 0) (q0 := 0) hK hP rfl rfl, fun U hU hW => ⟨rfl, by rw [hU], by rw [hU]; exact hP, va_K.moved hW.alike hK, hD.weaken (fun _ _ _ _ => trivial)⟩⟩ rfl rfl hl.1 rfl (lv_room (Nat.le_of_ble_eq_true rfl)) d_D_jump_2 ⟨Nat.le_of_ble_eq_true rfl, Nat.le_of_ble_eq_true rfl⟩) hS (fun q _ h => hFc q h) hFc (fun u t H1 locs ht hvm hw hB hz1 hk1 hS => ?_)
      obtain ⟨hP1, hK1, hD1⟩ := hB
      rw [ht] at hP1
      have hP := hP1
      have hD := hD1.weaken (fun _ q _ h => hFc q.1 h)
      generalize H1 = H at hP hS ⊢
      refine lv_aload_n hx hb d_D_jump_5 rfl (lv_at hl 0 rfl) ?_
      refine lv_iload_n hx hb d_D_jump_6 rfl (lv_at hl 1 rfl) ?_
      have hFc := va_freeM (wc := (tw_W h q g hj pt tg sa ta n SO tn tx I1 cx1 SP1 SL1)) hD hS hA (fun _ h9 => h9)
      cases hg2 : f_D_moveTo n SO I1 cx1 SP1 SL1 k1 with
      | none => rw [hg2] at hf; cases hf
      | some z2 =>
        obtain ⟨r2, I2, cx2, SP2, SL2⟩ := z2
        rw [hg2] at hf
        dsimp only [Option.bind_some] at hf
        refine va_callv (va_runV (As := [.int k1]) (rest := []) ⟨hx, hb, hml, hown, hts⟩ (cm_D_moveTo l dC dI h q g hj pt tg sa ta n SO tn tx _  I1 cx1 SP1 SL1 k1 r2 I2 cx2 SP2 SL2 hg2) (cwV 1 hts (gd_v lk_465 lk_466 lk_467 lk_444 lk_464) rfl rfl rfl (by decide +kernel) ⟨Nat.le_of_ble_eq_true rfl, Nat.le_of_ble_eq_true rfl⟩) ⟨fun a U g mk q => by obtain ⟨q0, q1, qP, qK, qD⟩ := q; exact ⟨q0, q1, qP, va_K.moved (u := U) (U := U.calling g mk a) (Vm.Alike.refl U.vm) qK, qD⟩, va_recv (ci := 0) (q0 := 0) hK hP rfl rfl, fun U hU hW => ⟨rfl, by rw [hU], by rw [hU]; exact hP, va_K.moved hW.alike hK, hD.weaken (fun _ _ _ _ => trivial)⟩⟩ rfl rfl hl.1 rfl (lv_room (Nat.le_of_ble_eq_true rfl)) d_D_jump_7 ⟨Nat.le_of_ble_eq_true rfl, Nat.le_of_ble_eq_true rfl⟩) hS (fun q _ h => hFc q h) hFc (fun u t H1 locs ht hvm hw hB hz1 hk1 hS => ?_)
        obtain ⟨hP1, hK1, hD1⟩ := hB
        rw [ht] at hP1
        have hP := hP1
        have hD := hD1.weaken (fun _ q _ h => hFc q.1 h)
        generalize H1 = H at hP hS ⊢
        exact (wk_tag (by decide) hf).elim
    ·
      have hf := wk_iff ht1 hf
      by_cases hq1_3 : tg1 = 3
      ·
        have hf := wk_ift hq1_3 hf
        rw [hq1_3] at hg1
        obtain ⟨e0, e1, e2, e3, e4, e5⟩ := wk_inj5 hf
        subst e1
        subst e2
        subst e3
        subst e4
        subst e5
        refine th_passG (A1 := va_A (tw_W h q g hj pt tg sa ta n SO tn tx I cx SP SL) _) (th_runV (As := [.int k1]) (rest := []) ⟨hx, hb, hml, hown, hts⟩ (ct_D_requireState_3 l hfl dC dI h q g hj pt tg sa ta n SO tn tx _  I cx SP SL k1 r1 I1 cx1 SP1 SL1 hg1) (cwV 1 hts (gd_v lk_452 lk_453 lk_454 lk_444 lk_451) rfl rfl rfl (by decide +kernel) ⟨Nat.le_of_ble_eq_true rfl, Nat.le_of_ble_eq_true rfl⟩) ⟨fun a U g mk q => by obtain ⟨q0, q1, qP, qK, qD, qZ⟩ := q; exact ⟨q0, q1, qP, va_K.moved (u := U) (U := U.calling g mk a) (Vm.Alike.refl U.vm) qK, qD, th_ZA.calling qZ⟩, va_recv (ci := 0) (q0 := 0) hK hP rfl rfl, fun U hU hW => ⟨rfl, by rw [hU], by rw [hU]; exact hP, va_K.moved hW.alike hK, hD.weaken (fun _ _ _ _ => trivial), th_ZA.to hZ hS hU hW hFc⟩⟩ rfl rfl hl.1 rfl (lv_room (Nat.le_of_ble_eq_true rfl)) d_D_jump_2 ⟨Nat.le_of_ble_eq_true rfl, Nat.le_of_ble_eq_true rfl⟩) hnh hlocks hS hFc (Nat.le_of_ble_eq_true rfl) (Nat.le_of_ble_eq_true rfl) (fun t hal hb1 hz1 hk1 u hu hau => ?_)
        obtain ⟨hP1, hK1, hD1⟩ := hb1
        exact ⟨by rw [hu]; exact hP1, va_K.moved hau hK, hD1.weaken (fun _ q _ h => hFc q.1 h)⟩
      ·
        have hf := wk_iff hq1_3 hf
        cases hf

