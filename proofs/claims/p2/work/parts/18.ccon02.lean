set_option maxHeartbeats 8000000 in
set_option maxRecDepth 100000 in
theorem cm_A_seek (l : Launch) (dC : Nat → ClassId) (dI : Nat → Nat → Nat) (h : Nat) (q : Nat → Nat) (g : Nat → ClassId) (tq : Nat) (tg : ClassId) (tn : Nat) (tx : Nat → Int32) (sz : Nat) (I : MI) (A : MA) (L : ML) (k2 : Int32) (r : Int32) (I' : MI) (A' : MA) (L' : ML) (hf : f_A_seek tn tx I A L  k2 = some (r, I', A', L')) : Met l y_A_seek w_A_seek ({ frames := 4, cells := 0, slots := 0, locals := 103 }) (va_Pc [.ref h, .ref tq, .int k2] (fun U => U.heap.size = sz ∧ va_P (dC, dI) vwCl (at_W h q g tq tg tn tx I A L) U.heap ∧ va_K (dC, dI) vwCl (at_T h q g tq tg tn tx) U ∧ va_D (fun _ => True) (at_W h q g tq tg tn tx I A L))) (va_Qi (fun (r9 : Int32) (_ : Unit) => r9 = r) (fun (_ : Unit) t => va_P (dC, dI) vwCl (at_W h q g tq tg tn tx I' A' L') t.heap ∧ va_K (dC, dI) vwCl (at_T h q g tq tg tn tx) t ∧ va_D (va_A (at_W h q g tq tg tn tx I A L) sz) (at_W h q g tq tg tn tx I' A' L')) (va_A (at_W h q g tq tg tn tx I A L) sz)) 0 0 (va_A (at_W h q g tq tg tn tx I A L) sz) := by
  refine Met.ofW (cc := prog_2_method_5_code) (maxL := 5) (ret := (some .boolean)) (by decide) rfl ?_
  intro p e s m args below meth c s₁ B hml hv
  obtain ⟨rfl, hsz, hP, hK, hD0⟩ := hv
  have hx := B.exec
  have hb := B.bytes
  have hr := B.returns
  have hts := atoms_spec (ws := w_A_seek) B.pre
  have hown : s.vm.findClass "DraftTree$Automaton" = some m.cls := findClass_of_methodNamed B.named
  have hlocks := B.notSynchronized
  subst hsz
  have hD := hD0.self (sz := s.heap.size)
  generalize hAe : va_A (at_W h q g tq tg tn tx I A L) s.heap.size = B9 at hD ⊢
  have hA : ∀ q : Nat, s.heap.size ≤ q → B9 q := fun q h => by rw [← hAe]; exact Or.inr h
  clear hAe
  have hS : va_S B9 s.heap s.heap [] := va_S.rf
  have hl := lv_entry ([.ref h, .ref tq, .int k2]) (n := 5) (Nat.le_of_ble_eq_true rfl)
  rw [lg_entry_eq]
  generalize (lg_sl ([.ref h, .ref tq, .int k2]) ++ List.replicate (5 - (lg_sl ([.ref h, .ref tq, .int k2])).length) Slot.unset).toArray = ls at hl ⊢
  have hl : lv_has ls 5 [(0, .ref h), (1, .ref tq), (2, .int k2)] := hl
  have stp2 : ∀ (rc : Nat → MI → MA → ML → (Nat → Int32) → (Nat → Int64) → Option (Int32 × MI × MA × ML)) (hrc2 : ∀ (I : MI) (A : MA) (L : ML) (X : Nat → Int32) (Y : Nat → Int64) (ls : Array Slot) (H : Heap) (locs : List Loc), rc 2 I A L X Y = some (r, I', A', L') → lv_has ls 5 [(0, .ref h), (1, .ref tq), (2, .int (X 2)), (3, .int (X 3))] → va_P (dC, dI) vwCl (at_W h q g tq tg tn tx I A L) H → va_D B9 (at_W h q g tq tg tn tx I A L) → va_S B9 s.heap H locs → W p l e (headSpec w_A_seek ({ frames := 4, cells := 0, slots := 0, locals := 103 })).room s m ([.ref h, .ref tq, .int k2] : List Value).toArray below meth c H locs 0 0 (MQ below (va_Qi (fun (r9 : Int32) (_ : Unit) => r9 = r) (fun (_ : Unit) t => va_P (dC, dI) vwCl (at_W h q g tq tg tn tx I' A' L') t.heap ∧ va_K (dC, dI) vwCl (at_T h q g tq tg tn tx) t ∧ va_D B9 (at_W h q g tq tg tn tx I' A' L')) B9) ([.ref h, .ref tq, .int k2] : List Value).toArray s 0 0 B9) (F0 m 2 ls [])), ∀ (I : MI) (A : MA) (L : ML) (X : Nat → Int32) (Y : Nat → Int64) (ls : Array Slot) (H : Heap) (locs : List Loc), f_A_seek_2 tn tx rc I A L X Y = some (r, I', A', L') → lv_has ls 5 [(0, .ref h), (1, .ref tq), (2, .int (X 2)), (3, .int (X 3))] → va_P (dC, dI) vwCl (at_W h q g tq tg tn tx I A L) H → va_D B9 (at_W h q g tq tg tn tx I A L) → va_S B9 s.heap H locs → W p l e (headSpec w_A_seek ({ frames := 4, cells := 0, slots := 0, locals := 103 })).room s m ([.ref h, .ref tq, .int k2] : List Value).toArray below meth c H locs 0 0 (MQ below (va_Qi (fun (r9 : Int32) (_ : Unit) => r9 = r) (fun (_ : Unit) t => va_P (dC, dI) vwCl (at_W h q g tq tg tn tx I' A' L') t.heap ∧ va_K (dC, dI) vwCl (at_T h q g tq tg tn tx) t ∧ va_D B9 (at_W h q g tq tg tn tx I' A' L')) B9) ([.ref h, .ref tq, .int k2] : List Value).toArray s 0 0 B9) (F0 m 2 ls []) := by
    intro rc hrc2 I A L X Y ls H locs hf hl hP hD hS
    unfold f_A_seek_2 at hf
    refine lv_iload_n hx hb d_A_seek_2 rfl (lv_at hl 3 rfl) ?_
    refine lv_aload_n hx hb d_A_seek_3 rfl (lv_at hl 1 rfl) ?_
    refine va_alen (v := (Int32.ofNat tn)) hx hb hK hP 6 5 rfl rfl rfl d_A_seek_4 ?_
    refine lv_icmp_ge (tgt := 41) hx hb d_A_seek_5 (by decide) (fun hc1 => ?_) (fun hc1 => ?_)
    ·
      have hf := wk_ift hc1 hf
      refine lv_iconst (v := 0) hx hb d_A_seek_41 (by decide) ?_
      obtain ⟨e0, e1, e2, e3⟩ := wk_inj3 hf
      subst e0
      subst e1
      subst e2
      subst e3
      exact W.zret (v := 0) hx hb hr rfl (fun t ht hW => ⟨⟨0, (), rfl, rfl, by rw [ht]; exact hP, va_K.moved hW.alike hK, hD⟩, hS.F ht⟩) hS.2.2 d_A_seek_42
    ·
      have hf := wk_iff hc1 hf
      refine lv_aload_n hx hb d_A_seek_8 rfl (lv_at hl 0 rfl) ?_
      refine lv_aload_n hx hb d_A_seek_9 rfl (lv_at hl 1 rfl) ?_
      refine lv_iload_n hx hb d_A_seek_10 rfl (lv_at hl 3 rfl) ?_
      have hPc := hP.sub (ws' := (at_W h q g tq tg tn tx I A L)) [0, 1, 2, 3, 4, 5, 6] rfl
      have hDc := hD.sub (ws' := (at_W h q g tq tg tn tx I A L)) [0, 1, 2, 3, 4, 5, 6] (by decide) rfl
      have hKc := hK.sub (tys' := (at_T h q g tq tg tn tx)) [0, 1, 2, 3, 4, 5] rfl
      have hFc := va_free (wc := (at_W h q g tq tg tn tx I A L)) hD hS hA [0, 1, 2, 3, 4, 5, 6] rfl
      cases hg1 : f_A_longestFit tn tx I A L (X 3) with
      | none => rw [hg1] at hf; cases hf
      | some z1 =>
        obtain ⟨r1, I1, A1, L1⟩ := z1
        rw [hg1] at hf
        dsimp only [Option.bind_some] at hf
        refine va_calli (va_runV (As := [.ref tq, .int (X 3)]) (rest := []) ⟨hx, hb, hml, hown, hts⟩ (cm_A_longestFit l dC dI h q g tq tg tn tx _  I A L (X 3) r1 I1 A1 L1 hg1) (cwV 2 hts (gd_v lk_296 lk_297 lk_298 lk_273 lk_295) rfl rfl rfl (by decide +kernel) ⟨Nat.le_of_ble_eq_true rfl, Nat.le_of_ble_eq_true rfl⟩) ⟨fun a U g mk q => by obtain ⟨q0, q1, qP, qK, qD⟩ := q; exact ⟨q0, q1, qP, va_K.moved (u := U) (U := U.calling g mk a) (Vm.Alike.refl U.vm) qK, qD⟩, va_recv (ci := 3) (q0 := 0) hK hP rfl rfl, fun U hU hW => ⟨rfl, by rw [hU], by rw [hU]; exact hPc, va_K.moved hW.alike hKc, hDc.weaken (fun _ _ _ _ => trivial)⟩⟩ rfl rfl hl.1 rfl (lv_room (Nat.le_of_ble_eq_true rfl)) d_A_seek_11 ⟨Nat.le_of_ble_eq_true rfl, Nat.le_of_ble_eq_true rfl⟩) hS (fun q _ h => hFc q h) hFc (fun r9 u t H1 locs ht hvm hw hB hz1 hk1 hS => ?_)
        obtain ⟨hP1, hK1, hD1⟩ := hB
        rw [ht] at hP1
        rw [hw]
        obtain ⟨hP, hD⟩ := va_join (wr := (([] : List Nat).map (fun i => ((at_W h q g tq tg tn tx I A L)).getD i (0, .inr (0, []))))) (w1 := (at_W h q g tq tg tn tx I1 A1 L1)) hP hD [0, 1, 2, 3, 4, 5, 6] [] rfl rfl (by decide) (by decide) hk1 hFc hP1 hD1
        generalize H1 = H at hP hS ⊢
        have hP := hP.sub (ws' := (at_W h q g tq tg tn tx I1 A1 L1)) [0, 1, 2, 3, 4, 5, 6] rfl
        have hD := hD.sub (ws' := (at_W h q g tq tg tn tx I1 A1 L1)) [0, 1, 2, 3, 4, 5, 6] (by decide) rfl
        refine lv_istore (lv' := [(4, .int r1), (0, .ref h), (1, .ref tq), (2, .int (X 2)), (3, .int (X 3))]) hx hb d_A_seek_14 hl (by decide) rfl (fun ls hl => ?_)
        have hl : lv_has ls 5 [(4, .int r1), (0, .ref h), (1, .ref tq), (2, .int (X 2)), (3, .int (X 3))] := hl
        refine lv_iload hx hb d_A_seek_16 (lv_at hl 0 rfl) ?_
        refine lv_iconst (v := (-1)) hx hb d_A_seek_18 (by decide) ?_
        refine lv_icmp_eq (tgt := 35) hx hb d_A_seek_19 (by decide) (fun hc2 => ?_) (fun hc2 => ?_)
        ·
          have hf := wk_ift hc2 hf
          refine lv_iinc (k := 4) (v := ((X 3) + 1)) (lv' := [(3, .int ((X 3) + 1)), (4, .int r1), (0, .ref h), (1, .ref tq), (2, .int (X 2))]) hx hb d_A_seek_35 hl rfl (wk_inc (by decide)) (by decide) rfl (fun ls hl => ?_)
          have hl : lv_has ls 5 [(3, .int ((X 3) + 1)), (4, .int r1), (0, .ref h), (1, .ref tq), (2, .int (X 2))] := hl
          refine lv_goto (tgt := 2) hx hb d_A_seek_38 (by decide) ?_
          exact hrc2 I1 A1 L1 (upd X 3 ((X 3) + 1)) Y _ _ _ hf (lv_sub hl [2, 3, 4, 0] rfl) hP hD hS
        ·
          have hf := wk_iff hc2 hf
          refine lv_aload_n hx hb d_A_seek_22 rfl (lv_at hl 1 rfl) ?_
          refine lv_iload_n hx hb d_A_seek_23 rfl (lv_at hl 4 rfl) ?_
          refine va_put (D := (dC, dI)) (ci := 3) (v := .int (X 3)) (ty := .int) (C := R_A) (T := F_A) (N := 10) hx hb hts (fun w h => List.mem_cons_of_mem _ (in_A w h)) t_A tk_A n_A hown hK hP hD hS 0 rfl rfl 8 (by decide) (hts _ (List.mem_cons_of_mem _ lk_299)) (fun _ h9 => h9) rfl (by decide +kernel) rfl rfl (Nat.le_of_ble_eq_true rfl) d_A_seek_24 (fun H locs hP hD hS => ?_)
          obtain ⟨I2, hI2, hf⟩ := wk_letE hf
          have hP : va_P (dC, dI) vwCl (at_W h q g tq tg tn tx I2 A1 L1) H := by rw [hI2]; exact hP
          have hD : va_D B9 (at_W h q g tq tg tn tx I2 A1 L1) := by rw [hI2]; exact hD
          clear hI2
          refine lv_aload_n hx hb d_A_seek_27 rfl (lv_at hl 1 rfl) ?_
          refine lv_iload hx hb d_A_seek_28 (lv_at hl 0 rfl) ?_
          refine va_put (D := (dC, dI)) (ci := 3) (v := .int r1) (ty := .int) (C := R_A) (T := F_A) (N := 10) hx hb hts (fun w h => List.mem_cons_of_mem _ (in_A w h)) t_A tk_A n_A hown hK hP hD hS 0 rfl rfl 9 (by decide) (hts _ (List.mem_cons_of_mem _ lk_300)) (fun _ h9 => h9) rfl (by decide +kernel) rfl rfl (Nat.le_of_ble_eq_true rfl) d_A_seek_30 (fun H locs hP hD hS => ?_)
          obtain ⟨I3, hI3, hf⟩ := wk_letE hf
          have hP : va_P (dC, dI) vwCl (at_W h q g tq tg tn tx I3 A1 L1) H := by rw [hI3]; exact hP
          have hD : va_D B9 (at_W h q g tq tg tn tx I3 A1 L1) := by rw [hI3]; exact hD
          clear hI3
          refine lv_iconst (v := 1) hx hb d_A_seek_33 (by decide) ?_
          obtain ⟨e0, e1, e2, e3⟩ := wk_inj3 hf
          subst e0
          subst e1
          subst e2
          subst e3
          exact W.zret (v := 1) hx hb hr rfl (fun t ht hW => ⟨⟨1, (), rfl, rfl, by rw [ht]; exact hP, va_K.moved hW.alike hK, hD⟩, hS.F ht⟩) hS.2.2 d_A_seek_34
  have key : ∀ n : Nat, (∀ (I : MI) (A : MA) (L : ML) (X : Nat → Int32) (Y : Nat → Int64) (ls : Array Slot) (H : Heap) (locs : List Loc), f_A_seek_go tn tx n 2 I A L X Y = some (r, I', A', L') → lv_has ls 5 [(0, .ref h), (1, .ref tq), (2, .int (X 2)), (3, .int (X 3))] → va_P (dC, dI) vwCl (at_W h q g tq tg tn tx I A L) H → va_D B9 (at_W h q g tq tg tn tx I A L) → va_S B9 s.heap H locs → W p l e (headSpec w_A_seek ({ frames := 4, cells := 0, slots := 0, locals := 103 })).room s m ([.ref h, .ref tq, .int k2] : List Value).toArray below meth c H locs 0 0 (MQ below (va_Qi (fun (r9 : Int32) (_ : Unit) => r9 = r) (fun (_ : Unit) t => va_P (dC, dI) vwCl (at_W h q g tq tg tn tx I' A' L') t.heap ∧ va_K (dC, dI) vwCl (at_T h q g tq tg tn tx) t ∧ va_D B9 (at_W h q g tq tg tn tx I' A' L')) B9) ([.ref h, .ref tq, .int k2] : List Value).toArray s 0 0 B9) (F0 m 2 ls [])) := by
    intro n
    induction n with
    | zero => exact fun I A L X Y ls H locs hf => (by cases hf)
    | succ n ih =>
      have ih2 := ih
      exact stp2 (f_A_seek_go tn tx n) ih2
  unfold f_A_seek f_A_seek_e at hf
  have hrc2 := key wk_FUEL
  refine lv_iload_n hx hb d_A_seek_0 rfl (lv_at hl 2 rfl) ?_
  refine lv_istore_n (lv' := [(3, .int k2), (0, .ref h), (1, .ref tq), (2, .int k2)]) hx hb d_A_seek_1 rfl hl (by decide) rfl (fun ls hl => ?_)
  have hl : lv_has ls 5 [(3, .int k2), (0, .ref h), (1, .ref tq), (2, .int k2)] := hl
  exact hrc2 I A L (upd (upd (fun _ => 0) 2 k2) 3 k2) (fun _ => 0) _ _ _ hf (lv_sub hl [1, 2, 3, 0] rfl) hP hD hS

set_option maxHeartbeats 8000000 in
set_option maxRecDepth 100000 in
theorem cm_D_collectMatches (l : Launch) (dC : Nat → ClassId) (dI : Nat → Nat → Nat) (h : Nat) (q : Nat → Nat) (g : Nat → ClassId) (hp : Nat) (qp : Nat → Nat) (gp : Nat → ClassId) (tq : Nat) (tg : ClassId) (tn : Nat) (tx : Nat → Int32) (sz : Nat) (I : MI) (A : MA) (M : MI) (MB : MA) (L : ML) (r : Int32) (I' : MI) (A' : MA) (M' : MI) (MB' : MA) (L' : ML) (hf : f_D_collectMatches tn tx I A M MB L  = some (r, I', A', M', MB', L')) : Met l y_D_collectMatches w_D_collectMatches ({ frames := 5, cells := 0, slots := 0, locals := 127 }) (va_Pc [.ref h] (fun U => U.heap.size = sz ∧ va_P (dC, dI) vwCl (dw_W h q g hp qp gp tq tg tn tx I A M MB L) U.heap ∧ va_K (dC, dI) vwCl (dw_T h q g hp qp gp tq tg tn tx) U ∧ va_D (fun _ => True) (dw_W h q g hp qp gp tq tg tn tx I A M MB L))) (va_Qi (fun (r9 : Int32) (_ : Unit) => r9 = r) (fun (_ : Unit) t => va_P (dC, dI) vwCl (dw_W h q g hp qp gp tq tg tn tx I' A' M' MB' L') t.heap ∧ va_K (dC, dI) vwCl (dw_T h q g hp qp gp tq tg tn tx) t ∧ va_D (va_A (dw_W h q g hp qp gp tq tg tn tx I A M MB L) sz) (dw_W h q g hp qp gp tq tg tn tx I' A' M' MB' L')) (va_A (dw_W h q g hp qp gp tq tg tn tx I A M MB L) sz)) 0 0 (va_A (dw_W h q g hp qp gp tq tg tn tx I A M MB L) sz) := by
  refine Met.ofW (cc := prog_1_method_26_code) (maxL := 3) (ret := (some .int)) (by decide) rfl ?_
  intro p e s m args below meth c s₁ B hml hv
  obtain ⟨rfl, hsz, hP, hK, hD0⟩ := hv
  have hx := B.exec
  have hb := B.bytes
  have hr := B.returns
  have hts := atoms_spec (ws := w_D_collectMatches) B.pre
  have hown : s.vm.findClass "DraftTree" = some m.cls := findClass_of_methodNamed B.named
  have hlocks := B.notSynchronized
  subst hsz
  have hD := hD0.self (sz := s.heap.size)
  generalize hAe : va_A (dw_W h q g hp qp gp tq tg tn tx I A M MB L) s.heap.size = B9 at hD ⊢
  have hA : ∀ q : Nat, s.heap.size ≤ q → B9 q := fun q h => by rw [← hAe]; exact Or.inr h
  clear hAe
  have hS : va_S B9 s.heap s.heap [] := va_S.rf
  have hl := lv_entry ([.ref h]) (n := 3) (Nat.le_of_ble_eq_true rfl)
  rw [lg_entry_eq]
  generalize (lg_sl ([.ref h]) ++ List.replicate (3 - (lg_sl ([.ref h])).length) Slot.unset).toArray = ls at hl ⊢
  have hl : lv_has ls 3 [(0, .ref h)] := hl
  have stp4 : ∀ (rc : Nat → MI → MA → MI → MA → ML → (Nat → Int32) → (Nat → Int64) → Option (Int32 × MI × MA × MI × MA × ML)) (hrc4 : ∀ (I : MI) (A : MA) (M : MI) (MB : MA) (L : ML) (X : Nat → Int32) (Y : Nat → Int64) (ls : Array Slot) (H : Heap) (locs : List Loc), rc 4 I A M MB L X Y = some (r, I', A', M', MB', L') → lv_has ls 3 [(0, .ref h), (1, .int (X 1)), (2, .int (X 2))] → va_P (dC, dI) vwCl (dw_W h q g hp qp gp tq tg tn tx I A M MB L) H → va_D B9 (dw_W h q g hp qp gp tq tg tn tx I A M MB L) → va_S B9 s.heap H locs → W p l e (headSpec w_D_collectMatches ({ frames := 5, cells := 0, slots := 0, locals := 127 })).room s m ([.ref h] : List Value).toArray below meth c H locs 0 0 (MQ below (va_Qi (fun (r9 : Int32) (_ : Unit) => r9 = r) (fun (_ : Unit) t => va_P (dC, dI) vwCl (dw_W h q g hp qp gp tq tg tn tx I' A' M' MB' L') t.heap ∧ va_K (dC, dI) vwCl (dw_T h q g hp qp gp tq tg tn tx) t ∧ va_D B9 (dw_W h q g hp qp gp tq tg tn tx I' A' M' MB' L')) B9) ([.ref h] : List Value).toArray s 0 0 B9) (F0 m 4 ls [])), ∀ (I : MI) (A : MA) (M : MI) (MB : MA) (L : ML) (X : Nat → Int32) (Y : Nat → Int64) (ls : Array Slot) (H : Heap) (locs : List Loc), f_D_collectMatches_4 tn tx rc I A M MB L X Y = some (r, I', A', M', MB', L') → lv_has ls 3 [(0, .ref h), (1, .int (X 1)), (2, .int (X 2))] → va_P (dC, dI) vwCl (dw_W h q g hp qp gp tq tg tn tx I A M MB L) H → va_D B9 (dw_W h q g hp qp gp tq tg tn tx I A M MB L) → va_S B9 s.heap H locs → W p l e (headSpec w_D_collectMatches ({ frames := 5, cells := 0, slots := 0, locals := 127 })).room s m ([.ref h] : List Value).toArray below meth c H locs 0 0 (MQ below (va_Qi (fun (r9 : Int32) (_ : Unit) => r9 = r) (fun (_ : Unit) t => va_P (dC, dI) vwCl (dw_W h q g hp qp gp tq tg tn tx I' A' M' MB' L') t.heap ∧ va_K (dC, dI) vwCl (dw_T h q g hp qp gp tq tg tn tx) t ∧ va_D B9 (dw_W h q g hp qp gp tq tg tn tx I' A' M' MB' L')) B9) ([.ref h] : List Value).toArray s 0 0 B9) (F0 m 4 ls []) := by
    intro rc hrc4 I A M MB L X Y ls H locs hf hl hP hD hS
    unfold f_D_collectMatches_4 at hf
    refine lv_iload_n hx hb d_D_collectMatches_4 rfl (lv_at hl 2 rfl) ?_
    refine lv_sipush (v := 160) hx hb d_D_collectMatches_5 (by decide) ?_
    refine lv_icmp_ge (tgt := 68) hx hb d_D_collectMatches_8 (by decide) (fun hc1 => ?_) (fun hc1 => ?_)
    ·
      have hf := wk_ift hc1 hf
      refine lv_sipush (v := 160) hx hb d_D_collectMatches_68 (by decide) ?_
      obtain ⟨e0, e1, e2, e3, e4, e5⟩ := wk_inj5 hf
      subst e0
      subst e1
      subst e2
      subst e3
      subst e4
      subst e5
      exact W.iret (v := 160) hx hb hr (fun t ht hW => ⟨⟨160, (), rfl, rfl, by rw [ht]; exact hP, va_K.moved hW.alike hK, hD⟩, hS.F ht⟩) hS.2.2 d_D_collectMatches_71
    ·
      have hf := wk_iff hc1 hf
      refine lv_aload_n hx hb d_D_collectMatches_11 rfl (lv_at hl 0 rfl) ?_
      refine va_get (D := (dC, dI)) (ci := 0) (v := .ref hp) (C := R_D) (T := F_D) (N := 14) hx hb hts (fun w h => List.mem_cons_of_mem _ (in_D w h)) hown hK hP 0 rfl rfl 9 (by decide) (hts _ (List.mem_cons_of_mem _ lk_246)) (fun _ h9 => h9) rfl d_D_collectMatches_12 ?_
      refine lv_aload_n hx hb d_D_collectMatches_15 rfl (lv_at hl 0 rfl) ?_
      refine va_get (D := (dC, dI)) (ci := 0) (v := .ref tq) (C := R_D) (T := F_D) (N := 14) hx hb hts (fun w h => List.mem_cons_of_mem _ (in_D w h)) hown hK hP 0 rfl rfl 5 (by decide) (hts _ (List.mem_cons_of_mem _ lk_241)) (fun _ h9 => h9) rfl d_D_collectMatches_16 ?_
      refine lv_iload_n hx hb d_D_collectMatches_19 rfl (lv_at hl 1 rfl) ?_
      have hPc := hP.sub (ws' := (at_W hp qp gp tq tg tn tx M MB L)) [4, 5, 6, 7, 8, 9, 10] rfl
      have hDc := hD.sub (ws' := (at_W hp qp gp tq tg tn tx M MB L)) [4, 5, 6, 7, 8, 9, 10] (by decide) rfl
      have hKc := hK.sub (tys' := (at_T hp qp gp tq tg tn tx)) [3, 4, 5, 6, 7, 8] rfl
      have hFc := va_free (wc := (at_W hp qp gp tq tg tn tx M MB L)) hD hS hA [4, 5, 6, 7, 8, 9, 10] rfl
      cases hg1 : f_A_seek tn tx M MB L (X 1) with
      | none => rw [hg1] at hf; cases hf
      | some z1 =>
        obtain ⟨r1, M1, MB1, L1⟩ := z1
        rw [hg1] at hf
        dsimp only [Option.bind_some] at hf
        refine va_calli (va_runV (As := [.ref tq, .int (X 1)]) (rest := []) ⟨hx, hb, hml, hown, hts⟩ (cm_A_seek l dC dI hp qp gp tq tg tn tx _  M MB L (X 1) r1 M1 MB1 L1 hg1) (cwV 2 hts (gd_v lk_302 lk_303 lk_304 lk_273 lk_301) rfl rfl rfl (by decide +kernel) ⟨Nat.le_of_ble_eq_true rfl, Nat.le_of_ble_eq_true rfl⟩) ⟨fun a U g mk q => by obtain ⟨q0, q1, qP, qK, qD⟩ := q; exact ⟨q0, q1, qP, va_K.moved (u := U) (U := U.calling g mk a) (Vm.Alike.refl U.vm) qK, qD⟩, va_recv (ci := 3) (q0 := 4) hK hP rfl rfl, fun U hU hW => ⟨rfl, by rw [hU], by rw [hU]; exact hPc, va_K.moved hW.alike hKc, hDc.weaken (fun _ _ _ _ => trivial)⟩⟩ rfl rfl hl.1 rfl (lv_room (Nat.le_of_ble_eq_true rfl)) d_D_collectMatches_20 ⟨Nat.le_of_ble_eq_true rfl, Nat.le_of_ble_eq_true rfl⟩) hS (fun q _ h => hFc q h) hFc (fun r9 u t H1 locs ht hvm hw hB hz1 hk1 hS => ?_)
        obtain ⟨hP1, hK1, hD1⟩ := hB
        rw [ht] at hP1
        rw [hw]
        obtain ⟨hP, hD⟩ := va_join (wr := (([0, 1, 2, 3] : List Nat).map (fun i => ((dw_W h q g hp qp gp tq tg tn tx I A M MB L)).getD i (0, .inr (0, []))))) (w1 := (at_W hp qp gp tq tg tn tx M1 MB1 L1)) hP hD [4, 5, 6, 7, 8, 9, 10] [0, 1, 2, 3] rfl rfl (by decide) (by decide) hk1 hFc hP1 hD1
        generalize H1 = H at hP hS ⊢
        have hP := hP.sub (ws' := (dw_W h q g hp qp gp tq tg tn tx I A M1 MB1 L1)) [0, 1, 2, 3, 4, 5, 6, 7, 8, 9, 10] rfl
        have hD := hD.sub (ws' := (dw_W h q g hp qp gp tq tg tn tx I A M1 MB1 L1)) [0, 1, 2, 3, 4, 5, 6, 7, 8, 9, 10] (by decide) rfl
        refine lv_if_ne (tgt := 28) hx hb d_D_collectMatches_23 (by decide) (fun hc2 => ?_) (fun hc2 => ?_)
        ·
          have hf := wk_iff hc2 hf
          refine lv_aload_n hx hb d_D_collectMatches_28 rfl (lv_at hl 0 rfl) ?_
          refine va_get (D := (dC, dI)) (ci := 0) (v := .ref (q 12)) (C := R_D) (T := F_D) (N := 14) hx hb hts (fun w h => List.mem_cons_of_mem _ (in_D w h)) hown hK hP 0 rfl rfl 12 (by decide) (hts _ (List.mem_cons_of_mem _ lk_305)) (fun _ h9 => h9) rfl d_D_collectMatches_29 ?_
          refine lv_iload_n hx hb d_D_collectMatches_32 rfl (lv_at hl 2 rfl) ?_
          refine lv_aload_n hx hb d_D_collectMatches_33 rfl (lv_at hl 0 rfl) ?_
          refine va_get (D := (dC, dI)) (ci := 0) (v := .ref hp) (C := R_D) (T := F_D) (N := 14) hx hb hts (fun w h => List.mem_cons_of_mem _ (in_D w h)) hown hK hP 0 rfl rfl 9 (by decide) (hts _ (List.mem_cons_of_mem _ lk_246)) (fun _ h9 => h9) rfl d_D_collectMatches_34 ?_
          refine va_get (D := (dC, dI)) (ci := 3) (v := .int (M1 8)) (C := R_A) (T := F_A) (N := 10) hx hb hts (fun w h => List.mem_cons_of_mem _ (in_A w h)) hown hK hP 4 rfl rfl 8 (by decide) (hts _ (List.mem_cons_of_mem _ lk_306)) (fun _ h9 => h9) rfl d_D_collectMatches_37 ?_
          obtain ⟨hc3, hf⟩ := wk_if hf
          refine va_iast hx hb hK hP hD hS 2 1 rfl rfl (wk_inb_ok hc3) d_D_collectMatches_40 (fun H locs hP hD hS => ?_)
          obtain ⟨A2, hA2, hf⟩ := wk_letE hf
          have hP : va_P (dC, dI) vwCl (dw_W h q g hp qp gp tq tg tn tx I A2 M1 MB1 L1) H := by rw [hA2]; exact hP
          have hD : va_D B9 (dw_W h q g hp qp gp tq tg tn tx I A2 M1 MB1 L1) := by rw [hA2]; exact hD
          clear hA2
          refine lv_aload_n hx hb d_D_collectMatches_41 rfl (lv_at hl 0 rfl) ?_
          refine va_get (D := (dC, dI)) (ci := 0) (v := .ref (q 13)) (C := R_D) (T := F_D) (N := 14) hx hb hts (fun w h => List.mem_cons_of_mem _ (in_D w h)) hown hK hP 0 rfl rfl 13 (by decide) (hts _ (List.mem_cons_of_mem _ lk_307)) (fun _ h9 => h9) rfl d_D_collectMatches_42 ?_
          refine lv_iload_n hx hb d_D_collectMatches_45 rfl (lv_at hl 2 rfl) ?_
          refine lv_aload_n hx hb d_D_collectMatches_46 rfl (lv_at hl 0 rfl) ?_
          refine va_get (D := (dC, dI)) (ci := 0) (v := .ref hp) (C := R_D) (T := F_D) (N := 14) hx hb hts (fun w h => List.mem_cons_of_mem _ (in_D w h)) hown hK hP 0 rfl rfl 9 (by decide) (hts _ (List.mem_cons_of_mem _ lk_246)) (fun _ h9 => h9) rfl d_D_collectMatches_47 ?_
          refine va_get (D := (dC, dI)) (ci := 3) (v := .int (M1 9)) (C := R_A) (T := F_A) (N := 10) hx hb hts (fun w h => List.mem_cons_of_mem _ (in_A w h)) hown hK hP 4 rfl rfl 9 (by decide) (hts _ (List.mem_cons_of_mem _ lk_308)) (fun _ h9 => h9) rfl d_D_collectMatches_50 ?_
          obtain ⟨hc4, hf⟩ := wk_if hf
          refine va_iast hx hb hK hP hD hS 3 2 rfl rfl (wk_inb_ok hc4) d_D_collectMatches_53 (fun H locs hP hD hS => ?_)
          obtain ⟨A3, hA3, hf⟩ := wk_letE hf
          have hP : va_P (dC, dI) vwCl (dw_W h q g hp qp gp tq tg tn tx I A3 M1 MB1 L1) H := by rw [hA3]; exact hP
          have hD : va_D B9 (dw_W h q g hp qp gp tq tg tn tx I A3 M1 MB1 L1) := by rw [hA3]; exact hD
          clear hA3
          refine lv_aload_n hx hb d_D_collectMatches_54 rfl (lv_at hl 0 rfl) ?_
          refine va_get (D := (dC, dI)) (ci := 0) (v := .ref hp) (C := R_D) (T := F_D) (N := 14) hx hb hts (fun w h => List.mem_cons_of_mem _ (in_D w h)) hown hK hP 0 rfl rfl 9 (by decide) (hts _ (List.mem_cons_of_mem _ lk_246)) (fun _ h9 => h9) rfl d_D_collectMatches_55 ?_
          refine va_get (D := (dC, dI)) (ci := 3) (v := .int (M1 9)) (C := R_A) (T := F_A) (N := 10) hx hb hts (fun w h => List.mem_cons_of_mem _ (in_A w h)) hown hK hP 4 rfl rfl 9 (by decide) (hts _ (List.mem_cons_of_mem _ lk_308)) (fun _ h9 => h9) rfl d_D_collectMatches_58 ?_
          refine lv_istore_n (lv' := [(1, .int (M1 9)), (0, .ref h), (2, .int (X 2))]) hx hb d_D_collectMatches_61 rfl hl (by decide) rfl (fun ls hl => ?_)
          have hl : lv_has ls 3 [(1, .int (M1 9)), (0, .ref h), (2, .int (X 2))] := hl
          refine lv_iinc (k := 2) (v := ((X 2) + 1)) (lv' := [(2, .int ((X 2) + 1)), (1, .int (M1 9)), (0, .ref h)]) hx hb d_D_collectMatches_62 hl rfl (wk_inc (by decide)) (by decide) rfl (fun ls hl => ?_)
          have hl : lv_has ls 3 [(2, .int ((X 2) + 1)), (1, .int (M1 9)), (0, .ref h)] := hl
          refine lv_goto (tgt := 4) hx hb d_D_collectMatches_65 (by decide) ?_
          exact hrc4 I A3 M1 MB1 L1 (upd (upd X 1 (M1 9)) 2 ((X 2) + 1)) Y _ _ _ hf (lv_sub hl [2, 1, 0] rfl) hP hD hS
        ·
          have hf := wk_ift hc2 hf
          refine lv_iload_n hx hb d_D_collectMatches_26 rfl (lv_at hl 2 rfl) ?_
          obtain ⟨e0, e1, e2, e3, e4, e5⟩ := wk_inj5 hf
          subst e0
          subst e1
          subst e2
          subst e3
          subst e4
          subst e5
          exact W.iret (v := (X 2)) hx hb hr (fun t ht hW => ⟨⟨(X 2), (), rfl, rfl, by rw [ht]; exact hP, va_K.moved hW.alike hK, hD⟩, hS.F ht⟩) hS.2.2 d_D_collectMatches_27
  have key : ∀ n : Nat, (∀ (I : MI) (A : MA) (M : MI) (MB : MA) (L : ML) (X : Nat → Int32) (Y : Nat → Int64) (ls : Array Slot) (H : Heap) (locs : List Loc), f_D_collectMatches_go tn tx n 4 I A M MB L X Y = some (r, I', A', M', MB', L') → lv_has ls 3 [(0, .ref h), (1, .int (X 1)), (2, .int (X 2))] → va_P (dC, dI) vwCl (dw_W h q g hp qp gp tq tg tn tx I A M MB L) H → va_D B9 (dw_W h q g hp qp gp tq tg tn tx I A M MB L) → va_S B9 s.heap H locs → W p l e (headSpec w_D_collectMatches ({ frames := 5, cells := 0, slots := 0, locals := 127 })).room s m ([.ref h] : List Value).toArray below meth c H locs 0 0 (MQ below (va_Qi (fun (r9 : Int32) (_ : Unit) => r9 = r) (fun (_ : Unit) t => va_P (dC, dI) vwCl (dw_W h q g hp qp gp tq tg tn tx I' A' M' MB' L') t.heap ∧ va_K (dC, dI) vwCl (dw_T h q g hp qp gp tq tg tn tx) t ∧ va_D B9 (dw_W h q g hp qp gp tq tg tn tx I' A' M' MB' L')) B9) ([.ref h] : List Value).toArray s 0 0 B9) (F0 m 4 ls [])) := by
    intro n
    induction n with
    | zero => exact fun I A M MB L X Y ls H locs hf => (by cases hf)
    | succ n ih =>
      have ih4 := ih
      exact stp4 (f_D_collectMatches_go tn tx n) ih4
  unfold f_D_collectMatches f_D_collectMatches_e at hf
  have hrc4 := key wk_FUEL
  refine lv_iconst (v := 0) hx hb d_D_collectMatches_0 (by decide) ?_
  refine lv_istore_n (lv' := [(1, .int 0), (0, .ref h)]) hx hb d_D_collectMatches_1 rfl hl (by decide) rfl (fun ls hl => ?_)
  have hl : lv_has ls 3 [(1, .int 0), (0, .ref h)] := hl
  refine lv_iconst (v := 0) hx hb d_D_collectMatches_2 (by decide) ?_
  refine lv_istore_n (lv' := [(2, .int 0), (1, .int 0), (0, .ref h)]) hx hb d_D_collectMatches_3 rfl hl (by decide) rfl (fun ls hl => ?_)
  have hl : lv_has ls 3 [(2, .int 0), (1, .int 0), (0, .ref h)] := hl
  exact hrc4 I A M MB L (upd (upd (fun _ => 0) 1 0) 2 0) (fun _ => 0) _ _ _ hf (lv_sub hl [2, 1, 0] rfl) hP hD hS

set_option maxHeartbeats 8000000 in
set_option maxRecDepth 100000 in
theorem cm_A_addNode (l : Launch) (dC : Nat → ClassId) (dI : Nat → Nat → Nat) (h : Nat) (q : Nat → Nat) (g : Nat → ClassId) (sz : Nat) (I : MI) (A : MA) (L : ML) (k1 : Int32) (r : Int32) (I' : MI) (A' : MA) (L' : ML) (hf : f_A_addNode I A L  k1 = some (r, I', A', L')) : Met l y_A_addNode w_A_addNode ({ frames := 0, cells := 0, slots := 0, locals := 0 }) (va_Pc [.ref h, .int k1] (fun U => U.heap.size = sz ∧ va_P (dC, dI) vwCl (aw_W h q g I A L) U.heap ∧ va_K (dC, dI) vwCl (aw_T h q g) U ∧ va_D (fun _ => True) (aw_W h q g I A L))) (va_Qi (fun (r9 : Int32) (_ : Unit) => r9 = r) (fun (_ : Unit) t => va_P (dC, dI) vwCl (aw_W h q g I' A' L') t.heap ∧ va_K (dC, dI) vwCl (aw_T h q g) t ∧ va_D (va_A (aw_W h q g I A L) sz) (aw_W h q g I' A' L')) (va_A (aw_W h q g I A L) sz)) 0 0 (va_A (aw_W h q g I A L) sz) := by
  refine Met.ofW (cc := prog_2_method_2_code) (maxL := 3) (ret := (some .int)) (by decide) rfl ?_
  intro p e s m args below meth c s₁ B hml hv
  obtain ⟨rfl, hsz, hP, hK, hD0⟩ := hv
  have hx := B.exec
  have hb := B.bytes
  have hr := B.returns
  have hts := atoms_spec (ws := w_A_addNode) B.pre
  have hown : s.vm.findClass "DraftTree$Automaton" = some m.cls := findClass_of_methodNamed B.named
  have hlocks := B.notSynchronized
  subst hsz
  have hD := hD0.self (sz := s.heap.size)
  generalize hAe : va_A (aw_W h q g I A L) s.heap.size = B9 at hD ⊢
  have hA : ∀ q : Nat, s.heap.size ≤ q → B9 q := fun q h => by rw [← hAe]; exact Or.inr h
  clear hAe
  have hS : va_S B9 s.heap s.heap [] := va_S.rf
  have hl := lv_entry ([.ref h, .int k1]) (n := 3) (Nat.le_of_ble_eq_true rfl)
  rw [lg_entry_eq]
  generalize (lg_sl ([.ref h, .int k1]) ++ List.replicate (3 - (lg_sl ([.ref h, .int k1])).length) Slot.unset).toArray = ls at hl ⊢
  have hl : lv_has ls 3 [(0, .ref h), (1, .int k1)] := hl
  unfold f_A_addNode at hf
  refine lv_aload_n hx hb d_A_addNode_0 rfl (lv_at hl 0 rfl) ?_
  refine va_get (D := (dC, dI)) (ci := 3) (v := .int (I 5)) (C := R_A) (T := F_A) (N := 10) hx hb hts (fun w h => List.mem_cons_of_mem _ (in_A w h)) hown hK hP 0 rfl rfl 5 (by decide) (hts _ (List.mem_cons_of_mem _ lk_258)) (fun _ h9 => h9) rfl d_A_addNode_1 ?_
  refine lv_istore_n (lv' := [(2, .int (I 5)), (0, .ref h), (1, .int k1)]) hx hb d_A_addNode_4 rfl hl (by decide) rfl (fun ls hl => ?_)
  have hl : lv_has ls 3 [(2, .int (I 5)), (0, .ref h), (1, .int k1)] := hl
  refine lv_aload_n hx hb d_A_addNode_5 rfl (lv_at hl 1 rfl) ?_
  refine va_get (D := (dC, dI)) (ci := 3) (v := .ref (q 0)) (C := R_A) (T := F_A) (N := 10) hx hb hts (fun w h => List.mem_cons_of_mem _ (in_A w h)) hown hK hP 0 rfl rfl 0 (by decide) (hts _ (List.mem_cons_of_mem _ lk_268)) (fun _ h9 => h9) rfl d_A_addNode_6 ?_
  refine lv_iload_n hx hb d_A_addNode_9 rfl (lv_at hl 0 rfl) ?_
  refine lv_iload_n hx hb d_A_addNode_10 rfl (lv_at hl 2 rfl) ?_
  obtain ⟨hc1, hf⟩ := wk_if hf
  refine va_iast hx hb hK hP hD hS 1 0 rfl rfl (wk_inb_ok hc1) d_A_addNode_11 (fun H locs hP hD hS => ?_)
  obtain ⟨A1, hA1, hf⟩ := wk_letE hf
  have hP : va_P (dC, dI) vwCl (aw_W h q g I A1 L) H := by rw [hA1]; exact hP
  have hD : va_D B9 (aw_W h q g I A1 L) := by rw [hA1]; exact hD
  clear hA1
  refine lv_aload_n hx hb d_A_addNode_12 rfl (lv_at hl 1 rfl) ?_
  refine va_get (D := (dC, dI)) (ci := 3) (v := .ref (q 1)) (C := R_A) (T := F_A) (N := 10) hx hb hts (fun w h => List.mem_cons_of_mem _ (in_A w h)) hown hK hP 0 rfl rfl 1 (by decide) (hts _ (List.mem_cons_of_mem _ lk_269)) (fun _ h9 => h9) rfl d_A_addNode_13 ?_
  refine lv_iload_n hx hb d_A_addNode_16 rfl (lv_at hl 0 rfl) ?_
  refine lv_iconst (v := (-1)) hx hb d_A_addNode_17 (by decide) ?_
  obtain ⟨hc2, hf⟩ := wk_if hf
  refine va_iast hx hb hK hP hD hS 2 1 rfl rfl (wk_inb_ok hc2) d_A_addNode_18 (fun H locs hP hD hS => ?_)
  obtain ⟨A2, hA2, hf⟩ := wk_letE hf
  have hP : va_P (dC, dI) vwCl (aw_W h q g I A2 L) H := by rw [hA2]; exact hP
  have hD : va_D B9 (aw_W h q g I A2 L) := by rw [hA2]; exact hD
  clear hA2
  refine lv_aload_n hx hb d_A_addNode_19 rfl (lv_at hl 1 rfl) ?_
  refine va_get (D := (dC, dI)) (ci := 3) (v := .ref (q 2)) (C := R_A) (T := F_A) (N := 10) hx hb hts (fun w h => List.mem_cons_of_mem _ (in_A w h)) hown hK hP 0 rfl rfl 2 (by decide) (hts _ (List.mem_cons_of_mem _ lk_274)) (fun _ h9 => h9) rfl d_A_addNode_20 ?_
  refine lv_iload_n hx hb d_A_addNode_23 rfl (lv_at hl 0 rfl) ?_
  refine lv_iconst (v := (-1)) hx hb d_A_addNode_24 (by decide) ?_
  obtain ⟨hc3, hf⟩ := wk_if hf
  refine va_iast hx hb hK hP hD hS 3 2 rfl rfl (wk_inb_ok hc3) d_A_addNode_25 (fun H locs hP hD hS => ?_)
  obtain ⟨A3, hA3, hf⟩ := wk_letE hf
  have hP : va_P (dC, dI) vwCl (aw_W h q g I A3 L) H := by rw [hA3]; exact hP
  have hD : va_D B9 (aw_W h q g I A3 L) := by rw [hA3]; exact hD
  clear hA3
  refine lv_aload_n hx hb d_A_addNode_26 rfl (lv_at hl 1 rfl) ?_
  refine va_get (D := (dC, dI)) (ci := 3) (v := .ref (q 3)) (C := R_A) (T := F_A) (N := 10) hx hb hts (fun w h => List.mem_cons_of_mem _ (in_A w h)) hown hK hP 0 rfl rfl 3 (by decide) (hts _ (List.mem_cons_of_mem _ lk_285)) (fun _ h9 => h9) rfl d_A_addNode_27 ?_
  refine lv_iload_n hx hb d_A_addNode_30 rfl (lv_at hl 0 rfl) ?_
  refine lv_lconst (v := 0) hx hb d_A_addNode_31 (by decide) ?_
  obtain ⟨hc4, hf⟩ := wk_if hf
  refine va_last hx hb hK hP hD hS 4 3 rfl rfl (wk_inb_ok hc4) d_A_addNode_32 (fun H locs hP hD hS => ?_)
  obtain ⟨L4, hL4, hf⟩ := wk_letE hf
  have hP : va_P (dC, dI) vwCl (aw_W h q g I A3 L4) H := by rw [hL4]; exact hP
  have hD : va_D B9 (aw_W h q g I A3 L4) := by rw [hL4]; exact hD
  clear hL4
  refine lv_aload_n hx hb d_A_addNode_33 rfl (lv_at hl 1 rfl) ?_
  refine va_get (D := (dC, dI)) (ci := 3) (v := .ref (q 4)) (C := R_A) (T := F_A) (N := 10) hx hb hts (fun w h => List.mem_cons_of_mem _ (in_A w h)) hown hK hP 0 rfl rfl 4 (by decide) (hts _ (List.mem_cons_of_mem _ lk_284)) (fun _ h9 => h9) rfl d_A_addNode_34 ?_
  refine lv_iload_n hx hb d_A_addNode_37 rfl (lv_at hl 0 rfl) ?_
  refine lv_lconst (v := 0) hx hb d_A_addNode_38 (by decide) ?_
  obtain ⟨hc5, hf⟩ := wk_if hf
  refine va_last hx hb hK hP hD hS 5 4 rfl rfl (wk_inb_ok hc5) d_A_addNode_39 (fun H locs hP hD hS => ?_)
  obtain ⟨L5, hL5, hf⟩ := wk_letE hf
  have hP : va_P (dC, dI) vwCl (aw_W h q g I A3 L5) H := by rw [hL5]; exact hP
  have hD : va_D B9 (aw_W h q g I A3 L5) := by rw [hL5]; exact hD
  clear hL5
  refine lv_aload_n hx hb d_A_addNode_40 rfl (lv_at hl 1 rfl) ?_
  refine lv_dup hx hb d_A_addNode_41 rfl ?_
  refine va_get (D := (dC, dI)) (ci := 3) (v := .int (I 5)) (C := R_A) (T := F_A) (N := 10) hx hb hts (fun w h => List.mem_cons_of_mem _ (in_A w h)) hown hK hP 0 rfl rfl 5 (by decide) (hts _ (List.mem_cons_of_mem _ lk_258)) (fun _ h9 => h9) rfl d_A_addNode_42 ?_
  refine lv_iconst (v := 1) hx hb d_A_addNode_45 (by decide) ?_
  refine lv_iadd hx hb d_A_addNode_46 ?_
  refine va_put (D := (dC, dI)) (ci := 3) (v := .int ((I 5) + 1)) (ty := .int) (C := R_A) (T := F_A) (N := 10) hx hb hts (fun w h => List.mem_cons_of_mem _ (in_A w h)) t_A tk_A n_A hown hK hP hD hS 0 rfl rfl 5 (by decide) (hts _ (List.mem_cons_of_mem _ lk_258)) (fun _ h9 => h9) rfl (by decide +kernel) rfl rfl (Nat.le_of_ble_eq_true rfl) d_A_addNode_47 (fun H locs hP hD hS => ?_)
  obtain ⟨I6, hI6, hf⟩ := wk_letE hf
  have hP : va_P (dC, dI) vwCl (aw_W h q g I6 A3 L5) H := by rw [hI6]; exact hP
  have hD : va_D B9 (aw_W h q g I6 A3 L5) := by rw [hI6]; exact hD
  clear hI6
  refine lv_iload_n hx hb d_A_addNode_50 rfl (lv_at hl 0 rfl) ?_
  obtain ⟨e0, e1, e2, e3⟩ := wk_inj3 hf
  subst e0
  subst e1
  subst e2
  subst e3
  exact W.iret (v := (I 5)) hx hb hr (fun t ht hW => ⟨⟨(I 5), (), rfl, rfl, by rw [ht]; exact hP, va_K.moved hW.alike hK, hD⟩, hS.F ht⟩) hS.2.2 d_A_addNode_51

set_option maxHeartbeats 8000000 in
set_option maxRecDepth 100000 in
theorem cm_P_beginRow (l : Launch) (dC : Nat → ClassId) (dI : Nat → Nat → Nat) (h : Nat) (q : Nat → Nat) (g : Nat → ClassId) (hm : Nat) (qm : Nat → Nat) (gm : Nat → ClassId) (so : Nat) (sg : ClassId) (sx : Nat → Int32) (sz : Nat) (I : MI) (A : MA) (M : MI) (MB : MA) (L : ML) (k1 : Int32) (r : Int32) (I' : MI) (A' : MA) (M' : MI) (MB' : MA) (L' : ML) (hf : f_P_beginRow sx I A M MB L  k1 = some (r, I', A', M', MB', L')) : Met l y_P_beginRow w_P_beginRow ({ frames := 0, cells := 0, slots := 0, locals := 0 }) (va_Pc [.ref h, .int k1] (fun U => U.heap.size = sz ∧ va_P (dC, dI) vwCl (rw_W h q g hm qm gm so sg sx I A M MB L) U.heap ∧ va_K (dC, dI) vwCl (rw_T h q g hm qm gm so sg sx) U ∧ va_D (fun _ => True) (rw_W h q g hm qm gm so sg sx I A M MB L))) (va_Qv (fun (u : Unit) => u = u) (fun (_ : Unit) t => va_P (dC, dI) vwCl (rw_W h q g hm qm gm so sg sx I' A' M' MB' L') t.heap ∧ va_K (dC, dI) vwCl (rw_T h q g hm qm gm so sg sx) t ∧ va_D (va_A (rw_W h q g hm qm gm so sg sx I A M MB L) sz) (rw_W h q g hm qm gm so sg sx I' A' M' MB' L')) (va_A (rw_W h q g hm qm gm so sg sx I A M MB L) sz)) 0 0 (va_A (rw_W h q g hm qm gm so sg sx I A M MB L) sz) := by
  refine Met.ofW (cc := prog_3_method_16_code) (maxL := 2) (ret := none) (by decide) rfl ?_
  intro p e s m args below meth c s₁ B hml hv
  obtain ⟨rfl, hsz, hP, hK, hD0⟩ := hv
  have hx := B.exec
  have hb := B.bytes
  have hr := B.returns
  have hts := atoms_spec (ws := w_P_beginRow) B.pre
  have hown : s.vm.findClass "DraftTree$PatternReader" = some m.cls := findClass_of_methodNamed B.named
  have hlocks := B.notSynchronized
  subst hsz
  have hD := hD0.self (sz := s.heap.size)
  generalize hAe : va_A (rw_W h q g hm qm gm so sg sx I A M MB L) s.heap.size = B9 at hD ⊢
  have hA : ∀ q : Nat, s.heap.size ≤ q → B9 q := fun q h => by rw [← hAe]; exact Or.inr h
  clear hAe
  have hS : va_S B9 s.heap s.heap [] := va_S.rf
  have hl := lv_entry ([.ref h, .int k1]) (n := 2) (Nat.le_of_ble_eq_true rfl)
  rw [lg_entry_eq]
  generalize (lg_sl ([.ref h, .int k1]) ++ List.replicate (2 - (lg_sl ([.ref h, .int k1])).length) Slot.unset).toArray = ls at hl ⊢
  have hl : lv_has ls 2 [(0, .ref h), (1, .int k1)] := hl
  unfold f_P_beginRow at hf
  refine lv_aload_n hx hb d_P_beginRow_0 rfl (lv_at hl 0 rfl) ?_
  refine va_get (D := (dC, dI)) (ci := 2) (v := .ref (q 2)) (C := R_P) (T := F_P) (N := 13) hx hb hts (fun w h => List.mem_cons_of_mem _ (in_P w h)) hown hK hP 0 rfl rfl 2 (by decide) (hts _ (List.mem_cons_of_mem _ lk_340)) (fun _ h9 => h9) rfl d_P_beginRow_1 ?_
  refine lv_aload_n hx hb d_P_beginRow_4 rfl (lv_at hl 0 rfl) ?_
  refine va_get (D := (dC, dI)) (ci := 2) (v := .int (I 8)) (C := R_P) (T := F_P) (N := 13) hx hb hts (fun w h => List.mem_cons_of_mem _ (in_P w h)) hown hK hP 0 rfl rfl 8 (by decide) (hts _ (List.mem_cons_of_mem _ lk_332)) (fun _ h9 => h9) rfl d_P_beginRow_5 ?_
  refine lv_iload_n hx hb d_P_beginRow_8 rfl (lv_at hl 1 rfl) ?_
  obtain ⟨hc1, hf⟩ := wk_if hf
  refine va_iast hx hb hK hP hD hS 3 2 rfl rfl (wk_inb_ok hc1) d_P_beginRow_9 (fun H locs hP hD hS => ?_)
  obtain ⟨A1, hA1, hf⟩ := wk_letE hf
  have hP : va_P (dC, dI) vwCl (rw_W h q g hm qm gm so sg sx I A1 M MB L) H := by rw [hA1]; exact hP
  have hD : va_D B9 (rw_W h q g hm qm gm so sg sx I A1 M MB L) := by rw [hA1]; exact hD
  clear hA1
  refine lv_aload_n hx hb d_P_beginRow_10 rfl (lv_at hl 0 rfl) ?_
  refine lv_iconst (v := (-1)) hx hb d_P_beginRow_11 (by decide) ?_
  refine va_put (D := (dC, dI)) (ci := 2) (v := .int (-1)) (ty := .int) (C := R_P) (T := F_P) (N := 13) hx hb hts (fun w h => List.mem_cons_of_mem _ (in_P w h)) t_P tk_P n_P hown hK hP hD hS 0 rfl rfl 10 (by decide) (hts _ (List.mem_cons_of_mem _ lk_341)) (fun _ h9 => h9) rfl (by decide +kernel) rfl rfl (Nat.le_of_ble_eq_true rfl) d_P_beginRow_12 (fun H locs hP hD hS => ?_)
  obtain ⟨I2, hI2, hf⟩ := wk_letE hf
  have hP : va_P (dC, dI) vwCl (rw_W h q g hm qm gm so sg sx I2 A1 M MB L) H := by rw [hI2]; exact hP
  have hD : va_D B9 (rw_W h q g hm qm gm so sg sx I2 A1 M MB L) := by rw [hI2]; exact hD
  clear hI2
  refine lv_aload_n hx hb d_P_beginRow_15 rfl (lv_at hl 0 rfl) ?_
  refine lv_iconst (v := (-1)) hx hb d_P_beginRow_16 (by decide) ?_
  refine va_put (D := (dC, dI)) (ci := 2) (v := .int (-1)) (ty := .int) (C := R_P) (T := F_P) (N := 13) hx hb hts (fun w h => List.mem_cons_of_mem _ (in_P w h)) t_P tk_P n_P hown hK hP hD hS 0 rfl rfl 11 (by decide) (hts _ (List.mem_cons_of_mem _ lk_342)) (fun _ h9 => h9) rfl (by decide +kernel) rfl rfl (Nat.le_of_ble_eq_true rfl) d_P_beginRow_17 (fun H locs hP hD hS => ?_)
  obtain ⟨I3, hI3, hf⟩ := wk_letE hf
  have hP : va_P (dC, dI) vwCl (rw_W h q g hm qm gm so sg sx I3 A1 M MB L) H := by rw [hI3]; exact hP
  have hD : va_D B9 (rw_W h q g hm qm gm so sg sx I3 A1 M MB L) := by rw [hI3]; exact hD
  clear hI3
  refine lv_aload_n hx hb d_P_beginRow_20 rfl (lv_at hl 0 rfl) ?_
  refine lv_iload_n hx hb d_P_beginRow_21 rfl (lv_at hl 1 rfl) ?_
  refine va_put (D := (dC, dI)) (ci := 2) (v := .int k1) (ty := .int) (C := R_P) (T := F_P) (N := 13) hx hb hts (fun w h => List.mem_cons_of_mem _ (in_P w h)) t_P tk_P n_P hown hK hP hD hS 0 rfl rfl 12 (by decide) (hts _ (List.mem_cons_of_mem _ lk_343)) (fun _ h9 => h9) rfl (by decide +kernel) rfl rfl (Nat.le_of_ble_eq_true rfl) d_P_beginRow_22 (fun H locs hP hD hS => ?_)
  obtain ⟨I4, hI4, hf⟩ := wk_letE hf
  have hP : va_P (dC, dI) vwCl (rw_W h q g hm qm gm so sg sx I4 A1 M MB L) H := by rw [hI4]; exact hP
  have hD : va_D B9 (rw_W h q g hm qm gm so sg sx I4 A1 M MB L) := by rw [hI4]; exact hD
  clear hI4
  obtain ⟨e0, e1, e2, e3, e4, e5⟩ := wk_inj5 hf
  subst e0
  subst e1
  subst e2
  subst e3
  subst e4
  subst e5
  exact W.vret hx hb hr (fun t ht hW => ⟨⟨(), rfl, rfl, by rw [ht]; exact hP, va_K.moved hW.alike hK, hD⟩, hS.F ht⟩) hS.2.2 d_P_beginRow_25

set_option maxHeartbeats 8000000 in
set_option maxRecDepth 100000 in
theorem cm_P_openChoice (l : Launch) (dC : Nat → ClassId) (dI : Nat → Nat → Nat) (h : Nat) (q : Nat → Nat) (g : Nat → ClassId) (hm : Nat) (qm : Nat → Nat) (gm : Nat → ClassId) (so : Nat) (sg : ClassId) (sx : Nat → Int32) (sz : Nat) (I : MI) (A : MA) (M : MI) (MB : MA) (L : ML) (k1 : Int32) (r : Int32) (I' : MI) (A' : MA) (M' : MI) (MB' : MA) (L' : ML) (hf : f_P_openChoice sx I A M MB L  k1 = some (r, I', A', M', MB', L')) : Met l y_P_openChoice w_P_openChoice ({ frames := 1, cells := 0, slots := 0, locals := 22 }) (va_Pc [.ref h, .int k1] (fun U => U.heap.size = sz ∧ va_P (dC, dI) vwCl (rw_W h q g hm qm gm so sg sx I A M MB L) U.heap ∧ va_K (dC, dI) vwCl (rw_T h q g hm qm gm so sg sx) U ∧ va_D (fun _ => True) (rw_W h q g hm qm gm so sg sx I A M MB L))) (va_Qv (fun (u : Unit) => u = u) (fun (_ : Unit) t => va_P (dC, dI) vwCl (rw_W h q g hm qm gm so sg sx I' A' M' MB' L') t.heap ∧ va_K (dC, dI) vwCl (rw_T h q g hm qm gm so sg sx) t ∧ va_D (va_A (rw_W h q g hm qm gm so sg sx I A M MB L) sz) (rw_W h q g hm qm gm so sg sx I' A' M' MB' L')) (va_A (rw_W h q g hm qm gm so sg sx I A M MB L) sz)) 0 0 (va_A (rw_W h q g hm qm gm so sg sx I A M MB L) sz) := by
  refine Met.ofW (cc := prog_3_method_12_code) (maxL := 3) (ret := none) (by decide) rfl ?_
  intro p e s m args below meth c s₁ B hml hv
  obtain ⟨rfl, hsz, hP, hK, hD0⟩ := hv
  have hx := B.exec
  have hb := B.bytes
  have hr := B.returns
  have hts := atoms_spec (ws := w_P_openChoice) B.pre
  have hown : s.vm.findClass "DraftTree$PatternReader" = some m.cls := findClass_of_methodNamed B.named
  have hlocks := B.notSynchronized
  subst hsz
  have hD := hD0.self (sz := s.heap.size)
  generalize hAe : va_A (rw_W h q g hm qm gm so sg sx I A M MB L) s.heap.size = B9 at hD ⊢
  have hA : ∀ q : Nat, s.heap.size ≤ q → B9 q := fun q h => by rw [← hAe]; exact Or.inr h
  clear hAe
  have hS : va_S B9 s.heap s.heap [] := va_S.rf
  have hl := lv_entry ([.ref h, .int k1]) (n := 3) (Nat.le_of_ble_eq_true rfl)
  rw [lg_entry_eq]
  generalize (lg_sl ([.ref h, .int k1]) ++ List.replicate (3 - (lg_sl ([.ref h, .int k1])).length) Slot.unset).toArray = ls at hl ⊢
  have hl : lv_has ls 3 [(0, .ref h), (1, .int k1)] := hl
  unfold f_P_openChoice at hf
  refine lv_aload_n hx hb d_P_openChoice_0 rfl (lv_at hl 0 rfl) ?_
  refine va_get (D := (dC, dI)) (ci := 2) (v := .ref hm) (C := R_P) (T := F_P) (N := 13) hx hb hts (fun w h => List.mem_cons_of_mem _ (in_P w h)) hown hK hP 0 rfl rfl 4 (by decide) (hts _ (List.mem_cons_of_mem _ lk_330)) (fun _ h9 => h9) rfl d_P_openChoice_1 ?_
  refine lv_iconst (v := 0) hx hb d_P_openChoice_4 (by decide) ?_
  have hPc := hP.sub (ws' := (aw_W hm qm gm M MB L)) [5, 6, 7, 8, 9, 10] rfl
  have hDc := hD.sub (ws' := (aw_W hm qm gm M MB L)) [5, 6, 7, 8, 9, 10] (by decide) rfl
  have hKc := hK.sub (tys' := (aw_T hm qm gm)) [4, 5, 6, 7, 8] rfl
  have hFc := va_free (wc := (aw_W hm qm gm M MB L)) hD hS hA [5, 6, 7, 8, 9, 10] rfl
  cases hg1 : f_A_addNode M MB L 0 with
  | none => rw [hg1] at hf; cases hf
  | some z1 =>
    obtain ⟨r1, M1, MB1, L1⟩ := z1
    rw [hg1] at hf
    dsimp only [Option.bind_some] at hf
    refine va_calli (va_runV (As := [.int 0]) (rest := []) ⟨hx, hb, hml, hown, hts⟩ (cm_A_addNode l dC dI hm qm gm _  M MB L 0 r1 M1 MB1 L1 hg1) (cwV 1 hts (gd_v lk_334 lk_335 lk_336 lk_273 lk_333) rfl rfl rfl (by decide +kernel) ⟨Nat.le_of_ble_eq_true rfl, Nat.le_of_ble_eq_true rfl⟩) ⟨fun a U g mk q => by obtain ⟨q0, q1, qP, qK, qD⟩ := q; exact ⟨q0, q1, qP, va_K.moved (u := U) (U := U.calling g mk a) (Vm.Alike.refl U.vm) qK, qD⟩, va_recv (ci := 3) (q0 := 5) hK hP rfl rfl, fun U hU hW => ⟨rfl, by rw [hU], by rw [hU]; exact hPc, va_K.moved hW.alike hKc, hDc.weaken (fun _ _ _ _ => trivial)⟩⟩ rfl rfl hl.1 rfl (lv_room (Nat.le_of_ble_eq_true rfl)) d_P_openChoice_5 ⟨Nat.le_of_ble_eq_true rfl, Nat.le_of_ble_eq_true rfl⟩) hS (fun q _ h => hFc q h) hFc (fun r9 u t H1 locs ht hvm hw hB hz1 hk1 hS => ?_)
    obtain ⟨hP1, hK1, hD1⟩ := hB
    rw [ht] at hP1
    rw [hw]
    obtain ⟨hP, hD⟩ := va_join (wr := (([0, 1, 2, 3, 4, 11] : List Nat).map (fun i => ((rw_W h q g hm qm gm so sg sx I A M MB L)).getD i (0, .inr (0, []))))) (w1 := (aw_W hm qm gm M1 MB1 L1)) hP hD [5, 6, 7, 8, 9, 10] [0, 1, 2, 3, 4, 11] rfl rfl (by decide) (by decide) hk1 hFc hP1 hD1
    generalize H1 = H at hP hS ⊢
    have hP := hP.sub (ws' := (rw_W h q g hm qm gm so sg sx I A M1 MB1 L1)) [0, 1, 2, 3, 4, 6, 7, 8, 9, 10, 11, 5] rfl
    have hD := hD.sub (ws' := (rw_W h q g hm qm gm so sg sx I A M1 MB1 L1)) [0, 1, 2, 3, 4, 6, 7, 8, 9, 10, 11, 5] (by decide) rfl
    refine lv_istore_n (lv' := [(2, .int r1), (0, .ref h), (1, .int k1)]) hx hb d_P_openChoice_8 rfl hl (by decide) rfl (fun ls hl => ?_)
    have hl : lv_has ls 3 [(2, .int r1), (0, .ref h), (1, .int k1)] := hl
    refine lv_aload_n hx hb d_P_openChoice_9 rfl (lv_at hl 1 rfl) ?_
    refine va_get (D := (dC, dI)) (ci := 2) (v := .ref (q 0)) (C := R_P) (T := F_P) (N := 13) hx hb hts (fun w h => List.mem_cons_of_mem _ (in_P w h)) hown hK hP 0 rfl rfl 0 (by decide) (hts _ (List.mem_cons_of_mem _ lk_337)) (fun _ h9 => h9) rfl d_P_openChoice_10 ?_
    refine lv_aload_n hx hb d_P_openChoice_13 rfl (lv_at hl 1 rfl) ?_
    refine va_get (D := (dC, dI)) (ci := 2) (v := .int (I 8)) (C := R_P) (T := F_P) (N := 13) hx hb hts (fun w h => List.mem_cons_of_mem _ (in_P w h)) hown hK hP 0 rfl rfl 8 (by decide) (hts _ (List.mem_cons_of_mem _ lk_332)) (fun _ h9 => h9) rfl d_P_openChoice_14 ?_
    refine lv_iload_n hx hb d_P_openChoice_17 rfl (lv_at hl 0 rfl) ?_
    obtain ⟨hc1, hf⟩ := wk_if hf
    refine va_iast hx hb hK hP hD hS 1 0 rfl rfl (wk_inb_ok hc1) d_P_openChoice_18 (fun H locs hP hD hS => ?_)
    obtain ⟨A2, hA2, hf⟩ := wk_letE hf
    have hP : va_P (dC, dI) vwCl (rw_W h q g hm qm gm so sg sx I A2 M1 MB1 L1) H := by rw [hA2]; exact hP
    have hD : va_D B9 (rw_W h q g hm qm gm so sg sx I A2 M1 MB1 L1) := by rw [hA2]; exact hD
    clear hA2
    refine lv_aload_n hx hb d_P_openChoice_19 rfl (lv_at hl 1 rfl) ?_
    refine va_get (D := (dC, dI)) (ci := 2) (v := .ref (q 1)) (C := R_P) (T := F_P) (N := 13) hx hb hts (fun w h => List.mem_cons_of_mem _ (in_P w h)) hown hK hP 0 rfl rfl 1 (by decide) (hts _ (List.mem_cons_of_mem _ lk_338)) (fun _ h9 => h9) rfl d_P_openChoice_20 ?_
    refine lv_aload_n hx hb d_P_openChoice_23 rfl (lv_at hl 1 rfl) ?_
    refine va_get (D := (dC, dI)) (ci := 2) (v := .int (I 8)) (C := R_P) (T := F_P) (N := 13) hx hb hts (fun w h => List.mem_cons_of_mem _ (in_P w h)) hown hK hP 0 rfl rfl 8 (by decide) (hts _ (List.mem_cons_of_mem _ lk_332)) (fun _ h9 => h9) rfl d_P_openChoice_24 ?_
    refine lv_aload_n hx hb d_P_openChoice_27 rfl (lv_at hl 1 rfl) ?_
    refine va_get (D := (dC, dI)) (ci := 2) (v := .ref hm) (C := R_P) (T := F_P) (N := 13) hx hb hts (fun w h => List.mem_cons_of_mem _ (in_P w h)) hown hK hP 0 rfl rfl 4 (by decide) (hts _ (List.mem_cons_of_mem _ lk_330)) (fun _ h9 => h9) rfl d_P_openChoice_28 ?_
    refine lv_iconst (v := 0) hx hb d_P_openChoice_31 (by decide) ?_
    have hPc := hP.sub (ws' := (aw_W hm qm gm M1 MB1 L1)) [5, 6, 7, 8, 9, 10] rfl
    have hDc := hD.sub (ws' := (aw_W hm qm gm M1 MB1 L1)) [5, 6, 7, 8, 9, 10] (by decide) rfl
    have hKc := hK.sub (tys' := (aw_T hm qm gm)) [4, 5, 6, 7, 8] rfl
    have hFc := va_free (wc := (aw_W hm qm gm M1 MB1 L1)) hD hS hA [5, 6, 7, 8, 9, 10] rfl
    cases hg3 : f_A_addNode M1 MB1 L1 0 with
    | none => rw [hg3] at hf; cases hf
    | some z3 =>
      obtain ⟨r3, M3, MB3, L3⟩ := z3
      rw [hg3] at hf
      dsimp only [Option.bind_some] at hf
      refine va_calli (va_runV (As := [.int 0]) (rest := [.int (I 8), .ref (q 1)]) ⟨hx, hb, hml, hown, hts⟩ (cm_A_addNode l dC dI hm qm gm _  M1 MB1 L1 0 r3 M3 MB3 L3 hg3) (cwV 1 hts (gd_v lk_334 lk_335 lk_336 lk_273 lk_333) rfl rfl rfl (by decide +kernel) ⟨Nat.le_of_ble_eq_true rfl, Nat.le_of_ble_eq_true rfl⟩) ⟨fun a U g mk q => by obtain ⟨q0, q1, qP, qK, qD⟩ := q; exact ⟨q0, q1, qP, va_K.moved (u := U) (U := U.calling g mk a) (Vm.Alike.refl U.vm) qK, qD⟩, va_recv (ci := 3) (q0 := 5) hK hP rfl rfl, fun U hU hW => ⟨rfl, by rw [hU], by rw [hU]; exact hPc, va_K.moved hW.alike hKc, hDc.weaken (fun _ _ _ _ => trivial)⟩⟩ rfl rfl hl.1 rfl (lv_room (Nat.le_of_ble_eq_true rfl)) d_P_openChoice_32 ⟨Nat.le_of_ble_eq_true rfl, Nat.le_of_ble_eq_true rfl⟩) hS (fun q _ h => hFc q h) hFc (fun r9 u t H1 locs ht hvm hw hB hz1 hk1 hS => ?_)
      obtain ⟨hP1, hK1, hD1⟩ := hB
      rw [ht] at hP1
      rw [hw]
      obtain ⟨hP, hD⟩ := va_join (wr := (([0, 1, 2, 3, 4, 11] : List Nat).map (fun i => ((rw_W h q g hm qm gm so sg sx I A2 M1 MB1 L1)).getD i (0, .inr (0, []))))) (w1 := (aw_W hm qm gm M3 MB3 L3)) hP hD [5, 6, 7, 8, 9, 10] [0, 1, 2, 3, 4, 11] rfl rfl (by decide) (by decide) hk1 hFc hP1 hD1
      generalize H1 = H at hP hS ⊢
      have hP := hP.sub (ws' := (rw_W h q g hm qm gm so sg sx I A2 M3 MB3 L3)) [0, 1, 2, 3, 4, 6, 7, 8, 9, 10, 11, 5] rfl
      have hD := hD.sub (ws' := (rw_W h q g hm qm gm so sg sx I A2 M3 MB3 L3)) [0, 1, 2, 3, 4, 6, 7, 8, 9, 10, 11, 5] (by decide) rfl
      obtain ⟨hc2, hf⟩ := wk_if hf
      refine va_iast hx hb hK hP hD hS 2 1 rfl rfl (wk_inb_ok hc2) d_P_openChoice_35 (fun H locs hP hD hS => ?_)
      obtain ⟨A4, hA4, hf⟩ := wk_letE hf
      have hP : va_P (dC, dI) vwCl (rw_W h q g hm qm gm so sg sx I A4 M3 MB3 L3) H := by rw [hA4]; exact hP
      have hD : va_D B9 (rw_W h q g hm qm gm so sg sx I A4 M3 MB3 L3) := by rw [hA4]; exact hD
      clear hA4
      refine lv_aload_n hx hb d_P_openChoice_36 rfl (lv_at hl 1 rfl) ?_
      refine va_get (D := (dC, dI)) (ci := 2) (v := .ref (q 3)) (C := R_P) (T := F_P) (N := 13) hx hb hts (fun w h => List.mem_cons_of_mem _ (in_P w h)) hown hK hP 0 rfl rfl 3 (by decide) (hts _ (List.mem_cons_of_mem _ lk_339)) (fun _ h9 => h9) rfl d_P_openChoice_37 ?_
      refine lv_aload_n hx hb d_P_openChoice_40 rfl (lv_at hl 1 rfl) ?_
      refine va_get (D := (dC, dI)) (ci := 2) (v := .int (I 8)) (C := R_P) (T := F_P) (N := 13) hx hb hts (fun w h => List.mem_cons_of_mem _ (in_P w h)) hown hK hP 0 rfl rfl 8 (by decide) (hts _ (List.mem_cons_of_mem _ lk_332)) (fun _ h9 => h9) rfl d_P_openChoice_41 ?_
      refine lv_iload_n hx hb d_P_openChoice_44 rfl (lv_at hl 2 rfl) ?_
      obtain ⟨hc3, hf⟩ := wk_if hf
      refine va_iast hx hb hK hP hD hS 4 3 rfl rfl (wk_inb_ok hc3) d_P_openChoice_45 (fun H locs hP hD hS => ?_)
      obtain ⟨A5, hA5, hf⟩ := wk_letE hf
      have hP : va_P (dC, dI) vwCl (rw_W h q g hm qm gm so sg sx I A5 M3 MB3 L3) H := by rw [hA5]; exact hP
      have hD : va_D B9 (rw_W h q g hm qm gm so sg sx I A5 M3 MB3 L3) := by rw [hA5]; exact hD
      clear hA5
      refine lv_aload_n hx hb d_P_openChoice_46 rfl (lv_at hl 1 rfl) ?_
      refine lv_iload_n hx hb d_P_openChoice_47 rfl (lv_at hl 0 rfl) ?_
      have hPc := hP.sub (ws' := (rw_W h q g hm qm gm so sg sx I A5 M3 MB3 L3)) [0, 1, 2, 3, 4, 5, 6, 7, 8, 9, 10, 11] rfl
      have hDc := hD.sub (ws' := (rw_W h q g hm qm gm so sg sx I A5 M3 MB3 L3)) [0, 1, 2, 3, 4, 5, 6, 7, 8, 9, 10, 11] (by decide) rfl
      have hKc := hK.sub (tys' := (rw_T h q g hm qm gm so sg sx)) [0, 1, 2, 3, 4, 5, 6, 7, 8, 9] rfl
      have hFc := va_free (wc := (rw_W h q g hm qm gm so sg sx I A5 M3 MB3 L3)) hD hS hA [0, 1, 2, 3, 4, 5, 6, 7, 8, 9, 10, 11] rfl
      cases hg6 : f_P_beginRow sx I A5 M3 MB3 L3 r1 with
      | none => rw [hg6] at hf; cases hf
      | some z6 =>
        obtain ⟨r6, I6, A6, M6, MB6, L6⟩ := z6
        rw [hg6] at hf
        dsimp only [Option.bind_some] at hf
        refine va_callv (va_runV (As := [.int r1]) (rest := []) ⟨hx, hb, hml, hown, hts⟩ (cm_P_beginRow l dC dI h q g hm qm gm so sg sx _  I A5 M3 MB3 L3 r1 r6 I6 A6 M6 MB6 L6 hg6) (cwV 1 hts (gd_v lk_345 lk_346 lk_347 lk_348 lk_344) rfl rfl rfl (by decide +kernel) ⟨Nat.le_of_ble_eq_true rfl, Nat.le_of_ble_eq_true rfl⟩) ⟨fun a U g mk q => by obtain ⟨q0, q1, qP, qK, qD⟩ := q; exact ⟨q0, q1, qP, va_K.moved (u := U) (U := U.calling g mk a) (Vm.Alike.refl U.vm) qK, qD⟩, va_recv (ci := 2) (q0 := 0) hK hP rfl rfl, fun U hU hW => ⟨rfl, by rw [hU], by rw [hU]; exact hPc, va_K.moved hW.alike hKc, hDc.weaken (fun _ _ _ _ => trivial)⟩⟩ rfl rfl hl.1 rfl (lv_room (Nat.le_of_ble_eq_true rfl)) d_P_openChoice_48 ⟨Nat.le_of_ble_eq_true rfl, Nat.le_of_ble_eq_true rfl⟩) hS (fun q _ h => hFc q h) hFc (fun u t H1 locs ht hvm hw hB hz1 hk1 hS => ?_)
        obtain ⟨hP1, hK1, hD1⟩ := hB
        rw [ht] at hP1
        obtain ⟨hP, hD⟩ := va_join (wr := (([] : List Nat).map (fun i => ((rw_W h q g hm qm gm so sg sx I A5 M3 MB3 L3)).getD i (0, .inr (0, []))))) (w1 := (rw_W h q g hm qm gm so sg sx I6 A6 M6 MB6 L6)) hP hD [0, 1, 2, 3, 4, 5, 6, 7, 8, 9, 10, 11] [] rfl rfl (by decide) (by decide) hk1 hFc hP1 hD1
        generalize H1 = H at hP hS ⊢
        have hP := hP.sub (ws' := (rw_W h q g hm qm gm so sg sx I6 A6 M6 MB6 L6)) [0, 1, 2, 3, 4, 5, 6, 7, 8, 9, 10, 11] rfl
        have hD := hD.sub (ws' := (rw_W h q g hm qm gm so sg sx I6 A6 M6 MB6 L6)) [0, 1, 2, 3, 4, 5, 6, 7, 8, 9, 10, 11] (by decide) rfl
        obtain ⟨e0, e1, e2, e3, e4, e5⟩ := wk_inj5 hf
        subst e0
        subst e1
        subst e2
        subst e3
        subst e4
        subst e5
        exact W.vret hx hb hr (fun t ht hW => ⟨⟨(), rfl, rfl, by rw [ht]; exact hP, va_K.moved hW.alike hK, hD⟩, hS.F ht⟩) hS.2.2 d_P_openChoice_51

