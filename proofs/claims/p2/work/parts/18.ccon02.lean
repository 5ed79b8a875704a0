set_option maxHeartbeats 8000000 in
set_option maxRecDepth 100000 in
theorem cm_A_seek (l : Launch) (dC : Nat → ClassId) (dI : Nat → Nat → Nat) (h : Nat) (q : Nat → Nat) (g : Nat → ClassId) (tq : Nat) (tg : ClassId) (tn : Nat) (tx : Nat → Int32) (sz : Nat) (I : MI) (A : MA) (L : ML) (k2 : Int32) (r : Int32) (I' : MI) (A' : MA) (L' : ML) (hf : f_A_seek tn tx I A L  k2 = some (r, I', A', L')) : Met l y_A_seek w_A_seek ({ frames := 4, cells := 0, slots := 0, locals := 103 }) (va_Pc [.ref h, .ref tq, .int k2] (fun U => U.heap.size = sz ∧ va_P (dC, dI) vwCl (at_W h q g tq tg tn tx I A L) U.heap ∧ va_K (dC, dI) vwCl (at_T h q g tq tg tn tx) U ∧ va_D (fun _ => True) (at_W h q g tq tg tn tx I A L))) (va_Qi (fun (r9 : Int32) (_ : Unit) => r9 = r) (fun (_ : Unit) t => va_P (dC, dI) vwCl (at_W h q g tq tg tn tx I' A' L') t.heap ∧ va_K (dC, dI) vwCl (at_T h q g tq tg tn tx) t ∧ va_D (va_A (at_W h q g tq tg tn tx I A L) sz) (at_W h q g tq tg tn tx I' A' L')) (va_A (at_W h q g tq tg tn tx I A L) sz)) 0 0 (va_A (at_W h q g tq tg tn tx I A L) sz) := by
  refine Met.ofW (cc := prog_2_method_5_code) (maxL := 5) (ret := (some .boolean)) (by decide) rfl ?_
  intro p e s m args below meth c s₁ B hml hv
  obtain ⟨rfl, hsz, hP, hK, hD0⟩ := hv
  have hx := B.exec
  have hb := B.bytes
  have hr := B.returns
  have hts := atoms_spec (ws := w_A_seek) B.pre
  have hown : s.vm.findClass "DraftTree$Automaton" = some m.cls := findClass_of_methodNamed B.named
  have hlocks := B.notSynchronized
  subst hsz
  have hD := hD0.self (sz := s.heap.size)
  generalize hAe : va_A (at_W h q g tq tg tn tx I A L) s.heap.size = B9 at hD ⊢
  have hA : ∀ q : Nat, s.heap.size ≤ q → B9 q := fun q h => by rw [← hAe]; exact Or.inr h
  clear hAe
  have hS : va_S B9 s.heap s.heap [] := va_S.rf
  have hl := lv_entry ([.ref h, .ref tq, .int k2]) (n := 5) (Nat.le_of_ble_eq_true rfl)
  rw [lg_entry_eq]
  generalize (lg_sl ([.ref h, .ref tq, .int k2]) ++ List.replicate (5 - (lg_sl ([.ref h, .ref tq, .int k2])).length) Slot.unset).toArray = ls at hl ⊢
  have hl : lv_has ls 5 [(0, .ref h), (1, .ref tq), (2, .int k2)] := hl
  have stp2 : ∀ (rc : Nat → MI → MA → ML → (Nat → Int32) → (Nat → Int64) → Option (Int32 × MI × MA × ML)) (hrc2 : ∀ (I : MI) (A : MA) (L : ML) (X : Nat → Int32) (Y : Nat → Int64) (ls : Array Slot) (H : Heap) (locs : List Loc), rc 2 I A L X Y = some (r, I', A', L') → lv_has ls 5 [(0, .ref h), (1, .ref tq), (2, .int (X 2)), (3, .int (X 3))] → va_P (dC, dI) vwCl (at_W h q g tq tg tn tx I A L) H → va_D B9 (at_W h q g tq tg tn tx I A L) → va_S B9 s.heap H locs → W p l e (headSpec w_A_seek ({ frames := 4, cells := 0, slots := 0, locals := 103 })).room s m ([.ref h, .ref tq, .int k2] : List Value).toArray below meth c H locs 0 0 (MQ below (va_Qi (fun (r9 : Int32) (_ : Unit) => r9 = r) (fun (_ : Unit) t => va_P (dC, dI) vwCl (at_W h q g tq tg tn tx I' A' L') t.heap ∧ va_K (dC, dI) vwCl (at_T h q g tq tg tn tx) t ∧ va_D B9 (at_W h q g tq tg tn tx I' A' L')) B9) ([.ref h, .ref tq, .int k2] : List Value).toArray s 0 0 B9) (F0 m 2 ls [])), ∀ (I : MI) (A : MA) (L : ML) (X : Nat → Int32) (Y : Nat → Int64) (ls : Array Slot) (H : Heap) (locs : List Loc), f_A_seek_2 tn tx rc I A L X Y = some (r, I', A', L') → lv_has ls 5 [(0, .ref h), (1, .ref tq), (2, .int (X 2)), (3, .int (X 3))] → va_P (dC, dI) vwCl (at_W h q g tq tg tn tx I A L) H → va_D B9 (at_W h q g tq tg tn tx I A L) → va_S B9 s.heap H locs → W p l e (headSpec w_A_seek ({ frames := 4, cells := 0, slots := 0, locals := 103 })).room s m ([.ref h, .ref tq, .int k2] : List Value).toArray below meth c H locs 0 0 (MQ below (va_Qi (fun (r9 : Int32) (_ : Unit) => r9 = r) (fun (_ : Unit) t => va_P (dC, dI) vwCl (at_W h q g tq tg tn tx I' A' L') t.heap ∧ va_K (dC, dI) vwCl (at_T h q g tq tg tn tx) t ∧ va_D B9 (at_W h q g tq tg tn tx I' A' L')) B9) ([.ref h, .ref tq, .int k2] : List Value).toArray s 0 0 B9) (F0 m 2 ls []) := by
    intro rc hrc2 I A L X Y ls H locs hf hl hP hD hS
    unfold f_A_seek_2 at hf
    refine lv_iload_n hx hb d_A_seek_2 rfl (lv_at hl 3 rfl) ?_
    refine lv_aload_n hx hb d_A_seek_3 rfl (lv_at hl 1 rfl) ?_
    refine va_alen (v := (Int32.ofNat tn)) hx hb hK hP 6 5 rfl rfl rfl d_A_seek_4 ?_
    refine lv_icmp_ge (tgt := 41) hx hb d_A_seek_5 (by decide) (fun hc1 => ?_) (fun hc1 => ?_)
    ·
      have hf := wk_ift hc1 hf
      refine lv_iconst (v := 0) hx hb d_A_seek_41 (by decide) ?_
      obtain ⟨e0, e1, e2, e3⟩ := wk_inj3 hf
      subst e0
      subst e1
      subst e2
      subst e3
      exact W.zret (v := 0) hx hb hr rfl (fun t ht hW => ⟨⟨0, (), rfl, rfl, by rw [ht]; exact hP, va_K.moved hW.alike hK, hD⟩, hS.F ht⟩) hS.2.2 d_A_seek_42
    ·
      have hf := wk_iff hc1 hf
      refine lv_aload_n hx hb d_A_seek_8 rfl (lv_at hl 0 rfl) ?_
      refine lv_aload_n hx hb d_A_seek_9 rfl (lv_at hl 1 rfl) ?_
      refine lv_iload_n hx hb d_A_seek_10 rfl (lv_at hl 3 rfl) ?_
      have hPc := hP.sub (ws' := (at_W h q g tq tg tn tx I A L)) [0, 1, 2, 3, 4, 5, 6] rfl
      have hDc := hD.sub (ws' := (at_W h q g tq tg tn tx I A L)) [0, 1, 2, 3, 4, 5, 6] (by decide) rfl
      have hKc := hK.sub (tys' := (at_T h q g tq tg tn tx)) [0, 1, 2, 3, 4, 5] rfl
      have hFc := va_free (wc := (at_W h q g tq tg tn tx I A L)) hD hS hA [0, 1, 2, 3, 4, 5, 6] rfl
      cases hg1 : f_A_longestFit tn tx I A L (X 3) with
      | none => rw [hg1] at hf; cases hf
      | some z1 =>
        obtain ⟨r1, I1, A1, L1⟩ := z1
        rw [hg1] at hf
        dsimp only [Option.bind_some] at hf
        refine va_calli (va_runV (As := [.ref tq, .int (X 3)]) (rest := []) ⟨hx, hb, hml, hown, hts⟩ (cm_A_longestFit l dC dI h q g tq tg tn tx _  I A L (X 3) r1 I1 A1 L1 hg1) (cwV 2 hts (gd_v lk_296 lk_297 lk_298 lk_273 lk_295) rfl rfl rfl (by decide +kernel) ⟨Nat.le_of_ble_eq_true rfl, Nat.le_of_ble_eq_true rfl⟩) ⟨fun a U g mk q => by obtain ⟨q0, q1, qP, qK, qD⟩ := q; exact ⟨q0, q1, qP, va_K.moved (u := U) (U := U.calling g mk a) (Vm.Alike.refl U.vm) qK, qD⟩, va_recv (ci := 3) (q0 := 0) hK hP rfl rfl, fun U hU hW => ⟨rfl, by rw [hU], by rw [hU]; exact hPc, va_K.moved hW.alike hKc, hDc.weaken (fun _ _ _ _ => trivial)⟩⟩ rfl rfl hl.1 rfl (lv_room (Nat.le_of_ble_eq_true rfl)) d_A_seek_11 ⟨Nat.le_of_ble_eq_true rfl, Nat.le_of_ble_eq_true rfl⟩) hS (fun q _ h => hFc q h) hFc (fun r9 u t H1 locs ht hvm hw hB hz1 hk1 hS => ?_)
        obtain ⟨hP1, hK1, hD1⟩ := hB
        rw [ht] at hP1
        rw [hw]
        obtain ⟨hP, hD⟩ := va_join (wr := (([] : List Nat).map (fun i => ((at_W h q g tq tg tn tx I A L)).getD i (0, .inr (0, []))))) (w1 := (at_W h q g tq tg tn tx I1 A1 L1)) hP hD [0, 1, 2, 3, 4, 5, 6] [] rfl rfl (by decide) (by decide) hk1 hFc hP1 hD1
        generalize H1 = H at hP hS ⊢
        have hP := hP.sub (ws' := (at_W h q g tq tg tn tx I1 A1 L1)) [0, 1, 2, 3, 4, 5, 6] rfl
        have hD := hD.sub (ws' := (at_W h q g tq tg tn tx I1 A1 L1)) [0, 1, 2, 3, 4, 5, 6] (by decide) rfl
        refine lv_istore (lv' := [(4, .int r1), (0, .ref h), (1, .ref tq), (2, .int (X 2)), (3, .int (X 3))]) hx hb d_A_seek_14 hl (by decide) rfl (fun ls hl => ?_)
        have hl : lv_has ls 5 [(4, .int r1), (0, .ref h), (1, .ref tq), (2, .int (X 2)), (3, .int (X 3))] := hl
        refine lv_iload hx hb d_A_seek_16 (lv_at hl 0 rfl) ?_
        refine lv_iconst (v := (-1)) hx hb d_A_seek_18 (by decide) ?_
        refine lv_icmp_eq (tgt := 35) hx hb d_A_seek_19 (by decide) (fun hc2 => ?_) (fun hc2 => ?_)
        ·
          have hf := wk_ift hc2 hf
          refine lv_iinc (k := 4) (v := ((X 3) + 1)) (lv' := [(3, .int ((X 3) + 1)), (4, .int r1), (0, .ref h), (1, .ref tq), (2, .int (X 2))]) hx hb d_A_seek_35 hl rfl (wk_inc (by decide)) (by decide) rfl (fun ls hl => ?_)
          have hl : lv_has ls 5 [(3, .int ((X 3) + 1)), (4, .int r1), (0, .ref h), (1, .ref tq), (2, .int (X 2))] := hl
          refine lv_goto (tgt := 2) hx hb d_A_seek_38 (by decide) ?_
          exact hrc2 I1 A1 L1 (upd X 3 ((X 3) + 1)) Y _ _ _ hf (lv_sub hl [2, 3, 4, 0] rfl) hP hD hS
        ·
          have hf := wk_iff hc2 hf
          refine lv_aload_n hx hb d_A_seek_22 rfl (lv_at hl 1 rfl) ?_
          refine lv_iload_n hx hb d_A_seek_23 rfl (lv_at hl 4 rfl) ?_
          refine va_put (D := (dC, dI)) (ci := 3) (v := .int (X 3)) (ty := .int) (C := R_A) (T := F_A) (N := 10) hx hb hts (fun w h => List.mem_cons_of_mem _ (in_A w h)) t_A tk_A n_A hown hK hP hD hS 0 rfl rfl 8 (by decide) (hts _ (List.mem_cons_of_mem _ lk_299)) (fun _ h9 => h9) rfl (by decide +kernel) rfl rfl (Nat.le_of_ble_eq_true rfl) d_A_seek_24 (fun H locs hP hD hS => ?_)
          obtain ⟨I2, hI2, hf⟩ := wk_letE hf
          have hP : va_P (dC, dI) vwCl (at_W h q g tq tg tn tx I2 A1 L1) H := by rw [hI2]; exact hP
          have hD : va_D B9 (at_W h q g tq tg tn tx I2 A1 L1) := by rw [hI2]; exact hD
          clear hI2
          refine lv_aload_n hx hb d_A_seek_27 rfl (lv_at hl 1 rfl) ?_
          refine lv_iload hx hb d_A_seek_28 (lv_at hl 0 rfl) ?_
          refine va_put (D := (dC, dI)) (ci := 3) (v := .int r1) (ty := .int) (C := R_A) (T := F_A) (N := 10) hx hb hts (fun w h => List.mem_cons_of_mem _ (in_A w h)) t_A tk_A n_A hown hK hP hD hS 0 rfl rfl 9 (by decide) (hts _ (List.mem_cons_of_mem _ lk_300)) (fun _ h9 => h9) rfl (by decide +kernel) rfl rfl (Nat.le_of_ble_eq_true rfl) d_A_seek_30 (fun H locs hP hD hS => ?_)
          obtain ⟨I3, hI3, hf⟩ := wk_letE hf
          have hP : va_P (dC, dI) vwCl (at_W h q g tq tg tn tx I3 A1 L1) H := by rw [hI3]; exact hP
          have hD : va_D B9 (at_W h q g tq tg tn tx I3 A1 L1) := by rw [hI3]; exact hD
          clear hI3
          refine lv_iconst (v := 1) hx hb d_A_seek_33 (by decide) ?_
          obtain ⟨e0, e1, e2, e3⟩ := wk_inj3 hf
          subst e0
          subst e1
          subst e2
          subst e3
          exact W.zret (v := 1) hx hb hr rfl (fun t ht hW => ⟨⟨1, (), rfl, rfl, by rw [ht]; exact hP, va_K.moved hW.alike hK, hD⟩, hS.F ht⟩) hS.2.2 d_A_seek_34
  have key : ∀ n : Nat, (∀ (I : MI) (A : MA) (L : ML) (X : Nat → Int32) (Y : Nat → Int64) (ls : Array Slot) (H : Heap) (locs : List Loc), f_A_seek_go tn tx n 2 I A L X Y = some (r, I', A', L') → lv_has ls 5 [(0, .ref h), (1, .ref tq), (2, .int (X 2)), (3, .int (X 3))] → va_P (dC, dI) vwCl (at_W h q g tq tg tn tx I A L) H → va_D B9 (at_W h q g tq tg tn tx I A L) → va_S B9 s.heap H locs → W p l e (headSpec w_A_seek ({ frames := 4, cells := 0, slots := 0, locals := 103 })).room s m ([.ref h, .ref tq, .int k2] : List Value).toArray below meth c H locs 0 0 (MQ below (va_Qi (fun (r9 : Int32) (_ : Unit) => r9 = r) (fun (_ : Unit) t => va_P (dC, dI) vwCl (at_W h q g tq tg tn tx I' A' L') t.heap ∧ va_K (dC, dI) vwCl (at_T h q g tq tg tn tx) t ∧ va_D B9 (at_W h q g tq tg tn tx I' A' L')) B9) ([.ref h, .ref tq, .int k2] : List Value).toArray s 0 0 B9) (F0 m 2 ls [])) := by
    intro n
    induction n with
    | zero => exact fun I A L X Y ls H locs hf => (by cases hf)
    | succ n ih =>
      have ih2 := ih
      exact stp2 (f_A_seek_go tn tx n) ih2
  unfold f_A_seek f_A_seek_e at hf
  have hrc2 := key wk_FUEL
  refine lv_iload_n hx hb d_A_seek_0 rfl (lv_at hl 2 rfl) ?_
  refine lv_istore_n (lv' := [(3, .int k2), (0, .ref h), (1, .ref tq), (2, .int k2)]) hx hb d_A_seek_1 rfl hl (by decide) rfl (fun ls hl => ?_)
  have hl : lv_has ls 5 [(3, .int k2), (0, .ref h), (1, .ref tq), (2, .int k2)] := hl
  exact hrc2 I A L (upd (upd (fun _ => 0) 2 k2) 3 k2) (fun _ => 0) _ _ _ hf (lv_sub hl [1, 2, 3, 0] rfl) hP hD hS

set_option maxHeartbeats 8000000 in
set_option maxRecDepth 100000 in
theorem cm_D_collectMatches (l : Launch) (dC : Nat → ClassId) (dI : Nat → Nat → Nat) (h : Nat) (q : Nat → Nat) (g : Nat → ClassId) (hp : Nat) (qp : Nat → Nat) (gp : Nat → ClassId) (tq : Nat) (tg : ClassId) (tn : Nat) (tx : Nat → Int32) (sz : Nat) (I : MI) (A : MA) (M : MI) (MB : MA) (L : ML) (r : Int32) (I' : MI) (A' : MA) (M' : MI) (MB' : MA) (L' : ML) (hf : f_D_collectMatches tn tx I A M MB L  = some (r, I', A', M', MB', L')) : Met l y_D_collectMatches w_D_collectMatches ({ frames := 5, cells := 0, slots := 0, locals := 127 }) (va_Pc [.ref h] (fun U => U.heap.size = sz ∧ va_P (dC, dI) vwCl (dw_W h q g hp qp gp tq tg tn tx I A M MB L) U.heap ∧ va_K (dC, dI) vwCl (dw_T h q g hp qp gp tq tg tn tx) U ∧ va_D (fun _ => True) (dw_W h q g hp qp gp tq tg tn tx I A M MB L))) (va_Qi (fun (r9 : Int32) (_ : Unit) => r9 = r) (fun (_ : Unit) t => va_P (dC, dI) vwCl (dw_W h q g hp qp gp tq tg tn tx I' A' M' MB' L') t.heap ∧ va_K (dC, dI) vwCl (dw_T h q g hp qp gp tq tg tn tx) t ∧ va_D (va_A (dw_W h q g hp qp gp tq tg tn tx I A M MB L) sz) (dw_W h q g hp qp gp tq tg tn tx I' A' M' MB' L')) (va_A (dw_W h q g hp qp gp tq tg tn tx I A M MB L) sz)) 0 0 (va_A (dw_W h q g hp qp gp tq tg tn tx I A M MB L) sz) := by
  refine Met.ofW (cc := prog_1_method_26_code) (maxL := 3) (ret := (some .int)) (by decide) rfl ?_
  intro p e s m args below meth c s₁ B hml hv
  obtain ⟨rfl, hsz, hP, hK, hD0⟩ := hv
  have hx := B.exec
  have hb := B.bytes
  have hr := B.returns
  have hts := atoms_spec (ws := w_D_collectMatches) B.pre
  have hown : s.vm.findClass "DraftTree" = some m.cls := findClass_of_methodNamed B.named
  have hlocks := B.notSynchronized
  subst hsz
  have hD := hD0.self (sz := s.heap.size)
  generalize hAe : va_A (dw_W h q g hp qp gp tq tg tn tx I A M MB L) s.heap.size = B9 at hD ⊢
  have hA : ∀ q : Nat, s.heap.size ≤ q → B9 q := fun q h => by rw [← hAe]; exact Or.inr h
  clear hAe
  have hS : va_S B9 s.heap s.heap [] := va_S.rf
  have hl := lv_entry ([.ref h]) (n := 3) (Nat.le_of_ble_eq_true rfl)
  rw [lg_entry_eq]
  generalize (lg_sl ([.ref h]) ++ List.replicate (3 - (lg_sl ([.ref h])).length) Slot.unset).toArray = ls at hl ⊢
  have hl : lv_has ls 3 [(0, .ref h)] := hl
  have stp4 : ∀ (rc : Nat → MI → MA → MI → MA → ML → (Nat → Int32) → (Nat → Int64) → Option (Int32 × MI × MA × MI × MA × ML)) (hrc4 : ∀ (I : MI) (A : MA) (M : MI) (MB : MA) (L : ML) (X : Nat → Int32) (Y : Nat → Int64) (ls : Array Slot) (H : Heap) (locs : List Loc), rc 4 I A M MB L X Y = some (r, I', A', M', MB', L') → lv_has ls 3 [(0, .ref h), (1, .int (X 1)), (2, .int (X 2))] → va_P (dC, dI) vwCl (dw_W h q g hp qp gp tq tg tn tx I A M MB L) H → va_D B9 (dw_W h q g hp qp gp tq tg tn tx I A M MB L) → va_S B9 s.heap H locs → W p l e (headSpec w_D_collectMatches ({ frames := 5, cells := 0, slots := 0, locals := 127 })).room s m ([.ref h] : List Value).toArray below meth c H locs 0 0 (MQ below (va_Qi (fun (r9 : Int32) (_ : Unit) => r9 = r) (fun (_ : Unit) t => va_P (dC, dI) vwCl (dw_W h q g hp qp gp tq tg tn tx I' A' M' MB' L') t.heap ∧ va_K (dC, dI) vwCl (dw_T h q g hp qp gp tq tg tn tx) t ∧ va_D B9 (dw_W h q g hp qp gp tq tg tn tx I' A' M' MB' L')) B9) ([.ref h] : List Value).toArray s 0 0 B9) (F0 m 4 ls [])), ∀ (I : MI) (A : MA) (M : MI) (MB : MA) (L : ML) (X : Nat → Int32) (Y : Nat → Int64) (ls : Array Slot) (H : Heap) (locs : List Loc), f_D_collectMatches_4 tn tx rc I A M MB L X Y = some (r, I', A', M', MB', L') → lv_has ls 3 [(0, .ref h), (1, .int (X 1)), (2, .int (X 2))] → va_P (dC, dI) vwCl (dw_W h q g hp qp gp tq tg tn tx I A M MB L) H → va_D B9 (dw_W h q g hp qp gp tq tg tn tx I A M MB L) → va_S B9 s.heap H locs → W p l e (headSpec w_D_collectMatches ({ frames := 5, cells := 0, slots := 0, locals := 127 })).room s m ([.ref h] : List Value).toArray below meth c H locs 0 0 (MQ below (va_Qi (fun (r9 : Int32) (_ : Unit) => r9 = r) (fun (_ : Unit) t => va_P (dC, dI) vwCl (dw_W h q g hp qp gp tq tg tn tx I' A' M' MB' L') t.heap ∧ va_K (dC, dI) vwCl (dw_T h q g hp qp gp tq tg tn tx) t ∧ va_D B9 (dw_W h q g hp qp gp tq tg tn tx I' A' M' MB' L')) B9) ([.ref h] : List Value).toArray s 0 0 B9) (F0 m 4 ls []) := by
    intro rc hrc4 I A M MB L X Y ls H locs hf hl hP hD hS
    unfold f_D_collectMatches_4 at hf
    refine lv_iload_n hx hb d_D_collectMatches_4 rfl (lv_at hl 2 rfl) ?_
    refine lv_sipush (v := 160) hx hb d_D_collectMatches_5 (by decide) ?_
    refine lv_icmp_ge (tgt := 68) hx hb d_D_collectMatches_8 (by decide) (fun hc1 => ?_) (fun hc1 => ?_)
    ·
      have hf := wk_ift hc1 hf
      refine lv_sipush (v := 160) hx hb d_D_collectMatches_68 (by decide) ?_
      obtain ⟨e0, e1, e2, e3, e4, e5⟩ := wk_inj5 hf
      subst e0
      subst e1
      subst e2
      subst e3
      subst e4
      subst e5
      exact W.iret (v := 160) hx hb hr (fun t ht hW => ⟨⟨160, (), rfl, rfl, by rw [ht]; exact hP, va_K.moved hW.alike hK, hD⟩, hS.F ht⟩) hS.2.2 d_D_collectMatches_71
    ·
      have hf := wk_iff hc1 hf
      refine lv_aload_n hx hb d_D_collectMatches_11 rfl (lv_at hl 0 rfl) ?_
      refine va_get (D := (dC, dI)) (ci := 0) (v := .ref hp) (C := R_D) (T := F_D) (N := 14) hx hb hts (fun w h => List.mem_cons_of_mem _ (in_D w h)) hown hK hP 0 rfl rfl 9 (by decide) (hts _ (List.mem_cons_of_mem _ lk_246)) (fun _ h9 => h9) rfl d_D_collectMatches_12 ?_
      refine lv_aload_n hx hb d_D_collectMatches_15 rfl (lv_at hl 0 rfl) ?_
      refine va_get (D := (dC, dI)) (ci := 0) (v := .ref tq) (C := R_D) (T := F_D) (N := 14) hx hb hts (fun w h => List.mem_cons_of_mem _ (in_D w h)) hown hK hP 0 rfl rfl 5 (by decide) (hts _ (List.mem_cons_of_mem _ lk_241)) (fun _ h9 => h9) rfl d_D_collectMatches_16 ?_
      refine lv_iload_n hx hb d_D_collectMatches_19 rfl (lv_at hl 1 rfl) ?_
      have hPc := hP.sub (ws' := (at_W hp qp gp tq tg tn tx M MB L)) [4, 5, 6, 7, 8, 9, 10] rfl
      have hDc := hD.sub (ws' := (at_W hp qp gp tq tg tn tx M MB L)) [4, 5, 6, 7, 8, 9, 10] (by decide) rfl
      have hKc := hK.sub (tys' := (at_T hp qp gp tq tg tn tx)) [3, 4, 5, 6, 7, 8] rfl
      have hFc := va_free (wc := (at_W hp qp gp tq tg tn tx M MB L)) hD hS hA [4, 5, 6, 7, 8, 9, 10] rfl
      cases hg1 : f_A_seek tn tx M MB L (X 1) with
      | none => rw [hg1] at hf; cases hf
      | some z1 =>
        obtain ⟨r1, M1, MB1, L1⟩ := z1
        rw [hg1] at hf
        dsimp only [Option.bind_some] at hf
        refine va_calli (va_runV (As := [.ref tq, .int (X 1)]) (rest := []) ⟨hx, hb, hml, hown, hts⟩ (cm_A_seek l dC dI hp qp gp tq tg tn tx _  M MB L (X 1) r1 M1 MB1 L1 hg1) (cwV 2 hts (gd_v lk_302 lk_303 lk_304 lk_273 lk_301) rfl rfl rfl (by decide +kernel) ⟨Nat.le_of_ble_eq_true rfl, Nat.le_of_ble_eq_true rfl⟩) ⟨fun a U g mk q => by obtain ⟨q0, q1, qP, qK, qD⟩ := q; exact ⟨q0, q1, qP, va_K.moved (u := U) (U := U.calling g mk a) (Vm.Alike.refl U.vm) qK, qD⟩, va_recv (ci := 3) (q0 := 4) hK hP rfl rfl, fun U hU hW => ⟨rfl, by rw [hU], by rw [hU]; exact hPc, va_K.moved hW.alike hKc, hDc.weaken (fun _ _ _ _ => trivial)⟩⟩ rfl rfl hl.1 rfl (lv_room (Nat.le_of_ble_eq_true rfl)) d_D_collectMatches_20 ⟨Nat.le_of_ble_eq_true rfl, Nat.le_of_ble_eq_true rfl⟩) hS (fun q _ h => hFc q h) hFc (fun r9 u t H1 locs ht hvm hw hB hz1 hk1 hS => ?_)
        obtain ⟨hP1, hK1, hD1⟩ := hB
        rw [ht] at hP1
        rw [hw]
        obtain ⟨hP, hD⟩ := va_join (wr := (([0, 1, 2, 3] : List Nat).map (fun i => ((dw_W h q g hp qp gp tq tg tn tx I A M MB L)).getD i (0, .inr (0, []))))) (w1 := (at_W hp qp gp tq tg tn tx M1 MB1 L1)) hP hD [4, 5, 6, 7, 8, 9, 10] [0, 1, 2, 3] rfl rfl (by decide) (by decide) hk1 hFc hP1 hD1
        generalize H1 = H at hP hS ⊢
        have hP := hP.sub (ws' := (dw_W h q g hp qp gp tq tg tn tx I A M1 MB1 L1)) [0, 1, 2, 3, 4, 5, 6, 7, 8, 9, 10] rfl
        have hD := hD.sub (ws' := (dw_W h q g hp qp gp tq tg tn tx I A M1 MB1 L1)) [0, 1, 2, 3, 4, 5, 6, 7, 8, 9, 10] (by decide) rfl
        refine lv_if_ne (tgt := 28) hx hb d_D_collectMatches_23 (by decide) (fun hc2 => ?_) (fun hc2 => ?_)
        ·
          have hf := wk_iff hc2 hf
          refine lv_aload_n hx hb d_D_collectMatches_28 rfl (lv_at hl 0 rfl) ?_
          refine va_get (D := (dC, dI)) (ci := 0) (v := .ref (q 12)) (C := R_D) (T := F_D) (N := 14) hx hb hts (fun w h => List.mem_cons_of_mem _ (in_D w h)) hown hK hP 0 rfl rfl 12 (by decide) (hts _ (List.mem_cons_of_mem _ lk_305)) (fun _ h9 => h9) rfl d_D_collectMatches_29 ?_
          refine lv_iload_n hx hb d_D_collectMatches_32 rfl (lv_at hl 2 rfl) ?_
          refine lv_aload_n hx hb d_D_collectMatches_33 rfl (lv_at hl 0 rfl) ?_
          refine va_get (D := (dC, dI)) (ci := 0) (v := .ref hp) (C := R_D) (T := F_D) (N := 14) hx hb hts (fun w h => List.mem_cons_of_mem _ (in_D w h)) hown hK hP 0 rfl rfl 9 (by decide) (hts _ (List.mem_cons_of_mem _ lk_246)) (fun _ h9 => h9) rfl d_D_collectMatches_34 ?_
          refine va_get (D := (dC, dI)) (ci := 3) (v := .int (M1 8)) (C := R_A) (T := F_A) (N := 10) hx hb hts (fun w h => List.mem_cons_of_mem _ (in_A w h)) hown hK hP 4 rfl rfl 8 (by decide) (hts _ (List.mem_cons_of_mem _ lk_306)) (fun _ h9 => h9) rfl d_D_collectMatches_37 ?_
          obtain ⟨hc3, hf⟩ := wk_if hf
          refine va_iast hx hb hK hP hD hS 2 1 rfl rfl (wk_inb_ok hc3) d_D_collectMatches_40 (fun H locs hP hD hS => ?_)
          obtain ⟨A2, hA2, hf⟩ := wk_letE hf
          have hP : va_P (dC, dI) vwCl (dw_W h q g hp qp gp tq tg tn tx I A2 M1 MB1 L1) H := by rw [hA2]; exact hP
          have hD : va_D B9 (dw_W h q g hp qp gp tq tg tn tx I A2 M1 MB1 L1) := by rw [hA2]; exact hD
          clear hA2
          refine lv_aload_n hx hb d_D_collectMatches_41 rfl (lv_at hl 0 rfl) ?_
          refine va_get (D := (dC, dI)) (ci := 0) (v := .ref (q 13)) (C := R_D) (T := F_D) (N := 14) hx hb hts (fun w h => List.mem_cons_of_mem _ (in_D w h)) hown hK hP 0 rfl rfl 13 (by decide) (hts _ (List.mem_cons_of_mem _ lk_307)) (fun _ h9 => h9) rfl d_D_collectMatches_42 ?_
          refine lv_iload_n hx hb d_D_collectMatches_45 rfl (lv_at hl 2 rfl) ?_
          refine lv_aload_n hx hb d_D_collectMatches_46 rfl (lv_at hl 0 rfl) ?_
          refine va_get (D := (dC, dI)) (ci := 0) (v := .ref hp) (C := R_D) (T := F_D) (N := 14) hx hb hts (fun w h => List.mem_cons_of_mem _ (in_D w h)) hown hK hP 0 rfl rfl 9 (by decide) (hts _ (List.mem_cons_of_mem _ lk_246)) (fun _ h9 => h9) rfl d_D_collectMatches_47 ?_
          refine va_get (D := (dC, dI)) (ci := 3) (v := .int (M1 9)) (C := R_A) (T := F_A) (N := 10) hx hb hts (fun w h => List.mem_cons_of_mem _ (in_A w h)) hown hK hP 4 rfl rfl 9 (by decide) (hts _ (List.mem_cons_of_mem _ lk_308)) (fun _ h9 => h9) rfl d_D_collectMatches_50 ?_
          obtain ⟨hc4, hf⟩ := wk_if hf
          refine va_iast hx hb hK hP hD hS 3 2 rfl rfl (wk_inb_ok hc4) d_D_collectMatches_53 (fun H locs hP hD hS => ?_)
          obtain ⟨A3, hA3, hf⟩ := wk_letE hf
          have hP : va_P (dC, dI) vwCl (dw_W h q g hp qp gp tq tg tn tx I A3 M1 MB1 L1) H := by rw [hA3]; exact hP
          have hD : va_D B9 (dw_W h q g hp qp gp tq tg tn tx I A3 M1 MB1 L1) := by rw [hA3]; exact hD
          clear hA3
          refine lv_aload_n hx hb d_D_collectMatches_54 rfl (lv_at hl 0 rfl) ?_
          refine va_get (D := (dC, dI)) (ci := 0) (v := .ref hp) (C := R_D) (T := F_D) (N := 14) hx hb hts (fun w h => List.mem_cons_of_mem _ (in_D w h)) hown hK hP 0 rfl rfl 9 (by decide) (hts _ (List.mem_cons_of_mem _ lk_246)) (fun _ h9 => h9) rfl d_D_collectMatches_55 ?_
          refine va_get (D := (dC, dI)) (ci := 3) (v := .int (M1 9)) (C := R_A) (T := F_A) (N := 10) hx hb hts (fun w h => List.mem_cons_of_mem _ (in_A w h)) hown hK hP 4 rfl rfl 9 (by decide) (hts _ (List.mem_cons_of_mem _ lk_308)) (fun _ h9 => h9) rfl d_D_collectMatches_58 ?_
          refine lv_istore_n (lv' := [(1, .int (M1 9)), (0, .ref h), (2, .int (X 2))]) hx hb d_D_collectMatches_61 rfl hl (by decide) rfl (fun ls hl => ?_)
          have hl : lv_has ls 3 [(1, .int (M1 9)), (0, .ref h), (2, .int (X 2))] := hl
          refine lv_iinc (k := 2) (v := ((X 2) + 1)) (lv' := [(2, .int ((X 2) + 1)), (1, .int (M1 9)), (0, .ref h)]) hx hb d_D_collectMatches_62 hl rfl (wk_inc (by decide)) (by decide) rfl (fun ls hl => ?_)
          have hl : lv_has ls 3 [(2, .int ((X 2) + 1)), (1, .int (M1 9)), (0, .ref h)] := hl
          refine lv_goto (tgt := 4) hx hb d_D_collectMatches_65 (by decide) ?_
          exact hrc4 I A3 M1 MB1 L1 (upd (upd X 1 (M1 9)) 2 ((X 2) + 1)) Y _ _ _ hf (lv_sub hl [2, 1, 0] rfl) hP hD hS
        ·
          have hf := wk_ift hc2 hf
          refine lv_iload_n hx hb d_D_collectMatches_26 rfl (lv_at hl 2 rfl) ?_
          obtain ⟨e0, e1, e2, e3, e4, e5⟩ := wk_inj5 hf
          subst e0
          subst e1
          subst e2
          subst e3
          subst e4
          subst e5
          exact W.iret (v := (X 2)) hx hb hr (fun t ht hW => ⟨⟨(X 2), (), rfl, rfl, by rw [ht]; exact hP, va_K.moved hW.alike hK, hD⟩, hS.F ht⟩) hS.2.2 d_D_collectMatches_27
  have key : ∀ n : Nat, (∀ (I : MI) (A : MA) (M : MI) (MB : MA) (L : ML) (X : Nat → Int32) (Y : Nat → Int64) (ls : Array Slot) (H : Heap) (locs : List Loc), f_D_collectMatches_go tn tx n 4 I A M MB L X Y = some (r, I', A', M', MB', L') → lv_has ls 3 [(0, .ref h), (1, .int (X 1)), (2, .int (X 2))] → va_P (dC, dI) vwCl (dw_W h q g hp qp gp tq tg tn tx I A M MB L) H → va_D B9 (dw_W h q g hp qp gp tq tg tn tx I A M MB L) → va_S B9 s.heap H locs → W p l e (headSpec w_D_collectMatches ({ frames := 5, cells := 0, slots := 0, locals := 127 })).room s m ([.ref h] : List Value).toArray below meth c H locs 0 0 (MQ below (va_Qi (fun (r9 : Int32) (_ : Unit) => r9 = r) (fun (_ : Unit) t => va_P (dC, dI) vwCl (dw_W h q g hp qp gp tq tg tn tx I' A' M' MB' L') t.heap ∧ va_K (dC, dI) vwCl (dw_T h q g hp qp gp tq tg tn tx) t ∧ va_D B9 (dw_W h q g hp qp gp tq tg tn tx I' A' M' MB' L')) B9) ([.ref h] : List Value).toArray s 0 0 B9) (F0 m 4 ls [])) := by
    intro n
    induction n with
    | zero => exact fun I A M MB L X Y ls H locs hf => (by cases hf)
    | succ n ih =>
      have ih4 := ih
      exact stp4 (f_D_collectMatches_go tn tx n) ih4
  unfold f_D_collectMatches f_D_collectMatches_e at hf
  have hrc4 := key wk_FUEL
  refine lv_iconst (v := 0) hx hb d_D_collectMatches_0 (by decide) ?_
  refine lv_istore_n (lv' := [(1, .int 0), (0, .ref h)]) hx hb d_D_collectMatches_1 rfl hl (by decide) rfl (fun ls hl => ?_)
  have hl : lv_has ls 3 [(1, .int 0), (0, .ref h)] := hl
  refine lv_iconst (v := 0) hx hb d_D_collectMatches_2 (by decide) ?_
  refine lv_istore_n (lv' := [(2, .int 0), (1, .int 0), (0, .ref h)]) hx hb d_D_collectMatches_3 rfl hl (by decide) rfl (fun ls hl => ?_)
  have hl : lv_has ls 3 [(2, .int 0), (1, .int 0), (0, .ref h)] := hl
  exact hrc4 I A M MB L (upd (upd (fun _ => 0) 1 0) 2 0) (fun _ => 0) _ _ _ hf (lv_sub hl [2, 1, 0] rfl) hP hD hS

set_option maxHeartbeats 8000000 in
set_option maxRecDepth 100000 in
theorem cm_D_fault (l : Launch) (dC : Nat → ClassId) (dI : Nat → Nat → Nat) (h : Nat) (q : Nat → Nat) (g : Nat → ClassId) (hp : Nat) (qp : Nat → Nat) (gp : Nat → ClassId) (tq : Nat) (tg : ClassId) (tn : Nat) (tx : Nat → Int32) (sz : Nat) (I : MI) (A : MA) (M : MI) (MB : MA) (L : ML) (r : Int32) (I' : MI) (A' : MA) (M' : MI) (MB' : MA) (L' : ML) (hf : f_D_fault tn tx I A M MB L  = some (r, I', A', M', MB', L')) : Met l y_D_fault w_D_fault ({ frames := 0, cells := 0, slots := 0, locals := 0 }) (va_Pc [.ref h] (fun U => U.heap.size = sz ∧ va_P (dC, dI) vwCl (dw_W h q g hp qp gp tq tg tn tx I A M MB L) U.heap ∧ va_K (dC, dI) vwCl (dw_T h q g hp qp gp tq tg tn tx) U ∧ va_D (fun _ => True) (dw_W h q g hp qp gp tq tg tn tx I A M MB L))) (va_Qi (fun (r9 : Int32) (_ : Unit) => r9 = r) (fun (_ : Unit) t => va_P (dC, dI) vwCl (dw_W h q g hp qp gp tq tg tn tx I' A' M' MB' L') t.heap ∧ va_K (dC, dI) vwCl (dw_T h q g hp qp gp tq tg tn tx) t ∧ va_D (va_A (dw_W h q g hp qp gp tq tg tn tx I A M MB L) sz) (dw_W h q g hp qp gp tq tg tn tx I' A' M' MB' L')) (va_A (dw_W h q g hp qp gp tq tg tn tx I A M MB L) sz)) 0 0 (va_A (dw_W h q g hp qp gp tq tg tn tx I A M MB L) sz) := by
  refine Met.ofW (cc := prog_1_method_8_code) (maxL := 1) (ret := (some .int)) (by decide) rfl ?_
  intro p e s m args below meth c s₁ B hml hv
  obtain ⟨rfl, hsz, hP, hK, hD0⟩ := hv
  have hx := B.exec
  have hb := B.bytes
  have hr := B.returns
  have hts := atoms_spec (ws := w_D_fault) B.pre
  have hown : s.vm.findClass "DraftTree" = some m.cls := findClass_of_methodNamed B.named
  have hlocks := B.notSynchronized
  subst hsz
  have hD := hD0.self (sz := s.heap.size)
  generalize hAe : va_A (dw_W h q g hp qp gp tq tg tn tx I A M MB L) s.heap.size = B9 at hD ⊢
  have hA : ∀ q : Nat, s.heap.size ≤ q → B9 q := fun q h => by rw [← hAe]; exact Or.inr h
  clear hAe
  have hS : va_S B9 s.heap s.heap [] := va_S.rf
  have hl := lv_entry ([.ref h]) (n := 1) (Nat.le_of_ble_eq_true rfl)
  rw [lg_entry_eq]
  generalize (lg_sl ([.ref h]) ++ List.replicate (1 - (lg_sl ([.ref h])).length) Slot.unset).toArray = ls at hl ⊢
  have hl : lv_has ls 1 [(0, .ref h)] := hl
  unfold f_D_fault at hf
  refine lv_aload_n hx hb d_D_fault_0 rfl (lv_at hl 0 rfl) ?_
  refine va_get (D := (dC, dI)) (ci := 0) (v := .int (I 11)) (C := R_D) (T := F_D) (N := 14) hx hb hts (fun w h => List.mem_cons_of_mem _ (in_D w h)) hown hK hP 0 rfl rfl 11 (by decide) (hts _ (List.mem_cons_of_mem _ lk_310)) (fun _ h9 => h9) rfl d_D_fault_1 ?_
  obtain ⟨e0, e1, e2, e3, e4, e5⟩ := wk_inj5 hf
  subst e0
  subst e1
  subst e2
  subst e3
  subst e4
  subst e5
  exact W.iret (v := (I 11)) hx hb hr (fun t ht hW => ⟨⟨(I 11), (), rfl, rfl, by rw [ht]; exact hP, va_K.moved hW.alike hK, hD⟩, hS.F ht⟩) hS.2.2 d_D_fault_4

set_option maxHeartbeats 8000000 in
set_option maxRecDepth 100000 in
theorem cm_D_figure (l : Launch) (dC : Nat → ClassId) (dI : Nat → Nat → Nat) (h : Nat) (q : Nat → Nat) (g : Nat → ClassId) (hp : Nat) (qp : Nat → Nat) (gp : Nat → ClassId) (tq : Nat) (tg : ClassId) (tn : Nat) (tx : Nat → Int32) (sz : Nat) (I : MI) (A : MA) (M : MI) (MB : MA) (L : ML) (k1 : Int32) (r : Int32) (I' : MI) (A' : MA) (M' : MI) (MB' : MA) (L' : ML) (hf : f_D_figure tn tx I A M MB L  k1 = some (0, r, I', A', M', MB', L')) : Met l y_D_figure w_D_figure ({ frames := 0, cells := 0, slots := 0, locals := 0 }) (va_Pc [.ref h, .int k1] (fun U => U.heap.size = sz ∧ va_P (dC, dI) vwCl (dw_W h q g hp qp gp tq tg tn tx I A M MB L) U.heap ∧ va_K (dC, dI) vwCl (dw_T h q g hp qp gp tq tg tn tx) U ∧ va_D (fun _ => True) (dw_W h q g hp qp gp tq tg tn tx I A M MB L))) (va_Qi (fun (r9 : Int32) (_ : Unit) => r9 = r) (fun (_ : Unit) t => va_P (dC, dI) vwCl (dw_W h q g hp qp gp tq tg tn tx I' A' M' MB' L') t.heap ∧ va_K (dC, dI) vwCl (dw_T h q g hp qp gp tq tg tn tx) t ∧ va_D (va_A (dw_W h q g hp qp gp tq tg tn tx I A M MB L) sz) (dw_W h q g hp qp gp tq tg tn tx I' A' M' MB' L')) (va_A (dw_W h q g hp qp gp tq tg tn tx I A M MB L) sz)) 0 0 (va_A (dw_W h q g hp qp gp tq tg tn tx I A M MB L) sz) := by
  refine Met.ofW (cc := prog_1_method_17_code) (maxL := 2) (ret := (some .int)) (by decide) rfl ?_
  intro p e s m args below meth c s₁ B hml hv
  obtain ⟨rfl, hsz, hP, hK, hD0⟩ := hv
  have hx := B.exec
  have hb := B.bytes
  have hr := B.returns
  have hts := atoms_spec (ws := w_D_figure) B.pre
  have hown : s.vm.findClass "DraftTree" = some m.cls := findClass_of_methodNamed B.named
  have hlocks := B.notSynchronized
  subst hsz
  have hD := hD0.self (sz := s.heap.size)
  generalize hAe : va_A (dw_W h q g hp qp gp tq tg tn tx I A M MB L) s.heap.size = B9 at hD ⊢
  have hA : ∀ q : Nat, s.heap.size ≤ q → B9 q := fun q h => by rw [← hAe]; exact Or.inr h
  clear hAe
  have hS : va_S B9 s.heap s.heap [] := va_S.rf
  have hl := lv_entry ([.ref h, .int k1]) (n := 2) (Nat.le_of_ble_eq_true rfl)
  rw [lg_entry_eq]
  generalize (lg_sl ([.ref h, .int k1]) ++ List.replicate (2 - (lg_sl ([.ref h, .int k1])).length) Slot.unset).toArray = ls at hl ⊢
  have hl : lv_has ls 2 [(0, .ref h), (1, .int k1)] := hl
  unfold f_D_figure at hf
  refine lv_iload_n hx hb d_D_figure_0 rfl (lv_at hl 1 rfl) ?_
  by_cases hc1 : k1 = 0
  ·
    have hf := wk_ift hc1 hf
    refine wk_top (w := .int 0) (congrArg _ hc1) ?_
    refine lv_tableIn (off := 35) (tgt := 36) hx hb d_D_figure_1 (by decide) (by decide) (by decide) (by decide) ?_
    refine lv_aload_n hx hb d_D_figure_36 rfl (lv_at hl 0 rfl) ?_
    refine va_get (D := (dC, dI)) (ci := 0) (v := .int (I 4)) (C := R_D) (T := F_D) (N := 14) hx hb hts (fun w h => List.mem_cons_of_mem _ (in_D w h)) hown hK hP 0 rfl rfl 4 (by decide) (hts _ (List.mem_cons_of_mem _ lk_312)) (fun _ h9 => h9) rfl d_D_figure_37 ?_
    obtain ⟨e0, e1, e2, e3, e4, e5, e6⟩ := wk_inj6 hf
    subst e1
    subst e2
    subst e3
    subst e4
    subst e5
    subst e6
    exact W.iret (v := (I 4)) hx hb hr (fun t ht hW => ⟨⟨(I 4), (), rfl, rfl, by rw [ht]; exact hP, va_K.moved hW.alike hK, hD⟩, hS.F ht⟩) hS.2.2 d_D_figure_40
  ·
    have hf := wk_iff hc1 hf
    by_cases hc2 : k1 = 1
    ·
      have hf := wk_ift hc2 hf
      refine wk_top (w := .int 1) (congrArg _ hc2) ?_
      refine lv_tableIn (off := 40) (tgt := 41) hx hb d_D_figure_1 (by decide) (by decide) (by decide) (by decide) ?_
      refine lv_aload_n hx hb d_D_figure_41 rfl (lv_at hl 0 rfl) ?_
      refine va_get (D := (dC, dI)) (ci := 0) (v := .int (I 3)) (C := R_D) (T := F_D) (N := 14) hx hb hts (fun w h => List.mem_cons_of_mem _ (in_D w h)) hown hK hP 0 rfl rfl 3 (by decide) (hts _ (List.mem_cons_of_mem _ lk_313)) (fun _ h9 => h9) rfl d_D_figure_42 ?_
      obtain ⟨e0, e1, e2, e3, e4, e5, e6⟩ := wk_inj6 hf
      subst e1
      subst e2
      subst e3
      subst e4
      subst e5
      subst e6
      exact W.iret (v := (I 3)) hx hb hr (fun t ht hW => ⟨⟨(I 3), (), rfl, rfl, by rw [ht]; exact hP, va_K.moved hW.alike hK, hD⟩, hS.F ht⟩) hS.2.2 d_D_figure_45
    ·
      have hf := wk_iff hc2 hf
      by_cases hc3 : k1 = 2
      ·
        have hf := wk_ift hc3 hf
        refine wk_top (w := .int 2) (congrArg _ hc3) ?_
        refine lv_tableIn (off := 45) (tgt := 46) hx hb d_D_figure_1 (by decide) (by decide) (by decide) (by decide) ?_
        refine lv_aload_n hx hb d_D_figure_46 rfl (lv_at hl 0 rfl) ?_
        refine va_get (D := (dC, dI)) (ci := 0) (v := .int (I 6)) (C := R_D) (T := F_D) (N := 14) hx hb hts (fun w h => List.mem_cons_of_mem _ (in_D w h)) hown hK hP 0 rfl rfl 6 (by decide) (hts _ (List.mem_cons_of_mem _ lk_314)) (fun _ h9 => h9) rfl d_D_figure_47 ?_
        obtain ⟨e0, e1, e2, e3, e4, e5, e6⟩ := wk_inj6 hf
        subst e1
        subst e2
        subst e3
        subst e4
        subst e5
        subst e6
        exact W.iret (v := (I 6)) hx hb hr (fun t ht hW => ⟨⟨(I 6), (), rfl, rfl, by rw [ht]; exact hP, va_K.moved hW.alike hK, hD⟩, hS.F ht⟩) hS.2.2 d_D_figure_50
      ·
        have hf := wk_iff hc3 hf
        by_cases hc4 : k1 = 3
        ·
          have hf := wk_ift hc4 hf
          refine wk_top (w := .int 3) (congrArg _ hc4) ?_
          refine lv_tableIn (off := 50) (tgt := 51) hx hb d_D_figure_1 (by decide) (by decide) (by decide) (by decide) ?_
          refine lv_aload_n hx hb d_D_figure_51 rfl (lv_at hl 0 rfl) ?_
          refine va_get (D := (dC, dI)) (ci := 0) (v := .int (I 7)) (C := R_D) (T := F_D) (N := 14) hx hb hts (fun w h => List.mem_cons_of_mem _ (in_D w h)) hown hK hP 0 rfl rfl 7 (by decide) (hts _ (List.mem_cons_of_mem _ lk_315)) (fun _ h9 => h9) rfl d_D_figure_52 ?_
          obtain ⟨e0, e1, e2, e3, e4, e5, e6⟩ := wk_inj6 hf
          subst e1
          subst e2
          subst e3
          subst e4
          subst e5
          subst e6
          exact W.iret (v := (I 7)) hx hb hr (fun t ht hW => ⟨⟨(I 7), (), rfl, rfl, by rw [ht]; exact hP, va_K.moved hW.alike hK, hD⟩, hS.F ht⟩) hS.2.2 d_D_figure_55
        ·
          have hf := wk_iff hc4 hf
          by_cases hc5 : k1 = 4
          ·
            have hf := wk_ift hc5 hf
            refine wk_top (w := .int 4) (congrArg _ hc5) ?_
            refine lv_tableIn (off := 55) (tgt := 56) hx hb d_D_figure_1 (by decide) (by decide) (by decide) (by decide) ?_
            refine lv_aload_n hx hb d_D_figure_56 rfl (lv_at hl 0 rfl) ?_
            refine va_get (D := (dC, dI)) (ci := 0) (v := .int (I 1)) (C := R_D) (T := F_D) (N := 14) hx hb hts (fun w h => List.mem_cons_of_mem _ (in_D w h)) hown hK hP 0 rfl rfl 1 (by decide) (hts _ (List.mem_cons_of_mem _ lk_316)) (fun _ h9 => h9) rfl d_D_figure_57 ?_
            obtain ⟨e0, e1, e2, e3, e4, e5, e6⟩ := wk_inj6 hf
            subst e1
            subst e2
            subst e3
            subst e4
            subst e5
            subst e6
            exact W.iret (v := (I 1)) hx hb hr (fun t ht hW => ⟨⟨(I 1), (), rfl, rfl, by rw [ht]; exact hP, va_K.moved hW.alike hK, hD⟩, hS.F ht⟩) hS.2.2 d_D_figure_60
          ·
            have hf := wk_iff hc5 hf
            have nhc1 : ¬ (k1).toInt = 0 := fun z => hc1 ((wk_eq 0 (by decide)).mpr z)
            have nhc2 : ¬ (k1).toInt = 1 := fun z => hc2 ((wk_eq 1 (by decide)).mpr z)
            have nhc3 : ¬ (k1).toInt = 2 := fun z => hc3 ((wk_eq 2 (by decide)).mpr z)
            have nhc4 : ¬ (k1).toInt = 3 := fun z => hc4 ((wk_eq 3 (by decide)).mpr z)
            have nhc5 : ¬ (k1).toInt = 4 := fun z => hc5 ((wk_eq 4 (by decide)).mpr z)
            refine lv_tableOut (tgt := 61) hx hb d_D_figure_1 (by omega) (by decide) ?_
            exact (wk_tag (by decide) hf).elim
set_option maxHeartbeats 8000000 in
set_option maxRecDepth 100000 in
theorem ct_D_figure_3 (l : Launch) (hfl : l.flags = flags0) (dC : Nat → ClassId) (dI : Nat → Nat → Nat) (h : Nat) (q : Nat → Nat) (g : Nat → ClassId) (hp : Nat) (qp : Nat → Nat) (gp : Nat → ClassId) (tq : Nat) (tg : ClassId) (tn : Nat) (tx : Nat → Int32) (sz : Nat) (I : MI) (A : MA) (M : MI) (MB : MA) (L : ML) (k1 : Int32) (r : Int32) (I' : MI) (A' : MA) (M' : MI) (MB' : MA) (L' : ML) (hf : f_D_figure tn tx I A M MB L  k1 = some (3, r, I', A', M', MB', L')) : th_Met l y_D_figure w_D_figure ({ frames := 6, cells := 1, slots := 6, locals := 81 }) (va_Pc [.ref h, .int k1] (fun U => U.heap.size = sz ∧ va_P (dC, dI) vwCl (dw_W h q g hp qp gp tq tg tn tx I A M MB L) U.heap ∧ va_K (dC, dI) vwCl (dw_T h q g hp qp gp tq tg tn tx) U ∧ va_D (fun _ => True) (dw_W h q g hp qp gp tq tg tn tx I A M MB L) ∧ th_ZA (va_A (dw_W h q g hp qp gp tq tg tn tx I A M MB L) sz) U)) (th_Qw "java/lang/IllegalArgumentException" (fun t => va_P (dC, dI) vwCl (dw_W h q g hp qp gp tq tg tn tx I' A' M' MB' L') t.heap ∧ va_K (dC, dI) vwCl (dw_T h q g hp qp gp tq tg tn tx) t ∧ va_D (va_A (dw_W h q g hp qp gp tq tg tn tx I A M MB L) sz) (dw_W h q g hp qp gp tq tg tn tx I' A' M' MB' L')) (va_A (dw_W h q g hp qp gp tq tg tn tx I A M MB L) sz)) 1 6 (va_A (dw_W h q g hp qp gp tq tg tn tx I A M MB L) sz) := by
  refine th_Met.ofW (cc := prog_1_method_17_code) (maxL := 2) (ret := (some .int)) (by decide) rfl ?_
  intro p e s m args below meth c s₁ B hml hnh hv
  obtain ⟨rfl, hsz, hP, hK, hD0, hZ⟩ := hv
  have hx := B.exec
  have hb := B.bytes
  have hr := B.returns
  have hts := atoms_spec (ws := w_D_figure) B.pre
  have hown : s.vm.findClass "DraftTree" = some m.cls := findClass_of_methodNamed B.named
  have hlocks := B.notSynchronized
  have htr := Launch.traces_off hfl B.admits
  subst hsz
  have hD := hD0.self (sz := s.heap.size)
  generalize hAe : va_A (dw_W h q g hp qp gp tq tg tn tx I A M MB L) s.heap.size = B9 at hD hZ ⊢
  have hA : ∀ q : Nat, s.heap.size ≤ q → B9 q := fun q h => by rw [← hAe]; exact Or.inr h
  clear hAe
  have hS : va_S B9 s.heap s.heap [] := va_S.rf
  have hl := lv_entry ([.ref h, .int k1]) (n := 2) (Nat.le_of_ble_eq_true rfl)
  rw [lg_entry_eq]
  generalize (lg_sl ([.ref h, .int k1]) ++ List.replicate (2 - (lg_sl ([.ref h, .int k1])).length) Slot.unset).toArray = ls at hl ⊢
  have hl : lv_has ls 2 [(0, .ref h), (1, .int k1)] := hl
  unfold f_D_figure at hf
  refine lv_iload_n hx hb d_D_figure_0 rfl (lv_at hl 1 rfl) ?_
  by_cases hc1 : k1 = 0
  ·
    have hf := wk_ift hc1 hf
    refine wk_top (w := .int 0) (congrArg _ hc1) ?_
    refine lv_tableIn (off := 35) (tgt := 36) hx hb d_D_figure_1 (by decide) (by decide) (by decide) (by decide) ?_
    refine lv_aload_n hx hb d_D_figure_36 rfl (lv_at hl 0 rfl) ?_
    refine va_get (D := (dC, dI)) (ci := 0) (v := .int (I 4)) (C := R_D) (T := F_D) (N := 14) hx hb hts (fun w h => List.mem_cons_of_mem _ (in_D w h)) hown hK hP 0 rfl rfl 4 (by decide) (hts _ (List.mem_cons_of_mem _ lk_312)) (fun _ h9 => h9) rfl d_D_figure_37 ?_
    exact (wk_tag (by decide) hf).elim
  ·
    have hf := wk_iff hc1 hf
    by_cases hc2 : k1 = 1
    ·
      have hf := wk_ift hc2 hf
      refine wk_top (w := .int 1) (congrArg _ hc2) ?_
      refine lv_tableIn (off := 40) (tgt := 41) hx hb d_D_figure_1 (by decide) (by decide) (by decide) (by decide) ?_
      refine lv_aload_n hx hb d_D_figure_41 rfl (lv_at hl 0 rfl) ?_
      refine va_get (D := (dC, dI)) (ci := 0) (v := .int (I 3)) (C := R_D) (T := F_D) (N := 14) hx hb hts (fun w h => List.mem_cons_of_mem _ (in_D w h)) hown hK hP 0 rfl rfl 3 (by decide) (hts _ (List.mem_cons_of_mem _ lk_313)) (fun _ h9 => h9) rfl d_D_figure_42 ?_
      exact (wk_tag (by decide) hf).elim
    ·
      have hf := wk_iff hc2 hf
      by_cases hc3 : k1 = 2
      ·
        have hf := wk_ift hc3 hf
        refine wk_top (w := .int 2) (congrArg _ hc3) ?_
        refine lv_tableIn (off := 45) (tgt := 46) hx hb d_D_figure_1 (by decide) (by decide) (by decide) (by decide) ?_
        refine lv_aload_n hx hb d_D_figure_46 rfl (lv_at hl 0 rfl) ?_
        refine va_get (D := (dC, dI)) (ci := 0) (v := .int (I 6)) (C := R_D) (T := F_D) (N := 14) hx hb hts (fun w h => List.mem_cons_of_mem _ (in_D w h)) hown hK hP 0 rfl rfl 6 (by decide) (hts _ (List.mem_cons_of_mem _ lk_314)) (fun _ h9 => h9) rfl d_D_figure_47 ?_
        exact (wk_tag (by decide) hf).elim
      ·
        have hf := wk_iff hc3 hf
        by_cases hc4 : k1 = 3
        ·
          have hf := wk_ift hc4 hf
          refine wk_top (w := .int 3) (congrArg _ hc4) ?_
          refine lv_tableIn (off := 50) (tgt := 51) hx hb d_D_figure_1 (by decide) (by decide) (by decide) (by decide) ?_
          refine lv_aload_n hx hb d_D_figure_51 rfl (lv_at hl 0 rfl) ?_
          refine va_get (D := (dC, dI)) (ci := 0) (v := .int (I 7)) (C := R_D) (T := F_D) (N := 14) hx hb hts (fun w h => List.mem_cons_of_mem _ (in_D w h)) hown hK hP 0 rfl rfl 7 (by decide) (hts _ (List.mem_cons_of_mem _ lk_315)) (fun _ h9 => h9) rfl d_D_figure_52 ?_
          exact (wk_tag (by decide) hf).elim
        ·
          have hf := wk_iff hc4 hf
          by_cases hc5 : k1 = 4
          ·
            have hf := wk_ift hc5 hf
            refine wk_top (w := .int 4) (congrArg _ hc5) ?_
            refine lv_tableIn (off := 55) (tgt := 56) hx hb d_D_figure_1 (by decide) (by decide) (by decide) (by decide) ?_
            refine lv_aload_n hx hb d_D_figure_56 rfl (lv_at hl 0 rfl) ?_
            refine va_get (D := (dC, dI)) (ci := 0) (v := .int (I 1)) (C := R_D) (T := F_D) (N := 14) hx hb hts (fun w h => List.mem_cons_of_mem _ (in_D w h)) hown hK hP 0 rfl rfl 1 (by decide) (hts _ (List.mem_cons_of_mem _ lk_316)) (fun _ h9 => h9) rfl d_D_figure_57 ?_
            exact (wk_tag (by decide) hf).elim
          ·
            have hf := wk_iff hc5 hf
            have nhc1 : ¬ (k1).toInt = 0 := fun z => hc1 ((wk_eq 0 (by decide)).mpr z)
            have nhc2 : ¬ (k1).toInt = 1 := fun z => hc2 ((wk_eq 1 (by decide)).mpr z)
            have nhc3 : ¬ (k1).toInt = 2 := fun z => hc3 ((wk_eq 2 (by decide)).mpr z)
            have nhc4 : ¬ (k1).toInt = 3 := fun z => hc4 ((wk_eq 3 (by decide)).mpr z)
            have nhc5 : ¬ (k1).toInt = 4 := fun z => hc5 ((wk_eq 4 (by decide)).mpr z)
            refine lv_tableOut (tgt := 61) hx hb d_D_figure_1 (by omega) (by decide) ?_
            obtain ⟨e0, e1, e2, e3, e4, e5, e6⟩ := wk_inj6 hf
            subst e1
            subst e2
            subst e3
            subst e4
            subst e5
            subst e6
            exact th_newG hx hb htr hown (by decide) (by decide) (wk_thr hts hZ hS lk_317 lk_318 (fun _ a9 b9 => oa_1 a9 b9)) hnh (by rw [hl.1, hml]) hS (Nat.le_of_ble_eq_true rfl) (Nat.le_of_ble_eq_true rfl) (Nat.le_of_ble_eq_true rfl) (Nat.le_of_ble_eq_true rfl) (Nat.le_of_ble_eq_true rfl) (Nat.le_of_ble_eq_true rfl) hlocks (fun t hal hk => ⟨hP.kept (fun k q hq => hk _ (hP k q hq).lt), va_K.moved hal hK, hD⟩) d_D_figure_61 d_D_figure_64 d_D_figure_65 d_D_figure_68

set_option maxHeartbeats 8000000 in
set_option maxRecDepth 100000 in
theorem cm_D_requirePlace (l : Launch) (dC : Nat → ClassId) (dI : Nat → Nat → Nat) (h : Nat) (q : Nat → Nat) (g : Nat → ClassId) (hp : Nat) (qp : Nat → Nat) (gp : Nat → ClassId) (tq : Nat) (tg : ClassId) (tn : Nat) (tx : Nat → Int32) (sz : Nat) (I : MI) (A : MA) (M : MI) (MB : MA) (L : ML) (k1 : Int32) (r : Int32) (I' : MI) (A' : MA) (M' : MI) (MB' : MA) (L' : ML) (hf : f_D_requirePlace tn tx I A M MB L  k1 = some (0, r, I', A', M', MB', L')) : Met l y_D_requirePlace w_D_requirePlace ({ frames := 0, cells := 0, slots := 0, locals := 0 }) (va_Pc [.ref h, .int k1] (fun U => U.heap.size = sz ∧ va_P (dC, dI) vwCl (dw_W h q g hp qp gp tq tg tn tx I A M MB L) U.heap ∧ va_K (dC, dI) vwCl (dw_T h q g hp qp gp tq tg tn tx) U ∧ va_D (fun _ => True) (dw_W h q g hp qp gp tq tg tn tx I A M MB L))) (va_Qv (fun (u : Unit) => u = u) (fun (_ : Unit) t => va_P (dC, dI) vwCl (dw_W h q g hp qp gp tq tg tn tx I' A' M' MB' L') t.heap ∧ va_K (dC, dI) vwCl (dw_T h q g hp qp gp tq tg tn tx) t ∧ va_D (va_A (dw_W h q g hp qp gp tq tg tn tx I A M MB L) sz) (dw_W h q g hp qp gp tq tg tn tx I' A' M' MB' L')) (va_A (dw_W h q g hp qp gp tq tg tn tx I A M MB L) sz)) 0 0 (va_A (dw_W h q g hp qp gp tq tg tn tx I A M MB L) sz) := by
  refine Met.ofW (cc := prog_1_method_19_code) (maxL := 2) (ret := none) (by decide) rfl ?_
  intro p e s m args below meth c s₁ B hml hv
  obtain ⟨rfl, hsz, hP, hK, hD0⟩ := hv
  have hx := B.exec
  have hb := B.bytes
  have hr := B.returns
  have hts := atoms_spec (ws := w_D_requirePlace) B.pre
  have hown : s.vm.findClass "DraftTree" = some m.cls := findClass_of_methodNamed B.named
  have hlocks := B.notSynchronized
  subst hsz
  have hD := hD0.self (sz := s.heap.size)
  generalize hAe : va_A (dw_W h q g hp qp gp tq tg tn tx I A M MB L) s.heap.size = B9 at hD ⊢
  have hA : ∀ q : Nat, s.heap.size ≤ q → B9 q := fun q h => by rw [← hAe]; exact Or.inr h
  clear hAe
  have hS : va_S B9 s.heap s.heap [] := va_S.rf
  have hl := lv_entry ([.ref h, .int k1]) (n := 2) (Nat.le_of_ble_eq_true rfl)
  rw [lg_entry_eq]
  generalize (lg_sl ([.ref h, .int k1]) ++ List.replicate (2 - (lg_sl ([.ref h, .int k1])).length) Slot.unset).toArray = ls at hl ⊢
  have hl : lv_has ls 2 [(0, .ref h), (1, .int k1)] := hl
  have blk13 : ∀ (I : MI) (A : MA) (M : MI) (MB : MA) (L : ML) (X : Nat → Int32) (Y : Nat → Int64) (ls : Array Slot) (H : Heap) (locs : List Loc), f_D_requirePlace_13 tn tx I A M MB L X Y = some (0, r, I', A', M', MB', L') → lv_has ls 2 [(0, .ref h), (1, .int (X 1))] → va_P (dC, dI) vwCl (dw_W h q g hp qp gp tq tg tn tx I A M MB L) H → va_D B9 (dw_W h q g hp qp gp tq tg tn tx I A M MB L) → va_S B9 s.heap H locs → W p l e (headSpec w_D_requirePlace ({ frames := 0, cells := 0, slots := 0, locals := 0 })).room s m ([.ref h, .int k1] : List Value).toArray below meth c H locs 0 0 (MQ below (va_Qv (fun (u : Unit) => u = u) (fun (_ : Unit) t => va_P (dC, dI) vwCl (dw_W h q g hp qp gp tq tg tn tx I' A' M' MB' L') t.heap ∧ va_K (dC, dI) vwCl (dw_T h q g hp qp gp tq tg tn tx) t ∧ va_D B9 (dw_W h q g hp qp gp tq tg tn tx I' A' M' MB' L')) B9) ([.ref h, .int k1] : List Value).toArray s 0 0 B9) (F0 m 13 ls []) := by
    intro I A M MB L X Y ls H locs hf hl hP hD hS
    unfold f_D_requirePlace_13 at hf
    exact (wk_tag (by decide) hf).elim
  unfold f_D_requirePlace at hf
  refine lv_iload_n hx hb d_D_requirePlace_0 rfl (lv_at hl 1 rfl) ?_
  refine lv_if_lt (tgt := 13) hx hb d_D_requirePlace_1 (by decide) (fun hc1 => ?_) (fun hc1 => ?_)
  ·
    have hf := wk_ift hc1 hf
    exact blk13 I A M MB L (upd (fun _ => 0) 1 k1) (fun _ => 0) _ _ _ hf (lv_sub hl [0, 1] rfl) hP hD hS
  ·
    have hf := wk_iff hc1 hf
    refine lv_iload_n hx hb d_D_requirePlace_4 rfl (lv_at hl 1 rfl) ?_
    refine lv_aload_n hx hb d_D_requirePlace_5 rfl (lv_at hl 0 rfl) ?_
    refine va_get (D := (dC, dI)) (ci := 0) (v := .ref tq) (C := R_D) (T := F_D) (N := 14) hx hb hts (fun w h => List.mem_cons_of_mem _ (in_D w h)) hown hK hP 0 rfl rfl 5 (by decide) (hts _ (List.mem_cons_of_mem _ lk_241)) (fun _ h9 => h9) rfl d_D_requirePlace_6 ?_
    refine va_alen (v := (Int32.ofNat tn)) hx hb hK hP 10 8 rfl rfl rfl d_D_requirePlace_9 ?_
    refine lv_icmp_le (tgt := 21) hx hb d_D_requirePlace_10 (by decide) (fun hc2 => ?_) (fun hc2 => ?_)
    ·
      have hf := wk_ift hc2 hf
      obtain ⟨e0, e1, e2, e3, e4, e5, e6⟩ := wk_inj6 hf
      subst e1
      subst e2
      subst e3
      subst e4
      subst e5
      subst e6
      exact W.vret hx hb hr (fun t ht hW => ⟨⟨(), rfl, rfl, by rw [ht]; exact hP, va_K.moved hW.alike hK, hD⟩, hS.F ht⟩) hS.2.2 d_D_requirePlace_21
    ·
      have hf := wk_iff hc2 hf
      exact blk13 I A M MB L (upd (fun _ => 0) 1 k1) (fun _ => 0) _ _ _ hf (lv_sub hl [0, 1] rfl) hP hD hS
set_option maxHeartbeats 8000000 in
set_option maxRecDepth 100000 in
theorem ct_D_requirePlace_2 (l : Launch) (hfl : l.flags = flags0) (dC : Nat → ClassId) (dI : Nat → Nat → Nat) (h : Nat) (q : Nat → Nat) (g : Nat → ClassId) (hp : Nat) (qp : Nat → Nat) (gp : Nat → ClassId) (tq : Nat) (tg : ClassId) (tn : Nat) (tx : Nat → Int32) (sz : Nat) (I : MI) (A : MA) (M : MI) (MB : MA) (L : ML) (k1 : Int32) (r : Int32) (I' : MI) (A' : MA) (M' : MI) (MB' : MA) (L' : ML) (hf : f_D_requirePlace tn tx I A M MB L  k1 = some (2, r, I', A', M', MB', L')) : th_Met l y_D_requirePlace w_D_requirePlace ({ frames := 6, cells := 1, slots := 6, locals := 81 }) (va_Pc [.ref h, .int k1] (fun U => U.heap.size = sz ∧ va_P (dC, dI) vwCl (dw_W h q g hp qp gp tq tg tn tx I A M MB L) U.heap ∧ va_K (dC, dI) vwCl (dw_T h q g hp qp gp tq tg tn tx) U ∧ va_D (fun _ => True) (dw_W h q g hp qp gp tq tg tn tx I A M MB L) ∧ th_ZA (va_A (dw_W h q g hp qp gp tq tg tn tx I A M MB L) sz) U)) (th_Qw "java/lang/IndexOutOfBoundsException" (fun t => va_P (dC, dI) vwCl (dw_W h q g hp qp gp tq tg tn tx I' A' M' MB' L') t.heap ∧ va_K (dC, dI) vwCl (dw_T h q g hp qp gp tq tg tn tx) t ∧ va_D (va_A (dw_W h q g hp qp gp tq tg tn tx I A M MB L) sz) (dw_W h q g hp qp gp tq tg tn tx I' A' M' MB' L')) (va_A (dw_W h q g hp qp gp tq tg tn tx I A M MB L) sz)) 1 6 (va_A (dw_W h q g hp qp gp tq tg tn tx I A M MB L) sz) := by
  refine th_Met.ofW (cc := prog_1_method_19_code) (maxL := 2) (ret := none) (by decide) rfl ?_
  intro p e s m args below meth c s₁ B hml hnh hv
  obtain ⟨rfl, hsz, hP, hK, hD0, hZ⟩ := hv
  have hx := B.exec
  have hb := B.bytes
  have hr := B.returns
  have hts := atoms_spec (ws := w_D_requirePlace) B.pre
  have hown : s.vm.findClass "DraftTree" = some m.cls := findClass_of_methodNamed B.named
  have hlocks := B.notSynchronized
  have htr := Launch.traces_off hfl B.admits
  subst hsz
  have hD := hD0.self (sz := s.heap.size)
  generalize hAe : va_A (dw_W h q g hp qp gp tq tg tn tx I A M MB L) s.heap.size = B9 at hD hZ ⊢
  have hA : ∀ q : Nat, s.heap.size ≤ q → B9 q := fun q h => by rw [← hAe]; exact Or.inr h
  clear hAe
  have hS : va_S B9 s.heap s.heap [] := va_S.rf
  have hl := lv_entry ([.ref h, .int k1]) (n := 2) (Nat.le_of_ble_eq_true rfl)
  rw [lg_entry_eq]
  generalize (lg_sl ([.ref h, .int k1]) ++ List.replicate (2 - (lg_sl ([.ref h, .int k1])).length) Slot.unset).toArray = ls at hl ⊢
  have hl : lv_has ls 2 [(0, .ref h), (1, .int k1)] := hl
  have blk13 : ∀ (I : MI) (A : MA) (M : MI) (MB : MA) (L : ML) (X : Nat → Int32) (Y : Nat → Int64) (ls : Array Slot) (H : Heap) (locs : List Loc), f_D_requirePlace_13 tn tx I A M MB L X Y = some (2, r, I', A', M', MB', L') → lv_has ls 2 [(0, .ref h), (1, .int (X 1))] → va_P (dC, dI) vwCl (dw_W h q g hp qp gp tq tg tn tx I A M MB L) H → va_D B9 (dw_W h q g hp qp gp tq tg tn tx I A M MB L) → va_S B9 s.heap H locs → W p l e (headSpec w_D_requirePlace ({ frames := 6, cells := 1, slots := 6, locals := 81 })).room s m ([.ref h, .int k1] : List Value).toArray below meth c H locs 0 0 (th_Q below (th_Qw "java/lang/IndexOutOfBoundsException" (fun t => va_P (dC, dI) vwCl (dw_W h q g hp qp gp tq tg tn tx I' A' M' MB' L') t.heap ∧ va_K (dC, dI) vwCl (dw_T h q g hp qp gp tq tg tn tx) t ∧ va_D B9 (dw_W h q g hp qp gp tq tg tn tx I' A' M' MB' L')) B9) ([.ref h, .int k1] : List Value).toArray s 1 6 B9) (F0 m 13 ls []) := by
    intro I A M MB L X Y ls H locs hf hl hP hD hS
    unfold f_D_requirePlace_13 at hf
    obtain ⟨e0, e1, e2, e3, e4, e5, e6⟩ := wk_inj6 hf
    subst e1
    subst e2
    subst e3
    subst e4
    subst e5
    subst e6
    exact th_newG hx hb htr hown (by decide) (by decide) (wk_thr hts hZ hS lk_242 lk_243 (fun _ a9 b9 => oa_0 a9 b9)) hnh (by rw [hl.1, hml]) hS (Nat.le_of_ble_eq_true rfl) (Nat.le_of_ble_eq_true rfl) (Nat.le_of_ble_eq_true rfl) (Nat.le_of_ble_eq_true rfl) (Nat.le_of_ble_eq_true rfl) (Nat.le_of_ble_eq_true rfl) hlocks (fun t hal hk => ⟨hP.kept (fun k q hq => hk _ (hP k q hq).lt), va_K.moved hal hK, hD⟩) d_D_requirePlace_13 d_D_requirePlace_16 d_D_requirePlace_17 d_D_requirePlace_20
  unfold f_D_requirePlace at hf
  refine lv_iload_n hx hb d_D_requirePlace_0 rfl (lv_at hl 1 rfl) ?_
  refine lv_if_lt (tgt := 13) hx hb d_D_requirePlace_1 (by decide) (fun hc1 => ?_) (fun hc1 => ?_)
  ·
    have hf := wk_ift hc1 hf
    exact blk13 I A M MB L (upd (fun _ => 0) 1 k1) (fun _ => 0) _ _ _ hf (lv_sub hl [0, 1] rfl) hP hD hS
  ·
    have hf := wk_iff hc1 hf
    refine lv_iload_n hx hb d_D_requirePlace_4 rfl (lv_at hl 1 rfl) ?_
    refine lv_aload_n hx hb d_D_requirePlace_5 rfl (lv_at hl 0 rfl) ?_
    refine va_get (D := (dC, dI)) (ci := 0) (v := .ref tq) (C := R_D) (T := F_D) (N := 14) hx hb hts (fun w h => List.mem_cons_of_mem _ (in_D w h)) hown hK hP 0 rfl rfl 5 (by decide) (hts _ (List.mem_cons_of_mem _ lk_241)) (fun _ h9 => h9) rfl d_D_requirePlace_6 ?_
    refine va_alen (v := (Int32.ofNat tn)) hx hb hK hP 10 8 rfl rfl rfl d_D_requirePlace_9 ?_
    refine lv_icmp_le (tgt := 21) hx hb d_D_requirePlace_10 (by decide) (fun hc2 => ?_) (fun hc2 => ?_)
    ·
      have hf := wk_ift hc2 hf
      exact (wk_tag (by decide) hf).elim
    ·
      have hf := wk_iff hc2 hf
      exact blk13 I A M MB L (upd (fun _ => 0) 1 k1) (fun _ => 0) _ _ _ hf (lv_sub hl [0, 1] rfl) hP hD hS

