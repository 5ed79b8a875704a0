set_option maxHeartbeats 8000000 in
set_option maxRecDepth 100000 in
theorem cm_M_behind (l : Launch) (dC : Nat → ClassId) (dI : Nat → Nat → Nat) (h : Nat) (q : Nat → Nat) (g : Nat → ClassId) (sz : Nat) (I : MI) (A : MA) (k1 k2 : Int32) (r : Int32) (I' : MI) (A' : MA) (hf : f_M_behind I A k1 k2 = some (r, I', A')) : Met l y_M_behind w_M_behind ({ frames := 1, cells := 0, slots := 0, locals := 22 }) (va_Pc [.ref h, .int k1, .int k2] (fun U => U.heap.size = sz ∧ va_P (dC, dI) vwCl (mw_W h q g I A) U.heap ∧ va_K (dC, dI) vwCl (mw_T g) U ∧ va_D (fun _ => True) (mw_W h q g I A))) (va_Qi (fun (r9 : Int32) (_ : Unit) => r9 = r) (fun (_ : Unit) t => va_P (dC, dI) vwCl (mw_W h q g I' A') t.heap ∧ va_K (dC, dI) vwCl (mw_T g) t ∧ va_D (va_A (mw_W h q g I A) sz) (mw_W h q g I' A')) (va_A (mw_W h q g I A) sz)) 0 0 (va_A (mw_W h q g I A) sz) := by
  refine Met.ofW (cc := prog_6_method_29_code) (maxL := 3) (ret := (some .int)) (by decide) rfl ?_
  intro p e s m args below meth c s₁ B hml hv
  obtain ⟨rfl, hsz, hP, hK, hD0⟩ := hv
  have hx := B.exec
  have hb := B.bytes
  have hr := B.returns
  have hts := atoms_spec (ws := w_M_behind) B.pre
  have hown : s.vm.findClass R_M = some m.cls := findClass_of_methodNamed B.named
  have hlocks := B.notSynchronized
  subst hsz
  have hD := hD0.self (sz := s.heap.size)
  generalize hAe : va_A (mw_W h q g I A) s.heap.size = B9 at hD ⊢
  have hA : ∀ q : Nat, s.heap.size ≤ q → B9 q := fun q h => by rw [← hAe]; exact Or.inr h
  clear hAe
  have hS : va_S B9 s.heap s.heap [] := va_S.rf
  have hl := lv_entry ([.ref h, .int k1, .int k2]) (n := 3) (Nat.le_of_ble_eq_true rfl)
  rw [lg_entry_eq]
  generalize (lg_sl ([.ref h, .int k1, .int k2]) ++ List.replicate (3 - (lg_sl ([.ref h, .int k1, .int k2])).length) Slot.unset).toArray = ls at hl ⊢
  have hl : lv_has ls 3 [(0, .ref h), (1, .int k1), (2, .int k2)] := hl
  unfold f_M_behind at hf
  refine lv_iload_n hx hb d_M_behind_0 rfl (lv_at hl 2 rfl) ?_
  refine lv_if_ge (tgt := 6) hx hb d_M_behind_1 (by decide) (fun hc1 => ?_) (fun hc1 => ?_)
  ·
    have hf := wk_ift hc1 hf
    refine lv_aload_n hx hb d_M_behind_6 rfl (lv_at hl 0 rfl) ?_
    refine lv_aload_n hx hb d_M_behind_7 rfl (lv_at hl 0 rfl) ?_
    refine va_get (D := (dC, dI)) (ci := 4) (v := .ref (q 27)) (C := R_M) (T := F_M) (N := 38) hx hb hts (fun w h => List.mem_cons_of_mem _ (in_M w h)) hown hK hP 0 rfl rfl 27 (by decide) (hts _ (List.mem_cons_of_mem _ lk_62)) (fun _ h9 => h9) rfl d_M_behind_8 ?_
    refine lv_iload_n hx hb d_M_behind_11 rfl (lv_at hl 1 rfl) ?_
    obtain ⟨hc2, hf⟩ := wk_if hf
    refine va_iald hx hb hK hP 14 13 rfl rfl (wk_inb_ok hc2) d_M_behind_12 ?_
    refine lv_aload_n hx hb d_M_behind_13 rfl (lv_at hl 0 rfl) ?_
    refine va_get (D := (dC, dI)) (ci := 4) (v := .ref (q 26)) (C := R_M) (T := F_M) (N := 38) hx hb hts (fun w h => List.mem_cons_of_mem _ (in_M w h)) hown hK hP 0 rfl rfl 26 (by decide) (hts _ (List.mem_cons_of_mem _ lk_63)) (fun _ h9 => h9) rfl d_M_behind_14 ?_
    refine lv_iload_n hx hb d_M_behind_17 rfl (lv_at hl 2 rfl) ?_
    obtain ⟨hc3, hf⟩ := wk_if hf
    refine va_iald hx hb hK hP 13 12 rfl rfl (wk_inb_ok hc3) d_M_behind_18 ?_
    have hPc := hP.sub (ws' := (mw_W h q g I A)) [0, 1, 2, 3, 4, 5, 6, 7, 8, 9, 10, 11, 12, 13, 14, 15, 16, 17, 18, 19, 20] rfl
    have hDc := hD.sub (ws' := (mw_W h q g I A)) [0, 1, 2, 3, 4, 5, 6, 7, 8, 9, 10, 11, 12, 13, 14, 15, 16, 17, 18, 19, 20] (by decide) rfl
    have hKc := hK.sub (tys' := (mw_T g)) [0, 1, 2, 3, 4, 5, 6, 7, 8, 9, 10, 11, 12, 13, 14, 15, 16, 17, 18, 19] rfl
    have hFc := va_free (wc := (mw_W h q g I A)) hD hS hA [0, 1, 2, 3, 4, 5, 6, 7, 8, 9, 10, 11, 12, 13, 14, 15, 16, 17, 18, 19, 20] rfl
    cases hg1 : f_M_link I A ((A 27) (k1).toNatClampNeg) ((A 26) (k2).toNatClampNeg) with
    | none => rw [hg1] at hf; cases hf
    | some z1 =>
      obtain ⟨r1, I1, A1⟩ := z1
      rw [hg1] at hf
      dsimp only [Option.bind_some] at hf
      refine va_callv (va_runV (As := [.int ((A 27) (k1).toNatClampNeg), .int ((A 26) (k2).toNatClampNeg)]) (rest := []) ⟨hx, hb, hml, hown, hts⟩ (cm_M_link l dC dI h q g _ I A ((A 27) (k1).toNatClampNeg) ((A 26) (k2).toNatClampNeg) r1 I1 A1 hg1) (cwV 2 hts (gd_v lk_67 lk_68 lk_69 lk_46 lk_66) rfl rfl rfl (by decide +kernel) ⟨Nat.le_of_ble_eq_true rfl, Nat.le_of_ble_eq_true rfl⟩) ⟨fun a U g mk q => by obtain ⟨q0, q1, qP, qK, qD⟩ := q; exact ⟨q0, q1, qP, va_K.moved (u := U) (U := U.calling g mk a) (Vm.Alike.refl U.vm) qK, qD⟩, va_recv (ci := 4) (q0 := 0) hK hP rfl rfl, fun U hU hW => ⟨rfl, by rw [hU], by rw [hU]; exact hPc, va_K.moved hW.alike hKc, hDc.weaken (fun _ _ _ _ => trivial)⟩⟩ rfl rfl hl.1 rfl (lv_room (Nat.le_of_ble_eq_true rfl)) d_M_behind_19 ⟨Nat.le_of_ble_eq_true rfl, Nat.le_of_ble_eq_true rfl⟩) hS (fun q _ h => hFc q h) hFc (fun u t H1 locs ht hvm hw hB hz1 hk1 hS => ?_)
      obtain ⟨hP1, hK1, hD1⟩ := hB
      rw [ht] at hP1
      obtain ⟨hP, hD⟩ := va_join (wr := []) (w1 := (mw_W h q g I1 A1)) hP hD [0, 1, 2, 3, 4, 5, 6, 7, 8, 9, 10, 11, 12, 13, 14, 15, 16, 17, 18, 19, 20] [] rfl rfl (by decide) (by decide) hk1 hFc hP1 hD1
      generalize H1 = H at hP hS ⊢
      have hP : va_P (dC, dI) vwCl (mw_W h q g I1 A1) H := hP
      have hD : va_D B9 (mw_W h q g I1 A1) := hD
      refine lv_aload_n hx hb d_M_behind_22 rfl (lv_at hl 0 rfl) ?_
      refine lv_aload_n hx hb d_M_behind_23 rfl (lv_at hl 0 rfl) ?_
      refine va_get (D := (dC, dI)) (ci := 4) (v := .ref (q 26)) (C := R_M) (T := F_M) (N := 38) hx hb hts (fun w h => List.mem_cons_of_mem _ (in_M w h)) hown hK hP 0 rfl rfl 26 (by decide) (hts _ (List.mem_cons_of_mem _ lk_63)) (fun _ h9 => h9) rfl d_M_behind_24 ?_
      refine lv_iload_n hx hb d_M_behind_27 rfl (lv_at hl 1 rfl) ?_
      obtain ⟨hc4, hf⟩ := wk_if hf
      refine va_iald hx hb hK hP 13 12 rfl rfl (wk_inb_ok hc4) d_M_behind_28 ?_
      refine lv_aload_n hx hb d_M_behind_29 rfl (lv_at hl 0 rfl) ?_
      refine va_get (D := (dC, dI)) (ci := 4) (v := .ref (q 27)) (C := R_M) (T := F_M) (N := 38) hx hb hts (fun w h => List.mem_cons_of_mem _ (in_M w h)) hown hK hP 0 rfl rfl 27 (by decide) (hts _ (List.mem_cons_of_mem _ lk_62)) (fun _ h9 => h9) rfl d_M_behind_30 ?_
      refine lv_iload_n hx hb d_M_behind_33 rfl (lv_at hl 2 rfl) ?_
      obtain ⟨hc5, hf⟩ := wk_if hf
      refine va_iald hx hb hK hP 14 13 rfl rfl (wk_inb_ok hc5) d_M_behind_34 ?_
      have hPc := hP.sub (ws' := (mw_W h q g I1 A1)) [0, 1, 2, 3, 4, 5, 6, 7, 8, 9, 10, 11, 12, 13, 14, 15, 16, 17, 18, 19, 20] rfl
      have hDc := hD.sub (ws' := (mw_W h q g I1 A1)) [0, 1, 2, 3, 4, 5, 6, 7, 8, 9, 10, 11, 12, 13, 14, 15, 16, 17, 18, 19, 20] (by decide) rfl
      have hKc := hK.sub (tys' := (mw_T g)) [0, 1, 2, 3, 4, 5, 6, 7, 8, 9, 10, 11, 12, 13, 14, 15, 16, 17, 18, 19] rfl
      have hFc := va_free (wc := (mw_W h q g I1 A1)) hD hS hA [0, 1, 2, 3, 4, 5, 6, 7, 8, 9, 10, 11, 12, 13, 14, 15, 16, 17, 18, 19, 20] rfl
      cases hg2 : f_M_piece I1 A1 ((A1 26) (k1).toNatClampNeg) ((A1 27) (k2).toNatClampNeg) with
      | none => rw [hg2] at hf; cases hf
      | some z2 =>
        obtain ⟨r2, I2, A2⟩ := z2
        rw [hg2] at hf
        dsimp only [Option.bind_some] at hf
        refine va_calli (va_runV (As := [.int ((A1 26) (k1).toNatClampNeg), .int ((A1 27) (k2).toNatClampNeg)]) (rest := []) ⟨hx, hb, hml, hown, hts⟩ (cm_M_piece l dC dI h q g _ I1 A1 ((A1 26) (k1).toNatClampNeg) ((A1 27) (k2).toNatClampNeg) r2 I2 A2 hg2) (cwV 2 hts (gd_v lk_72 lk_73 lk_74 lk_46 lk_71) rfl rfl rfl (by decide +kernel) ⟨Nat.le_of_ble_eq_true rfl, Nat.le_of_ble_eq_true rfl⟩) ⟨fun a U g mk q => by obtain ⟨q0, q1, qP, qK, qD⟩ := q; exact ⟨q0, q1, qP, va_K.moved (u := U) (U := U.calling g mk a) (Vm.Alike.refl U.vm) qK, qD⟩, va_recv (ci := 4) (q0 := 0) hK hP rfl rfl, fun U hU hW => ⟨rfl, by rw [hU], by rw [hU]; exact hPc, va_K.moved hW.alike hKc, hDc.weaken (fun _ _ _ _ => trivial)⟩⟩ rfl rfl hl.1 rfl (lv_room (Nat.le_of_ble_eq_true rfl)) d_M_behind_35 ⟨Nat.le_of_ble_eq_true rfl, Nat.le_of_ble_eq_true rfl⟩) hS (fun q _ h => hFc q h) hFc (fun r9 u t H1 locs ht hvm hw hB hz1 hk1 hS => ?_)
        obtain ⟨hP1, hK1, hD1⟩ := hB
        rw [ht] at hP1
        rw [hw]
        obtain ⟨hP, hD⟩ := va_join (wr := []) (w1 := (mw_W h q g I2 A2)) hP hD [0, 1, 2, 3, 4, 5, 6, 7, 8, 9, 10, 11, 12, 13, 14, 15, 16, 17, 18, 19, 20] [] rfl rfl (by decide) (by decide) hk1 hFc hP1 hD1
        generalize H1 = H at hP hS ⊢
        have hP : va_P (dC, dI) vwCl (mw_W h q g I2 A2) H := hP
        have hD : va_D B9 (mw_W h q g I2 A2) := hD
        obtain ⟨e1, e2, e3⟩ := wk_inj hf
        subst e1
        subst e2
        subst e3
        exact W.iret (v := r2) hx hb hr (fun t ht hW => ⟨⟨r2, (), rfl, rfl, by rw [ht]; exact hP, va_K.moved hW.alike hK, hD⟩, hS.F ht⟩) hS.2.2 d_M_behind_38
  ·
    have hf := wk_iff hc1 hf
    refine lv_iload_n hx hb d_M_behind_4 rfl (lv_at hl 1 rfl) ?_
    obtain ⟨e1, e2, e3⟩ := wk_inj hf
    subst e1
    subst e2
    subst e3
    exact W.iret (v := k1) hx hb hr (fun t ht hW => ⟨⟨k1, (), rfl, rfl, by rw [ht]; exact hP, va_K.moved hW.alike hK, hD⟩, hS.F ht⟩) hS.2.2 d_M_behind_5

set_option maxHeartbeats 8000000 in
set_option maxRecDepth 100000 in
theorem cm_M_breaks (l : Launch) (dC : Nat → ClassId) (dI : Nat → Nat → Nat) (h : Nat) (q : Nat → Nat) (g : Nat → ClassId) (sz : Nat) (I : MI) (A : MA) (k1 : Int32) (r : Int32) (I' : MI) (A' : MA) (hf : f_M_breaks I A k1 = some (r, I', A')) : Met l y_M_breaks w_M_breaks ({ frames := 1, cells := 0, slots := 0, locals := 21 }) (va_Pc [.ref h, .int k1] (fun U => U.heap.size = sz ∧ va_P (dC, dI) vwCl (mw_W h q g I A) U.heap ∧ va_K (dC, dI) vwCl (mw_T g) U ∧ va_D (fun _ => True) (mw_W h q g I A))) (va_Qi (fun (r9 : Int32) (_ : Unit) => r9 = r) (fun (_ : Unit) t => va_P (dC, dI) vwCl (mw_W h q g I' A') t.heap ∧ va_K (dC, dI) vwCl (mw_T g) t ∧ va_D (va_A (mw_W h q g I A) sz) (mw_W h q g I' A')) (va_A (mw_W h q g I A) sz)) 0 0 (va_A (mw_W h q g I A) sz) := by
  refine Met.ofW (cc := prog_6_method_49_code) (maxL := 4) (ret := (some .int)) (by decide) rfl ?_
  intro p e s m args below meth c s₁ B hml hv
  obtain ⟨rfl, hsz, hP, hK, hD0⟩ := hv
  have hx := B.exec
  have hb := B.bytes
  have hr := B.returns
  have hts := atoms_spec (ws := w_M_breaks) B.pre
  have hown : s.vm.findClass R_M = some m.cls := findClass_of_methodNamed B.named
  have hlocks := B.notSynchronized
  subst hsz
  have hD := hD0.self (sz := s.heap.size)
  generalize hAe : va_A (mw_W h q g I A) s.heap.size = B9 at hD ⊢
  have hA : ∀ q : Nat, s.heap.size ≤ q → B9 q := fun q h => by rw [← hAe]; exact Or.inr h
  clear hAe
  have hS : va_S B9 s.heap s.heap [] := va_S.rf
  have hl := lv_entry ([.ref h, .int k1]) (n := 4) (Nat.le_of_ble_eq_true rfl)
  rw [lg_entry_eq]
  generalize (lg_sl ([.ref h, .int k1]) ++ List.replicate (4 - (lg_sl ([.ref h, .int k1])).length) Slot.unset).toArray = ls at hl ⊢
  have hl : lv_has ls 4 [(0, .ref h), (1, .int k1)] := hl
  have blk25 : ∀ (rc : Nat → MI → MA → (Nat → Int32) → Option (Int32 × MI × MA)) (hrc4 : ∀ (I : MI) (A : MA) (X : Nat → Int32) (ls : Array Slot) (H : Heap) (locs : List Loc), rc 4 I A X = some (r, I', A') → lv_has ls 4 [(0, .ref h), (1, .int (X 1)), (2, .int (X 2)), (3, .int (X 3))] → va_P (dC, dI) vwCl (mw_W h q g I A) H → va_D B9 (mw_W h q g I A) → va_S B9 s.heap H locs → W p l e (headSpec w_M_breaks ({ frames := 1, cells := 0, slots := 0, locals := 21 })).room s m ([.ref h, .int k1] : List Value).toArray below meth c H locs 0 0 (MQ below (va_Qi (fun (r9 : Int32) (_ : Unit) => r9 = r) (fun (_ : Unit) t => va_P (dC, dI) vwCl (mw_W h q g I' A') t.heap ∧ va_K (dC, dI) vwCl (mw_T g) t ∧ va_D B9 (mw_W h q g I' A')) B9) ([.ref h, .int k1] : List Value).toArray s 0 0 B9) (F0 m 4 ls [])), ∀ (I : MI) (A : MA) (X : Nat → Int32) (s0 : Int32) (s1 : Int32) (ls : Array Slot) (H : Heap) (locs : List Loc), f_M_breaks_25 rc I A X s0 s1 = some (r, I', A') → lv_has ls 4 [(0, .ref h), (1, .int (X 1)), (2, .int (X 2)), (3, .int (X 3))] → va_P (dC, dI) vwCl (mw_W h q g I A) H → va_D B9 (mw_W h q g I A) → va_S B9 s.heap H locs → W p l e (headSpec w_M_breaks ({ frames := 1, cells := 0, slots := 0, locals := 21 })).room s m ([.ref h, .int k1] : List Value).toArray below meth c H locs 0 0 (MQ below (va_Qi (fun (r9 : Int32) (_ : Unit) => r9 = r) (fun (_ : Unit) t => va_P (dC, dI) vwCl (mw_W h q g I' A') t.heap ∧ va_K (dC, dI) vwCl (mw_T g) t ∧ va_D B9 (mw_W h q g I' A')) B9) ([.ref h, .int k1] : List Value).toArray s 0 0 B9) (F0 m 25 ls [.int s0, .int s1]) := by
    intro rc hrc4 I A X s0 s1 ls H locs hf hl hP hD hS
    unfold f_M_breaks_25 at hf
    refine lv_iadd hx hb d_M_breaks_25 ?_
    refine lv_istore_n (lv' := [(2, .int (s1 + s0)), (0, .ref h), (1, .int (X 1)), (3, .int (X 3))]) hx hb d_M_breaks_26 rfl hl (by decide) rfl (fun ls hl => ?_)
    have hl : lv_has ls 4 [(2, .int (s1 + s0)), (0, .ref h), (1, .int (X 1)), (3, .int (X 3))] := hl
    refine lv_iinc (k := 3) (v := ((X 3) + 1)) (lv' := [(3, .int ((X 3) + 1)), (2, .int (s1 + s0)), (0, .ref h), (1, .int (X 1))]) hx hb d_M_breaks_27 hl rfl (wk_inc (by decide)) (by decide) rfl (fun ls hl => ?_)
    have hl : lv_has ls 4 [(3, .int ((X 3) + 1)), (2, .int (s1 + s0)), (0, .ref h), (1, .int (X 1))] := hl
    refine lv_goto (tgt := 4) hx hb d_M_breaks_30 (by decide) ?_
    exact hrc4 I A (upd (upd X 2 (s1 + s0)) 3 ((X 3) + 1)) _ _ _ hf (lv_sub hl [2, 3, 1, 0] rfl) hP hD hS
  have stp4 : ∀ (rc : Nat → MI → MA → (Nat → Int32) → Option (Int32 × MI × MA)) (hrc4 : ∀ (I : MI) (A : MA) (X : Nat → Int32) (ls : Array Slot) (H : Heap) (locs : List Loc), rc 4 I A X = some (r, I', A') → lv_has ls 4 [(0, .ref h), (1, .int (X 1)), (2, .int (X 2)), (3, .int (X 3))] → va_P (dC, dI) vwCl (mw_W h q g I A) H → va_D B9 (mw_W h q g I A) → va_S B9 s.heap H locs → W p l e (headSpec w_M_breaks ({ frames := 1, cells := 0, slots := 0, locals := 21 })).room s m ([.ref h, .int k1] : List Value).toArray below meth c H locs 0 0 (MQ below (va_Qi (fun (r9 : Int32) (_ : Unit) => r9 = r) (fun (_ : Unit) t => va_P (dC, dI) vwCl (mw_W h q g I' A') t.heap ∧ va_K (dC, dI) vwCl (mw_T g) t ∧ va_D B9 (mw_W h q g I' A')) B9) ([.ref h, .int k1] : List Value).toArray s 0 0 B9) (F0 m 4 ls [])), ∀ (I : MI) (A : MA) (X : Nat → Int32) (ls : Array Slot) (H : Heap) (locs : List Loc), f_M_breaks_4 rc I A X = some (r, I', A') → lv_has ls 4 [(0, .ref h), (1, .int (X 1)), (2, .int (X 2)), (3, .int (X 3))] → va_P (dC, dI) vwCl (mw_W h q g I A) H → va_D B9 (mw_W h q g I A) → va_S B9 s.heap H locs → W p l e (headSpec w_M_breaks ({ frames := 1, cells := 0, slots := 0, locals := 21 })).room s m ([.ref h, .int k1] : List Value).toArray below meth c H locs 0 0 (MQ below (va_Qi (fun (r9 : Int32) (_ : Unit) => r9 = r) (fun (_ : Unit) t => va_P (dC, dI) vwCl (mw_W h q g I' A') t.heap ∧ va_K (dC, dI) vwCl (mw_T g) t ∧ va_D B9 (mw_W h q g I' A')) B9) ([.ref h, .int k1] : List Value).toArray s 0 0 B9) (F0 m 4 ls []) := by
    intro rc hrc4 I A X ls H locs hf hl hP hD hS
    unfold f_M_breaks_4 at hf
    refine lv_iload_n hx hb d_M_breaks_4 rfl (lv_at hl 3 rfl) ?_
    refine lv_iload_n hx hb d_M_breaks_5 rfl (lv_at hl 1 rfl) ?_
    refine lv_icmp_ge (tgt := 33) hx hb d_M_breaks_6 (by decide) (fun hc1 => ?_) (fun hc1 => ?_)
    ·
      have hf := wk_ift hc1 hf
      refine lv_iload_n hx hb d_M_breaks_33 rfl (lv_at hl 2 rfl) ?_
      obtain ⟨e1, e2, e3⟩ := wk_inj hf
      subst e1
      subst e2
      subst e3
      exact W.iret (v := (X 2)) hx hb hr (fun t ht hW => ⟨⟨(X 2), (), rfl, rfl, by rw [ht]; exact hP, va_K.moved hW.alike hK, hD⟩, hS.F ht⟩) hS.2.2 d_M_breaks_34
    ·
      have hf := wk_iff hc1 hf
      refine lv_iload_n hx hb d_M_breaks_9 rfl (lv_at hl 2 rfl) ?_
      refine lv_aload_n hx hb d_M_breaks_10 rfl (lv_at hl 0 rfl) ?_
      refine lv_iload_n hx hb d_M_breaks_11 rfl (lv_at hl 3 rfl) ?_
      have hPc := hP.sub (ws' := (mw_W h q g I A)) [0, 1, 2, 3, 4, 5, 6, 7, 8, 9, 10, 11, 12, 13, 14, 15, 16, 17, 18, 19, 20] rfl
      have hDc := hD.sub (ws' := (mw_W h q g I A)) [0, 1, 2, 3, 4, 5, 6, 7, 8, 9, 10, 11, 12, 13, 14, 15, 16, 17, 18, 19, 20] (by decide) rfl
      have hKc := hK.sub (tys' := (mw_T g)) [0, 1, 2, 3, 4, 5, 6, 7, 8, 9, 10, 11, 12, 13, 14, 15, 16, 17, 18, 19] rfl
      have hFc := va_free (wc := (mw_W h q g I A)) hD hS hA [0, 1, 2, 3, 4, 5, 6, 7, 8, 9, 10, 11, 12, 13, 14, 15, 16, 17, 18, 19, 20] rfl
      cases hg1 : f_M_charAt I A (X 3) with
      | none => rw [hg1] at hf; cases hf
      | some z1 =>
        obtain ⟨r1, I1, A1⟩ := z1
        rw [hg1] at hf
        dsimp only [Option.bind_some] at hf
        refine va_calli (va_runV (As := [.int (X 3)]) (rest := [.int (X 2)]) ⟨hx, hb, hml, hown, hts⟩ (cm_M_charAt l dC dI h q g _ I A (X 3) r1 I1 A1 hg1) (cwV 1 hts (gd_v lk_51 lk_52 lk_53 lk_46 lk_50) rfl rfl rfl (by decide +kernel) ⟨Nat.le_of_ble_eq_true rfl, Nat.le_of_ble_eq_true rfl⟩) ⟨fun a U g mk q => by obtain ⟨q0, q1, qP, qK, qD⟩ := q; exact ⟨q0, q1, qP, va_K.moved (u := U) (U := U.calling g mk a) (Vm.Alike.refl U.vm) qK, qD⟩, va_recv (ci := 4) (q0 := 0) hK hP rfl rfl, fun U hU hW => ⟨rfl, by rw [hU], by rw [hU]; exact hPc, va_K.moved hW.alike hKc, hDc.weaken (fun _ _ _ _ => trivial)⟩⟩ rfl rfl hl.1 rfl (lv_room (Nat.le_of_ble_eq_true rfl)) d_M_breaks_12 ⟨Nat.le_of_ble_eq_true rfl, Nat.le_of_ble_eq_true rfl⟩) hS (fun q _ h => hFc q h) hFc (fun r9 u t H1 locs ht hvm hw hB hz1 hk1 hS => ?_)
        obtain ⟨hP1, hK1, hD1⟩ := hB
        rw [ht] at hP1
        rw [hw]
        obtain ⟨hP, hD⟩ := va_join (wr := []) (w1 := (mw_W h q g I1 A1)) hP hD [0, 1, 2, 3, 4, 5, 6, 7, 8, 9, 10, 11, 12, 13, 14, 15, 16, 17, 18, 19, 20] [] rfl rfl (by decide) (by decide) hk1 hFc hP1 hD1
        generalize H1 = H at hP hS ⊢
        have hP : va_P (dC, dI) vwCl (mw_W h q g I1 A1) H := hP
        have hD : va_D B9 (mw_W h q g I1 A1) := hD
        refine lv_bipush (v := 10) hx hb d_M_breaks_15 (by decide) ?_
        refine lv_icmp_ne (tgt := 24) hx hb d_M_breaks_17 (by decide) (fun hc2 => ?_) (fun hc2 => ?_)
        ·
          have hf := wk_iff hc2 hf
          refine lv_iconst (v := 0) hx hb d_M_breaks_24 (by decide) ?_
          exact blk25 rc hrc4 I1 A1 X 0 (X 2) _ _ _ hf (lv_sub hl [0, 1, 2, 3] rfl) hP hD hS
        ·
          have hf := wk_ift hc2 hf
          refine lv_iconst (v := 1) hx hb d_M_breaks_20 (by decide) ?_
          refine lv_goto (tgt := 25) hx hb d_M_breaks_21 (by decide) ?_
          exact blk25 rc hrc4 I1 A1 X 1 (X 2) _ _ _ hf (lv_sub hl [0, 1, 2, 3] rfl) hP hD hS
  have key : ∀ n : Nat, (∀ (I : MI) (A : MA) (X : Nat → Int32) (ls : Array Slot) (H : Heap) (locs : List Loc), f_M_breaks_go n 4 I A X = some (r, I', A') → lv_has ls 4 [(0, .ref h), (1, .int (X 1)), (2, .int (X 2)), (3, .int (X 3))] → va_P (dC, dI) vwCl (mw_W h q g I A) H → va_D B9 (mw_W h q g I A) → va_S B9 s.heap H locs → W p l e (headSpec w_M_breaks ({ frames := 1, cells := 0, slots := 0, locals := 21 })).room s m ([.ref h, .int k1] : List Value).toArray below meth c H locs 0 0 (MQ below (va_Qi (fun (r9 : Int32) (_ : Unit) => r9 = r) (fun (_ : Unit) t => va_P (dC, dI) vwCl (mw_W h q g I' A') t.heap ∧ va_K (dC, dI) vwCl (mw_T g) t ∧ va_D B9 (mw_W h q g I' A')) B9) ([.ref h, .int k1] : List Value).toArray s 0 0 B9) (F0 m 4 ls [])) := by
    intro n
    induction n with
    | zero => exact fun I A X ls H locs hf => (by cases hf)
    | succ n ih =>
      have ih4 := ih
      exact stp4 (f_M_breaks_go n) ih4
  unfold f_M_breaks f_M_breaks_e at hf
  have hrc4 := key wk_FUEL
  refine lv_iconst (v := 0) hx hb d_M_breaks_0 (by decide) ?_
  refine lv_istore_n (lv' := [(2, .int 0), (0, .ref h), (1, .int k1)]) hx hb d_M_breaks_1 rfl hl (by decide) rfl (fun ls hl => ?_)
  have hl : lv_has ls 4 [(2, .int 0), (0, .ref h), (1, .int k1)] := hl
  refine lv_iconst (v := 0) hx hb d_M_breaks_2 (by decide) ?_
  refine lv_istore_n (lv' := [(3, .int 0), (2, .int 0), (0, .ref h), (1, .int k1)]) hx hb d_M_breaks_3 rfl hl (by decide) rfl (fun ls hl => ?_)
  have hl : lv_has ls 4 [(3, .int 0), (2, .int 0), (0, .ref h), (1, .int k1)] := hl
  exact hrc4 I A (upd (upd (upd (fun _ => 0) 1 k1) 2 0) 3 0) _ _ _ hf (lv_sub hl [2, 3, 1, 0] rfl) hP hD hS

set_option maxHeartbeats 8000000 in
set_option maxRecDepth 100000 in
theorem cm_M_isTimes (l : Launch) (dC : Nat → ClassId) (dI : Nat → Nat → Nat) (sz : Nat) (k0 : Int32) (r : Int32) (hf : f_M_isTimes k0 = some r) : Met l y_M_isTimes w_M_isTimes ({ frames := 0, cells := 0, slots := 0, locals := 0 }) (va_Pc [.int k0] (fun U => U.heap.size = sz ∧ va_P (dC, dI) vwCl [] U.heap ∧ va_K (dC, dI) vwCl [] U ∧ va_D (fun _ => True) [])) (va_Qi (fun (r9 : Int32) (_ : Unit) => r9 = r) (fun (_ : Unit) t => va_P (dC, dI) vwCl [] t.heap ∧ va_K (dC, dI) vwCl [] t ∧ va_D (va_A [] sz) []) (va_A [] sz)) 0 0 (va_A [] sz) := by
  refine Met.ofW (cc := prog_6_method_22_code) (maxL := 1) (ret := (some .boolean)) (by decide) rfl ?_
  intro p e s m args below meth c s₁ B hml hv
  obtain ⟨rfl, hsz, hP, hK, hD0⟩ := hv
  have hx := B.exec
  have hb := B.bytes
  have hr := B.returns
  have hts := atoms_spec (ws := w_M_isTimes) B.pre
  have hown : s.vm.findClass R_M = some m.cls := findClass_of_methodNamed B.named
  have hlocks := B.notSynchronized
  subst hsz
  have hD := hD0.self (sz := s.heap.size)
  generalize hAe : va_A [] s.heap.size = B9 at hD ⊢
  have hA : ∀ q : Nat, s.heap.size ≤ q → B9 q := fun q h => by rw [← hAe]; exact Or.inr h
  clear hAe
  have hS : va_S B9 s.heap s.heap [] := va_S.rf
  have hl := lv_entry ([.int k0]) (n := 1) (Nat.le_of_ble_eq_true rfl)
  rw [lg_entry_eq]
  generalize (lg_sl ([.int k0]) ++ List.replicate (1 - (lg_sl ([.int k0])).length) Slot.unset).toArray = ls at hl ⊢
  have hl : lv_has ls 1 [(0, .int k0)] := hl
  have blk23 : ∀ (X : Nat → Int32) (s0 : Int32) (ls : Array Slot) (H : Heap) (locs : List Loc), f_M_isTimes_23 X s0 = some r → lv_has ls 1 [(0, .int (X 0))] → va_P (dC, dI) vwCl [] H → va_D B9 [] → va_S B9 s.heap H locs → W p l e (headSpec w_M_isTimes ({ frames := 0, cells := 0, slots := 0, locals := 0 })).room s m ([.int k0] : List Value).toArray below meth c H locs 0 0 (MQ below (va_Qi (fun (r9 : Int32) (_ : Unit) => r9 = r) (fun (_ : Unit) t => va_P (dC, dI) vwCl [] t.heap ∧ va_K (dC, dI) vwCl [] t ∧ va_D B9 []) B9) ([.int k0] : List Value).toArray s 0 0 B9) (F0 m 23 ls [.int s0]) := by
    intro X s0 ls H locs hf hl hP hD hS
    unfold f_M_isTimes_23 at hf
    obtain ⟨hn9, hf⟩ := wk_if hf
    have e1 := Option.some.inj hf
    subst e1
    exact W.zret (v := s0) hx hb hr (congrArg Value.int hn9) (fun t ht hW => ⟨⟨s0, (), rfl, rfl, by rw [ht]; exact hP, va_K.moved hW.alike hK, hD⟩, hS.F ht⟩) hS.2.2 d_M_isTimes_23
  have blk18 : ∀ (X : Nat → Int32) (ls : Array Slot) (H : Heap) (locs : List Loc), f_M_isTimes_18 X = some r → lv_has ls 1 [(0, .int (X 0))] → va_P (dC, dI) vwCl [] H → va_D B9 [] → va_S B9 s.heap H locs → W p l e (headSpec w_M_isTimes ({ frames := 0, cells := 0, slots := 0, locals := 0 })).room s m ([.int k0] : List Value).toArray below meth c H locs 0 0 (MQ below (va_Qi (fun (r9 : Int32) (_ : Unit) => r9 = r) (fun (_ : Unit) t => va_P (dC, dI) vwCl [] t.heap ∧ va_K (dC, dI) vwCl [] t ∧ va_D B9 []) B9) ([.int k0] : List Value).toArray s 0 0 B9) (F0 m 18 ls []) := by
    intro X ls H locs hf hl hP hD hS
    unfold f_M_isTimes_18 at hf
    refine lv_iconst (v := 1) hx hb d_M_isTimes_18 (by decide) ?_
    refine lv_goto (tgt := 23) hx hb d_M_isTimes_19 (by decide) ?_
    exact blk23 X 1 _ _ _ hf (lv_sub hl [0] rfl) hP hD hS
  unfold f_M_isTimes at hf
  refine lv_iload_n hx hb d_M_isTimes_0 rfl (lv_at hl 0 rfl) ?_
  refine lv_bipush (v := 42) hx hb d_M_isTimes_1 (by decide) ?_
  refine lv_icmp_eq (tgt := 18) hx hb d_M_isTimes_3 (by decide) (fun hc1 => ?_) (fun hc1 => ?_)
  ·
    have hf := wk_ift hc1 hf
    exact blk18 (upd (fun _ => 0) 0 k0) _ _ _ hf (lv_sub hl [0] rfl) hP hD hS
  ·
    have hf := wk_iff hc1 hf
    refine lv_iload_n hx hb d_M_isTimes_6 rfl (lv_at hl 0 rfl) ?_
    refine lv_bipush (v := 43) hx hb d_M_isTimes_7 (by decide) ?_
    refine lv_icmp_eq (tgt := 18) hx hb d_M_isTimes_9 (by decide) (fun hc2 => ?_) (fun hc2 => ?_)
    ·
      have hf := wk_ift hc2 hf
      exact blk18 (upd (fun _ => 0) 0 k0) _ _ _ hf (lv_sub hl [0] rfl) hP hD hS
    ·
      have hf := wk_iff hc2 hf
      refine lv_iload_n hx hb d_M_isTimes_12 rfl (lv_at hl 0 rfl) ?_
      refine lv_bipush (v := 63) hx hb d_M_isTimes_13 (by decide) ?_
      refine lv_icmp_ne (tgt := 22) hx hb d_M_isTimes_15 (by decide) (fun hc3 => ?_) (fun hc3 => ?_)
      ·
        have hf := wk_iff hc3 hf
        refine lv_iconst (v := 0) hx hb d_M_isTimes_22 (by decide) ?_
        exact blk23 (upd (fun _ => 0) 0 k0) 0 _ _ _ hf (lv_sub hl [0] rfl) hP hD hS
      ·
        have hf := wk_ift hc3 hf
        exact blk18 (upd (fun _ => 0) 0 k0) _ _ _ hf (lv_sub hl [0] rfl) hP hD hS

set_option maxHeartbeats 8000000 in
set_option maxRecDepth 100000 in
theorem cm_M_node (l : Launch) (dC : Nat → ClassId) (dI : Nat → Nat → Nat) (h : Nat) (q : Nat → Nat) (g : Nat → ClassId) (sz : Nat) (I : MI) (A : MA) (k1 k2 k3 : Int32) (r : Int32) (I' : MI) (A' : MA) (hf : f_M_node I A k1 k2 k3 = some (r, I', A')) : Met l y_M_node w_M_node ({ frames := 0, cells := 0, slots := 0, locals := 0 }) (va_Pc [.ref h, .int k1, .int k2, .int k3] (fun U => U.heap.size = sz ∧ va_P (dC, dI) vwCl (mw_W h q g I A) U.heap ∧ va_K (dC, dI) vwCl (mw_T g) U ∧ va_D (fun _ => True) (mw_W h q g I A))) (va_Qi (fun (r9 : Int32) (_ : Unit) => r9 = r) (fun (_ : Unit) t => va_P (dC, dI) vwCl (mw_W h q g I' A') t.heap ∧ va_K (dC, dI) vwCl (mw_T g) t ∧ va_D (va_A (mw_W h q g I A) sz) (mw_W h q g I' A')) (va_A (mw_W h q g I A) sz)) 0 0 (va_A (mw_W h q g I A) sz) := by
  refine Met.ofW (cc := prog_6_method_24_code) (maxL := 4) (ret := (some .int)) (by decide) rfl ?_
  intro p e s m args below meth c s₁ B hml hv
  obtain ⟨rfl, hsz, hP, hK, hD0⟩ := hv
  have hx := B.exec
  have hb := B.bytes
  have hr := B.returns
  have hts := atoms_spec (ws := w_M_node) B.pre
  have hown : s.vm.findClass R_M = some m.cls := findClass_of_methodNamed B.named
  have hlocks := B.notSynchronized
  subst hsz
  have hD := hD0.self (sz := s.heap.size)
  generalize hAe : va_A (mw_W h q g I A) s.heap.size = B9 at hD ⊢
  have hA : ∀ q : Nat, s.heap.size ≤ q → B9 q := fun q h => by rw [← hAe]; exact Or.inr h
  clear hAe
  have hS : va_S B9 s.heap s.heap [] := va_S.rf
  have hl := lv_entry ([.ref h, .int k1, .int k2, .int k3]) (n := 4) (Nat.le_of_ble_eq_true rfl)
  rw [lg_entry_eq]
  generalize (lg_sl ([.ref h, .int k1, .int k2, .int k3]) ++ List.replicate (4 - (lg_sl ([.ref h, .int k1, .int k2, .int k3])).length) Slot.unset).toArray = ls at hl ⊢
  have hl : lv_has ls 4 [(0, .ref h), (1, .int k1), (2, .int k2), (3, .int k3)] := hl
  unfold f_M_node at hf
  refine lv_aload_n hx hb d_M_node_0 rfl (lv_at hl 0 rfl) ?_
  refine va_get (D := (dC, dI)) (ci := 4) (v := .ref (q 18)) (C := R_M) (T := F_M) (N := 38) hx hb hts (fun w h => List.mem_cons_of_mem _ (in_M w h)) hown hK hP 0 rfl rfl 18 (by decide) (hts _ (List.mem_cons_of_mem _ lk_82)) (fun _ h9 => h9) rfl d_M_node_1 ?_
  refine lv_aload_n hx hb d_M_node_4 rfl (lv_at hl 0 rfl) ?_
  refine va_get (D := (dC, dI)) (ci := 4) (v := .int (I 17)) (C := R_M) (T := F_M) (N := 38) hx hb hts (fun w h => List.mem_cons_of_mem _ (in_M w h)) hown hK hP 0 rfl rfl 17 (by decide) (hts _ (List.mem_cons_of_mem _ lk_83)) (fun _ h9 => h9) rfl d_M_node_5 ?_
  refine lv_iload_n hx hb d_M_node_8 rfl (lv_at hl 1 rfl) ?_
  obtain ⟨hc1, hf⟩ := wk_if hf
  refine va_iast hx hb hK hP hD hS 8 7 rfl rfl (wk_inb_ok hc1) d_M_node_9 (fun H locs hP hD hS => ?_)
  obtain ⟨A1, hA1, hf⟩ := wk_letE hf
  have hP : va_P (dC, dI) vwCl (mw_W h q g I A1) H := by rw [hA1]; exact hP
  have hD : va_D B9 (mw_W h q g I A1) := by rw [hA1]; exact hD
  clear hA1
  refine lv_aload_n hx hb d_M_node_10 rfl (lv_at hl 0 rfl) ?_
  refine va_get (D := (dC, dI)) (ci := 4) (v := .ref (q 19)) (C := R_M) (T := F_M) (N := 38) hx hb hts (fun w h => List.mem_cons_of_mem _ (in_M w h)) hown hK hP 0 rfl rfl 19 (by decide) (hts _ (List.mem_cons_of_mem _ lk_84)) (fun _ h9 => h9) rfl d_M_node_11 ?_
  refine lv_aload_n hx hb d_M_node_14 rfl (lv_at hl 0 rfl) ?_
  refine va_get (D := (dC, dI)) (ci := 4) (v := .int (I 17)) (C := R_M) (T := F_M) (N := 38) hx hb hts (fun w h => List.mem_cons_of_mem _ (in_M w h)) hown hK hP 0 rfl rfl 17 (by decide) (hts _ (List.mem_cons_of_mem _ lk_83)) (fun _ h9 => h9) rfl d_M_node_15 ?_
  refine lv_iload_n hx hb d_M_node_18 rfl (lv_at hl 2 rfl) ?_
  obtain ⟨hc2, hf⟩ := wk_if hf
  refine va_iast hx hb hK hP hD hS 9 8 rfl rfl (wk_inb_ok hc2) d_M_node_19 (fun H locs hP hD hS => ?_)
  obtain ⟨A2, hA2, hf⟩ := wk_letE hf
  have hP : va_P (dC, dI) vwCl (mw_W h q g I A2) H := by rw [hA2]; exact hP
  have hD : va_D B9 (mw_W h q g I A2) := by rw [hA2]; exact hD
  clear hA2
  refine lv_aload_n hx hb d_M_node_20 rfl (lv_at hl 0 rfl) ?_
  refine va_get (D := (dC, dI)) (ci := 4) (v := .ref (q 20)) (C := R_M) (T := F_M) (N := 38) hx hb hts (fun w h => List.mem_cons_of_mem _ (in_M w h)) hown hK hP 0 rfl rfl 20 (by decide) (hts _ (List.mem_cons_of_mem _ lk_85)) (fun _ h9 => h9) rfl d_M_node_21 ?_
  refine lv_aload_n hx hb d_M_node_24 rfl (lv_at hl 0 rfl) ?_
  refine va_get (D := (dC, dI)) (ci := 4) (v := .int (I 17)) (C := R_M) (T := F_M) (N := 38) hx hb hts (fun w h => List.mem_cons_of_mem _ (in_M w h)) hown hK hP 0 rfl rfl 17 (by decide) (hts _ (List.mem_cons_of_mem _ lk_83)) (fun _ h9 => h9) rfl d_M_node_25 ?_
  refine lv_iload_n hx hb d_M_node_28 rfl (lv_at hl 3 rfl) ?_
  obtain ⟨hc3, hf⟩ := wk_if hf
  refine va_iast hx hb hK hP hD hS 10 9 rfl rfl (wk_inb_ok hc3) d_M_node_29 (fun H locs hP hD hS => ?_)
  obtain ⟨A3, hA3, hf⟩ := wk_letE hf
  have hP : va_P (dC, dI) vwCl (mw_W h q g I A3) H := by rw [hA3]; exact hP
  have hD : va_D B9 (mw_W h q g I A3) := by rw [hA3]; exact hD
  clear hA3
  refine lv_aload_n hx hb d_M_node_30 rfl (lv_at hl 0 rfl) ?_
  refine va_get (D := (dC, dI)) (ci := 4) (v := .ref (q 21)) (C := R_M) (T := F_M) (N := 38) hx hb hts (fun w h => List.mem_cons_of_mem _ (in_M w h)) hown hK hP 0 rfl rfl 21 (by decide) (hts _ (List.mem_cons_of_mem _ lk_64)) (fun _ h9 => h9) rfl d_M_node_31 ?_
  refine lv_aload_n hx hb d_M_node_34 rfl (lv_at hl 0 rfl) ?_
  refine va_get (D := (dC, dI)) (ci := 4) (v := .int (I 17)) (C := R_M) (T := F_M) (N := 38) hx hb hts (fun w h => List.mem_cons_of_mem _ (in_M w h)) hown hK hP 0 rfl rfl 17 (by decide) (hts _ (List.mem_cons_of_mem _ lk_83)) (fun _ h9 => h9) rfl d_M_node_35 ?_
  refine lv_iconst (v := (-1)) hx hb d_M_node_38 (by decide) ?_
  obtain ⟨hc4, hf⟩ := wk_if hf
  refine va_iast hx hb hK hP hD hS 11 10 rfl rfl (wk_inb_ok hc4) d_M_node_39 (fun H locs hP hD hS => ?_)
  obtain ⟨A4, hA4, hf⟩ := wk_letE hf
  have hP : va_P (dC, dI) vwCl (mw_W h q g I A4) H := by rw [hA4]; exact hP
  have hD : va_D B9 (mw_W h q g I A4) := by rw [hA4]; exact hD
  clear hA4
  refine lv_aload_n hx hb d_M_node_40 rfl (lv_at hl 0 rfl) ?_
  refine va_get (D := (dC, dI)) (ci := 4) (v := .ref (q 22)) (C := R_M) (T := F_M) (N := 38) hx hb hts (fun w h => List.mem_cons_of_mem _ (in_M w h)) hown hK hP 0 rfl rfl 22 (by decide) (hts _ (List.mem_cons_of_mem _ lk_65)) (fun _ h9 => h9) rfl d_M_node_41 ?_
  refine lv_aload_n hx hb d_M_node_44 rfl (lv_at hl 0 rfl) ?_
  refine va_get (D := (dC, dI)) (ci := 4) (v := .int (I 17)) (C := R_M) (T := F_M) (N := 38) hx hb hts (fun w h => List.mem_cons_of_mem _ (in_M w h)) hown hK hP 0 rfl rfl 17 (by decide) (hts _ (List.mem_cons_of_mem _ lk_83)) (fun _ h9 => h9) rfl d_M_node_45 ?_
  refine lv_iconst (v := (-1)) hx hb d_M_node_48 (by decide) ?_
  obtain ⟨hc5, hf⟩ := wk_if hf
  refine va_iast hx hb hK hP hD hS 12 11 rfl rfl (wk_inb_ok hc5) d_M_node_49 (fun H locs hP hD hS => ?_)
  obtain ⟨A5, hA5, hf⟩ := wk_letE hf
  have hP : va_P (dC, dI) vwCl (mw_W h q g I A5) H := by rw [hA5]; exact hP
  have hD : va_D B9 (mw_W h q g I A5) := by rw [hA5]; exact hD
  clear hA5
  refine lv_aload_n hx hb d_M_node_50 rfl (lv_at hl 0 rfl) ?_
  refine lv_dup hx hb d_M_node_51 rfl ?_
  refine va_get (D := (dC, dI)) (ci := 4) (v := .int (I 17)) (C := R_M) (T := F_M) (N := 38) hx hb hts (fun w h => List.mem_cons_of_mem _ (in_M w h)) hown hK hP 0 rfl rfl 17 (by decide) (hts _ (List.mem_cons_of_mem _ lk_83)) (fun _ h9 => h9) rfl d_M_node_52 ?_
  refine lv_iconst (v := 1) hx hb d_M_node_55 (by decide) ?_
  refine lv_iadd hx hb d_M_node_56 ?_
  refine va_put (D := (dC, dI)) (ci := 4) (v := .int ((I 17) + 1)) (ty := .int) (C := R_M) (T := F_M) (N := 38) hx hb hts (fun w h => List.mem_cons_of_mem _ (in_M w h)) t_M tk_M n_M hown hK hP hD hS 0 rfl rfl 17 (by decide) (hts _ (List.mem_cons_of_mem _ lk_83)) (fun _ h9 => h9) rfl (by decide +kernel) rfl rfl (Nat.le_of_ble_eq_true rfl) d_M_node_57 (fun H locs hP hD hS => ?_)
  obtain ⟨I6, hI6, hf⟩ := wk_letE hf
  have hP : va_P (dC, dI) vwCl (mw_W h q g I6 A5) H := by rw [hI6]; exact hP
  have hD : va_D B9 (mw_W h q g I6 A5) := by rw [hI6]; exact hD
  clear hI6
  refine lv_aload_n hx hb d_M_node_60 rfl (lv_at hl 0 rfl) ?_
  refine va_get (D := (dC, dI)) (ci := 4) (v := .int (I6 17)) (C := R_M) (T := F_M) (N := 38) hx hb hts (fun w h => List.mem_cons_of_mem _ (in_M w h)) hown hK hP 0 rfl rfl 17 (by decide) (hts _ (List.mem_cons_of_mem _ lk_83)) (fun _ h9 => h9) rfl d_M_node_61 ?_
  refine lv_iconst (v := 1) hx hb d_M_node_64 (by decide) ?_
  refine lv_isub hx hb d_M_node_65 ?_
  obtain ⟨e1, e2, e3⟩ := wk_inj hf
  subst e1
  subst e2
  subst e3
  exact W.iret (v := ((I6 17) - 1)) hx hb hr (fun t ht hW => ⟨⟨((I6 17) - 1), (), rfl, rfl, by rw [ht]; exact hP, va_K.moved hW.alike hK, hD⟩, hS.F ht⟩) hS.2.2 d_M_node_66

set_option maxHeartbeats 8000000 in
set_option maxRecDepth 100000 in
theorem cm_M_single (l : Launch) (dC : Nat → ClassId) (dI : Nat → Nat → Nat) (h : Nat) (q : Nat → Nat) (g : Nat → ClassId) (sz : Nat) (I : MI) (A : MA) (k1 k2 k3 : Int32) (r : Int32) (I' : MI) (A' : MA) (hf : f_M_single I A k1 k2 k3 = some (r, I', A')) : Met l y_M_single w_M_single ({ frames := 1, cells := 0, slots := 0, locals := 23 }) (va_Pc [.ref h, .int k1, .int k2, .int k3] (fun U => U.heap.size = sz ∧ va_P (dC, dI) vwCl (mw_W h q g I A) U.heap ∧ va_K (dC, dI) vwCl (mw_T g) U ∧ va_D (fun _ => True) (mw_W h q g I A))) (va_Qi (fun (r9 : Int32) (_ : Unit) => r9 = r) (fun (_ : Unit) t => va_P (dC, dI) vwCl (mw_W h q g I' A') t.heap ∧ va_K (dC, dI) vwCl (mw_T g) t ∧ va_D (va_A (mw_W h q g I A) sz) (mw_W h q g I' A')) (va_A (mw_W h q g I A) sz)) 0 0 (va_A (mw_W h q g I A) sz) := by
  refine Met.ofW (cc := prog_6_method_27_code) (maxL := 6) (ret := (some .int)) (by decide) rfl ?_
  intro p e s m args below meth c s₁ B hml hv
  obtain ⟨rfl, hsz, hP, hK, hD0⟩ := hv
  have hx := B.exec
  have hb := B.bytes
  have hr := B.returns
  have hts := atoms_spec (ws := w_M_single) B.pre
  have hown : s.vm.findClass R_M = some m.cls := findClass_of_methodNamed B.named
  have hlocks := B.notSynchronized
  subst hsz
  have hD := hD0.self (sz := s.heap.size)
  generalize hAe : va_A (mw_W h q g I A) s.heap.size = B9 at hD ⊢
  have hA : ∀ q : Nat, s.heap.size ≤ q → B9 q := fun q h => by rw [← hAe]; exact Or.inr h
  clear hAe
  have hS : va_S B9 s.heap s.heap [] := va_S.rf
  have hl := lv_entry ([.ref h, .int k1, .int k2, .int k3]) (n := 6) (Nat.le_of_ble_eq_true rfl)
  rw [lg_entry_eq]
  generalize (lg_sl ([.ref h, .int k1, .int k2, .int k3]) ++ List.replicate (6 - (lg_sl ([.ref h, .int k1, .int k2, .int k3])).length) Slot.unset).toArray = ls at hl ⊢
  have hl : lv_has ls 6 [(0, .ref h), (1, .int k1), (2, .int k2), (3, .int k3)] := hl
  unfold f_M_single at hf
  refine lv_aload_n hx hb d_M_single_0 rfl (lv_at hl 0 rfl) ?_
  refine lv_iload_n hx hb d_M_single_1 rfl (lv_at hl 1 rfl) ?_
  refine lv_iload_n hx hb d_M_single_2 rfl (lv_at hl 2 rfl) ?_
  refine lv_iload_n hx hb d_M_single_3 rfl (lv_at hl 3 rfl) ?_
  have hPc := hP.sub (ws' := (mw_W h q g I A)) [0, 1, 2, 3, 4, 5, 6, 7, 8, 9, 10, 11, 12, 13, 14, 15, 16, 17, 18, 19, 20] rfl
  have hDc := hD.sub (ws' := (mw_W h q g I A)) [0, 1, 2, 3, 4, 5, 6, 7, 8, 9, 10, 11, 12, 13, 14, 15, 16, 17, 18, 19, 20] (by decide) rfl
  have hKc := hK.sub (tys' := (mw_T g)) [0, 1, 2, 3, 4, 5, 6, 7, 8, 9, 10, 11, 12, 13, 14, 15, 16, 17, 18, 19] rfl
  have hFc := va_free (wc := (mw_W h q g I A)) hD hS hA [0, 1, 2, 3, 4, 5, 6, 7, 8, 9, 10, 11, 12, 13, 14, 15, 16, 17, 18, 19, 20] rfl
  cases hg1 : f_M_node I A k1 k2 k3 with
  | none => rw [hg1] at hf; cases hf
  | some z1 =>
    obtain ⟨r1, I1, A1⟩ := z1
    rw [hg1] at hf
    dsimp only [Option.bind_some] at hf
    refine va_calli (va_runV (As := [.int k1, .int k2, .int k3]) (rest := []) ⟨hx, hb, hml, hown, hts⟩ (cm_M_node l dC dI h q g _ I A k1 k2 k3 r1 I1 A1 hg1) (cwV 3 hts (gd_v lk_87 lk_88 lk_89 lk_46 lk_86) rfl rfl rfl (by decide +kernel) ⟨Nat.le_of_ble_eq_true rfl, Nat.le_of_ble_eq_true rfl⟩) ⟨fun a U g mk q => by obtain ⟨q0, q1, qP, qK, qD⟩ := q; exact ⟨q0, q1, qP, va_K.moved (u := U) (U := U.calling g mk a) (Vm.Alike.refl U.vm) qK, qD⟩, va_recv (ci := 4) (q0 := 0) hK hP rfl rfl, fun U hU hW => ⟨rfl, by rw [hU], by rw [hU]; exact hPc, va_K.moved hW.alike hKc, hDc.weaken (fun _ _ _ _ => trivial)⟩⟩ rfl rfl hl.1 rfl (lv_room (Nat.le_of_ble_eq_true rfl)) d_M_single_4 ⟨Nat.le_of_ble_eq_true rfl, Nat.le_of_ble_eq_true rfl⟩) hS (fun q _ h => hFc q h) hFc (fun r9 u t H1 locs ht hvm hw hB hz1 hk1 hS => ?_)
    obtain ⟨hP1, hK1, hD1⟩ := hB
    rw [ht] at hP1
    rw [hw]
    obtain ⟨hP, hD⟩ := va_join (wr := []) (w1 := (mw_W h q g I1 A1)) hP hD [0, 1, 2, 3, 4, 5, 6, 7, 8, 9, 10, 11, 12, 13, 14, 15, 16, 17, 18, 19, 20] [] rfl rfl (by decide) (by decide) hk1 hFc hP1 hD1
    generalize H1 = H at hP hS ⊢
    have hP : va_P (dC, dI) vwCl (mw_W h q g I1 A1) H := hP
    have hD : va_D B9 (mw_W h q g I1 A1) := hD
    refine lv_istore (lv' := [(4, .int r1), (0, .ref h), (1, .int k1), (2, .int k2), (3, .int k3)]) hx hb d_M_single_7 hl (by decide) rfl (fun ls hl => ?_)
    have hl : lv_has ls 6 [(4, .int r1), (0, .ref h), (1, .int k1), (2, .int k2), (3, .int k3)] := hl
    refine lv_aload_n hx hb d_M_single_9 rfl (lv_at hl 1 rfl) ?_
    refine lv_iconst (v := 0) hx hb d_M_single_10 (by decide) ?_
    refine lv_iconst (v := 0) hx hb d_M_single_11 (by decide) ?_
    refine lv_iconst (v := 0) hx hb d_M_single_12 (by decide) ?_
    have hPc := hP.sub (ws' := (mw_W h q g I1 A1)) [0, 1, 2, 3, 4, 5, 6, 7, 8, 9, 10, 11, 12, 13, 14, 15, 16, 17, 18, 19, 20] rfl
    have hDc := hD.sub (ws' := (mw_W h q g I1 A1)) [0, 1, 2, 3, 4, 5, 6, 7, 8, 9, 10, 11, 12, 13, 14, 15, 16, 17, 18, 19, 20] (by decide) rfl
    have hKc := hK.sub (tys' := (mw_T g)) [0, 1, 2, 3, 4, 5, 6, 7, 8, 9, 10, 11, 12, 13, 14, 15, 16, 17, 18, 19] rfl
    have hFc := va_free (wc := (mw_W h q g I1 A1)) hD hS hA [0, 1, 2, 3, 4, 5, 6, 7, 8, 9, 10, 11, 12, 13, 14, 15, 16, 17, 18, 19, 20] rfl
    cases hg2 : f_M_node I1 A1 0 0 0 with
    | none => rw [hg2] at hf; cases hf
    | some z2 =>
      obtain ⟨r2, I2, A2⟩ := z2
      rw [hg2] at hf
      dsimp only [Option.bind_some] at hf
      refine va_calli (va_runV (As := [.int 0, .int 0, .int 0]) (rest := []) ⟨hx, hb, hml, hown, hts⟩ (cm_M_node l dC dI h q g _ I1 A1 0 0 0 r2 I2 A2 hg2) (cwV 3 hts (gd_v lk_87 lk_88 lk_89 lk_46 lk_86) rfl rfl rfl (by decide +kernel) ⟨Nat.le_of_ble_eq_true rfl, Nat.le_of_ble_eq_true rfl⟩) ⟨fun a U g mk q => by obtain ⟨q0, q1, qP, qK, qD⟩ := q; exact ⟨q0, q1, qP, va_K.moved (u := U) (U := U.calling g mk a) (Vm.Alike.refl U.vm) qK, qD⟩, va_recv (ci := 4) (q0 := 0) hK hP rfl rfl, fun U hU hW => ⟨rfl, by rw [hU], by rw [hU]; exact hPc, va_K.moved hW.alike hKc, hDc.weaken (fun _ _ _ _ => trivial)⟩⟩ rfl rfl hl.1 rfl (lv_room (Nat.le_of_ble_eq_true rfl)) d_M_single_13 ⟨Nat.le_of_ble_eq_true rfl, Nat.le_of_ble_eq_true rfl⟩) hS (fun q _ h => hFc q h) hFc (fun r9 u t H1 locs ht hvm hw hB hz1 hk1 hS => ?_)
      obtain ⟨hP1, hK1, hD1⟩ := hB
      rw [ht] at hP1
      rw [hw]
      obtain ⟨hP, hD⟩ := va_join (wr := []) (w1 := (mw_W h q g I2 A2)) hP hD [0, 1, 2, 3, 4, 5, 6, 7, 8, 9, 10, 11, 12, 13, 14, 15, 16, 17, 18, 19, 20] [] rfl rfl (by decide) (by decide) hk1 hFc hP1 hD1
      generalize H1 = H at hP hS ⊢
      have hP : va_P (dC, dI) vwCl (mw_W h q g I2 A2) H := hP
      have hD : va_D B9 (mw_W h q g I2 A2) := hD
      refine lv_istore (lv' := [(5, .int r2), (4, .int r1), (0, .ref h), (1, .int k1), (2, .int k2), (3, .int k3)]) hx hb d_M_single_16 hl (by decide) rfl (fun ls hl => ?_)
      have hl : lv_has ls 6 [(5, .int r2), (4, .int r1), (0, .ref h), (1, .int k1), (2, .int k2), (3, .int k3)] := hl
      refine lv_aload_n hx hb d_M_single_18 rfl (lv_at hl 2 rfl) ?_
      refine lv_iload hx hb d_M_single_19 (lv_at hl 1 rfl) ?_
      refine lv_iload hx hb d_M_single_21 (lv_at hl 0 rfl) ?_
      have hPc := hP.sub (ws' := (mw_W h q g I2 A2)) [0, 1, 2, 3, 4, 5, 6, 7, 8, 9, 10, 11, 12, 13, 14, 15, 16, 17, 18, 19, 20] rfl
      have hDc := hD.sub (ws' := (mw_W h q g I2 A2)) [0, 1, 2, 3, 4, 5, 6, 7, 8, 9, 10, 11, 12, 13, 14, 15, 16, 17, 18, 19, 20] (by decide) rfl
      have hKc := hK.sub (tys' := (mw_T g)) [0, 1, 2, 3, 4, 5, 6, 7, 8, 9, 10, 11, 12, 13, 14, 15, 16, 17, 18, 19] rfl
      have hFc := va_free (wc := (mw_W h q g I2 A2)) hD hS hA [0, 1, 2, 3, 4, 5, 6, 7, 8, 9, 10, 11, 12, 13, 14, 15, 16, 17, 18, 19, 20] rfl
      cases hg3 : f_M_link I2 A2 r1 r2 with
      | none => rw [hg3] at hf; cases hf
      | some z3 =>
        obtain ⟨r3, I3, A3⟩ := z3
        rw [hg3] at hf
        dsimp only [Option.bind_some] at hf
        refine va_callv (va_runV (As := [.int r1, .int r2]) (rest := []) ⟨hx, hb, hml, hown, hts⟩ (cm_M_link l dC dI h q g _ I2 A2 r1 r2 r3 I3 A3 hg3) (cwV 2 hts (gd_v lk_67 lk_68 lk_69 lk_46 lk_66) rfl rfl rfl (by decide +kernel) ⟨Nat.le_of_ble_eq_true rfl, Nat.le_of_ble_eq_true rfl⟩) ⟨fun a U g mk q => by obtain ⟨q0, q1, qP, qK, qD⟩ := q; exact ⟨q0, q1, qP, va_K.moved (u := U) (U := U.calling g mk a) (Vm.Alike.refl U.vm) qK, qD⟩, va_recv (ci := 4) (q0 := 0) hK hP rfl rfl, fun U hU hW => ⟨rfl, by rw [hU], by rw [hU]; exact hPc, va_K.moved hW.alike hKc, hDc.weaken (fun _ _ _ _ => trivial)⟩⟩ rfl rfl hl.1 rfl (lv_room (Nat.le_of_ble_eq_true rfl)) d_M_single_23 ⟨Nat.le_of_ble_eq_true rfl, Nat.le_of_ble_eq_true rfl⟩) hS (fun q _ h => hFc q h) hFc (fun u t H1 locs ht hvm hw hB hz1 hk1 hS => ?_)
        obtain ⟨hP1, hK1, hD1⟩ := hB
        rw [ht] at hP1
        obtain ⟨hP, hD⟩ := va_join (wr := []) (w1 := (mw_W h q g I3 A3)) hP hD [0, 1, 2, 3, 4, 5, 6, 7, 8, 9, 10, 11, 12, 13, 14, 15, 16, 17, 18, 19, 20] [] rfl rfl (by decide) (by decide) hk1 hFc hP1 hD1
        generalize H1 = H at hP hS ⊢
        have hP : va_P (dC, dI) vwCl (mw_W h q g I3 A3) H := hP
        have hD : va_D B9 (mw_W h q g I3 A3) := hD
        refine lv_aload_n hx hb d_M_single_26 rfl (lv_at hl 2 rfl) ?_
        refine lv_iload hx hb d_M_single_27 (lv_at hl 1 rfl) ?_
        refine lv_iload hx hb d_M_single_29 (lv_at hl 0 rfl) ?_
        have hPc := hP.sub (ws' := (mw_W h q g I3 A3)) [0, 1, 2, 3, 4, 5, 6, 7, 8, 9, 10, 11, 12, 13, 14, 15, 16, 17, 18, 19, 20] rfl
        have hDc := hD.sub (ws' := (mw_W h q g I3 A3)) [0, 1, 2, 3, 4, 5, 6, 7, 8, 9, 10, 11, 12, 13, 14, 15, 16, 17, 18, 19, 20] (by decide) rfl
        have hKc := hK.sub (tys' := (mw_T g)) [0, 1, 2, 3, 4, 5, 6, 7, 8, 9, 10, 11, 12, 13, 14, 15, 16, 17, 18, 19] rfl
        have hFc := va_free (wc := (mw_W h q g I3 A3)) hD hS hA [0, 1, 2, 3, 4, 5, 6, 7, 8, 9, 10, 11, 12, 13, 14, 15, 16, 17, 18, 19, 20] rfl
        cases hg4 : f_M_piece I3 A3 r1 r2 with
        | none => rw [hg4] at hf; cases hf
        | some z4 =>
          obtain ⟨r4, I4, A4⟩ := z4
          rw [hg4] at hf
          dsimp only [Option.bind_some] at hf
          refine va_calli (va_runV (As := [.int r1, .int r2]) (rest := []) ⟨hx, hb, hml, hown, hts⟩ (cm_M_piece l dC dI h q g _ I3 A3 r1 r2 r4 I4 A4 hg4) (cwV 2 hts (gd_v lk_72 lk_73 lk_74 lk_46 lk_71) rfl rfl rfl (by decide +kernel) ⟨Nat.le_of_ble_eq_true rfl, Nat.le_of_ble_eq_true rfl⟩) ⟨fun a U g mk q => by obtain ⟨q0, q1, qP, qK, qD⟩ := q; exact ⟨q0, q1, qP, va_K.moved (u := U) (U := U.calling g mk a) (Vm.Alike.refl U.vm) qK, qD⟩, va_recv (ci := 4) (q0 := 0) hK hP rfl rfl, fun U hU hW => ⟨rfl, by rw [hU], by rw [hU]; exact hPc, va_K.moved hW.alike hKc, hDc.weaken (fun _ _ _ _ => trivial)⟩⟩ rfl rfl hl.1 rfl (lv_room (Nat.le_of_ble_eq_true rfl)) d_M_single_31 ⟨Nat.le_of_ble_eq_true rfl, Nat.le_of_ble_eq_true rfl⟩) hS (fun q _ h => hFc q h) hFc (fun r9 u t H1 locs ht hvm hw hB hz1 hk1 hS => ?_)
          obtain ⟨hP1, hK1, hD1⟩ := hB
          rw [ht] at hP1
          rw [hw]
          obtain ⟨hP, hD⟩ := va_join (wr := []) (w1 := (mw_W h q g I4 A4)) hP hD [0, 1, 2, 3, 4, 5, 6, 7, 8, 9, 10, 11, 12, 13, 14, 15, 16, 17, 18, 19, 20] [] rfl rfl (by decide) (by decide) hk1 hFc hP1 hD1
          generalize H1 = H at hP hS ⊢
          have hP : va_P (dC, dI) vwCl (mw_W h q g I4 A4) H := hP
          have hD : va_D B9 (mw_W h q g I4 A4) := hD
          obtain ⟨e1, e2, e3⟩ := wk_inj hf
          subst e1
          subst e2
          subst e3
          exact W.iret (v := r4) hx hb hr (fun t ht hW => ⟨⟨r4, (), rfl, rfl, by rw [ht]; exact hP, va_K.moved hW.alike hK, hD⟩, hS.F ht⟩) hS.2.2 d_M_single_34

set_option maxHeartbeats 8000000 in
set_option maxRecDepth 100000 in
theorem cm_M_newPart (l : Launch) (dC : Nat → ClassId) (dI : Nat → Nat → Nat) (h : Nat) (q : Nat → Nat) (g : Nat → ClassId) (sz : Nat) (I : MI) (A : MA) (k1 : Int32) (r : Int32) (I' : MI) (A' : MA) (hf : f_M_newPart I A k1 = some (r, I', A')) : Met l y_M_newPart w_M_newPart ({ frames := 2, cells := 0, slots := 0, locals := 44 }) (va_Pc [.ref h, .int k1] (fun U => U.heap.size = sz ∧ va_P (dC, dI) vwCl (mw_W h q g I A) U.heap ∧ va_K (dC, dI) vwCl (mw_T g) U ∧ va_D (fun _ => True) (mw_W h q g I A))) (va_Qv (fun (u : Unit) => u = u) (fun (_ : Unit) t => va_P (dC, dI) vwCl (mw_W h q g I' A') t.heap ∧ va_K (dC, dI) vwCl (mw_T g) t ∧ va_D (va_A (mw_W h q g I A) sz) (mw_W h q g I' A')) (va_A (mw_W h q g I A) sz)) 0 0 (va_A (mw_W h q g I A) sz) := by
  refine Met.ofW (cc := prog_6_method_34_code) (maxL := 3) (ret := none) (by decide) rfl ?_
  intro p e s m args below meth c s₁ B hml hv
  obtain ⟨rfl, hsz, hP, hK, hD0⟩ := hv
  have hx := B.exec
  have hb := B.bytes
  have hr := B.returns
  have hts := atoms_spec (ws := w_M_newPart) B.pre
  have hown : s.vm.findClass R_M = some m.cls := findClass_of_methodNamed B.named
  have hlocks := B.notSynchronized
  subst hsz
  have hD := hD0.self (sz := s.heap.size)
  generalize hAe : va_A (mw_W h q g I A) s.heap.size = B9 at hD ⊢
  have hA : ∀ q : Nat, s.heap.size ≤ q → B9 q := fun q h => by rw [← hAe]; exact Or.inr h
  clear hAe
  have hS : va_S B9 s.heap s.heap [] := va_S.rf
  have hl := lv_entry ([.ref h, .int k1]) (n := 3) (Nat.le_of_ble_eq_true rfl)
  rw [lg_entry_eq]
  generalize (lg_sl ([.ref h, .int k1]) ++ List.replicate (3 - (lg_sl ([.ref h, .int k1])).length) Slot.unset).toArray = ls at hl ⊢
  have hl : lv_has ls 3 [(0, .ref h), (1, .int k1)] := hl
  unfold f_M_newPart at hf
  refine lv_aload_n hx hb d_M_newPart_0 rfl (lv_at hl 0 rfl) ?_
  refine va_get (D := (dC, dI)) (ci := 4) (v := .int (I 28)) (C := R_M) (T := F_M) (N := 38) hx hb hts (fun w h => List.mem_cons_of_mem _ (in_M w h)) hown hK hP 0 rfl rfl 28 (by decide) (hts _ (List.mem_cons_of_mem _ lk_78)) (fun _ h9 => h9) rfl d_M_newPart_1 ?_
  refine lv_iconst (v := 1) hx hb d_M_newPart_4 (by decide) ?_
  refine lv_isub hx hb d_M_newPart_5 ?_
  refine lv_istore_n (lv' := [(2, .int ((I 28) - 1)), (0, .ref h), (1, .int k1)]) hx hb d_M_newPart_6 rfl hl (by decide) rfl (fun ls hl => ?_)
  have hl : lv_has ls 3 [(2, .int ((I 28) - 1)), (0, .ref h), (1, .int k1)] := hl
  refine lv_aload_n hx hb d_M_newPart_7 rfl (lv_at hl 1 rfl) ?_
  refine va_get (D := (dC, dI)) (ci := 4) (v := .ref (q 30)) (C := R_M) (T := F_M) (N := 38) hx hb hts (fun w h => List.mem_cons_of_mem _ (in_M w h)) hown hK hP 0 rfl rfl 30 (by decide) (hts _ (List.mem_cons_of_mem _ lk_94)) (fun _ h9 => h9) rfl d_M_newPart_8 ?_
  refine lv_iload_n hx hb d_M_newPart_11 rfl (lv_at hl 0 rfl) ?_
  refine lv_aload_n hx hb d_M_newPart_12 rfl (lv_at hl 1 rfl) ?_
  refine lv_aload_n hx hb d_M_newPart_13 rfl (lv_at hl 1 rfl) ?_
  refine va_get (D := (dC, dI)) (ci := 4) (v := .ref (q 30)) (C := R_M) (T := F_M) (N := 38) hx hb hts (fun w h => List.mem_cons_of_mem _ (in_M w h)) hown hK hP 0 rfl rfl 30 (by decide) (hts _ (List.mem_cons_of_mem _ lk_94)) (fun _ h9 => h9) rfl d_M_newPart_14 ?_
  refine lv_iload_n hx hb d_M_newPart_17 rfl (lv_at hl 0 rfl) ?_
  obtain ⟨hc1, hf⟩ := wk_if hf
  refine va_iald hx hb hK hP 16 15 rfl rfl (wk_inb_ok hc1) d_M_newPart_18 ?_
  refine lv_aload_n hx hb d_M_newPart_19 rfl (lv_at hl 1 rfl) ?_
  refine va_get (D := (dC, dI)) (ci := 4) (v := .ref (q 31)) (C := R_M) (T := F_M) (N := 38) hx hb hts (fun w h => List.mem_cons_of_mem _ (in_M w h)) hown hK hP 0 rfl rfl 31 (by decide) (hts _ (List.mem_cons_of_mem _ lk_95)) (fun _ h9 => h9) rfl d_M_newPart_20 ?_
  refine lv_iload_n hx hb d_M_newPart_23 rfl (lv_at hl 0 rfl) ?_
  obtain ⟨hc2, hf⟩ := wk_if hf
  refine va_iald hx hb hK hP 17 16 rfl rfl (wk_inb_ok hc2) d_M_newPart_24 ?_
  have hPc := hP.sub (ws' := (mw_W h q g I A)) [0, 1, 2, 3, 4, 5, 6, 7, 8, 9, 10, 11, 12, 13, 14, 15, 16, 17, 18, 19, 20] rfl
  have hDc := hD.sub (ws' := (mw_W h q g I A)) [0, 1, 2, 3, 4, 5, 6, 7, 8, 9, 10, 11, 12, 13, 14, 15, 16, 17, 18, 19, 20] (by decide) rfl
  have hKc := hK.sub (tys' := (mw_T g)) [0, 1, 2, 3, 4, 5, 6, 7, 8, 9, 10, 11, 12, 13, 14, 15, 16, 17, 18, 19] rfl
  have hFc := va_free (wc := (mw_W h q g I A)) hD hS hA [0, 1, 2, 3, 4, 5, 6, 7, 8, 9, 10, 11, 12, 13, 14, 15, 16, 17, 18, 19, 20] rfl
  cases hg1 : f_M_behind I A ((A 30) (((I 28) - 1)).toNatClampNeg) ((A 31) (((I 28) - 1)).toNatClampNeg) with
  | none => rw [hg1] at hf; cases hf
  | some z1 =>
    obtain ⟨r1, I1, A1⟩ := z1
    rw [hg1] at hf
    dsimp only [Option.bind_some] at hf
    refine va_calli (va_runV (As := [.int ((A 30) (((I 28) - 1)).toNatClampNeg), .int ((A 31) (((I 28) - 1)).toNatClampNeg)]) (rest := [.int ((I 28) - 1), .ref (q 30)]) ⟨hx, hb, hml, hown, hts⟩ (cm_M_behind l dC dI h q g _ I A ((A 30) (((I 28) - 1)).toNatClampNeg) ((A 31) (((I 28) - 1)).toNatClampNeg) r1 I1 A1 hg1) (cwV 2 hts (gd_v lk_96 lk_97 lk_98 lk_46 lk_75) rfl rfl rfl (by decide +kernel) ⟨Nat.le_of_ble_eq_true rfl, Nat.le_of_ble_eq_true rfl⟩) ⟨fun a U g mk q => by obtain ⟨q0, q1, qP, qK, qD⟩ := q; exact ⟨q0, q1, qP, va_K.moved (u := U) (U := U.calling g mk a) (Vm.Alike.refl U.vm) qK, qD⟩, va_recv (ci := 4) (q0 := 0) hK hP rfl rfl, fun U hU hW => ⟨rfl, by rw [hU], by rw [hU]; exact hPc, va_K.moved hW.alike hKc, hDc.weaken (fun _ _ _ _ => trivial)⟩⟩ rfl rfl hl.1 rfl (lv_room (Nat.le_of_ble_eq_true rfl)) d_M_newPart_25 ⟨Nat.le_of_ble_eq_true rfl, Nat.le_of_ble_eq_true rfl⟩) hS (fun q _ h => hFc q h) hFc (fun r9 u t H1 locs ht hvm hw hB hz1 hk1 hS => ?_)
    obtain ⟨hP1, hK1, hD1⟩ := hB
    rw [ht] at hP1
    rw [hw]
    obtain ⟨hP, hD⟩ := va_join (wr := []) (w1 := (mw_W h q g I1 A1)) hP hD [0, 1, 2, 3, 4, 5, 6, 7, 8, 9, 10, 11, 12, 13, 14, 15, 16, 17, 18, 19, 20] [] rfl rfl (by decide) (by decide) hk1 hFc hP1 hD1
    generalize H1 = H at hP hS ⊢
    have hP : va_P (dC, dI) vwCl (mw_W h q g I1 A1) H := hP
    have hD : va_D B9 (mw_W h q g I1 A1) := hD
    obtain ⟨hc3, hf⟩ := wk_if hf
    refine va_iast hx hb hK hP hD hS 16 15 rfl rfl (wk_inb_ok hc3) d_M_newPart_28 (fun H locs hP hD hS => ?_)
    obtain ⟨A2, hA2, hf⟩ := wk_letE hf
    have hP : va_P (dC, dI) vwCl (mw_W h q g I1 A2) H := by rw [hA2]; exact hP
    have hD : va_D B9 (mw_W h q g I1 A2) := by rw [hA2]; exact hD
    clear hA2
    refine lv_aload_n hx hb d_M_newPart_29 rfl (lv_at hl 1 rfl) ?_
    refine va_get (D := (dC, dI)) (ci := 4) (v := .ref (q 31)) (C := R_M) (T := F_M) (N := 38) hx hb hts (fun w h => List.mem_cons_of_mem _ (in_M w h)) hown hK hP 0 rfl rfl 31 (by decide) (hts _ (List.mem_cons_of_mem _ lk_95)) (fun _ h9 => h9) rfl d_M_newPart_30 ?_
    refine lv_iload_n hx hb d_M_newPart_33 rfl (lv_at hl 0 rfl) ?_
    refine lv_iload_n hx hb d_M_newPart_34 rfl (lv_at hl 2 rfl) ?_
    obtain ⟨hc4, hf⟩ := wk_if hf
    refine va_iast hx hb hK hP hD hS 17 16 rfl rfl (wk_inb_ok hc4) d_M_newPart_35 (fun H locs hP hD hS => ?_)
    obtain ⟨A3, hA3, hf⟩ := wk_letE hf
    have hP : va_P (dC, dI) vwCl (mw_W h q g I1 A3) H := by rw [hA3]; exact hP
    have hD : va_D B9 (mw_W h q g I1 A3) := by rw [hA3]; exact hD
    clear hA3
    obtain ⟨e1, e2, e3⟩ := wk_inj hf
    subst e1
    subst e2
    subst e3
    exact W.vret hx hb hr (fun t ht hW => ⟨⟨(), rfl, rfl, by rw [ht]; exact hP, va_K.moved hW.alike hK, hD⟩, hS.F ht⟩) hS.2.2 d_M_newPart_36

