set_option maxHeartbeats 8000000 in
set_option maxRecDepth 100000 in
theorem cm_M_isCharacter (l : Launch) (dC : Nat → ClassId) (dI : Nat → Nat → Nat) (sz : Nat) (k0 : Int32) (r : Int32) (hf : f_M_isCharacter k0 = some r) : Met l y_M_isCharacter w_M_isCharacter ({ frames := 0, cells := 0, slots := 0, locals := 0 }) (va_Pc [.int k0] (fun U => U.heap.size = sz ∧ va_P (dC, dI) vwCl [] U.heap ∧ va_K (dC, dI) vwCl [] U ∧ va_D (fun _ => True) [])) (va_Qi (fun (r9 : Int32) (_ : Unit) => r9 = r) (fun (_ : Unit) t => va_P (dC, dI) vwCl [] t.heap ∧ va_K (dC, dI) vwCl [] t ∧ va_D (va_A [] sz) []) (va_A [] sz)) 0 0 (va_A [] sz) := by
  refine Met.ofW (cc := prog_6_method_3_code) (maxL := 1) (ret := (some .boolean)) (by decide) rfl ?_
  intro p e s m args below meth c s₁ B hml hv
  obtain ⟨rfl, hsz, hP, hK, hD0⟩ := hv
  have hx := B.exec
  have hb := B.bytes
  have hr := B.returns
  have hts := atoms_spec (ws := w_M_isCharacter) B.pre
  have hown : s.vm.findClass R_M = some m.cls := findClass_of_methodNamed B.named
  have hlocks := B.notSynchronized
  subst hsz
  have hD := hD0.self (sz := s.heap.size)
  generalize hAe : va_A [] s.heap.size = B9 at hD ⊢
  have hA : ∀ q : Nat, s.heap.size ≤ q → B9 q := fun q h => by rw [← hAe]; exact Or.inr h
  clear hAe
  have hS : va_S B9 s.heap s.heap [] := va_S.rf
  have hl := lv_entry ([.int k0]) (n := 1) (Nat.le_of_ble_eq_true rfl)
  rw [lg_entry_eq]
  generalize (lg_sl ([.int k0]) ++ List.replicate (1 - (lg_sl ([.int k0])).length) Slot.unset).toArray = ls at hl ⊢
  have hl : lv_has ls 1 [(0, .int k0)] := hl
  have blk23 : ∀ (X : Nat → Int32) (s0 : Int32) (ls : Array Slot) (H : Heap) (locs : List Loc), f_M_isCharacter_23 X s0 = some r → lv_has ls 1 [(0, .int (X 0))] → va_P (dC, dI) vwCl [] H → va_D B9 [] → va_S B9 s.heap H locs → W p l e (headSpec w_M_isCharacter ({ frames := 0, cells := 0, slots := 0, locals := 0 })).room s m ([.int k0] : List Value).toArray below meth c H locs 0 0 (MQ below (va_Qi (fun (r9 : Int32) (_ : Unit) => r9 = r) (fun (_ : Unit) t => va_P (dC, dI) vwCl [] t.heap ∧ va_K (dC, dI) vwCl [] t ∧ va_D B9 []) B9) ([.int k0] : List Value).toArray s 0 0 B9) (F0 m 23 ls [.int s0]) := by
    intro X s0 ls H locs hf hl hP hD hS
    unfold f_M_isCharacter_23 at hf
    obtain ⟨hn9, hf⟩ := wk_if hf
    have e1 := Option.some.inj hf
    subst e1
    exact W.zret (v := s0) hx hb hr (congrArg Value.int hn9) (fun t ht hW => ⟨⟨s0, (), rfl, rfl, by rw [ht]; exact hP, va_K.moved hW.alike hK, hD⟩, hS.F ht⟩) hS.2.2 d_M_isCharacter_23
  have blk18 : ∀ (X : Nat → Int32) (ls : Array Slot) (H : Heap) (locs : List Loc), f_M_isCharacter_18 X = some r → lv_has ls 1 [(0, .int (X 0))] → va_P (dC, dI) vwCl [] H → va_D B9 [] → va_S B9 s.heap H locs → W p l e (headSpec w_M_isCharacter ({ frames := 0, cells := 0, slots := 0, locals := 0 })).room s m ([.int k0] : List Value).toArray below meth c H locs 0 0 (MQ below (va_Qi (fun (r9 : Int32) (_ : Unit) => r9 = r) (fun (_ : Unit) t => va_P (dC, dI) vwCl [] t.heap ∧ va_K (dC, dI) vwCl [] t ∧ va_D B9 []) B9) ([.int k0] : List Value).toArray s 0 0 B9) (F0 m 18 ls []) := by
    intro X ls H locs hf hl hP hD hS
    unfold f_M_isCharacter_18 at hf
    refine lv_iconst (v := 1) hx hb d_M_isCharacter_18 (by decide) ?_
    refine lv_goto (tgt := 23) hx hb d_M_isCharacter_19 (by decide) ?_
    exact blk23 X 1 _ _ _ hf (lv_sub hl [0] rfl) hP hD hS
  have blk22 : ∀ (X : Nat → Int32) (ls : Array Slot) (H : Heap) (locs : List Loc), f_M_isCharacter_22 X = some r → lv_has ls 1 [(0, .int (X 0))] → va_P (dC, dI) vwCl [] H → va_D B9 [] → va_S B9 s.heap H locs → W p l e (headSpec w_M_isCharacter ({ frames := 0, cells := 0, slots := 0, locals := 0 })).room s m ([.int k0] : List Value).toArray below meth c H locs 0 0 (MQ below (va_Qi (fun (r9 : Int32) (_ : Unit) => r9 = r) (fun (_ : Unit) t => va_P (dC, dI) vwCl [] t.heap ∧ va_K (dC, dI) vwCl [] t ∧ va_D B9 []) B9) ([.int k0] : List Value).toArray s 0 0 B9) (F0 m 22 ls []) := by
    intro X ls H locs hf hl hP hD hS
    unfold f_M_isCharacter_22 at hf
    refine lv_iconst (v := 0) hx hb d_M_isCharacter_22 (by decide) ?_
    exact blk23 X 0 _ _ _ hf (lv_sub hl [0] rfl) hP hD hS
  unfold f_M_isCharacter at hf
  refine lv_iload_n hx hb d_M_isCharacter_0 rfl (lv_at hl 0 rfl) ?_
  refine lv_bipush (v := 10) hx hb d_M_isCharacter_1 (by decide) ?_
  refine lv_icmp_eq (tgt := 18) hx hb d_M_isCharacter_3 (by decide) (fun hc1 => ?_) (fun hc1 => ?_)
  ·
    have hf := wk_ift hc1 hf
    exact blk18 (upd (fun _ => 0) 0 k0) _ _ _ hf (lv_sub hl [0] rfl) hP hD hS
  ·
    have hf := wk_iff hc1 hf
    refine lv_iload_n hx hb d_M_isCharacter_6 rfl (lv_at hl 0 rfl) ?_
    refine lv_bipush (v := 32) hx hb d_M_isCharacter_7 (by decide) ?_
    refine lv_icmp_lt (tgt := 22) hx hb d_M_isCharacter_9 (by decide) (fun hc2 => ?_) (fun hc2 => ?_)
    ·
      have hf := wk_ift hc2 hf
      exact blk22 (upd (fun _ => 0) 0 k0) _ _ _ hf (lv_sub hl [0] rfl) hP hD hS
    ·
      have hf := wk_iff hc2 hf
      refine lv_iload_n hx hb d_M_isCharacter_12 rfl (lv_at hl 0 rfl) ?_
      refine lv_bipush (v := 126) hx hb d_M_isCharacter_13 (by decide) ?_
      refine lv_icmp_gt (tgt := 22) hx hb d_M_isCharacter_15 (by decide) (fun hc3 => ?_) (fun hc3 => ?_)
      ·
        have hf := wk_ift hc3 hf
        exact blk22 (upd (fun _ => 0) 0 k0) _ _ _ hf (lv_sub hl [0] rfl) hP hD hS
      ·
        have hf := wk_iff hc3 hf
        exact blk18 (upd (fun _ => 0) 0 k0) _ _ _ hf (lv_sub hl [0] rfl) hP hD hS

set_option maxHeartbeats 8000000 in
set_option maxRecDepth 100000 in
theorem cm_M_jump (l : Launch) (dC : Nat → ClassId) (dI : Nat → Nat → Nat) (h : Nat) (q : Nat → Nat) (g : Nat → ClassId) (sz : Nat) (I : MI) (A : MA) (k1 : Int32) (r : Int32) (I' : MI) (A' : MA) (hf : f_M_jump I A k1 = some (r, I', A')) : Met l y_M_jump w_M_jump ({ frames := 1, cells := 0, slots := 0, locals := 21 }) (va_Pc [.ref h, .int k1] (fun U => U.heap.size = sz ∧ va_P (dC, dI) vwCl (mw_W h q g I A) U.heap ∧ va_K (dC, dI) vwCl (mw_T g) U ∧ va_D (fun _ => True) (mw_W h q g I A))) (va_Qv (fun (u : Unit) => u = u) (fun (_ : Unit) t => va_P (dC, dI) vwCl (mw_W h q g I' A') t.heap ∧ va_K (dC, dI) vwCl (mw_T g) t ∧ va_D (va_A (mw_W h q g I A) sz) (mw_W h q g I' A')) (va_A (mw_W h q g I A) sz)) 0 0 (va_A (mw_W h q g I A) sz) := by
  refine Met.ofW (cc := prog_6_method_20_code) (maxL := 2) (ret := none) (by decide) rfl ?_
  intro p e s m args below meth c s₁ B hml hv
  obtain ⟨rfl, hsz, hP, hK, hD0⟩ := hv
  have hx := B.exec
  have hb := B.bytes
  have hr := B.returns
  have hts := atoms_spec (ws := w_M_jump) B.pre
  have hown : s.vm.findClass R_M = some m.cls := findClass_of_methodNamed B.named
  have hlocks := B.notSynchronized
  subst hsz
  have hD := hD0.self (sz := s.heap.size)
  generalize hAe : va_A (mw_W h q g I A) s.heap.size = B9 at hD ⊢
  have hA : ∀ q : Nat, s.heap.size ≤ q → B9 q := fun q h => by rw [← hAe]; exact Or.inr h
  clear hAe
  have hS : va_S B9 s.heap s.heap [] := va_S.rf
  have hl := lv_entry ([.ref h, .int k1]) (n := 2) (Nat.le_of_ble_eq_true rfl)
  rw [lg_entry_eq]
  generalize (lg_sl ([.ref h, .int k1]) ++ List.replicate (2 - (lg_sl ([.ref h, .int k1])).length) Slot.unset).toArray = ls at hl ⊢
  have hl : lv_has ls 2 [(0, .ref h), (1, .int k1)] := hl
  have blk33 : ∀ (I : MI) (A : MA) (X : Nat → Int32) (ls : Array Slot) (H : Heap) (locs : List Loc), f_M_jump_33 I A X = some (r, I', A') → lv_has ls 2 [(0, .ref h), (1, .int (X 1))] → va_P (dC, dI) vwCl (mw_W h q g I A) H → va_D B9 (mw_W h q g I A) → va_S B9 s.heap H locs → W p l e (headSpec w_M_jump ({ frames := 1, cells := 0, slots := 0, locals := 21 })).room s m ([.ref h, .int k1] : List Value).toArray below meth c H locs 0 0 (MQ below (va_Qv (fun (u : Unit) => u = u) (fun (_ : Unit) t => va_P (dC, dI) vwCl (mw_W h q g I' A') t.heap ∧ va_K (dC, dI) vwCl (mw_T g) t ∧ va_D B9 (mw_W h q g I' A')) B9) ([.ref h, .int k1] : List Value).toArray s 0 0 B9) (F0 m 33 ls []) := by
    intro I A X ls H locs hf hl hP hD hS
    unfold f_M_jump_33 at hf
    obtain ⟨e1, e2, e3⟩ := wk_inj hf
    subst e1
    subst e2
    subst e3
    exact W.vret hx hb hr (fun t ht hW => ⟨⟨(), rfl, rfl, by rw [ht]; exact hP, va_K.moved hW.alike hK, hD⟩, hS.F ht⟩) hS.2.2 d_M_jump_33
  have blk18 : ∀ (I : MI) (A : MA) (X : Nat → Int32) (s0 : Int32) (ls : Array Slot) (H : Heap) (locs : List Loc), f_M_jump_18 I A X s0 = some (r, I', A') → lv_has ls 2 [(0, .ref h), (1, .int (X 1))] → va_P (dC, dI) vwCl (mw_W h q g I A) H → va_D B9 (mw_W h q g I A) → va_S B9 s.heap H locs → W p l e (headSpec w_M_jump ({ frames := 1, cells := 0, slots := 0, locals := 21 })).room s m ([.ref h, .int k1] : List Value).toArray below meth c H locs 0 0 (MQ below (va_Qv (fun (u : Unit) => u = u) (fun (_ : Unit) t => va_P (dC, dI) vwCl (mw_W h q g I' A') t.heap ∧ va_K (dC, dI) vwCl (mw_T g) t ∧ va_D B9 (mw_W h q g I' A')) B9) ([.ref h, .int k1] : List Value).toArray s 0 0 B9) (F0 m 18 ls [.int s0, .ref h]) := by
    intro I A X s0 ls H locs hf hl hP hD hS
    unfold f_M_jump_18 at hf
    refine va_put (D := (dC, dI)) (ci := 4) (v := .int s0) (ty := .int) (C := R_M) (T := F_M) (N := 38) hx hb hts (fun w h => List.mem_cons_of_mem _ (in_M w h)) t_M tk_M n_M hown hK hP hD hS 0 rfl rfl 0 (by decide) (hts _ (List.mem_cons_of_mem _ lk_60)) (fun _ h9 => h9) rfl (by decide +kernel) rfl rfl (Nat.le_of_ble_eq_true rfl) d_M_jump_18 (fun H locs hP hD hS => ?_)
    obtain ⟨I1, hI1, hf⟩ := wk_letE hf
    have hP : va_P (dC, dI) vwCl (mw_W h q g I1 A) H := by rw [hI1]; exact hP
    have hD : va_D B9 (mw_W h q g I1 A) := by rw [hI1]; exact hD
    clear hI1
    refine lv_aload_n hx hb d_M_jump_21 rfl (lv_at hl 0 rfl) ?_
    refine va_get (D := (dC, dI)) (ci := 4) (v := .int (I1 0)) (C := R_M) (T := F_M) (N := 38) hx hb hts (fun w h => List.mem_cons_of_mem _ (in_M w h)) hown hK hP 0 rfl rfl 0 (by decide) (hts _ (List.mem_cons_of_mem _ lk_60)) (fun _ h9 => h9) rfl d_M_jump_22 ?_
    refine lv_if_ne (tgt := 33) hx hb d_M_jump_25 (by decide) (fun hc1 => ?_) (fun hc1 => ?_)
    ·
      have hf := wk_iff hc1 hf
      exact blk33 I1 A X _ _ _ hf (lv_sub hl [0, 1] rfl) hP hD hS
    ·
      have hf := wk_ift hc1 hf
      refine lv_aload_n hx hb d_M_jump_28 rfl (lv_at hl 0 rfl) ?_
      refine lv_iload_n hx hb d_M_jump_29 rfl (lv_at hl 1 rfl) ?_
      have hPc := hP.sub (ws' := (mw_W h q g I1 A)) [0, 1, 2, 3, 4, 5, 6, 7, 8, 9, 10, 11, 12, 13, 14, 15, 16, 17, 18, 19, 20] rfl
      have hDc := hD.sub (ws' := (mw_W h q g I1 A)) [0, 1, 2, 3, 4, 5, 6, 7, 8, 9, 10, 11, 12, 13, 14, 15, 16, 17, 18, 19, 20] (by decide) rfl
      have hKc := hK.sub (tys' := (mw_T g)) [0, 1, 2, 3, 4, 5, 6, 7, 8, 9, 10, 11, 12, 13, 14, 15, 16, 17, 18, 19] rfl
      have hFc := va_free (wc := (mw_W h q g I1 A)) hD hS hA [0, 1, 2, 3, 4, 5, 6, 7, 8, 9, 10, 11, 12, 13, 14, 15, 16, 17, 18, 19, 20] rfl
      cases hg2 : f_M_come I1 A (X 1) with
      | none => rw [hg2] at hf; cases hf
      | some z2 =>
        obtain ⟨r2, I2, A2⟩ := z2
        rw [hg2] at hf
        dsimp only [Option.bind_some] at hf
        refine va_callv (va_runV (As := [.int (X 1)]) (rest := []) ⟨hx, hb, hml, hown, hts⟩ (cm_M_come l dC dI h q g _ I1 A (X 1) r2 I2 A2 hg2) (cwV 1 hts (gd_v lk_149 lk_150 lk_151 lk_46 lk_130) rfl rfl rfl (by decide +kernel) ⟨Nat.le_of_ble_eq_true rfl, Nat.le_of_ble_eq_true rfl⟩) ⟨fun a U g mk q => by obtain ⟨q0, q1, qP, qK, qD⟩ := q; exact ⟨q0, q1, qP, va_K.moved (u := U) (U := U.calling g mk a) (Vm.Alike.refl U.vm) qK, qD⟩, va_recv (ci := 4) (q0 := 0) hK hP rfl rfl, fun U hU hW => ⟨rfl, by rw [hU], by rw [hU]; exact hPc, va_K.moved hW.alike hKc, hDc.weaken (fun _ _ _ _ => trivial)⟩⟩ rfl rfl hl.1 rfl (lv_room (Nat.le_of_ble_eq_true rfl)) d_M_jump_30 ⟨Nat.le_of_ble_eq_true rfl, Nat.le_of_ble_eq_true rfl⟩) hS (fun q _ h => hFc q h) hFc (fun u t H1 locs ht hvm hw hB hz1 hk1 hS => ?_)
        obtain ⟨hP1, hK1, hD1⟩ := hB
        rw [ht] at hP1
        obtain ⟨hP, hD⟩ := va_join (wr := []) (w1 := (mw_W h q g I2 A2)) hP hD [0, 1, 2, 3, 4, 5, 6, 7, 8, 9, 10, 11, 12, 13, 14, 15, 16, 17, 18, 19, 20] [] rfl rfl (by decide) (by decide) hk1 hFc hP1 hD1
        generalize H1 = H at hP hS ⊢
        have hP : va_P (dC, dI) vwCl (mw_W h q g I2 A2) H := hP
        have hD : va_D B9 (mw_W h q g I2 A2) := hD
        exact blk33 I2 A2 X _ _ _ hf (lv_sub hl [0, 1] rfl) hP hD hS
  have blk13 : ∀ (I : MI) (A : MA) (X : Nat → Int32) (ls : Array Slot) (H : Heap) (locs : List Loc), f_M_jump_13 I A X = some (r, I', A') → lv_has ls 2 [(0, .ref h), (1, .int (X 1))] → va_P (dC, dI) vwCl (mw_W h q g I A) H → va_D B9 (mw_W h q g I A) → va_S B9 s.heap H locs → W p l e (headSpec w_M_jump ({ frames := 1, cells := 0, slots := 0, locals := 21 })).room s m ([.ref h, .int k1] : List Value).toArray below meth c H locs 0 0 (MQ below (va_Qv (fun (u : Unit) => u = u) (fun (_ : Unit) t => va_P (dC, dI) vwCl (mw_W h q g I' A') t.heap ∧ va_K (dC, dI) vwCl (mw_T g) t ∧ va_D B9 (mw_W h q g I' A')) B9) ([.ref h, .int k1] : List Value).toArray s 0 0 B9) (F0 m 13 ls [.ref h]) := by
    intro I A X ls H locs hf hl hP hD hS
    unfold f_M_jump_13 at hf
    refine lv_iconst (v := 1) hx hb d_M_jump_13 (by decide) ?_
    refine lv_goto (tgt := 18) hx hb d_M_jump_14 (by decide) ?_
    exact blk18 I A X 1 _ _ _ hf (lv_sub hl [0, 1] rfl) hP hD hS
  unfold f_M_jump at hf
  refine lv_aload_n hx hb d_M_jump_0 rfl (lv_at hl 0 rfl) ?_
  refine lv_iload_n hx hb d_M_jump_1 rfl (lv_at hl 1 rfl) ?_
  refine lv_if_lt (tgt := 13) hx hb d_M_jump_2 (by decide) (fun hc1 => ?_) (fun hc1 => ?_)
  ·
    have hf := wk_ift hc1 hf
    exact blk13 I A (upd (fun _ => 0) 1 k1) _ _ _ hf (lv_sub hl [0, 1] rfl) hP hD hS
  ·
    have hf := wk_iff hc1 hf
    refine lv_iload_n hx hb d_M_jump_5 rfl (lv_at hl 1 rfl) ?_
    refine lv_aload_n hx hb d_M_jump_6 rfl (lv_at hl 0 rfl) ?_
    refine va_get (D := (dC, dI)) (ci := 4) (v := .int (I 3)) (C := R_M) (T := F_M) (N := 38) hx hb hts (fun w h => List.mem_cons_of_mem _ (in_M w h)) hown hK hP 0 rfl rfl 3 (by decide) (hts _ (List.mem_cons_of_mem _ lk_147)) (fun _ h9 => h9) rfl d_M_jump_7 ?_
    refine lv_icmp_lt (tgt := 17) hx hb d_M_jump_10 (by decide) (fun hc2 => ?_) (fun hc2 => ?_)
    ·
      have hf := wk_ift hc2 hf
      refine lv_iconst (v := 0) hx hb d_M_jump_17 (by decide) ?_
      exact blk18 I A (upd (fun _ => 0) 1 k1) 0 _ _ _ hf (lv_sub hl [0, 1] rfl) hP hD hS
    ·
      have hf := wk_iff hc2 hf
      exact blk13 I A (upd (fun _ => 0) 1 k1) _ _ _ hf (lv_sub hl [0, 1] rfl) hP hD hS

set_option maxHeartbeats 8000000 in
set_option maxRecDepth 100000 in
theorem cm_M_length (l : Launch) (dC : Nat → ClassId) (dI : Nat → Nat → Nat) (h : Nat) (q : Nat → Nat) (g : Nat → ClassId) (sz : Nat) (I : MI) (A : MA) (r : Int32) (I' : MI) (A' : MA) (hf : f_M_length I A  = some (r, I', A')) : Met l y_M_length w_M_length ({ frames := 1, cells := 0, slots := 0, locals := 20 }) (va_Pc [.ref h] (fun U => U.heap.size = sz ∧ va_P (dC, dI) vwCl (mw_W h q g I A) U.heap ∧ va_K (dC, dI) vwCl (mw_T g) U ∧ va_D (fun _ => True) (mw_W h q g I A))) (va_Qi (fun (r9 : Int32) (_ : Unit) => r9 = r) (fun (_ : Unit) t => va_P (dC, dI) vwCl (mw_W h q g I' A') t.heap ∧ va_K (dC, dI) vwCl (mw_T g) t ∧ va_D (va_A (mw_W h q g I A) sz) (mw_W h q g I' A')) (va_A (mw_W h q g I A) sz)) 0 0 (va_A (mw_W h q g I A) sz) := by
  refine Met.ofW (cc := prog_6_method_47_code) (maxL := 1) (ret := (some .int)) (by decide) rfl ?_
  intro p e s m args below meth c s₁ B hml hv
  obtain ⟨rfl, hsz, hP, hK, hD0⟩ := hv
  have hx := B.exec
  have hb := B.bytes
  have hr := B.returns
  have hts := atoms_spec (ws := w_M_length) B.pre
  have hown : s.vm.findClass R_M = some m.cls := findClass_of_methodNamed B.named
  have hlocks := B.notSynchronized
  subst hsz
  have hD := hD0.self (sz := s.heap.size)
  generalize hAe : va_A (mw_W h q g I A) s.heap.size = B9 at hD ⊢
  have hA : ∀ q : Nat, s.heap.size ≤ q → B9 q := fun q h => by rw [← hAe]; exact Or.inr h
  clear hAe
  have hS : va_S B9 s.heap s.heap [] := va_S.rf
  have hl := lv_entry ([.ref h]) (n := 1) (Nat.le_of_ble_eq_true rfl)
  rw [lg_entry_eq]
  generalize (lg_sl ([.ref h]) ++ List.replicate (1 - (lg_sl ([.ref h])).length) Slot.unset).toArray = ls at hl ⊢
  have hl : lv_has ls 1 [(0, .ref h)] := hl
  unfold f_M_length at hf
  refine lv_aload_n hx hb d_M_length_0 rfl (lv_at hl 0 rfl) ?_
  refine lv_iconst (v := 0) hx hb d_M_length_1 (by decide) ?_
  refine va_put (D := (dC, dI)) (ci := 4) (v := .int 0) (ty := .int) (C := R_M) (T := F_M) (N := 38) hx hb hts (fun w h => List.mem_cons_of_mem _ (in_M w h)) t_M tk_M n_M hown hK hP hD hS 0 rfl rfl 0 (by decide) (hts _ (List.mem_cons_of_mem _ lk_60)) (fun _ h9 => h9) rfl (by decide +kernel) rfl rfl (Nat.le_of_ble_eq_true rfl) d_M_length_2 (fun H locs hP hD hS => ?_)
  obtain ⟨I1, hI1, hf⟩ := wk_letE hf
  have hP : va_P (dC, dI) vwCl (mw_W h q g I1 A) H := by rw [hI1]; exact hP
  have hD : va_D B9 (mw_W h q g I1 A) := by rw [hI1]; exact hD
  clear hI1
  refine lv_aload_n hx hb d_M_length_5 rfl (lv_at hl 0 rfl) ?_
  have hPc := hP.sub (ws' := (mw_W h q g I1 A)) [0, 1, 2, 3, 4, 5, 6, 7, 8, 9, 10, 11, 12, 13, 14, 15, 16, 17, 18, 19, 20] rfl
  have hDc := hD.sub (ws' := (mw_W h q g I1 A)) [0, 1, 2, 3, 4, 5, 6, 7, 8, 9, 10, 11, 12, 13, 14, 15, 16, 17, 18, 19, 20] (by decide) rfl
  have hKc := hK.sub (tys' := (mw_T g)) [0, 1, 2, 3, 4, 5, 6, 7, 8, 9, 10, 11, 12, 13, 14, 15, 16, 17, 18, 19] rfl
  have hFc := va_free (wc := (mw_W h q g I1 A)) hD hS hA [0, 1, 2, 3, 4, 5, 6, 7, 8, 9, 10, 11, 12, 13, 14, 15, 16, 17, 18, 19, 20] rfl
  cases hg2 : f_M_textLength I1 A with
  | none => rw [hg2] at hf; cases hf
  | some z2 =>
    obtain ⟨r2, I2, A2⟩ := z2
    rw [hg2] at hf
    dsimp only [Option.bind_some] at hf
    refine va_calli (va_runV (As := []) (rest := []) ⟨hx, hb, hml, hown, hts⟩ (cm_M_textLength l dC dI h q g _ I1 A r2 I2 A2 hg2) (cwV 0 hts (gd_v lk_57 lk_58 lk_59 lk_46 lk_56) rfl rfl rfl (by decide +kernel) ⟨Nat.le_of_ble_eq_true rfl, Nat.le_of_ble_eq_true rfl⟩) ⟨fun a U g mk q => by obtain ⟨q0, q1, qP, qK, qD⟩ := q; exact ⟨q0, q1, qP, va_K.moved (u := U) (U := U.calling g mk a) (Vm.Alike.refl U.vm) qK, qD⟩, va_recv (ci := 4) (q0 := 0) hK hP rfl rfl, fun U hU hW => ⟨rfl, by rw [hU], by rw [hU]; exact hPc, va_K.moved hW.alike hKc, hDc.weaken (fun _ _ _ _ => trivial)⟩⟩ rfl rfl hl.1 rfl (lv_room (Nat.le_of_ble_eq_true rfl)) d_M_length_6 ⟨Nat.le_of_ble_eq_true rfl, Nat.le_of_ble_eq_true rfl⟩) hS (fun q _ h => hFc q h) hFc (fun r9 u t H1 locs ht hvm hw hB hz1 hk1 hS => ?_)
    obtain ⟨hP1, hK1, hD1⟩ := hB
    rw [ht] at hP1
    rw [hw]
    obtain ⟨hP, hD⟩ := va_join (wr := []) (w1 := (mw_W h q g I2 A2)) hP hD [0, 1, 2, 3, 4, 5, 6, 7, 8, 9, 10, 11, 12, 13, 14, 15, 16, 17, 18, 19, 20] [] rfl rfl (by decide) (by decide) hk1 hFc hP1 hD1
    generalize H1 = H at hP hS ⊢
    have hP : va_P (dC, dI) vwCl (mw_W h q g I2 A2) H := hP
    have hD : va_D B9 (mw_W h q g I2 A2) := hD
    obtain ⟨e1, e2, e3⟩ := wk_inj hf
    subst e1
    subst e2
    subst e3
    exact W.iret (v := r2) hx hb hr (fun t ht hW => ⟨⟨r2, (), rfl, rfl, by rw [ht]; exact hP, va_K.moved hW.alike hK, hD⟩, hS.F ht⟩) hS.2.2 d_M_length_9

set_option maxHeartbeats 8000000 in
set_option maxRecDepth 100000 in
theorem cm_M_lineStart (l : Launch) (dC : Nat → ClassId) (dI : Nat → Nat → Nat) (h : Nat) (q : Nat → Nat) (g : Nat → ClassId) (sz : Nat) (I : MI) (A : MA) (k1 : Int32) (r : Int32) (I' : MI) (A' : MA) (hf : f_M_lineStart I A k1 = some (r, I', A')) : Met l y_M_lineStart w_M_lineStart ({ frames := 2, cells := 0, slots := 0, locals := 44 }) (va_Pc [.ref h, .int k1] (fun U => U.heap.size = sz ∧ va_P (dC, dI) vwCl (mw_W h q g I A) U.heap ∧ va_K (dC, dI) vwCl (mw_T g) U ∧ va_D (fun _ => True) (mw_W h q g I A))) (va_Qi (fun (r9 : Int32) (_ : Unit) => r9 = r) (fun (_ : Unit) t => va_P (dC, dI) vwCl (mw_W h q g I' A') t.heap ∧ va_K (dC, dI) vwCl (mw_T g) t ∧ va_D (va_A (mw_W h q g I A) sz) (mw_W h q g I' A')) (va_A (mw_W h q g I A) sz)) 0 0 (va_A (mw_W h q g I A) sz) := by
  refine Met.ofW (cc := prog_6_method_50_code) (maxL := 3) (ret := (some .int)) (by decide) rfl ?_
  intro p e s m args below meth c s₁ B hml hv
  obtain ⟨rfl, hsz, hP, hK, hD0⟩ := hv
  have hx := B.exec
  have hb := B.bytes
  have hr := B.returns
  have hts := atoms_spec (ws := w_M_lineStart) B.pre
  have hown : s.vm.findClass R_M = some m.cls := findClass_of_methodNamed B.named
  have hlocks := B.notSynchronized
  subst hsz
  have hD := hD0.self (sz := s.heap.size)
  generalize hAe : va_A (mw_W h q g I A) s.heap.size = B9 at hD ⊢
  have hA : ∀ q : Nat, s.heap.size ≤ q → B9 q := fun q h => by rw [← hAe]; exact Or.inr h
  clear hAe
  have hS : va_S B9 s.heap s.heap [] := va_S.rf
  have hl := lv_entry ([.ref h, .int k1]) (n := 3) (Nat.le_of_ble_eq_true rfl)
  rw [lg_entry_eq]
  generalize (lg_sl ([.ref h, .int k1]) ++ List.replicate (3 - (lg_sl ([.ref h, .int k1])).length) Slot.unset).toArray = ls at hl ⊢
  have hl : lv_has ls 3 [(0, .ref h), (1, .int k1)] := hl
  have stp2 : ∀ (rc : Nat → MI → MA → (Nat → Int32) → Option (Int32 × MI × MA)) (hrc2 : ∀ (I : MI) (A : MA) (X : Nat → Int32) (ls : Array Slot) (H : Heap) (locs : List Loc), rc 2 I A X = some (r, I', A') → lv_has ls 3 [(0, .ref h), (1, .int (X 1)), (2, .int (X 2))] → va_P (dC, dI) vwCl (mw_W h q g I A) H → va_D B9 (mw_W h q g I A) → va_S B9 s.heap H locs → W p l e (headSpec w_M_lineStart ({ frames := 2, cells := 0, slots := 0, locals := 44 })).room s m ([.ref h, .int k1] : List Value).toArray below meth c H locs 0 0 (MQ below (va_Qi (fun (r9 : Int32) (_ : Unit) => r9 = r) (fun (_ : Unit) t => va_P (dC, dI) vwCl (mw_W h q g I' A') t.heap ∧ va_K (dC, dI) vwCl (mw_T g) t ∧ va_D B9 (mw_W h q g I' A')) B9) ([.ref h, .int k1] : List Value).toArray s 0 0 B9) (F0 m 2 ls [])), ∀ (I : MI) (A : MA) (X : Nat → Int32) (ls : Array Slot) (H : Heap) (locs : List Loc), f_M_lineStart_2 rc I A X = some (r, I', A') → lv_has ls 3 [(0, .ref h), (1, .int (X 1)), (2, .int (X 2))] → va_P (dC, dI) vwCl (mw_W h q g I A) H → va_D B9 (mw_W h q g I A) → va_S B9 s.heap H locs → W p l e (headSpec w_M_lineStart ({ frames := 2, cells := 0, slots := 0, locals := 44 })).room s m ([.ref h, .int k1] : List Value).toArray below meth c H locs 0 0 (MQ below (va_Qi (fun (r9 : Int32) (_ : Unit) => r9 = r) (fun (_ : Unit) t => va_P (dC, dI) vwCl (mw_W h q g I' A') t.heap ∧ va_K (dC, dI) vwCl (mw_T g) t ∧ va_D B9 (mw_W h q g I' A')) B9) ([.ref h, .int k1] : List Value).toArray s 0 0 B9) (F0 m 2 ls []) := by
    intro rc hrc2 I A X ls H locs hf hl hP hD hS
    unfold f_M_lineStart_2 at hf
    refine lv_aload_n hx hb d_M_lineStart_2 rfl (lv_at hl 0 rfl) ?_
    refine lv_iload_n hx hb d_M_lineStart_3 rfl (lv_at hl 2 rfl) ?_
    have hPc := hP.sub (ws' := (mw_W h q g I A)) [0, 1, 2, 3, 4, 5, 6, 7, 8, 9, 10, 11, 12, 13, 14, 15, 16, 17, 18, 19, 20] rfl
    have hDc := hD.sub (ws' := (mw_W h q g I A)) [0, 1, 2, 3, 4, 5, 6, 7, 8, 9, 10, 11, 12, 13, 14, 15, 16, 17, 18, 19, 20] (by decide) rfl
    have hKc := hK.sub (tys' := (mw_T g)) [0, 1, 2, 3, 4, 5, 6, 7, 8, 9, 10, 11, 12, 13, 14, 15, 16, 17, 18, 19] rfl
    have hFc := va_free (wc := (mw_W h q g I A)) hD hS hA [0, 1, 2, 3, 4, 5, 6, 7, 8, 9, 10, 11, 12, 13, 14, 15, 16, 17, 18, 19, 20] rfl
    cases hg1 : f_M_breaks I A (X 2) with
    | none => rw [hg1] at hf; cases hf
    | some z1 =>
      obtain ⟨r1, I1, A1⟩ := z1
      rw [hg1] at hf
      dsimp only [Option.bind_some] at hf
      refine va_calli (va_runV (As := [.int (X 2)]) (rest := []) ⟨hx, hb, hml, hown, hts⟩ (cm_M_breaks l dC dI h q g _ I A (X 2) r1 I1 A1 hg1) (cwV 1 hts (gd_v lk_211 lk_212 lk_213 lk_46 lk_76) rfl rfl rfl (by decide +kernel) ⟨Nat.le_of_ble_eq_true rfl, Nat.le_of_ble_eq_true rfl⟩) ⟨fun a U g mk q => by obtain ⟨q0, q1, qP, qK, qD⟩ := q; exact ⟨q0, q1, qP, va_K.moved (u := U) (U := U.calling g mk a) (Vm.Alike.refl U.vm) qK, qD⟩, va_recv (ci := 4) (q0 := 0) hK hP rfl rfl, fun U hU hW => ⟨rfl, by rw [hU], by rw [hU]; exact hPc, va_K.moved hW.alike hKc, hDc.weaken (fun _ _ _ _ => trivial)⟩⟩ rfl rfl hl.1 rfl (lv_room (Nat.le_of_ble_eq_true rfl)) d_M_lineStart_4 ⟨Nat.le_of_ble_eq_true rfl, Nat.le_of_ble_eq_true rfl⟩) hS (fun q _ h => hFc q h) hFc (fun r9 u t H1 locs ht hvm hw hB hz1 hk1 hS => ?_)
      obtain ⟨hP1, hK1, hD1⟩ := hB
      rw [ht] at hP1
      rw [hw]
      obtain ⟨hP, hD⟩ := va_join (wr := []) (w1 := (mw_W h q g I1 A1)) hP hD [0, 1, 2, 3, 4, 5, 6, 7, 8, 9, 10, 11, 12, 13, 14, 15, 16, 17, 18, 19, 20] [] rfl rfl (by decide) (by decide) hk1 hFc hP1 hD1
      generalize H1 = H at hP hS ⊢
      have hP : va_P (dC, dI) vwCl (mw_W h q g I1 A1) H := hP
      have hD : va_D B9 (mw_W h q g I1 A1) := hD
      refine lv_iload_n hx hb d_M_lineStart_7 rfl (lv_at hl 1 rfl) ?_
      refine lv_icmp_ge (tgt := 17) hx hb d_M_lineStart_8 (by decide) (fun hc1 => ?_) (fun hc1 => ?_)
      ·
        have hf := wk_ift hc1 hf
        refine lv_iload_n hx hb d_M_lineStart_17 rfl (lv_at hl 2 rfl) ?_
        obtain ⟨e1, e2, e3⟩ := wk_inj hf
        subst e1
        subst e2
        subst e3
        exact W.iret (v := (X 2)) hx hb hr (fun t ht hW => ⟨⟨(X 2), (), rfl, rfl, by rw [ht]; exact hP, va_K.moved hW.alike hK, hD⟩, hS.F ht⟩) hS.2.2 d_M_lineStart_18
      ·
        have hf := wk_iff hc1 hf
        refine lv_iinc (k := 2) (v := ((X 2) + 1)) (lv' := [(2, .int ((X 2) + 1)), (0, .ref h), (1, .int (X 1))]) hx hb d_M_lineStart_11 hl rfl (wk_inc (by decide)) (by decide) rfl (fun ls hl => ?_)
        have hl : lv_has ls 3 [(2, .int ((X 2) + 1)), (0, .ref h), (1, .int (X 1))] := hl
        refine lv_goto (tgt := 2) hx hb d_M_lineStart_14 (by decide) ?_
        exact hrc2 I1 A1 (upd X 2 ((X 2) + 1)) _ _ _ hf (lv_sub hl [1, 2, 0] rfl) hP hD hS
  have key : ∀ n : Nat, (∀ (I : MI) (A : MA) (X : Nat → Int32) (ls : Array Slot) (H : Heap) (locs : List Loc), f_M_lineStart_go n 2 I A X = some (r, I', A') → lv_has ls 3 [(0, .ref h), (1, .int (X 1)), (2, .int (X 2))] → va_P (dC, dI) vwCl (mw_W h q g I A) H → va_D B9 (mw_W h q g I A) → va_S B9 s.heap H locs → W p l e (headSpec w_M_lineStart ({ frames := 2, cells := 0, slots := 0, locals := 44 })).room s m ([.ref h, .int k1] : List Value).toArray below meth c H locs 0 0 (MQ below (va_Qi (fun (r9 : Int32) (_ : Unit) => r9 = r) (fun (_ : Unit) t => va_P (dC, dI) vwCl (mw_W h q g I' A') t.heap ∧ va_K (dC, dI) vwCl (mw_T g) t ∧ va_D B9 (mw_W h q g I' A')) B9) ([.ref h, .int k1] : List Value).toArray s 0 0 B9) (F0 m 2 ls [])) := by
    intro n
    induction n with
    | zero => exact fun I A X ls H locs hf => (by cases hf)
    | succ n ih =>
      have ih2 := ih
      exact stp2 (f_M_lineStart_go n) ih2
  unfold f_M_lineStart f_M_lineStart_e at hf
  have hrc2 := key wk_FUEL
  refine lv_iconst (v := 0) hx hb d_M_lineStart_0 (by decide) ?_
  refine lv_istore_n (lv' := [(2, .int 0), (0, .ref h), (1, .int k1)]) hx hb d_M_lineStart_1 rfl hl (by decide) rfl (fun ls hl => ?_)
  have hl : lv_has ls 3 [(2, .int 0), (0, .ref h), (1, .int k1)] := hl
  exact hrc2 I A (upd (upd (fun _ => 0) 1 k1) 2 0) _ _ _ hf (lv_sub hl [1, 2, 0] rfl) hP hD hS

set_option maxHeartbeats 8000000 in
set_option maxRecDepth 100000 in
theorem cm_M_line (l : Launch) (dC : Nat → ClassId) (dI : Nat → Nat → Nat) (h : Nat) (q : Nat → Nat) (g : Nat → ClassId) (sz : Nat) (I : MI) (A : MA) (k1 k2 : Int32) (r : Int32) (I' : MI) (A' : MA) (hf : f_M_line I A k1 k2 = some (r, I', A')) : Met l y_M_line w_M_line ({ frames := 3, cells := 0, slots := 0, locals := 66 }) (va_Pc [.ref h, .int k1, .int k2] (fun U => U.heap.size = sz ∧ va_P (dC, dI) vwCl (mw_W h q g I A) U.heap ∧ va_K (dC, dI) vwCl (mw_T g) U ∧ va_D (fun _ => True) (mw_W h q g I A))) (va_Qi (fun (r9 : Int32) (_ : Unit) => r9 = r) (fun (_ : Unit) t => va_P (dC, dI) vwCl (mw_W h q g I' A') t.heap ∧ va_K (dC, dI) vwCl (mw_T g) t ∧ va_D (va_A (mw_W h q g I A) sz) (mw_W h q g I' A')) (va_A (mw_W h q g I A) sz)) 0 0 (va_A (mw_W h q g I A) sz) := by
  refine Met.ofW (cc := prog_6_method_51_code) (maxL := 7) (ret := (some .int)) (by decide) rfl ?_
  intro p e s m args below meth c s₁ B hml hv
  obtain ⟨rfl, hsz, hP, hK, hD0⟩ := hv
  have hx := B.exec
  have hb := B.bytes
  have hr := B.returns
  have hts := atoms_spec (ws := w_M_line) B.pre
  have hown : s.vm.findClass R_M = some m.cls := findClass_of_methodNamed B.named
  have hlocks := B.notSynchronized
  subst hsz
  have hD := hD0.self (sz := s.heap.size)
  generalize hAe : va_A (mw_W h q g I A) s.heap.size = B9 at hD ⊢
  have hA : ∀ q : Nat, s.heap.size ≤ q → B9 q := fun q h => by rw [← hAe]; exact Or.inr h
  clear hAe
  have hS : va_S B9 s.heap s.heap [] := va_S.rf
  have hl := lv_entry ([.ref h, .int k1, .int k2]) (n := 7) (Nat.le_of_ble_eq_true rfl)
  rw [lg_entry_eq]
  generalize (lg_sl ([.ref h, .int k1, .int k2]) ++ List.replicate (7 - (lg_sl ([.ref h, .int k1, .int k2])).length) Slot.unset).toArray = ls at hl ⊢
  have hl : lv_has ls 7 [(0, .ref h), (1, .int k1), (2, .int k2)] := hl
  have blk105 : ∀ (rc : Nat → MI → MA → (Nat → Int32) → Option (Int32 × MI × MA)) (hrc117 : ∀ (I : MI) (A : MA) (X : Nat → Int32) (ls : Array Slot) (H : Heap) (locs : List Loc), rc 117 I A X = some (r, I', A') → lv_has ls 7 [(0, .ref h), (1, .int (X 1)), (2, .int (X 2)), (3, .int (X 3)), (4, .int (X 4)), (5, .int (X 5)), (6, .int (X 6))] → va_P (dC, dI) vwCl (mw_W h q g I A) H → va_D B9 (mw_W h q g I A) → va_S B9 s.heap H locs → W p l e (headSpec w_M_line ({ frames := 3, cells := 0, slots := 0, locals := 66 })).room s m ([.ref h, .int k1, .int k2] : List Value).toArray below meth c H locs 0 0 (MQ below (va_Qi (fun (r9 : Int32) (_ : Unit) => r9 = r) (fun (_ : Unit) t => va_P (dC, dI) vwCl (mw_W h q g I' A') t.heap ∧ va_K (dC, dI) vwCl (mw_T g) t ∧ va_D B9 (mw_W h q g I' A')) B9) ([.ref h, .int k1, .int k2] : List Value).toArray s 0 0 B9) (F0 m 117 ls [])), ∀ (I : MI) (A : MA) (X : Nat → Int32) (s0 : Int32) (ls : Array Slot) (H : Heap) (locs : List Loc), f_M_line_105 rc I A X s0 = some (r, I', A') → lv_has ls 7 [(0, .ref h), (1, .int (X 1)), (2, .int (X 2)), (3, .int (X 3)), (4, .int (X 4))] → va_P (dC, dI) vwCl (mw_W h q g I A) H → va_D B9 (mw_W h q g I A) → va_S B9 s.heap H locs → W p l e (headSpec w_M_line ({ frames := 3, cells := 0, slots := 0, locals := 66 })).room s m ([.ref h, .int k1, .int k2] : List Value).toArray below meth c H locs 0 0 (MQ below (va_Qi (fun (r9 : Int32) (_ : Unit) => r9 = r) (fun (_ : Unit) t => va_P (dC, dI) vwCl (mw_W h q g I' A') t.heap ∧ va_K (dC, dI) vwCl (mw_T g) t ∧ va_D B9 (mw_W h q g I' A')) B9) ([.ref h, .int k1, .int k2] : List Value).toArray s 0 0 B9) (F0 m 105 ls [.int s0]) := by
    intro rc hrc117 I A X s0 ls H locs hf hl hP hD hS
    unfold f_M_line_105 at hf
    obtain ⟨e1, e2, e3⟩ := wk_inj hf
    subst e1
    subst e2
    subst e3
    exact W.iret (v := s0) hx hb hr (fun t ht hW => ⟨⟨s0, (), rfl, rfl, by rw [ht]; exact hP, va_K.moved hW.alike hK, hD⟩, hS.F ht⟩) hS.2.2 d_M_line_105
  have blk75 : ∀ (rc : Nat → MI → MA → (Nat → Int32) → Option (Int32 × MI × MA)) (hrc117 : ∀ (I : MI) (A : MA) (X : Nat → Int32) (ls : Array Slot) (H : Heap) (locs : List Loc), rc 117 I A X = some (r, I', A') → lv_has ls 7 [(0, .ref h), (1, .int (X 1)), (2, .int (X 2)), (3, .int (X 3)), (4, .int (X 4)), (5, .int (X 5)), (6, .int (X 6))] → va_P (dC, dI) vwCl (mw_W h q g I A) H → va_D B9 (mw_W h q g I A) → va_S B9 s.heap H locs → W p l e (headSpec w_M_line ({ frames := 3, cells := 0, slots := 0, locals := 66 })).room s m ([.ref h, .int k1, .int k2] : List Value).toArray below meth c H locs 0 0 (MQ below (va_Qi (fun (r9 : Int32) (_ : Unit) => r9 = r) (fun (_ : Unit) t => va_P (dC, dI) vwCl (mw_W h q g I' A') t.heap ∧ va_K (dC, dI) vwCl (mw_T g) t ∧ va_D B9 (mw_W h q g I' A')) B9) ([.ref h, .int k1, .int k2] : List Value).toArray s 0 0 B9) (F0 m 117 ls [])), ∀ (I : MI) (A : MA) (X : Nat → Int32) (s0 : Int32) (ls : Array Slot) (H : Heap) (locs : List Loc), f_M_line_75 rc I A X s0 = some (r, I', A') → lv_has ls 7 [(0, .ref h), (1, .int (X 1)), (2, .int (X 2)), (3, .int (X 3)), (4, .int (X 4))] → va_P (dC, dI) vwCl (mw_W h q g I A) H → va_D B9 (mw_W h q g I A) → va_S B9 s.heap H locs → W p l e (headSpec w_M_line ({ frames := 3, cells := 0, slots := 0, locals := 66 })).room s m ([.ref h, .int k1, .int k2] : List Value).toArray below meth c H locs 0 0 (MQ below (va_Qi (fun (r9 : Int32) (_ : Unit) => r9 = r) (fun (_ : Unit) t => va_P (dC, dI) vwCl (mw_W h q g I' A') t.heap ∧ va_K (dC, dI) vwCl (mw_T g) t ∧ va_D B9 (mw_W h q g I' A')) B9) ([.ref h, .int k1, .int k2] : List Value).toArray s 0 0 B9) (F0 m 75 ls [.int s0, .ref h]) := by
    intro rc hrc117 I A X s0 ls H locs hf hl hP hD hS
    unfold f_M_line_75 at hf
    refine va_put (D := (dC, dI)) (ci := 4) (v := .int s0) (ty := .int) (C := R_M) (T := F_M) (N := 38) hx hb hts (fun w h => List.mem_cons_of_mem _ (in_M w h)) t_M tk_M n_M hown hK hP hD hS 0 rfl rfl 0 (by decide) (hts _ (List.mem_cons_of_mem _ lk_60)) (fun _ h9 => h9) rfl (by decide +kernel) rfl rfl (Nat.le_of_ble_eq_true rfl) d_M_line_75 (fun H locs hP hD hS => ?_)
    obtain ⟨I1, hI1, hf⟩ := wk_letE hf
    have hP : va_P (dC, dI) vwCl (mw_W h q g I1 A) H := by rw [hI1]; exact hP
    have hD : va_D B9 (mw_W h q g I1 A) := by rw [hI1]; exact hD
    clear hI1
    refine lv_aload_n hx hb d_M_line_78 rfl (lv_at hl 0 rfl) ?_
    refine va_get (D := (dC, dI)) (ci := 4) (v := .int (I1 0)) (C := R_M) (T := F_M) (N := 38) hx hb hts (fun w h => List.mem_cons_of_mem _ (in_M w h)) hown hK hP 0 rfl rfl 0 (by decide) (hts _ (List.mem_cons_of_mem _ lk_60)) (fun _ h9 => h9) rfl d_M_line_79 ?_
    refine lv_if_le (tgt := 87) hx hb d_M_line_82 (by decide) (fun hc1 => ?_) (fun hc1 => ?_)
    ·
      have hf := wk_ift hc1 hf
      refine lv_iload_n hx hb d_M_line_87 rfl (lv_at hl 1 rfl) ?_
      refine lv_iconst (v := 2) hx hb d_M_line_88 (by decide) ?_
      refine lv_icmp_ge (tgt := 106) hx hb d_M_line_89 (by decide) (fun hc2 => ?_) (fun hc2 => ?_)
      ·
        have hf := wk_ift hc2 hf
        refine lv_aload_n hx hb d_M_line_106 rfl (lv_at hl 0 rfl) ?_
        refine lv_iload_n hx hb d_M_line_107 rfl (lv_at hl 2 rfl) ?_
        have hPc := hP.sub (ws' := (mw_W h q g I1 A)) [0, 1, 2, 3, 4, 5, 6, 7, 8, 9, 10, 11, 12, 13, 14, 15, 16, 17, 18, 19, 20] rfl
        have hDc := hD.sub (ws' := (mw_W h q g I1 A)) [0, 1, 2, 3, 4, 5, 6, 7, 8, 9, 10, 11, 12, 13, 14, 15, 16, 17, 18, 19, 20] (by decide) rfl
        have hKc := hK.sub (tys' := (mw_T g)) [0, 1, 2, 3, 4, 5, 6, 7, 8, 9, 10, 11, 12, 13, 14, 15, 16, 17, 18, 19] rfl
        have hFc := va_free (wc := (mw_W h q g I1 A)) hD hS hA [0, 1, 2, 3, 4, 5, 6, 7, 8, 9, 10, 11, 12, 13, 14, 15, 16, 17, 18, 19, 20] rfl
        cases hg2 : f_M_lineStart I1 A (X 2) with
        | none => rw [hg2] at hf; cases hf
        | some z2 =>
          obtain ⟨r2, I2, A2⟩ := z2
          rw [hg2] at hf
          dsimp only [Option.bind_some] at hf
          refine va_calli (va_runV (As := [.int (X 2)]) (rest := []) ⟨hx, hb, hml, hown, hts⟩ (cm_M_lineStart l dC dI h q g _ I1 A (X 2) r2 I2 A2 hg2) (cwV 1 hts (gd_v lk_215 lk_216 lk_217 lk_46 lk_214) rfl rfl rfl (by decide +kernel) ⟨Nat.le_of_ble_eq_true rfl, Nat.le_of_ble_eq_true rfl⟩) ⟨fun a U g mk q => by obtain ⟨q0, q1, qP, qK, qD⟩ := q; exact ⟨q0, q1, qP, va_K.moved (u := U) (U := U.calling g mk a) (Vm.Alike.refl U.vm) qK, qD⟩, va_recv (ci := 4) (q0 := 0) hK hP rfl rfl, fun U hU hW => ⟨rfl, by rw [hU], by rw [hU]; exact hPc, va_K.moved hW.alike hKc, hDc.weaken (fun _ _ _ _ => trivial)⟩⟩ rfl rfl hl.1 rfl (lv_room (Nat.le_of_ble_eq_true rfl)) d_M_line_108 ⟨Nat.le_of_ble_eq_true rfl, Nat.le_of_ble_eq_true rfl⟩) hS (fun q _ h => hFc q h) hFc (fun r9 u t H1 locs ht hvm hw hB hz1 hk1 hS => ?_)
          obtain ⟨hP1, hK1, hD1⟩ := hB
          rw [ht] at hP1
          rw [hw]
          obtain ⟨hP, hD⟩ := va_join (wr := []) (w1 := (mw_W h q g I2 A2)) hP hD [0, 1, 2, 3, 4, 5, 6, 7, 8, 9, 10, 11, 12, 13, 14, 15, 16, 17, 18, 19, 20] [] rfl rfl (by decide) (by decide) hk1 hFc hP1 hD1
          generalize H1 = H at hP hS ⊢
          have hP : va_P (dC, dI) vwCl (mw_W h q g I2 A2) H := hP
          have hD : va_D B9 (mw_W h q g I2 A2) := hD
          refine lv_istore (lv' := [(5, .int r2), (0, .ref h), (1, .int (X 1)), (2, .int (X 2)), (3, .int (X 3)), (4, .int (X 4))]) hx hb d_M_line_111 hl (by decide) rfl (fun ls hl => ?_)
          have hl : lv_has ls 7 [(5, .int r2), (0, .ref h), (1, .int (X 1)), (2, .int (X 2)), (3, .int (X 3)), (4, .int (X 4))] := hl
          refine lv_iload hx hb d_M_line_113 (lv_at hl 0 rfl) ?_
          refine lv_istore (lv' := [(6, .int r2), (5, .int r2), (0, .ref h), (1, .int (X 1)), (2, .int (X 2)), (3, .int (X 3)), (4, .int (X 4))]) hx hb d_M_line_115 hl (by decide) rfl (fun ls hl => ?_)
          have hl : lv_has ls 7 [(6, .int r2), (5, .int r2), (0, .ref h), (1, .int (X 1)), (2, .int (X 2)), (3, .int (X 3)), (4, .int (X 4))] := hl
          exact hrc117 I2 A2 (upd (upd X 5 r2) 6 r2) _ _ _ hf (lv_sub hl [2, 3, 4, 5, 6, 1, 0] rfl) hP hD hS
      ·
        have hf := wk_iff hc2 hf
        refine lv_iload_n hx hb d_M_line_92 rfl (lv_at hl 1 rfl) ?_
        refine lv_if_ne (tgt := 100) hx hb d_M_line_93 (by decide) (fun hc3 => ?_) (fun hc3 => ?_)
        ·
          have hf := wk_iff hc3 hf
          refine lv_aload_n hx hb d_M_line_100 rfl (lv_at hl 0 rfl) ?_
          refine lv_iload_n hx hb d_M_line_101 rfl (lv_at hl 2 rfl) ?_
          have hPc := hP.sub (ws' := (mw_W h q g I1 A)) [0, 1, 2, 3, 4, 5, 6, 7, 8, 9, 10, 11, 12, 13, 14, 15, 16, 17, 18, 19, 20] rfl
          have hDc := hD.sub (ws' := (mw_W h q g I1 A)) [0, 1, 2, 3, 4, 5, 6, 7, 8, 9, 10, 11, 12, 13, 14, 15, 16, 17, 18, 19, 20] (by decide) rfl
          have hKc := hK.sub (tys' := (mw_T g)) [0, 1, 2, 3, 4, 5, 6, 7, 8, 9, 10, 11, 12, 13, 14, 15, 16, 17, 18, 19] rfl
          have hFc := va_free (wc := (mw_W h q g I1 A)) hD hS hA [0, 1, 2, 3, 4, 5, 6, 7, 8, 9, 10, 11, 12, 13, 14, 15, 16, 17, 18, 19, 20] rfl
          cases hg2 : f_M_breaks I1 A (X 2) with
          | none => rw [hg2] at hf; cases hf
          | some z2 =>
            obtain ⟨r2, I2, A2⟩ := z2
            rw [hg2] at hf
            dsimp only [Option.bind_some] at hf
            refine va_calli (va_runV (As := [.int (X 2)]) (rest := []) ⟨hx, hb, hml, hown, hts⟩ (cm_M_breaks l dC dI h q g _ I1 A (X 2) r2 I2 A2 hg2) (cwV 1 hts (gd_v lk_211 lk_212 lk_213 lk_46 lk_76) rfl rfl rfl (by decide +kernel) ⟨Nat.le_of_ble_eq_true rfl, Nat.le_of_ble_eq_true rfl⟩) ⟨fun a U g mk q => by obtain ⟨q0, q1, qP, qK, qD⟩ := q; exact ⟨q0, q1, qP, va_K.moved (u := U) (U := U.calling g mk a) (Vm.Alike.refl U.vm) qK, qD⟩, va_recv (ci := 4) (q0 := 0) hK hP rfl rfl, fun U hU hW => ⟨rfl, by rw [hU], by rw [hU]; exact hPc, va_K.moved hW.alike hKc, hDc.weaken (fun _ _ _ _ => trivial)⟩⟩ rfl rfl hl.1 rfl (lv_room (Nat.le_of_ble_eq_true rfl)) d_M_line_102 ⟨Nat.le_of_ble_eq_true rfl, Nat.le_of_ble_eq_true rfl⟩) hS (fun q _ h => hFc q h) hFc (fun r9 u t H1 locs ht hvm hw hB hz1 hk1 hS => ?_)
            obtain ⟨hP1, hK1, hD1⟩ := hB
            rw [ht] at hP1
            rw [hw]
            obtain ⟨hP, hD⟩ := va_join (wr := []) (w1 := (mw_W h q g I2 A2)) hP hD [0, 1, 2, 3, 4, 5, 6, 7, 8, 9, 10, 11, 12, 13, 14, 15, 16, 17, 18, 19, 20] [] rfl rfl (by decide) (by decide) hk1 hFc hP1 hD1
            generalize H1 = H at hP hS ⊢
            have hP : va_P (dC, dI) vwCl (mw_W h q g I2 A2) H := hP
            have hD : va_D B9 (mw_W h q g I2 A2) := hD
            exact blk105 rc hrc117 I2 A2 X r2 _ _ _ hf (lv_sub hl [0, 1, 2, 3, 4] rfl) hP hD hS
        ·
          have hf := wk_ift hc3 hf
          refine lv_iload_n hx hb d_M_line_96 rfl (lv_at hl 3 rfl) ?_
          refine lv_goto (tgt := 105) hx hb d_M_line_97 (by decide) ?_
          exact blk105 rc hrc117 I1 A X (X 3) _ _ _ hf (lv_sub hl [0, 1, 2, 3, 4] rfl) hP hD hS
    ·
      have hf := wk_iff hc1 hf
      refine lv_iconst (v := 0) hx hb d_M_line_85 (by decide) ?_
      obtain ⟨e1, e2, e3⟩ := wk_inj hf
      subst e1
      subst e2
      subst e3
      exact W.iret (v := 0) hx hb hr (fun t ht hW => ⟨⟨0, (), rfl, rfl, by rw [ht]; exact hP, va_K.moved hW.alike hK, hD⟩, hS.F ht⟩) hS.2.2 d_M_line_86
  have blk61 : ∀ (rc : Nat → MI → MA → (Nat → Int32) → Option (Int32 × MI × MA)) (hrc117 : ∀ (I : MI) (A : MA) (X : Nat → Int32) (ls : Array Slot) (H : Heap) (locs : List Loc), rc 117 I A X = some (r, I', A') → lv_has ls 7 [(0, .ref h), (1, .int (X 1)), (2, .int (X 2)), (3, .int (X 3)), (4, .int (X 4)), (5, .int (X 5)), (6, .int (X 6))] → va_P (dC, dI) vwCl (mw_W h q g I A) H → va_D B9 (mw_W h q g I A) → va_S B9 s.heap H locs → W p l e (headSpec w_M_line ({ frames := 3, cells := 0, slots := 0, locals := 66 })).room s m ([.ref h, .int k1, .int k2] : List Value).toArray below meth c H locs 0 0 (MQ below (va_Qi (fun (r9 : Int32) (_ : Unit) => r9 = r) (fun (_ : Unit) t => va_P (dC, dI) vwCl (mw_W h q g I' A') t.heap ∧ va_K (dC, dI) vwCl (mw_T g) t ∧ va_D B9 (mw_W h q g I' A')) B9) ([.ref h, .int k1, .int k2] : List Value).toArray s 0 0 B9) (F0 m 117 ls [])), ∀ (I : MI) (A : MA) (X : Nat → Int32) (ls : Array Slot) (H : Heap) (locs : List Loc), f_M_line_61 rc I A X = some (r, I', A') → lv_has ls 7 [(0, .ref h), (1, .int (X 1)), (2, .int (X 2)), (3, .int (X 3)), (4, .int (X 4))] → va_P (dC, dI) vwCl (mw_W h q g I A) H → va_D B9 (mw_W h q g I A) → va_S B9 s.heap H locs → W p l e (headSpec w_M_line ({ frames := 3, cells := 0, slots := 0, locals := 66 })).room s m ([.ref h, .int k1, .int k2] : List Value).toArray below meth c H locs 0 0 (MQ below (va_Qi (fun (r9 : Int32) (_ : Unit) => r9 = r) (fun (_ : Unit) t => va_P (dC, dI) vwCl (mw_W h q g I' A') t.heap ∧ va_K (dC, dI) vwCl (mw_T g) t ∧ va_D B9 (mw_W h q g I' A')) B9) ([.ref h, .int k1, .int k2] : List Value).toArray s 0 0 B9) (F0 m 61 ls [.ref h]) := by
    intro rc hrc117 I A X ls H locs hf hl hP hD hS
    unfold f_M_line_61 at hf
    refine lv_iconst (v := 1) hx hb d_M_line_61 (by decide) ?_
    refine lv_goto (tgt := 75) hx hb d_M_line_62 (by decide) ?_
    exact blk75 rc hrc117 I A X 1 _ _ _ hf (lv_sub hl [0, 1, 2, 3, 4] rfl) hP hD hS
  have blk49 : ∀ (rc : Nat → MI → MA → (Nat → Int32) → Option (Int32 × MI × MA)) (hrc117 : ∀ (I : MI) (A : MA) (X : Nat → Int32) (ls : Array Slot) (H : Heap) (locs : List Loc), rc 117 I A X = some (r, I', A') → lv_has ls 7 [(0, .ref h), (1, .int (X 1)), (2, .int (X 2)), (3, .int (X 3)), (4, .int (X 4)), (5, .int (X 5)), (6, .int (X 6))] → va_P (dC, dI) vwCl (mw_W h q g I A) H → va_D B9 (mw_W h q g I A) → va_S B9 s.heap H locs → W p l e (headSpec w_M_line ({ frames := 3, cells := 0, slots := 0, locals := 66 })).room s m ([.ref h, .int k1, .int k2] : List Value).toArray below meth c H locs 0 0 (MQ below (va_Qi (fun (r9 : Int32) (_ : Unit) => r9 = r) (fun (_ : Unit) t => va_P (dC, dI) vwCl (mw_W h q g I' A') t.heap ∧ va_K (dC, dI) vwCl (mw_T g) t ∧ va_D B9 (mw_W h q g I' A')) B9) ([.ref h, .int k1, .int k2] : List Value).toArray s 0 0 B9) (F0 m 117 ls [])), ∀ (I : MI) (A : MA) (X : Nat → Int32) (s0 : Int32) (ls : Array Slot) (H : Heap) (locs : List Loc), f_M_line_49 rc I A X s0 = some (r, I', A') → lv_has ls 7 [(0, .ref h), (1, .int (X 1)), (2, .int (X 2)), (3, .int (X 3))] → va_P (dC, dI) vwCl (mw_W h q g I A) H → va_D B9 (mw_W h q g I A) → va_S B9 s.heap H locs → W p l e (headSpec w_M_line ({ frames := 3, cells := 0, slots := 0, locals := 66 })).room s m ([.ref h, .int k1, .int k2] : List Value).toArray below meth c H locs 0 0 (MQ below (va_Qi (fun (r9 : Int32) (_ : Unit) => r9 = r) (fun (_ : Unit) t => va_P (dC, dI) vwCl (mw_W h q g I' A') t.heap ∧ va_K (dC, dI) vwCl (mw_T g) t ∧ va_D B9 (mw_W h q g I' A')) B9) ([.ref h, .int k1, .int k2] : List Value).toArray s 0 0 B9) (F0 m 49 ls [.int s0]) := by
    intro rc hrc117 I A X s0 ls H locs hf hl hP hD hS
    unfold f_M_line_49 at hf
    refine lv_istore (lv' := [(4, .int s0), (0, .ref h), (1, .int (X 1)), (2, .int (X 2)), (3, .int (X 3))]) hx hb d_M_line_49 hl (by decide) rfl (fun ls hl => ?_)
    have hl : lv_has ls 7 [(4, .int s0), (0, .ref h), (1, .int (X 1)), (2, .int (X 2)), (3, .int (X 3))] := hl
    refine lv_aload_n hx hb d_M_line_51 rfl (lv_at hl 1 rfl) ?_
    refine lv_iload_n hx hb d_M_line_52 rfl (lv_at hl 2 rfl) ?_
    refine lv_if_lt (tgt := 61) hx hb d_M_line_53 (by decide) (fun hc1 => ?_) (fun hc1 => ?_)
    ·
      have hf := wk_ift hc1 hf
      exact blk61 rc hrc117 I A (upd X 4 s0) _ _ _ hf (lv_sub hl [1, 2, 3, 4, 0] rfl) hP hD hS
    ·
      have hf := wk_iff hc1 hf
      refine lv_iload_n hx hb d_M_line_56 rfl (lv_at hl 2 rfl) ?_
      refine lv_iconst (v := 3) hx hb d_M_line_57 (by decide) ?_
      refine lv_icmp_le (tgt := 65) hx hb d_M_line_58 (by decide) (fun hc2 => ?_) (fun hc2 => ?_)
      ·
        have hf := wk_ift hc2 hf
        refine lv_iload hx hb d_M_line_65 (lv_at hl 0 rfl) ?_
        refine lv_if_ne (tgt := 74) hx hb d_M_line_67 (by decide) (fun hc3 => ?_) (fun hc3 => ?_)
        ·
          have hf := wk_iff hc3 hf
          refine lv_iconst (v := 0) hx hb d_M_line_74 (by decide) ?_
          exact blk75 rc hrc117 I A (upd X 4 s0) 0 _ _ _ hf (lv_sub hl [1, 2, 3, 4, 0] rfl) hP hD hS
        ·
          have hf := wk_ift hc3 hf
          refine lv_iconst (v := 2) hx hb d_M_line_70 (by decide) ?_
          refine lv_goto (tgt := 75) hx hb d_M_line_71 (by decide) ?_
          exact blk75 rc hrc117 I A (upd X 4 s0) 2 _ _ _ hf (lv_sub hl [1, 2, 3, 4, 0] rfl) hP hD hS
      ·
        have hf := wk_iff hc2 hf
        exact blk61 rc hrc117 I A (upd X 4 s0) _ _ _ hf (lv_sub hl [1, 2, 3, 4, 0] rfl) hP hD hS
  have blk44 : ∀ (rc : Nat → MI → MA → (Nat → Int32) → Option (Int32 × MI × MA)) (hrc117 : ∀ (I : MI) (A : MA) (X : Nat → Int32) (ls : Array Slot) (H : Heap) (locs : List Loc), rc 117 I A X = some (r, I', A') → lv_has ls 7 [(0, .ref h), (1, .int (X 1)), (2, .int (X 2)), (3, .int (X 3)), (4, .int (X 4)), (5, .int (X 5)), (6, .int (X 6))] → va_P (dC, dI) vwCl (mw_W h q g I A) H → va_D B9 (mw_W h q g I A) → va_S B9 s.heap H locs → W p l e (headSpec w_M_line ({ frames := 3, cells := 0, slots := 0, locals := 66 })).room s m ([.ref h, .int k1, .int k2] : List Value).toArray below meth c H locs 0 0 (MQ below (va_Qi (fun (r9 : Int32) (_ : Unit) => r9 = r) (fun (_ : Unit) t => va_P (dC, dI) vwCl (mw_W h q g I' A') t.heap ∧ va_K (dC, dI) vwCl (mw_T g) t ∧ va_D B9 (mw_W h q g I' A')) B9) ([.ref h, .int k1, .int k2] : List Value).toArray s 0 0 B9) (F0 m 117 ls [])), ∀ (I : MI) (A : MA) (X : Nat → Int32) (ls : Array Slot) (H : Heap) (locs : List Loc), f_M_line_44 rc I A X = some (r, I', A') → lv_has ls 7 [(0, .ref h), (1, .int (X 1)), (2, .int (X 2)), (3, .int (X 3))] → va_P (dC, dI) vwCl (mw_W h q g I A) H → va_D B9 (mw_W h q g I A) → va_S B9 s.heap H locs → W p l e (headSpec w_M_line ({ frames := 3, cells := 0, slots := 0, locals := 66 })).room s m ([.ref h, .int k1, .int k2] : List Value).toArray below meth c H locs 0 0 (MQ below (va_Qi (fun (r9 : Int32) (_ : Unit) => r9 = r) (fun (_ : Unit) t => va_P (dC, dI) vwCl (mw_W h q g I' A') t.heap ∧ va_K (dC, dI) vwCl (mw_T g) t ∧ va_D B9 (mw_W h q g I' A')) B9) ([.ref h, .int k1, .int k2] : List Value).toArray s 0 0 B9) (F0 m 44 ls []) := by
    intro rc hrc117 I A X ls H locs hf hl hP hD hS
    unfold f_M_line_44 at hf
    refine lv_iconst (v := 1) hx hb d_M_line_44 (by decide) ?_
    refine lv_goto (tgt := 49) hx hb d_M_line_45 (by decide) ?_
    exact blk49 rc hrc117 I A X 1 _ _ _ hf (lv_sub hl [0, 1, 2, 3] rfl) hP hD hS
  have blk48 : ∀ (rc : Nat → MI → MA → (Nat → Int32) → Option (Int32 × MI × MA)) (hrc117 : ∀ (I : MI) (A : MA) (X : Nat → Int32) (ls : Array Slot) (H : Heap) (locs : List Loc), rc 117 I A X = some (r, I', A') → lv_has ls 7 [(0, .ref h), (1, .int (X 1)), (2, .int (X 2)), (3, .int (X 3)), (4, .int (X 4)), (5, .int (X 5)), (6, .int (X 6))] → va_P (dC, dI) vwCl (mw_W h q g I A) H → va_D B9 (mw_W h q g I A) → va_S B9 s.heap H locs → W p l e (headSpec w_M_line ({ frames := 3, cells := 0, slots := 0, locals := 66 })).room s m ([.ref h, .int k1, .int k2] : List Value).toArray below meth c H locs 0 0 (MQ below (va_Qi (fun (r9 : Int32) (_ : Unit) => r9 = r) (fun (_ : Unit) t => va_P (dC, dI) vwCl (mw_W h q g I' A') t.heap ∧ va_K (dC, dI) vwCl (mw_T g) t ∧ va_D B9 (mw_W h q g I' A')) B9) ([.ref h, .int k1, .int k2] : List Value).toArray s 0 0 B9) (F0 m 117 ls [])), ∀ (I : MI) (A : MA) (X : Nat → Int32) (ls : Array Slot) (H : Heap) (locs : List Loc), f_M_line_48 rc I A X = some (r, I', A') → lv_has ls 7 [(0, .ref h), (1, .int (X 1)), (2, .int (X 2)), (3, .int (X 3))] → va_P (dC, dI) vwCl (mw_W h q g I A) H → va_D B9 (mw_W h q g I A) → va_S B9 s.heap H locs → W p l e (headSpec w_M_line ({ frames := 3, cells := 0, slots := 0, locals := 66 })).room s m ([.ref h, .int k1, .int k2] : List Value).toArray below meth c H locs 0 0 (MQ below (va_Qi (fun (r9 : Int32) (_ : Unit) => r9 = r) (fun (_ : Unit) t => va_P (dC, dI) vwCl (mw_W h q g I' A') t.heap ∧ va_K (dC, dI) vwCl (mw_T g) t ∧ va_D B9 (mw_W h q g I' A')) B9) ([.ref h, .int k1, .int k2] : List Value).toArray s 0 0 B9) (F0 m 48 ls []) := by
    intro rc hrc117 I A X ls H locs hf hl hP hD hS
    unfold f_M_line_48 at hf
    refine lv_iconst (v := 0) hx hb d_M_line_48 (by decide) ?_
    exact blk49 rc hrc117 I A X 0 _ _ _ hf (lv_sub hl [0, 1, 2, 3] rfl) hP hD hS
  have blk158 : ∀ (rc : Nat → MI → MA → (Nat → Int32) → Option (Int32 × MI × MA)) (hrc117 : ∀ (I : MI) (A : MA) (X : Nat → Int32) (ls : Array Slot) (H : Heap) (locs : List Loc), rc 117 I A X = some (r, I', A') → lv_has ls 7 [(0, .ref h), (1, .int (X 1)), (2, .int (X 2)), (3, .int (X 3)), (4, .int (X 4)), (5, .int (X 5)), (6, .int (X 6))] → va_P (dC, dI) vwCl (mw_W h q g I A) H → va_D B9 (mw_W h q g I A) → va_S B9 s.heap H locs → W p l e (headSpec w_M_line ({ frames := 3, cells := 0, slots := 0, locals := 66 })).room s m ([.ref h, .int k1, .int k2] : List Value).toArray below meth c H locs 0 0 (MQ below (va_Qi (fun (r9 : Int32) (_ : Unit) => r9 = r) (fun (_ : Unit) t => va_P (dC, dI) vwCl (mw_W h q g I' A') t.heap ∧ va_K (dC, dI) vwCl (mw_T g) t ∧ va_D B9 (mw_W h q g I' A')) B9) ([.ref h, .int k1, .int k2] : List Value).toArray s 0 0 B9) (F0 m 117 ls [])), ∀ (I : MI) (A : MA) (X : Nat → Int32) (s0 : Int32) (ls : Array Slot) (H : Heap) (locs : List Loc), f_M_line_158 rc I A X s0 = some (r, I', A') → lv_has ls 7 [(0, .ref h), (1, .int (X 1)), (2, .int (X 2)), (3, .int (X 3)), (4, .int (X 4)), (5, .int (X 5)), (6, .int (X 6))] → va_P (dC, dI) vwCl (mw_W h q g I A) H → va_D B9 (mw_W h q g I A) → va_S B9 s.heap H locs → W p l e (headSpec w_M_line ({ frames := 3, cells := 0, slots := 0, locals := 66 })).room s m ([.ref h, .int k1, .int k2] : List Value).toArray below meth c H locs 0 0 (MQ below (va_Qi (fun (r9 : Int32) (_ : Unit) => r9 = r) (fun (_ : Unit) t => va_P (dC, dI) vwCl (mw_W h q g I' A') t.heap ∧ va_K (dC, dI) vwCl (mw_T g) t ∧ va_D B9 (mw_W h q g I' A')) B9) ([.ref h, .int k1, .int k2] : List Value).toArray s 0 0 B9) (F0 m 158 ls [.int s0]) := by
    intro rc hrc117 I A X s0 ls H locs hf hl hP hD hS
    unfold f_M_line_158 at hf
    obtain ⟨e1, e2, e3⟩ := wk_inj hf
    subst e1
    subst e2
    subst e3
    exact W.iret (v := s0) hx hb hr (fun t ht hW => ⟨⟨s0, (), rfl, rfl, by rw [ht]; exact hP, va_K.moved hW.alike hK, hD⟩, hS.F ht⟩) hS.2.2 d_M_line_158
  have blk143 : ∀ (rc : Nat → MI → MA → (Nat → Int32) → Option (Int32 × MI × MA)) (hrc117 : ∀ (I : MI) (A : MA) (X : Nat → Int32) (ls : Array Slot) (H : Heap) (locs : List Loc), rc 117 I A X = some (r, I', A') → lv_has ls 7 [(0, .ref h), (1, .int (X 1)), (2, .int (X 2)), (3, .int (X 3)), (4, .int (X 4)), (5, .int (X 5)), (6, .int (X 6))] → va_P (dC, dI) vwCl (mw_W h q g I A) H → va_D B9 (mw_W h q g I A) → va_S B9 s.heap H locs → W p l e (headSpec w_M_line ({ frames := 3, cells := 0, slots := 0, locals := 66 })).room s m ([.ref h, .int k1, .int k2] : List Value).toArray below meth c H locs 0 0 (MQ below (va_Qi (fun (r9 : Int32) (_ : Unit) => r9 = r) (fun (_ : Unit) t => va_P (dC, dI) vwCl (mw_W h q g I' A') t.heap ∧ va_K (dC, dI) vwCl (mw_T g) t ∧ va_D B9 (mw_W h q g I' A')) B9) ([.ref h, .int k1, .int k2] : List Value).toArray s 0 0 B9) (F0 m 117 ls [])), ∀ (I : MI) (A : MA) (X : Nat → Int32) (ls : Array Slot) (H : Heap) (locs : List Loc), f_M_line_143 rc I A X = some (r, I', A') → lv_has ls 7 [(0, .ref h), (1, .int (X 1)), (2, .int (X 2)), (3, .int (X 3)), (4, .int (X 4)), (5, .int (X 5)), (6, .int (X 6))] → va_P (dC, dI) vwCl (mw_W h q g I A) H → va_D B9 (mw_W h q g I A) → va_S B9 s.heap H locs → W p l e (headSpec w_M_line ({ frames := 3, cells := 0, slots := 0, locals := 66 })).room s m ([.ref h, .int k1, .int k2] : List Value).toArray below meth c H locs 0 0 (MQ below (va_Qi (fun (r9 : Int32) (_ : Unit) => r9 = r) (fun (_ : Unit) t => va_P (dC, dI) vwCl (mw_W h q g I' A') t.heap ∧ va_K (dC, dI) vwCl (mw_T g) t ∧ va_D B9 (mw_W h q g I' A')) B9) ([.ref h, .int k1, .int k2] : List Value).toArray s 0 0 B9) (F0 m 143 ls []) := by
    intro rc hrc117 I A X ls H locs hf hl hP hD hS
    unfold f_M_line_143 at hf
    refine lv_iload_n hx hb d_M_line_143 rfl (lv_at hl 1 rfl) ?_
    refine lv_iconst (v := 2) hx hb d_M_line_144 (by decide) ?_
    refine lv_icmp_ne (tgt := 153) hx hb d_M_line_145 (by decide) (fun hc1 => ?_) (fun hc1 => ?_)
    ·
      have hf := wk_iff hc1 hf
      refine lv_iload hx hb d_M_line_153 (lv_at hl 6 rfl) ?_
      refine lv_iload hx hb d_M_line_155 (lv_at hl 5 rfl) ?_
      refine lv_isub hx hb d_M_line_157 ?_
      exact blk158 rc hrc117 I A X ((X 6) - (X 5)) _ _ _ hf (lv_sub hl [0, 1, 2, 3, 4, 5, 6] rfl) hP hD hS
    ·
      have hf := wk_ift hc1 hf
      refine lv_iload hx hb d_M_line_148 (lv_at hl 5 rfl) ?_
      refine lv_goto (tgt := 158) hx hb d_M_line_150 (by decide) ?_
      exact blk158 rc hrc117 I A X (X 5) _ _ _ hf (lv_sub hl [0, 1, 2, 3, 4, 5, 6] rfl) hP hD hS
  have stp117 : ∀ (rc : Nat → MI → MA → (Nat → Int32) → Option (Int32 × MI × MA)) (hrc117 : ∀ (I : MI) (A : MA) (X : Nat → Int32) (ls : Array Slot) (H : Heap) (locs : List Loc), rc 117 I A X = some (r, I', A') → lv_has ls 7 [(0, .ref h), (1, .int (X 1)), (2, .int (X 2)), (3, .int (X 3)), (4, .int (X 4)), (5, .int (X 5)), (6, .int (X 6))] → va_P (dC, dI) vwCl (mw_W h q g I A) H → va_D B9 (mw_W h q g I A) → va_S B9 s.heap H locs → W p l e (headSpec w_M_line ({ frames := 3, cells := 0, slots := 0, locals := 66 })).room s m ([.ref h, .int k1, .int k2] : List Value).toArray below meth c H locs 0 0 (MQ below (va_Qi (fun (r9 : Int32) (_ : Unit) => r9 = r) (fun (_ : Unit) t => va_P (dC, dI) vwCl (mw_W h q g I' A') t.heap ∧ va_K (dC, dI) vwCl (mw_T g) t ∧ va_D B9 (mw_W h q g I' A')) B9) ([.ref h, .int k1, .int k2] : List Value).toArray s 0 0 B9) (F0 m 117 ls [])), ∀ (I : MI) (A : MA) (X : Nat → Int32) (ls : Array Slot) (H : Heap) (locs : List Loc), f_M_line_117 rc I A X = some (r, I', A') → lv_has ls 7 [(0, .ref h), (1, .int (X 1)), (2, .int (X 2)), (3, .int (X 3)), (4, .int (X 4)), (5, .int (X 5)), (6, .int (X 6))] → va_P (dC, dI) vwCl (mw_W h q g I A) H → va_D B9 (mw_W h q g I A) → va_S B9 s.heap H locs → W p l e (headSpec w_M_line ({ frames := 3, cells := 0, slots := 0, locals := 66 })).room s m ([.ref h, .int k1, .int k2] : List Value).toArray below meth c H locs 0 0 (MQ below (va_Qi (fun (r9 : Int32) (_ : Unit) => r9 = r) (fun (_ : Unit) t => va_P (dC, dI) vwCl (mw_W h q g I' A') t.heap ∧ va_K (dC, dI) vwCl (mw_T g) t ∧ va_D B9 (mw_W h q g I' A')) B9) ([.ref h, .int k1, .int k2] : List Value).toArray s 0 0 B9) (F0 m 117 ls []) := by
    intro rc hrc117 I A X ls H locs hf hl hP hD hS
    unfold f_M_line_117 at hf
    refine lv_iload hx hb d_M_line_117 (lv_at hl 6 rfl) ?_
    refine lv_aload_n hx hb d_M_line_119 rfl (lv_at hl 0 rfl) ?_
    have hPc := hP.sub (ws' := (mw_W h q g I A)) [0, 1, 2, 3, 4, 5, 6, 7, 8, 9, 10, 11, 12, 13, 14, 15, 16, 17, 18, 19, 20] rfl
    have hDc := hD.sub (ws' := (mw_W h q g I A)) [0, 1, 2, 3, 4, 5, 6, 7, 8, 9, 10, 11, 12, 13, 14, 15, 16, 17, 18, 19, 20] (by decide) rfl
    have hKc := hK.sub (tys' := (mw_T g)) [0, 1, 2, 3, 4, 5, 6, 7, 8, 9, 10, 11, 12, 13, 14, 15, 16, 17, 18, 19] rfl
    have hFc := va_free (wc := (mw_W h q g I A)) hD hS hA [0, 1, 2, 3, 4, 5, 6, 7, 8, 9, 10, 11, 12, 13, 14, 15, 16, 17, 18, 19, 20] rfl
    cases hg1 : f_M_textLength I A with
    | none => rw [hg1] at hf; cases hf
    | some z1 =>
      obtain ⟨r1, I1, A1⟩ := z1
      rw [hg1] at hf
      dsimp only [Option.bind_some] at hf
      refine va_calli (va_runV (As := []) (rest := [.int (X 6)]) ⟨hx, hb, hml, hown, hts⟩ (cm_M_textLength l dC dI h q g _ I A r1 I1 A1 hg1) (cwV 0 hts (gd_v lk_57 lk_58 lk_59 lk_46 lk_56) rfl rfl rfl (by decide +kernel) ⟨Nat.le_of_ble_eq_true rfl, Nat.le_of_ble_eq_true rfl⟩) ⟨fun a U g mk q => by obtain ⟨q0, q1, qP, qK, qD⟩ := q; exact ⟨q0, q1, qP, va_K.moved (u := U) (U := U.calling g mk a) (Vm.Alike.refl U.vm) qK, qD⟩, va_recv (ci := 4) (q0 := 0) hK hP rfl rfl, fun U hU hW => ⟨rfl, by rw [hU], by rw [hU]; exact hPc, va_K.moved hW.alike hKc, hDc.weaken (fun _ _ _ _ => trivial)⟩⟩ rfl rfl hl.1 rfl (lv_room (Nat.le_of_ble_eq_true rfl)) d_M_line_120 ⟨Nat.le_of_ble_eq_true rfl, Nat.le_of_ble_eq_true rfl⟩) hS (fun q _ h => hFc q h) hFc (fun r9 u t H1 locs ht hvm hw hB hz1 hk1 hS => ?_)
      obtain ⟨hP1, hK1, hD1⟩ := hB
      rw [ht] at hP1
      rw [hw]
      obtain ⟨hP, hD⟩ := va_join (wr := []) (w1 := (mw_W h q g I1 A1)) hP hD [0, 1, 2, 3, 4, 5, 6, 7, 8, 9, 10, 11, 12, 13, 14, 15, 16, 17, 18, 19, 20] [] rfl rfl (by decide) (by decide) hk1 hFc hP1 hD1
      generalize H1 = H at hP hS ⊢
      have hP : va_P (dC, dI) vwCl (mw_W h q g I1 A1) H := hP
      have hD : va_D B9 (mw_W h q g I1 A1) := hD
      refine lv_icmp_ge (tgt := 143) hx hb d_M_line_123 (by decide) (fun hc1 => ?_) (fun hc1 => ?_)
      ·
        have hf := wk_ift hc1 hf
        exact blk143 rc hrc117 I1 A1 X _ _ _ hf (lv_sub hl [0, 1, 2, 3, 4, 5, 6] rfl) hP hD hS
      ·
        have hf := wk_iff hc1 hf
        refine lv_aload_n hx hb d_M_line_126 rfl (lv_at hl 0 rfl) ?_
        refine lv_iload hx hb d_M_line_127 (lv_at hl 6 rfl) ?_
        have hPc := hP.sub (ws' := (mw_W h q g I1 A1)) [0, 1, 2, 3, 4, 5, 6, 7, 8, 9, 10, 11, 12, 13, 14, 15, 16, 17, 18, 19, 20] rfl
        have hDc := hD.sub (ws' := (mw_W h q g I1 A1)) [0, 1, 2, 3, 4, 5, 6, 7, 8, 9, 10, 11, 12, 13, 14, 15, 16, 17, 18, 19, 20] (by decide) rfl
        have hKc := hK.sub (tys' := (mw_T g)) [0, 1, 2, 3, 4, 5, 6, 7, 8, 9, 10, 11, 12, 13, 14, 15, 16, 17, 18, 19] rfl
        have hFc := va_free (wc := (mw_W h q g I1 A1)) hD hS hA [0, 1, 2, 3, 4, 5, 6, 7, 8, 9, 10, 11, 12, 13, 14, 15, 16, 17, 18, 19, 20] rfl
        cases hg2 : f_M_charAt I1 A1 (X 6) with
        | none => rw [hg2] at hf; cases hf
        | some z2 =>
          obtain ⟨r2, I2, A2⟩ := z2
          rw [hg2] at hf
          dsimp only [Option.bind_some] at hf
          refine va_calli (va_runV (As := [.int (X 6)]) (rest := []) ⟨hx, hb, hml, hown, hts⟩ (cm_M_charAt l dC dI h q g _ I1 A1 (X 6) r2 I2 A2 hg2) (cwV 1 hts (gd_v lk_51 lk_52 lk_53 lk_46 lk_50) rfl rfl rfl (by decide +kernel) ⟨Nat.le_of_ble_eq_true rfl, Nat.le_of_ble_eq_true rfl⟩) ⟨fun a U g mk q => by obtain ⟨q0, q1, qP, qK, qD⟩ := q; exact ⟨q0, q1, qP, va_K.moved (u := U) (U := U.calling g mk a) (Vm.Alike.refl U.vm) qK, qD⟩, va_recv (ci := 4) (q0 := 0) hK hP rfl rfl, fun U hU hW => ⟨rfl, by rw [hU], by rw [hU]; exact hPc, va_K.moved hW.alike hKc, hDc.weaken (fun _ _ _ _ => trivial)⟩⟩ rfl rfl hl.1 rfl (lv_room (Nat.le_of_ble_eq_true rfl)) d_M_line_129 ⟨Nat.le_of_ble_eq_true rfl, Nat.le_of_ble_eq_true rfl⟩) hS (fun q _ h => hFc q h) hFc (fun r9 u t H1 locs ht hvm hw hB hz1 hk1 hS => ?_)
          obtain ⟨hP1, hK1, hD1⟩ := hB
          rw [ht] at hP1
          rw [hw]
          obtain ⟨hP, hD⟩ := va_join (wr := []) (w1 := (mw_W h q g I2 A2)) hP hD [0, 1, 2, 3, 4, 5, 6, 7, 8, 9, 10, 11, 12, 13, 14, 15, 16, 17, 18, 19, 20] [] rfl rfl (by decide) (by decide) hk1 hFc hP1 hD1
          generalize H1 = H at hP hS ⊢
          have hP : va_P (dC, dI) vwCl (mw_W h q g I2 A2) H := hP
          have hD : va_D B9 (mw_W h q g I2 A2) := hD
          refine lv_bipush (v := 10) hx hb d_M_line_132 (by decide) ?_
          refine lv_icmp_eq (tgt := 143) hx hb d_M_line_134 (by decide) (fun hc2 => ?_) (fun hc2 => ?_)
          ·
            have hf := wk_ift hc2 hf
            exact blk143 rc hrc117 I2 A2 X _ _ _ hf (lv_sub hl [0, 1, 2, 3, 4, 5, 6] rfl) hP hD hS
          ·
            have hf := wk_iff hc2 hf
            refine lv_iinc (k := 6) (v := ((X 6) + 1)) (lv' := [(6, .int ((X 6) + 1)), (0, .ref h), (1, .int (X 1)), (2, .int (X 2)), (3, .int (X 3)), (4, .int (X 4)), (5, .int (X 5))]) hx hb d_M_line_137 hl rfl (wk_inc (by decide)) (by decide) rfl (fun ls hl => ?_)
            have hl : lv_has ls 7 [(6, .int ((X 6) + 1)), (0, .ref h), (1, .int (X 1)), (2, .int (X 2)), (3, .int (X 3)), (4, .int (X 4)), (5, .int (X 5))] := hl
            refine lv_goto (tgt := 117) hx hb d_M_line_140 (by decide) ?_
            exact hrc117 I2 A2 (upd X 6 ((X 6) + 1)) _ _ _ hf (lv_sub hl [1, 2, 3, 4, 5, 6, 0] rfl) hP hD hS
  have key : ∀ n : Nat, (∀ (I : MI) (A : MA) (X : Nat → Int32) (ls : Array Slot) (H : Heap) (locs : List Loc), f_M_line_go n 117 I A X = some (r, I', A') → lv_has ls 7 [(0, .ref h), (1, .int (X 1)), (2, .int (X 2)), (3, .int (X 3)), (4, .int (X 4)), (5, .int (X 5)), (6, .int (X 6))] → va_P (dC, dI) vwCl (mw_W h q g I A) H → va_D B9 (mw_W h q g I A) → va_S B9 s.heap H locs → W p l e (headSpec w_M_line ({ frames := 3, cells := 0, slots := 0, locals := 66 })).room s m ([.ref h, .int k1, .int k2] : List Value).toArray below meth c H locs 0 0 (MQ below (va_Qi (fun (r9 : Int32) (_ : Unit) => r9 = r) (fun (_ : Unit) t => va_P (dC, dI) vwCl (mw_W h q g I' A') t.heap ∧ va_K (dC, dI) vwCl (mw_T g) t ∧ va_D B9 (mw_W h q g I' A')) B9) ([.ref h, .int k1, .int k2] : List Value).toArray s 0 0 B9) (F0 m 117 ls [])) := by
    intro n
    induction n with
    | zero => exact fun I A X ls H locs hf => (by cases hf)
    | succ n ih =>
      have ih117 := ih
      exact stp117 (f_M_line_go n) ih117
  unfold f_M_line f_M_line_e at hf
  have hrc117 := key wk_FUEL
  refine lv_aload_n hx hb d_M_line_0 rfl (lv_at hl 0 rfl) ?_
  refine lv_aload_n hx hb d_M_line_1 rfl (lv_at hl 0 rfl) ?_
  have hPc := hP.sub (ws' := (mw_W h q g I A)) [0, 1, 2, 3, 4, 5, 6, 7, 8, 9, 10, 11, 12, 13, 14, 15, 16, 17, 18, 19, 20] rfl
  have hDc := hD.sub (ws' := (mw_W h q g I A)) [0, 1, 2, 3, 4, 5, 6, 7, 8, 9, 10, 11, 12, 13, 14, 15, 16, 17, 18, 19, 20] (by decide) rfl
  have hKc := hK.sub (tys' := (mw_T g)) [0, 1, 2, 3, 4, 5, 6, 7, 8, 9, 10, 11, 12, 13, 14, 15, 16, 17, 18, 19] rfl
  have hFc := va_free (wc := (mw_W h q g I A)) hD hS hA [0, 1, 2, 3, 4, 5, 6, 7, 8, 9, 10, 11, 12, 13, 14, 15, 16, 17, 18, 19, 20] rfl
  cases hg1 : f_M_textLength I A with
  | none => rw [hg1] at hf; cases hf
  | some z1 =>
    obtain ⟨r1, I1, A1⟩ := z1
    rw [hg1] at hf
    dsimp only [Option.bind_some] at hf
    refine va_calli (va_runV (As := []) (rest := [.ref h]) ⟨hx, hb, hml, hown, hts⟩ (cm_M_textLength l dC dI h q g _ I A r1 I1 A1 hg1) (cwV 0 hts (gd_v lk_57 lk_58 lk_59 lk_46 lk_56) rfl rfl rfl (by decide +kernel) ⟨Nat.le_of_ble_eq_true rfl, Nat.le_of_ble_eq_true rfl⟩) ⟨fun a U g mk q => by obtain ⟨q0, q1, qP, qK, qD⟩ := q; exact ⟨q0, q1, qP, va_K.moved (u := U) (U := U.calling g mk a) (Vm.Alike.refl U.vm) qK, qD⟩, va_recv (ci := 4) (q0 := 0) hK hP rfl rfl, fun U hU hW => ⟨rfl, by rw [hU], by rw [hU]; exact hPc, va_K.moved hW.alike hKc, hDc.weaken (fun _ _ _ _ => trivial)⟩⟩ rfl rfl hl.1 rfl (lv_room (Nat.le_of_ble_eq_true rfl)) d_M_line_2 ⟨Nat.le_of_ble_eq_true rfl, Nat.le_of_ble_eq_true rfl⟩) hS (fun q _ h => hFc q h) hFc (fun r9 u t H1 locs ht hvm hw hB hz1 hk1 hS => ?_)
    obtain ⟨hP1, hK1, hD1⟩ := hB
    rw [ht] at hP1
    rw [hw]
    obtain ⟨hP, hD⟩ := va_join (wr := []) (w1 := (mw_W h q g I1 A1)) hP hD [0, 1, 2, 3, 4, 5, 6, 7, 8, 9, 10, 11, 12, 13, 14, 15, 16, 17, 18, 19, 20] [] rfl rfl (by decide) (by decide) hk1 hFc hP1 hD1
    generalize H1 = H at hP hS ⊢
    have hP : va_P (dC, dI) vwCl (mw_W h q g I1 A1) H := hP
    have hD : va_D B9 (mw_W h q g I1 A1) := hD
    have hPc := hP.sub (ws' := (mw_W h q g I1 A1)) [0, 1, 2, 3, 4, 5, 6, 7, 8, 9, 10, 11, 12, 13, 14, 15, 16, 17, 18, 19, 20] rfl
    have hDc := hD.sub (ws' := (mw_W h q g I1 A1)) [0, 1, 2, 3, 4, 5, 6, 7, 8, 9, 10, 11, 12, 13, 14, 15, 16, 17, 18, 19, 20] (by decide) rfl
    have hKc := hK.sub (tys' := (mw_T g)) [0, 1, 2, 3, 4, 5, 6, 7, 8, 9, 10, 11, 12, 13, 14, 15, 16, 17, 18, 19] rfl
    have hFc := va_free (wc := (mw_W h q g I1 A1)) hD hS hA [0, 1, 2, 3, 4, 5, 6, 7, 8, 9, 10, 11, 12, 13, 14, 15, 16, 17, 18, 19, 20] rfl
    cases hg2 : f_M_breaks I1 A1 r1 with
    | none => rw [hg2] at hf; cases hf
    | some z2 =>
      obtain ⟨r2, I2, A2⟩ := z2
      rw [hg2] at hf
      dsimp only [Option.bind_some] at hf
      refine va_calli (va_runV (As := [.int r1]) (rest := []) ⟨hx, hb, hml, hown, hts⟩ (cm_M_breaks l dC dI h q g _ I1 A1 r1 r2 I2 A2 hg2) (cwV 1 hts (gd_v lk_211 lk_212 lk_213 lk_46 lk_76) rfl rfl rfl (by decide +kernel) ⟨Nat.le_of_ble_eq_true rfl, Nat.le_of_ble_eq_true rfl⟩) ⟨fun a U g mk q => by obtain ⟨q0, q1, qP, qK, qD⟩ := q; exact ⟨q0, q1, qP, va_K.moved (u := U) (U := U.calling g mk a) (Vm.Alike.refl U.vm) qK, qD⟩, va_recv (ci := 4) (q0 := 0) hK hP rfl rfl, fun U hU hW => ⟨rfl, by rw [hU], by rw [hU]; exact hPc, va_K.moved hW.alike hKc, hDc.weaken (fun _ _ _ _ => trivial)⟩⟩ rfl rfl hl.1 rfl (lv_room (Nat.le_of_ble_eq_true rfl)) d_M_line_5 ⟨Nat.le_of_ble_eq_true rfl, Nat.le_of_ble_eq_true rfl⟩) hS (fun q _ h => hFc q h) hFc (fun r9 u t H1 locs ht hvm hw hB hz1 hk1 hS => ?_)
      obtain ⟨hP1, hK1, hD1⟩ := hB
      rw [ht] at hP1
      rw [hw]
      obtain ⟨hP, hD⟩ := va_join (wr := []) (w1 := (mw_W h q g I2 A2)) hP hD [0, 1, 2, 3, 4, 5, 6, 7, 8, 9, 10, 11, 12, 13, 14, 15, 16, 17, 18, 19, 20] [] rfl rfl (by decide) (by decide) hk1 hFc hP1 hD1
      generalize H1 = H at hP hS ⊢
      have hP : va_P (dC, dI) vwCl (mw_W h q g I2 A2) H := hP
      have hD : va_D B9 (mw_W h q g I2 A2) := hD
      refine lv_iconst (v := 1) hx hb d_M_line_8 (by decide) ?_
      refine lv_iadd hx hb d_M_line_9 ?_
      refine lv_istore_n (lv' := [(3, .int (r2 + 1)), (0, .ref h), (1, .int k1), (2, .int k2)]) hx hb d_M_line_10 rfl hl (by decide) rfl (fun ls hl => ?_)
      have hl : lv_has ls 7 [(3, .int (r2 + 1)), (0, .ref h), (1, .int k1), (2, .int k2)] := hl
      refine lv_iload_n hx hb d_M_line_11 rfl (lv_at hl 2 rfl) ?_
      refine lv_if_eq (tgt := 44) hx hb d_M_line_12 (by decide) (fun hc1 => ?_) (fun hc1 => ?_)
      ·
        have hf := wk_ift hc1 hf
        exact blk44 _ hrc117 I2 A2 (upd (upd (upd (fun _ => 0) 1 k1) 2 k2) 3 (r2 + 1)) _ _ _ hf (lv_sub hl [1, 2, 3, 0] rfl) hP hD hS
      ·
        have hf := wk_iff hc1 hf
        refine lv_iload_n hx hb d_M_line_15 rfl (lv_at hl 2 rfl) ?_
        refine lv_iconst (v := 1) hx hb d_M_line_16 (by decide) ?_
        refine lv_icmp_ne (tgt := 35) hx hb d_M_line_17 (by decide) (fun hc2 => ?_) (fun hc2 => ?_)
        ·
          have hf := wk_iff hc2 hf
          refine lv_iload_n hx hb d_M_line_35 rfl (lv_at hl 3 rfl) ?_
          refine lv_if_lt (tgt := 48) hx hb d_M_line_36 (by decide) (fun hc3 => ?_) (fun hc3 => ?_)
          ·
            have hf := wk_ift hc3 hf
            exact blk48 _ hrc117 I2 A2 (upd (upd (upd (fun _ => 0) 1 k1) 2 k2) 3 (r2 + 1)) _ _ _ hf (lv_sub hl [1, 2, 3, 0] rfl) hP hD hS
          ·
            have hf := wk_iff hc3 hf
            refine lv_iload_n hx hb d_M_line_39 rfl (lv_at hl 3 rfl) ?_
            refine lv_iload_n hx hb d_M_line_40 rfl (lv_at hl 0 rfl) ?_
            refine lv_icmp_ge (tgt := 48) hx hb d_M_line_41 (by decide) (fun hc4 => ?_) (fun hc4 => ?_)
            ·
              have hf := wk_ift hc4 hf
              exact blk48 _ hrc117 I2 A2 (upd (upd (upd (fun _ => 0) 1 k1) 2 k2) 3 (r2 + 1)) _ _ _ hf (lv_sub hl [1, 2, 3, 0] rfl) hP hD hS
            ·
              have hf := wk_iff hc4 hf
              exact blk44 _ hrc117 I2 A2 (upd (upd (upd (fun _ => 0) 1 k1) 2 k2) 3 (r2 + 1)) _ _ _ hf (lv_sub hl [1, 2, 3, 0] rfl) hP hD hS
        ·
          have hf := wk_ift hc2 hf
          refine lv_iload_n hx hb d_M_line_20 rfl (lv_at hl 3 rfl) ?_
          refine lv_if_lt (tgt := 48) hx hb d_M_line_21 (by decide) (fun hc3 => ?_) (fun hc3 => ?_)
          ·
            have hf := wk_ift hc3 hf
            exact blk48 _ hrc117 I2 A2 (upd (upd (upd (fun _ => 0) 1 k1) 2 k2) 3 (r2 + 1)) _ _ _ hf (lv_sub hl [1, 2, 3, 0] rfl) hP hD hS
          ·
            have hf := wk_iff hc3 hf
            refine lv_iload_n hx hb d_M_line_24 rfl (lv_at hl 3 rfl) ?_
            refine lv_aload_n hx hb d_M_line_25 rfl (lv_at hl 1 rfl) ?_
            have hPc := hP.sub (ws' := (mw_W h q g I2 A2)) [0, 1, 2, 3, 4, 5, 6, 7, 8, 9, 10, 11, 12, 13, 14, 15, 16, 17, 18, 19, 20] rfl
            have hDc := hD.sub (ws' := (mw_W h q g I2 A2)) [0, 1, 2, 3, 4, 5, 6, 7, 8, 9, 10, 11, 12, 13, 14, 15, 16, 17, 18, 19, 20] (by decide) rfl
            have hKc := hK.sub (tys' := (mw_T g)) [0, 1, 2, 3, 4, 5, 6, 7, 8, 9, 10, 11, 12, 13, 14, 15, 16, 17, 18, 19] rfl
            have hFc := va_free (wc := (mw_W h q g I2 A2)) hD hS hA [0, 1, 2, 3, 4, 5, 6, 7, 8, 9, 10, 11, 12, 13, 14, 15, 16, 17, 18, 19, 20] rfl
            cases hg3 : f_M_textLength I2 A2 with
            | none => rw [hg3] at hf; cases hf
            | some z3 =>
              obtain ⟨r3, I3, A3⟩ := z3
              rw [hg3] at hf
              dsimp only [Option.bind_some] at hf
              refine va_calli (va_runV (As := []) (rest := [.int k2]) ⟨hx, hb, hml, hown, hts⟩ (cm_M_textLength l dC dI h q g _ I2 A2 r3 I3 A3 hg3) (cwV 0 hts (gd_v lk_57 lk_58 lk_59 lk_46 lk_56) rfl rfl rfl (by decide +kernel) ⟨Nat.le_of_ble_eq_true rfl, Nat.le_of_ble_eq_true rfl⟩) ⟨fun a U g mk q => by obtain ⟨q0, q1, qP, qK, qD⟩ := q; exact ⟨q0, q1, qP, va_K.moved (u := U) (U := U.calling g mk a) (Vm.Alike.refl U.vm) qK, qD⟩, va_recv (ci := 4) (q0 := 0) hK hP rfl rfl, fun U hU hW => ⟨rfl, by rw [hU], by rw [hU]; exact hPc, va_K.moved hW.alike hKc, hDc.weaken (fun _ _ _ _ => trivial)⟩⟩ rfl rfl hl.1 rfl (lv_room (Nat.le_of_ble_eq_true rfl)) d_M_line_26 ⟨Nat.le_of_ble_eq_true rfl, Nat.le_of_ble_eq_true rfl⟩) hS (fun q _ h => hFc q h) hFc (fun r9 u t H1 locs ht hvm hw hB hz1 hk1 hS => ?_)
              obtain ⟨hP1, hK1, hD1⟩ := hB
              rw [ht] at hP1
              rw [hw]
              obtain ⟨hP, hD⟩ := va_join (wr := []) (w1 := (mw_W h q g I3 A3)) hP hD [0, 1, 2, 3, 4, 5, 6, 7, 8, 9, 10, 11, 12, 13, 14, 15, 16, 17, 18, 19, 20] [] rfl rfl (by decide) (by decide) hk1 hFc hP1 hD1
              generalize H1 = H at hP hS ⊢
              have hP : va_P (dC, dI) vwCl (mw_W h q g I3 A3) H := hP
              have hD : va_D B9 (mw_W h q g I3 A3) := hD
              refine lv_icmp_gt (tgt := 48) hx hb d_M_line_29 (by decide) (fun hc4 => ?_) (fun hc4 => ?_)
              ·
                have hf := wk_ift hc4 hf
                exact blk48 _ hrc117 I3 A3 (upd (upd (upd (fun _ => 0) 1 k1) 2 k2) 3 (r2 + 1)) _ _ _ hf (lv_sub hl [1, 2, 3, 0] rfl) hP hD hS
              ·
                have hf := wk_iff hc4 hf
                refine lv_goto (tgt := 44) hx hb d_M_line_32 (by decide) ?_
                exact blk44 _ hrc117 I3 A3 (upd (upd (upd (fun _ => 0) 1 k1) 2 k2) 3 (r2 + 1)) _ _ _ hf (lv_sub hl [1, 2, 3, 0] rfl) hP hD hS

