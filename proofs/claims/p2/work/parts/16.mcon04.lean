set_option maxHeartbeats 8000000 in
set_option maxRecDepth 100000 in
theorem cm_M_come (l : Launch) (dC : Nat → ClassId) (dI : Nat → Nat → Nat) (h : Nat) (q : Nat → Nat) (g : Nat → ClassId) (sz : Nat) (I : MI) (A : MA) (k1 : Int32) (r : Int32) (I' : MI) (A' : MA) (hf : f_M_come I A k1 = some (r, I', A')) : Met l y_M_come w_M_come ({ frames := 0, cells := 0, slots := 0, locals := 0 }) (va_Pc [.ref h, .int k1] (fun U => U.heap.size = sz ∧ va_P (dC, dI) vwCl (mw_W h q g I A) U.heap ∧ va_K (dC, dI) vwCl (mw_T g) U ∧ va_D (fun _ => True) (mw_W h q g I A))) (va_Qv (fun (u : Unit) => u = u) (fun (_ : Unit) t => va_P (dC, dI) vwCl (mw_W h q g I' A') t.heap ∧ va_K (dC, dI) vwCl (mw_T g) t ∧ va_D (va_A (mw_W h q g I A) sz) (mw_W h q g I' A')) (va_A (mw_W h q g I A) sz)) 0 0 (va_A (mw_W h q g I A) sz) := by
  refine Met.ofW (cc := prog_6_method_8_code) (maxL := 2) (ret := none) (by decide) rfl ?_
  intro p e s m args below meth c s₁ B hml hv
  obtain ⟨rfl, hsz, hP, hK, hD0⟩ := hv
  have hx := B.exec
  have hb := B.bytes
  have hr := B.returns
  have hts := atoms_spec (ws := w_M_come) B.pre
  have hown : s.vm.findClass R_M = some m.cls := findClass_of_methodNamed B.named
  have hlocks := B.notSynchronized
  subst hsz
  have hD := hD0.self (sz := s.heap.size)
  generalize hAe : va_A (mw_W h q g I A) s.heap.size = B9 at hD ⊢
  have hA : ∀ q : Nat, s.heap.size ≤ q → B9 q := fun q h => by rw [← hAe]; exact Or.inr h
  clear hAe
  have hS : va_S B9 s.heap s.heap [] := va_S.rf
  have hl := lv_entry ([.ref h, .int k1]) (n := 2) (Nat.le_of_ble_eq_true rfl)
  rw [lg_entry_eq]
  generalize (lg_sl ([.ref h, .int k1]) ++ List.replicate (2 - (lg_sl ([.ref h, .int k1])).length) Slot.unset).toArray = ls at hl ⊢
  have hl : lv_has ls 2 [(0, .ref h), (1, .int k1)] := hl
  unfold f_M_come at hf
  refine lv_aload_n hx hb d_M_come_0 rfl (lv_at hl 0 rfl) ?_
  refine va_get (D := (dC, dI)) (ci := 4) (v := .ref (q 7)) (C := R_M) (T := F_M) (N := 38) hx hb hts (fun w h => List.mem_cons_of_mem _ (in_M w h)) hown hK hP 0 rfl rfl 7 (by decide) (hts _ (List.mem_cons_of_mem _ lk_125)) (fun _ h9 => h9) rfl d_M_come_1 ?_
  refine lv_aload_n hx hb d_M_come_4 rfl (lv_at hl 0 rfl) ?_
  refine va_get (D := (dC, dI)) (ci := 4) (v := .int (I 4)) (C := R_M) (T := F_M) (N := 38) hx hb hts (fun w h => List.mem_cons_of_mem _ (in_M w h)) hown hK hP 0 rfl rfl 4 (by decide) (hts _ (List.mem_cons_of_mem _ lk_49)) (fun _ h9 => h9) rfl d_M_come_5 ?_
  refine lv_aload_n hx hb d_M_come_8 rfl (lv_at hl 0 rfl) ?_
  refine va_get (D := (dC, dI)) (ci := 4) (v := .int (I 11)) (C := R_M) (T := F_M) (N := 38) hx hb hts (fun w h => List.mem_cons_of_mem _ (in_M w h)) hown hK hP 0 rfl rfl 11 (by decide) (hts _ (List.mem_cons_of_mem _ lk_126)) (fun _ h9 => h9) rfl d_M_come_9 ?_
  obtain ⟨hc1, hf⟩ := wk_if hf
  refine va_iast hx hb hK hP hD hS 4 3 rfl rfl (wk_inb_ok hc1) d_M_come_12 (fun H locs hP hD hS => ?_)
  obtain ⟨A1, hA1, hf⟩ := wk_letE hf
  have hP : va_P (dC, dI) vwCl (mw_W h q g I A1) H := by rw [hA1]; exact hP
  have hD : va_D B9 (mw_W h q g I A1) := by rw [hA1]; exact hD
  clear hA1
  refine lv_aload_n hx hb d_M_come_13 rfl (lv_at hl 0 rfl) ?_
  refine lv_iload_n hx hb d_M_come_14 rfl (lv_at hl 1 rfl) ?_
  refine va_put (D := (dC, dI)) (ci := 4) (v := .int k1) (ty := .int) (C := R_M) (T := F_M) (N := 38) hx hb hts (fun w h => List.mem_cons_of_mem _ (in_M w h)) t_M tk_M n_M hown hK hP hD hS 0 rfl rfl 4 (by decide) (hts _ (List.mem_cons_of_mem _ lk_49)) (fun _ h9 => h9) rfl (by decide +kernel) rfl rfl (Nat.le_of_ble_eq_true rfl) d_M_come_15 (fun H locs hP hD hS => ?_)
  obtain ⟨I2, hI2, hf⟩ := wk_letE hf
  have hP : va_P (dC, dI) vwCl (mw_W h q g I2 A1) H := by rw [hI2]; exact hP
  have hD : va_D B9 (mw_W h q g I2 A1) := by rw [hI2]; exact hD
  clear hI2
  refine lv_aload_n hx hb d_M_come_18 rfl (lv_at hl 0 rfl) ?_
  refine lv_aload_n hx hb d_M_come_19 rfl (lv_at hl 0 rfl) ?_
  refine va_get (D := (dC, dI)) (ci := 4) (v := .ref (q 7)) (C := R_M) (T := F_M) (N := 38) hx hb hts (fun w h => List.mem_cons_of_mem _ (in_M w h)) hown hK hP 0 rfl rfl 7 (by decide) (hts _ (List.mem_cons_of_mem _ lk_125)) (fun _ h9 => h9) rfl d_M_come_20 ?_
  refine lv_iload_n hx hb d_M_come_23 rfl (lv_at hl 1 rfl) ?_
  obtain ⟨hc2, hf⟩ := wk_if hf
  refine va_iald hx hb hK hP 4 3 rfl rfl (wk_inb_ok hc2) d_M_come_24 ?_
  refine va_put (D := (dC, dI)) (ci := 4) (v := .int ((A1 7) (k1).toNatClampNeg)) (ty := .int) (C := R_M) (T := F_M) (N := 38) hx hb hts (fun w h => List.mem_cons_of_mem _ (in_M w h)) t_M tk_M n_M hown hK hP hD hS 0 rfl rfl 11 (by decide) (hts _ (List.mem_cons_of_mem _ lk_126)) (fun _ h9 => h9) rfl (by decide +kernel) rfl rfl (Nat.le_of_ble_eq_true rfl) d_M_come_25 (fun H locs hP hD hS => ?_)
  obtain ⟨I3, hI3, hf⟩ := wk_letE hf
  have hP : va_P (dC, dI) vwCl (mw_W h q g I3 A1) H := by rw [hI3]; exact hP
  have hD : va_D B9 (mw_W h q g I3 A1) := by rw [hI3]; exact hD
  clear hI3
  refine lv_aload_n hx hb d_M_come_28 rfl (lv_at hl 0 rfl) ?_
  refine lv_iconst (v := (-1)) hx hb d_M_come_29 (by decide) ?_
  refine va_put (D := (dC, dI)) (ci := 4) (v := .int (-1)) (ty := .int) (C := R_M) (T := F_M) (N := 38) hx hb hts (fun w h => List.mem_cons_of_mem _ (in_M w h)) t_M tk_M n_M hown hK hP hD hS 0 rfl rfl 12 (by decide) (hts _ (List.mem_cons_of_mem _ lk_127)) (fun _ h9 => h9) rfl (by decide +kernel) rfl rfl (Nat.le_of_ble_eq_true rfl) d_M_come_30 (fun H locs hP hD hS => ?_)
  obtain ⟨I4, hI4, hf⟩ := wk_letE hf
  have hP : va_P (dC, dI) vwCl (mw_W h q g I4 A1) H := by rw [hI4]; exact hP
  have hD : va_D B9 (mw_W h q g I4 A1) := by rw [hI4]; exact hD
  clear hI4
  refine lv_aload_n hx hb d_M_come_33 rfl (lv_at hl 0 rfl) ?_
  refine lv_dup hx hb d_M_come_34 rfl ?_
  refine va_get (D := (dC, dI)) (ci := 4) (v := .int (I4 10)) (C := R_M) (T := F_M) (N := 38) hx hb hts (fun w h => List.mem_cons_of_mem _ (in_M w h)) hown hK hP 0 rfl rfl 10 (by decide) (hts _ (List.mem_cons_of_mem _ lk_128)) (fun _ h9 => h9) rfl d_M_come_35 ?_
  refine lv_iconst (v := 1) hx hb d_M_come_38 (by decide) ?_
  refine lv_iadd hx hb d_M_come_39 ?_
  refine va_put (D := (dC, dI)) (ci := 4) (v := .int ((I4 10) + 1)) (ty := .int) (C := R_M) (T := F_M) (N := 38) hx hb hts (fun w h => List.mem_cons_of_mem _ (in_M w h)) t_M tk_M n_M hown hK hP hD hS 0 rfl rfl 10 (by decide) (hts _ (List.mem_cons_of_mem _ lk_128)) (fun _ h9 => h9) rfl (by decide +kernel) rfl rfl (Nat.le_of_ble_eq_true rfl) d_M_come_40 (fun H locs hP hD hS => ?_)
  obtain ⟨I5, hI5, hf⟩ := wk_letE hf
  have hP : va_P (dC, dI) vwCl (mw_W h q g I5 A1) H := by rw [hI5]; exact hP
  have hD : va_D B9 (mw_W h q g I5 A1) := by rw [hI5]; exact hD
  clear hI5
  refine lv_aload_n hx hb d_M_come_43 rfl (lv_at hl 0 rfl) ?_
  refine va_get (D := (dC, dI)) (ci := 4) (v := .ref (q 9)) (C := R_M) (T := F_M) (N := 38) hx hb hts (fun w h => List.mem_cons_of_mem _ (in_M w h)) hown hK hP 0 rfl rfl 9 (by decide) (hts _ (List.mem_cons_of_mem _ lk_129)) (fun _ h9 => h9) rfl d_M_come_44 ?_
  refine lv_iload_n hx hb d_M_come_47 rfl (lv_at hl 1 rfl) ?_
  refine lv_aload_n hx hb d_M_come_48 rfl (lv_at hl 0 rfl) ?_
  refine va_get (D := (dC, dI)) (ci := 4) (v := .int (I5 10)) (C := R_M) (T := F_M) (N := 38) hx hb hts (fun w h => List.mem_cons_of_mem _ (in_M w h)) hown hK hP 0 rfl rfl 10 (by decide) (hts _ (List.mem_cons_of_mem _ lk_128)) (fun _ h9 => h9) rfl d_M_come_49 ?_
  obtain ⟨hc3, hf⟩ := wk_if hf
  refine va_iast hx hb hK hP hD hS 6 5 rfl rfl (wk_inb_ok hc3) d_M_come_52 (fun H locs hP hD hS => ?_)
  obtain ⟨A6, hA6, hf⟩ := wk_letE hf
  have hP : va_P (dC, dI) vwCl (mw_W h q g I5 A6) H := by rw [hA6]; exact hP
  have hD : va_D B9 (mw_W h q g I5 A6) := by rw [hA6]; exact hD
  clear hA6
  obtain ⟨e1, e2, e3⟩ := wk_inj hf
  subst e1
  subst e2
  subst e3
  exact W.vret hx hb hr (fun t ht hW => ⟨⟨(), rfl, rfl, by rw [ht]; exact hP, va_K.moved hW.alike hK, hD⟩, hS.F ht⟩) hS.2.2 d_M_come_53

set_option maxHeartbeats 8000000 in
set_option maxRecDepth 100000 in
theorem cm_M_isPlain (l : Launch) (dC : Nat → ClassId) (dI : Nat → Nat → Nat) (sz : Nat) (k0 : Int32) (r : Int32) (hf : f_M_isPlain k0 = some r) : Met l y_M_isPlain w_M_isPlain ({ frames := 0, cells := 0, slots := 0, locals := 0 }) (va_Pc [.int k0] (fun U => U.heap.size = sz ∧ va_P (dC, dI) vwCl [] U.heap ∧ va_K (dC, dI) vwCl [] U ∧ va_D (fun _ => True) [])) (va_Qi (fun (r9 : Int32) (_ : Unit) => r9 = r) (fun (_ : Unit) t => va_P (dC, dI) vwCl [] t.heap ∧ va_K (dC, dI) vwCl [] t ∧ va_D (va_A [] sz) []) (va_A [] sz)) 0 0 (va_A [] sz) := by
  refine Met.ofW (cc := prog_6_method_21_code) (maxL := 1) (ret := (some .boolean)) (by decide) rfl ?_
  intro p e s m args below meth c s₁ B hml hv
  obtain ⟨rfl, hsz, hP, hK, hD0⟩ := hv
  have hx := B.exec
  have hb := B.bytes
  have hr := B.returns
  have hts := atoms_spec (ws := w_M_isPlain) B.pre
  have hown : s.vm.findClass R_M = some m.cls := findClass_of_methodNamed B.named
  have hlocks := B.notSynchronized
  subst hsz
  have hD := hD0.self (sz := s.heap.size)
  generalize hAe : va_A [] s.heap.size = B9 at hD ⊢
  have hA : ∀ q : Nat, s.heap.size ≤ q → B9 q := fun q h => by rw [← hAe]; exact Or.inr h
  clear hAe
  have hS : va_S B9 s.heap s.heap [] := va_S.rf
  have hl := lv_entry ([.int k0]) (n := 1) (Nat.le_of_ble_eq_true rfl)
  rw [lg_entry_eq]
  generalize (lg_sl ([.int k0]) ++ List.replicate (1 - (lg_sl ([.int k0])).length) Slot.unset).toArray = ls at hl ⊢
  have hl : lv_has ls 1 [(0, .int k0)] := hl
  have blk77 : ∀ (X : Nat → Int32) (s0 : Int32) (ls : Array Slot) (H : Heap) (locs : List Loc), f_M_isPlain_77 X s0 = some r → lv_has ls 1 [(0, .int (X 0))] → va_P (dC, dI) vwCl [] H → va_D B9 [] → va_S B9 s.heap H locs → W p l e (headSpec w_M_isPlain ({ frames := 0, cells := 0, slots := 0, locals := 0 })).room s m ([.int k0] : List Value).toArray below meth c H locs 0 0 (MQ below (va_Qi (fun (r9 : Int32) (_ : Unit) => r9 = r) (fun (_ : Unit) t => va_P (dC, dI) vwCl [] t.heap ∧ va_K (dC, dI) vwCl [] t ∧ va_D B9 []) B9) ([.int k0] : List Value).toArray s 0 0 B9) (F0 m 77 ls [.int s0]) := by
    intro X s0 ls H locs hf hl hP hD hS
    unfold f_M_isPlain_77 at hf
    obtain ⟨hn9, hf⟩ := wk_if hf
    have e1 := Option.some.inj hf
    subst e1
    exact W.zret (v := s0) hx hb hr (congrArg Value.int hn9) (fun t ht hW => ⟨⟨s0, (), rfl, rfl, by rw [ht]; exact hP, va_K.moved hW.alike hK, hD⟩, hS.F ht⟩) hS.2.2 d_M_isPlain_77
  have blk76 : ∀ (X : Nat → Int32) (ls : Array Slot) (H : Heap) (locs : List Loc), f_M_isPlain_76 X = some r → lv_has ls 1 [(0, .int (X 0))] → va_P (dC, dI) vwCl [] H → va_D B9 [] → va_S B9 s.heap H locs → W p l e (headSpec w_M_isPlain ({ frames := 0, cells := 0, slots := 0, locals := 0 })).room s m ([.int k0] : List Value).toArray below meth c H locs 0 0 (MQ below (va_Qi (fun (r9 : Int32) (_ : Unit) => r9 = r) (fun (_ : Unit) t => va_P (dC, dI) vwCl [] t.heap ∧ va_K (dC, dI) vwCl [] t ∧ va_D B9 []) B9) ([.int k0] : List Value).toArray s 0 0 B9) (F0 m 76 ls []) := by
    intro X ls H locs hf hl hP hD hS
    unfold f_M_isPlain_76 at hf
    refine lv_iconst (v := 0) hx hb d_M_isPlain_76 (by decide) ?_
    exact blk77 X 0 _ _ _ hf (lv_sub hl [0] rfl) hP hD hS
  unfold f_M_isPlain at hf
  refine lv_iload_n hx hb d_M_isPlain_0 rfl (lv_at hl 0 rfl) ?_
  refine lv_bipush (v := 40) hx hb d_M_isPlain_1 (by decide) ?_
  refine lv_icmp_eq (tgt := 76) hx hb d_M_isPlain_3 (by decide) (fun hc1 => ?_) (fun hc1 => ?_)
  ·
    have hf := wk_ift hc1 hf
    exact blk76 (upd (fun _ => 0) 0 k0) _ _ _ hf (lv_sub hl [0] rfl) hP hD hS
  ·
    have hf := wk_iff hc1 hf
    refine lv_iload_n hx hb d_M_isPlain_6 rfl (lv_at hl 0 rfl) ?_
    refine lv_bipush (v := 41) hx hb d_M_isPlain_7 (by decide) ?_
    refine lv_icmp_eq (tgt := 76) hx hb d_M_isPlain_9 (by decide) (fun hc2 => ?_) (fun hc2 => ?_)
    ·
      have hf := wk_ift hc2 hf
      exact blk76 (upd (fun _ => 0) 0 k0) _ _ _ hf (lv_sub hl [0] rfl) hP hD hS
    ·
      have hf := wk_iff hc2 hf
      refine lv_iload_n hx hb d_M_isPlain_12 rfl (lv_at hl 0 rfl) ?_
      refine lv_bipush (v := 91) hx hb d_M_isPlain_13 (by decide) ?_
      refine lv_icmp_eq (tgt := 76) hx hb d_M_isPlain_15 (by decide) (fun hc3 => ?_) (fun hc3 => ?_)
      ·
        have hf := wk_ift hc3 hf
        exact blk76 (upd (fun _ => 0) 0 k0) _ _ _ hf (lv_sub hl [0] rfl) hP hD hS
      ·
        have hf := wk_iff hc3 hf
        refine lv_iload_n hx hb d_M_isPlain_18 rfl (lv_at hl 0 rfl) ?_
        refine lv_bipush (v := 93) hx hb d_M_isPlain_19 (by decide) ?_
        refine lv_icmp_eq (tgt := 76) hx hb d_M_isPlain_21 (by decide) (fun hc4 => ?_) (fun hc4 => ?_)
        ·
          have hf := wk_ift hc4 hf
          exact blk76 (upd (fun _ => 0) 0 k0) _ _ _ hf (lv_sub hl [0] rfl) hP hD hS
        ·
          have hf := wk_iff hc4 hf
          refine lv_iload_n hx hb d_M_isPlain_24 rfl (lv_at hl 0 rfl) ?_
          refine lv_bipush (v := 124) hx hb d_M_isPlain_25 (by decide) ?_
          refine lv_icmp_eq (tgt := 76) hx hb d_M_isPlain_27 (by decide) (fun hc5 => ?_) (fun hc5 => ?_)
          ·
            have hf := wk_ift hc5 hf
            exact blk76 (upd (fun _ => 0) 0 k0) _ _ _ hf (lv_sub hl [0] rfl) hP hD hS
          ·
            have hf := wk_iff hc5 hf
            refine lv_iload_n hx hb d_M_isPlain_30 rfl (lv_at hl 0 rfl) ?_
            refine lv_bipush (v := 42) hx hb d_M_isPlain_31 (by decide) ?_
            refine lv_icmp_eq (tgt := 76) hx hb d_M_isPlain_33 (by decide) (fun hc6 => ?_) (fun hc6 => ?_)
            ·
              have hf := wk_ift hc6 hf
              exact blk76 (upd (fun _ => 0) 0 k0) _ _ _ hf (lv_sub hl [0] rfl) hP hD hS
            ·
              have hf := wk_iff hc6 hf
              refine lv_iload_n hx hb d_M_isPlain_36 rfl (lv_at hl 0 rfl) ?_
              refine lv_bipush (v := 43) hx hb d_M_isPlain_37 (by decide) ?_
              refine lv_icmp_eq (tgt := 76) hx hb d_M_isPlain_39 (by decide) (fun hc7 => ?_) (fun hc7 => ?_)
              ·
                have hf := wk_ift hc7 hf
                exact blk76 (upd (fun _ => 0) 0 k0) _ _ _ hf (lv_sub hl [0] rfl) hP hD hS
              ·
                have hf := wk_iff hc7 hf
                refine lv_iload_n hx hb d_M_isPlain_42 rfl (lv_at hl 0 rfl) ?_
                refine lv_bipush (v := 63) hx hb d_M_isPlain_43 (by decide) ?_
                refine lv_icmp_eq (tgt := 76) hx hb d_M_isPlain_45 (by decide) (fun hc8 => ?_) (fun hc8 => ?_)
                ·
                  have hf := wk_ift hc8 hf
                  exact blk76 (upd (fun _ => 0) 0 k0) _ _ _ hf (lv_sub hl [0] rfl) hP hD hS
                ·
                  have hf := wk_iff hc8 hf
                  refine lv_iload_n hx hb d_M_isPlain_48 rfl (lv_at hl 0 rfl) ?_
                  refine lv_bipush (v := 46) hx hb d_M_isPlain_49 (by decide) ?_
                  refine lv_icmp_eq (tgt := 76) hx hb d_M_isPlain_51 (by decide) (fun hc9 => ?_) (fun hc9 => ?_)
                  ·
                    have hf := wk_ift hc9 hf
                    exact blk76 (upd (fun _ => 0) 0 k0) _ _ _ hf (lv_sub hl [0] rfl) hP hD hS
                  ·
                    have hf := wk_iff hc9 hf
                    refine lv_iload_n hx hb d_M_isPlain_54 rfl (lv_at hl 0 rfl) ?_
                    refine lv_bipush (v := 94) hx hb d_M_isPlain_55 (by decide) ?_
                    refine lv_icmp_eq (tgt := 76) hx hb d_M_isPlain_57 (by decide) (fun hc10 => ?_) (fun hc10 => ?_)
                    ·
                      have hf := wk_ift hc10 hf
                      exact blk76 (upd (fun _ => 0) 0 k0) _ _ _ hf (lv_sub hl [0] rfl) hP hD hS
                    ·
                      have hf := wk_iff hc10 hf
                      refine lv_iload_n hx hb d_M_isPlain_60 rfl (lv_at hl 0 rfl) ?_
                      refine lv_bipush (v := 36) hx hb d_M_isPlain_61 (by decide) ?_
                      refine lv_icmp_eq (tgt := 76) hx hb d_M_isPlain_63 (by decide) (fun hc11 => ?_) (fun hc11 => ?_)
                      ·
                        have hf := wk_ift hc11 hf
                        exact blk76 (upd (fun _ => 0) 0 k0) _ _ _ hf (lv_sub hl [0] rfl) hP hD hS
                      ·
                        have hf := wk_iff hc11 hf
                        refine lv_iload_n hx hb d_M_isPlain_66 rfl (lv_at hl 0 rfl) ?_
                        refine lv_bipush (v := 92) hx hb d_M_isPlain_67 (by decide) ?_
                        refine lv_icmp_eq (tgt := 76) hx hb d_M_isPlain_69 (by decide) (fun hc12 => ?_) (fun hc12 => ?_)
                        ·
                          have hf := wk_ift hc12 hf
                          exact blk76 (upd (fun _ => 0) 0 k0) _ _ _ hf (lv_sub hl [0] rfl) hP hD hS
                        ·
                          have hf := wk_iff hc12 hf
                          refine lv_iconst (v := 1) hx hb d_M_isPlain_72 (by decide) ?_
                          refine lv_goto (tgt := 77) hx hb d_M_isPlain_73 (by decide) ?_
                          exact blk77 (upd (fun _ => 0) 0 k0) 1 _ _ _ hf (lv_sub hl [0] rfl) hP hD hS

set_option maxHeartbeats 8000000 in
set_option maxRecDepth 100000 in
theorem cm_M_good (l : Launch) (dC : Nat → ClassId) (dI : Nat → Nat → Nat) (h : Nat) (q : Nat → Nat) (g : Nat → ClassId) (sz : Nat) (I : MI) (A : MA) (r : Int32) (I' : MI) (A' : MA) (hf : f_M_good I A  = some (r, I', A')) : Met l y_M_good w_M_good ({ frames := 1, cells := 0, slots := 0, locals := 20 }) (va_Pc [.ref h] (fun U => U.heap.size = sz ∧ va_P (dC, dI) vwCl (mw_W h q g I A) U.heap ∧ va_K (dC, dI) vwCl (mw_T g) U ∧ va_D (fun _ => True) (mw_W h q g I A))) (va_Qi (fun (r9 : Int32) (_ : Unit) => r9 = r) (fun (_ : Unit) t => va_P (dC, dI) vwCl (mw_W h q g I' A') t.heap ∧ va_K (dC, dI) vwCl (mw_T g) t ∧ va_D (va_A (mw_W h q g I A) sz) (mw_W h q g I' A')) (va_A (mw_W h q g I A) sz)) 0 0 (va_A (mw_W h q g I A) sz) := by
  refine Met.ofW (cc := prog_6_method_23_code) (maxL := 5) (ret := (some .int)) (by decide) rfl ?_
  intro p e s m args below meth c s₁ B hml hv
  obtain ⟨rfl, hsz, hP, hK, hD0⟩ := hv
  have hx := B.exec
  have hb := B.bytes
  have hr := B.returns
  have hts := atoms_spec (ws := w_M_good) B.pre
  have hown : s.vm.findClass R_M = some m.cls := findClass_of_methodNamed B.named
  have hlocks := B.notSynchronized
  subst hsz
  have hD := hD0.self (sz := s.heap.size)
  generalize hAe : va_A (mw_W h q g I A) s.heap.size = B9 at hD ⊢
  have hA : ∀ q : Nat, s.heap.size ≤ q → B9 q := fun q h => by rw [← hAe]; exact Or.inr h
  clear hAe
  have hS : va_S B9 s.heap s.heap [] := va_S.rf
  have hl := lv_entry ([.ref h]) (n := 5) (Nat.le_of_ble_eq_true rfl)
  rw [lg_entry_eq]
  generalize (lg_sl ([.ref h]) ++ List.replicate (5 - (lg_sl ([.ref h])).length) Slot.unset).toArray = ls at hl ⊢
  have hl : lv_has ls 5 [(0, .ref h)] := hl
  have blk244 : ∀ (rc : Nat → MI → MA → (Nat → Int32) → Option (Int32 × MI × MA)) (hrc6 : ∀ (I : MI) (A : MA) (X : Nat → Int32) (ls : Array Slot) (H : Heap) (locs : List Loc), rc 6 I A X = some (r, I', A') → lv_has ls 5 [(0, .ref h), (1, .int (X 1)), (2, .int (X 2)), (3, .int (X 3))] → va_P (dC, dI) vwCl (mw_W h q g I A) H → va_D B9 (mw_W h q g I A) → va_S B9 s.heap H locs → W p l e (headSpec w_M_good ({ frames := 1, cells := 0, slots := 0, locals := 20 })).room s m ([.ref h] : List Value).toArray below meth c H locs 0 0 (MQ below (va_Qi (fun (r9 : Int32) (_ : Unit) => r9 = r) (fun (_ : Unit) t => va_P (dC, dI) vwCl (mw_W h q g I' A') t.heap ∧ va_K (dC, dI) vwCl (mw_T g) t ∧ va_D B9 (mw_W h q g I' A')) B9) ([.ref h] : List Value).toArray s 0 0 B9) (F0 m 6 ls [])), ∀ (I : MI) (A : MA) (X : Nat → Int32) (s0 : Int32) (ls : Array Slot) (H : Heap) (locs : List Loc), f_M_good_244 rc I A X s0 = some (r, I', A') → lv_has ls 5 [(0, .ref h), (1, .int (X 1)), (2, .int (X 2)), (3, .int (X 3))] → va_P (dC, dI) vwCl (mw_W h q g I A) H → va_D B9 (mw_W h q g I A) → va_S B9 s.heap H locs → W p l e (headSpec w_M_good ({ frames := 1, cells := 0, slots := 0, locals := 20 })).room s m ([.ref h] : List Value).toArray below meth c H locs 0 0 (MQ below (va_Qi (fun (r9 : Int32) (_ : Unit) => r9 = r) (fun (_ : Unit) t => va_P (dC, dI) vwCl (mw_W h q g I' A') t.heap ∧ va_K (dC, dI) vwCl (mw_T g) t ∧ va_D B9 (mw_W h q g I' A')) B9) ([.ref h] : List Value).toArray s 0 0 B9) (F0 m 244 ls [.int s0]) := by
    intro rc hrc6 I A X s0 ls H locs hf hl hP hD hS
    unfold f_M_good_244 at hf
    obtain ⟨e1, e2, e3⟩ := wk_inj hf
    subst e1
    subst e2
    subst e3
    exact W.iret (v := s0) hx hb hr (fun t ht hW => ⟨⟨s0, (), rfl, rfl, by rw [ht]; exact hP, va_K.moved hW.alike hK, hD⟩, hS.F ht⟩) hS.2.2 d_M_good_244
  have blk231 : ∀ (rc : Nat → MI → MA → (Nat → Int32) → Option (Int32 × MI × MA)) (hrc6 : ∀ (I : MI) (A : MA) (X : Nat → Int32) (ls : Array Slot) (H : Heap) (locs : List Loc), rc 6 I A X = some (r, I', A') → lv_has ls 5 [(0, .ref h), (1, .int (X 1)), (2, .int (X 2)), (3, .int (X 3))] → va_P (dC, dI) vwCl (mw_W h q g I A) H → va_D B9 (mw_W h q g I A) → va_S B9 s.heap H locs → W p l e (headSpec w_M_good ({ frames := 1, cells := 0, slots := 0, locals := 20 })).room s m ([.ref h] : List Value).toArray below meth c H locs 0 0 (MQ below (va_Qi (fun (r9 : Int32) (_ : Unit) => r9 = r) (fun (_ : Unit) t => va_P (dC, dI) vwCl (mw_W h q g I' A') t.heap ∧ va_K (dC, dI) vwCl (mw_T g) t ∧ va_D B9 (mw_W h q g I' A')) B9) ([.ref h] : List Value).toArray s 0 0 B9) (F0 m 6 ls [])), ∀ (I : MI) (A : MA) (X : Nat → Int32) (ls : Array Slot) (H : Heap) (locs : List Loc), f_M_good_231 rc I A X = some (r, I', A') → lv_has ls 5 [(0, .ref h), (1, .int (X 1)), (2, .int (X 2)), (3, .int (X 3))] → va_P (dC, dI) vwCl (mw_W h q g I A) H → va_D B9 (mw_W h q g I A) → va_S B9 s.heap H locs → W p l e (headSpec w_M_good ({ frames := 1, cells := 0, slots := 0, locals := 20 })).room s m ([.ref h] : List Value).toArray below meth c H locs 0 0 (MQ below (va_Qi (fun (r9 : Int32) (_ : Unit) => r9 = r) (fun (_ : Unit) t => va_P (dC, dI) vwCl (mw_W h q g I' A') t.heap ∧ va_K (dC, dI) vwCl (mw_T g) t ∧ va_D B9 (mw_W h q g I' A')) B9) ([.ref h] : List Value).toArray s 0 0 B9) (F0 m 231 ls []) := by
    intro rc hrc6 I A X ls H locs hf hl hP hD hS
    unfold f_M_good_231 at hf
    refine lv_iconst (v := (-1)) hx hb d_M_good_231 (by decide) ?_
    refine lv_aload_n hx hb d_M_good_232 rfl (lv_at hl 0 rfl) ?_
    refine va_get (D := (dC, dI)) (ci := 4) (v := .int (I 1)) (C := R_M) (T := F_M) (N := 38) hx hb hts (fun w h => List.mem_cons_of_mem _ (in_M w h)) hown hK hP 0 rfl rfl 1 (by decide) (hts _ (List.mem_cons_of_mem _ lk_41)) (fun _ h9 => h9) rfl d_M_good_233 ?_
    refine lv_isub hx hb d_M_good_236 ?_
    refine lv_goto (tgt := 244) hx hb d_M_good_237 (by decide) ?_
    exact blk244 rc hrc6 I A X ((-1) - (I 1)) _ _ _ hf (lv_sub hl [0, 1, 2, 3] rfl) hP hD hS
  have blk216 : ∀ (rc : Nat → MI → MA → (Nat → Int32) → Option (Int32 × MI × MA)) (hrc6 : ∀ (I : MI) (A : MA) (X : Nat → Int32) (ls : Array Slot) (H : Heap) (locs : List Loc), rc 6 I A X = some (r, I', A') → lv_has ls 5 [(0, .ref h), (1, .int (X 1)), (2, .int (X 2)), (3, .int (X 3))] → va_P (dC, dI) vwCl (mw_W h q g I A) H → va_D B9 (mw_W h q g I A) → va_S B9 s.heap H locs → W p l e (headSpec w_M_good ({ frames := 1, cells := 0, slots := 0, locals := 20 })).room s m ([.ref h] : List Value).toArray below meth c H locs 0 0 (MQ below (va_Qi (fun (r9 : Int32) (_ : Unit) => r9 = r) (fun (_ : Unit) t => va_P (dC, dI) vwCl (mw_W h q g I' A') t.heap ∧ va_K (dC, dI) vwCl (mw_T g) t ∧ va_D B9 (mw_W h q g I' A')) B9) ([.ref h] : List Value).toArray s 0 0 B9) (F0 m 6 ls [])), ∀ (I : MI) (A : MA) (X : Nat → Int32) (ls : Array Slot) (H : Heap) (locs : List Loc), f_M_good_216 rc I A X = some (r, I', A') → lv_has ls 5 [(0, .ref h), (1, .int (X 1)), (2, .int (X 2)), (3, .int (X 3)), (4, .int (X 4))] → va_P (dC, dI) vwCl (mw_W h q g I A) H → va_D B9 (mw_W h q g I A) → va_S B9 s.heap H locs → W p l e (headSpec w_M_good ({ frames := 1, cells := 0, slots := 0, locals := 20 })).room s m ([.ref h] : List Value).toArray below meth c H locs 0 0 (MQ below (va_Qi (fun (r9 : Int32) (_ : Unit) => r9 = r) (fun (_ : Unit) t => va_P (dC, dI) vwCl (mw_W h q g I' A') t.heap ∧ va_K (dC, dI) vwCl (mw_T g) t ∧ va_D B9 (mw_W h q g I' A')) B9) ([.ref h] : List Value).toArray s 0 0 B9) (F0 m 216 ls []) := by
    intro rc hrc6 I A X ls H locs hf hl hP hD hS
    unfold f_M_good_216 at hf
    refine lv_iinc (k := 3) (v := ((X 3) + 1)) (lv' := [(3, .int ((X 3) + 1)), (0, .ref h), (1, .int (X 1)), (2, .int (X 2)), (4, .int (X 4))]) hx hb d_M_good_216 hl rfl (wk_inc (by decide)) (by decide) rfl (fun ls hl => ?_)
    have hl : lv_has ls 5 [(3, .int ((X 3) + 1)), (0, .ref h), (1, .int (X 1)), (2, .int (X 2)), (4, .int (X 4))] := hl
    refine lv_goto (tgt := 6) hx hb d_M_good_219 (by decide) ?_
    exact hrc6 I A (upd X 3 ((X 3) + 1)) _ _ _ hf (lv_sub hl [1, 2, 3, 0] rfl) hP hD hS
  have blk164 : ∀ (rc : Nat → MI → MA → (Nat → Int32) → Option (Int32 × MI × MA)) (hrc6 : ∀ (I : MI) (A : MA) (X : Nat → Int32) (ls : Array Slot) (H : Heap) (locs : List Loc), rc 6 I A X = some (r, I', A') → lv_has ls 5 [(0, .ref h), (1, .int (X 1)), (2, .int (X 2)), (3, .int (X 3))] → va_P (dC, dI) vwCl (mw_W h q g I A) H → va_D B9 (mw_W h q g I A) → va_S B9 s.heap H locs → W p l e (headSpec w_M_good ({ frames := 1, cells := 0, slots := 0, locals := 20 })).room s m ([.ref h] : List Value).toArray below meth c H locs 0 0 (MQ below (va_Qi (fun (r9 : Int32) (_ : Unit) => r9 = r) (fun (_ : Unit) t => va_P (dC, dI) vwCl (mw_W h q g I' A') t.heap ∧ va_K (dC, dI) vwCl (mw_T g) t ∧ va_D B9 (mw_W h q g I' A')) B9) ([.ref h] : List Value).toArray s 0 0 B9) (F0 m 6 ls [])), ∀ (I : MI) (A : MA) (X : Nat → Int32) (s0 : Int32) (ls : Array Slot) (H : Heap) (locs : List Loc), f_M_good_164 rc I A X s0 = some (r, I', A') → lv_has ls 5 [(0, .ref h), (1, .int (X 1)), (2, .int (X 2)), (3, .int (X 3)), (4, .int (X 4))] → va_P (dC, dI) vwCl (mw_W h q g I A) H → va_D B9 (mw_W h q g I A) → va_S B9 s.heap H locs → W p l e (headSpec w_M_good ({ frames := 1, cells := 0, slots := 0, locals := 20 })).room s m ([.ref h] : List Value).toArray below meth c H locs 0 0 (MQ below (va_Qi (fun (r9 : Int32) (_ : Unit) => r9 = r) (fun (_ : Unit) t => va_P (dC, dI) vwCl (mw_W h q g I' A') t.heap ∧ va_K (dC, dI) vwCl (mw_T g) t ∧ va_D B9 (mw_W h q g I' A')) B9) ([.ref h] : List Value).toArray s 0 0 B9) (F0 m 164 ls [.int s0]) := by
    intro rc hrc6 I A X s0 ls H locs hf hl hP hD hS
    unfold f_M_good_164 at hf
    refine lv_istore_n (lv' := [(1, .int s0), (0, .ref h), (2, .int (X 2)), (3, .int (X 3)), (4, .int (X 4))]) hx hb d_M_good_164 rfl hl (by decide) rfl (fun ls hl => ?_)
    have hl : lv_has ls 5 [(1, .int s0), (0, .ref h), (2, .int (X 2)), (3, .int (X 3)), (4, .int (X 4))] := hl
    refine lv_goto (tgt := 216) hx hb d_M_good_165 (by decide) ?_
    exact blk216 rc hrc6 I A (upd X 1 s0) _ _ _ hf (lv_sub hl [1, 0, 2, 3, 4] rfl) hP hD hS
  have blk152 : ∀ (rc : Nat → MI → MA → (Nat → Int32) → Option (Int32 × MI × MA)) (hrc6 : ∀ (I : MI) (A : MA) (X : Nat → Int32) (ls : Array Slot) (H : Heap) (locs : List Loc), rc 6 I A X = some (r, I', A') → lv_has ls 5 [(0, .ref h), (1, .int (X 1)), (2, .int (X 2)), (3, .int (X 3))] → va_P (dC, dI) vwCl (mw_W h q g I A) H → va_D B9 (mw_W h q g I A) → va_S B9 s.heap H locs → W p l e (headSpec w_M_good ({ frames := 1, cells := 0, slots := 0, locals := 20 })).room s m ([.ref h] : List Value).toArray below meth c H locs 0 0 (MQ below (va_Qi (fun (r9 : Int32) (_ : Unit) => r9 = r) (fun (_ : Unit) t => va_P (dC, dI) vwCl (mw_W h q g I' A') t.heap ∧ va_K (dC, dI) vwCl (mw_T g) t ∧ va_D B9 (mw_W h q g I' A')) B9) ([.ref h] : List Value).toArray s 0 0 B9) (F0 m 6 ls [])), ∀ (I : MI) (A : MA) (X : Nat → Int32) (ls : Array Slot) (H : Heap) (locs : List Loc), f_M_good_152 rc I A X = some (r, I', A') → lv_has ls 5 [(0, .ref h), (1, .int (X 1)), (2, .int (X 2)), (3, .int (X 3)), (4, .int (X 4))] → va_P (dC, dI) vwCl (mw_W h q g I A) H → va_D B9 (mw_W h q g I A) → va_S B9 s.heap H locs → W p l e (headSpec w_M_good ({ frames := 1, cells := 0, slots := 0, locals := 20 })).room s m ([.ref h] : List Value).toArray below meth c H locs 0 0 (MQ below (va_Qi (fun (r9 : Int32) (_ : Unit) => r9 = r) (fun (_ : Unit) t => va_P (dC, dI) vwCl (mw_W h q g I' A') t.heap ∧ va_K (dC, dI) vwCl (mw_T g) t ∧ va_D B9 (mw_W h q g I' A')) B9) ([.ref h] : List Value).toArray s 0 0 B9) (F0 m 152 ls []) := by
    intro rc hrc6 I A X ls H locs hf hl hP hD hS
    unfold f_M_good_152 at hf
    refine lv_iload hx hb d_M_good_152 (lv_at hl 4 rfl) ?_
    refine lv_bipush (v := 91) hx hb d_M_good_154 (by decide) ?_
    refine lv_icmp_ne (tgt := 163) hx hb d_M_good_156 (by decide) (fun hc1 => ?_) (fun hc1 => ?_)
    ·
      have hf := wk_iff hc1 hf
      refine lv_iconst (v := 2) hx hb d_M_good_163 (by decide) ?_
      exact blk164 rc hrc6 I A X 2 _ _ _ hf (lv_sub hl [0, 1, 2, 3, 4] rfl) hP hD hS
    ·
      have hf := wk_ift hc1 hf
      refine lv_iconst (v := 3) hx hb d_M_good_159 (by decide) ?_
      refine lv_goto (tgt := 164) hx hb d_M_good_160 (by decide) ?_
      exact blk164 rc hrc6 I A X 3 _ _ _ hf (lv_sub hl [0, 1, 2, 3, 4] rfl) hP hD hS
  have blk197 : ∀ (rc : Nat → MI → MA → (Nat → Int32) → Option (Int32 × MI × MA)) (hrc6 : ∀ (I : MI) (A : MA) (X : Nat → Int32) (ls : Array Slot) (H : Heap) (locs : List Loc), rc 6 I A X = some (r, I', A') → lv_has ls 5 [(0, .ref h), (1, .int (X 1)), (2, .int (X 2)), (3, .int (X 3))] → va_P (dC, dI) vwCl (mw_W h q g I A) H → va_D B9 (mw_W h q g I A) → va_S B9 s.heap H locs → W p l e (headSpec w_M_good ({ frames := 1, cells := 0, slots := 0, locals := 20 })).room s m ([.ref h] : List Value).toArray below meth c H locs 0 0 (MQ below (va_Qi (fun (r9 : Int32) (_ : Unit) => r9 = r) (fun (_ : Unit) t => va_P (dC, dI) vwCl (mw_W h q g I' A') t.heap ∧ va_K (dC, dI) vwCl (mw_T g) t ∧ va_D B9 (mw_W h q g I' A')) B9) ([.ref h] : List Value).toArray s 0 0 B9) (F0 m 6 ls [])), ∀ (I : MI) (A : MA) (X : Nat → Int32) (ls : Array Slot) (H : Heap) (locs : List Loc), f_M_good_197 rc I A X = some (r, I', A') → lv_has ls 5 [(0, .ref h), (1, .int (X 1)), (2, .int (X 2)), (3, .int (X 3)), (4, .int (X 4))] → va_P (dC, dI) vwCl (mw_W h q g I A) H → va_D B9 (mw_W h q g I A) → va_S B9 s.heap H locs → W p l e (headSpec w_M_good ({ frames := 1, cells := 0, slots := 0, locals := 20 })).room s m ([.ref h] : List Value).toArray below meth c H locs 0 0 (MQ below (va_Qi (fun (r9 : Int32) (_ : Unit) => r9 = r) (fun (_ : Unit) t => va_P (dC, dI) vwCl (mw_W h q g I' A') t.heap ∧ va_K (dC, dI) vwCl (mw_T g) t ∧ va_D B9 (mw_W h q g I' A')) B9) ([.ref h] : List Value).toArray s 0 0 B9) (F0 m 197 ls []) := by
    intro rc hrc6 I A X ls H locs hf hl hP hD hS
    unfold f_M_good_197 at hf
    refine lv_iconst (v := 1) hx hb d_M_good_197 (by decide) ?_
    refine lv_istore_n (lv' := [(1, .int 1), (0, .ref h), (2, .int (X 2)), (3, .int (X 3)), (4, .int (X 4))]) hx hb d_M_good_198 rfl hl (by decide) rfl (fun ls hl => ?_)
    have hl : lv_has ls 5 [(1, .int 1), (0, .ref h), (2, .int (X 2)), (3, .int (X 3)), (4, .int (X 4))] := hl
    refine lv_goto (tgt := 216) hx hb d_M_good_199 (by decide) ?_
    exact blk216 rc hrc6 I A (upd X 1 1) _ _ _ hf (lv_sub hl [1, 0, 2, 3, 4] rfl) hP hD hS
  have blk214 : ∀ (rc : Nat → MI → MA → (Nat → Int32) → Option (Int32 × MI × MA)) (hrc6 : ∀ (I : MI) (A : MA) (X : Nat → Int32) (ls : Array Slot) (H : Heap) (locs : List Loc), rc 6 I A X = some (r, I', A') → lv_has ls 5 [(0, .ref h), (1, .int (X 1)), (2, .int (X 2)), (3, .int (X 3))] → va_P (dC, dI) vwCl (mw_W h q g I A) H → va_D B9 (mw_W h q g I A) → va_S B9 s.heap H locs → W p l e (headSpec w_M_good ({ frames := 1, cells := 0, slots := 0, locals := 20 })).room s m ([.ref h] : List Value).toArray below meth c H locs 0 0 (MQ below (va_Qi (fun (r9 : Int32) (_ : Unit) => r9 = r) (fun (_ : Unit) t => va_P (dC, dI) vwCl (mw_W h q g I' A') t.heap ∧ va_K (dC, dI) vwCl (mw_T g) t ∧ va_D B9 (mw_W h q g I' A')) B9) ([.ref h] : List Value).toArray s 0 0 B9) (F0 m 6 ls [])), ∀ (I : MI) (A : MA) (X : Nat → Int32) (ls : Array Slot) (H : Heap) (locs : List Loc), f_M_good_214 rc I A X = some (r, I', A') → lv_has ls 5 [(0, .ref h), (1, .int (X 1)), (2, .int (X 2)), (3, .int (X 3)), (4, .int (X 4))] → va_P (dC, dI) vwCl (mw_W h q g I A) H → va_D B9 (mw_W h q g I A) → va_S B9 s.heap H locs → W p l e (headSpec w_M_good ({ frames := 1, cells := 0, slots := 0, locals := 20 })).room s m ([.ref h] : List Value).toArray below meth c H locs 0 0 (MQ below (va_Qi (fun (r9 : Int32) (_ : Unit) => r9 = r) (fun (_ : Unit) t => va_P (dC, dI) vwCl (mw_W h q g I' A') t.heap ∧ va_K (dC, dI) vwCl (mw_T g) t ∧ va_D B9 (mw_W h q g I' A')) B9) ([.ref h] : List Value).toArray s 0 0 B9) (F0 m 214 ls []) := by
    intro rc hrc6 I A X ls H locs hf hl hP hD hS
    unfold f_M_good_214 at hf
    refine lv_iload_n hx hb d_M_good_214 rfl (lv_at hl 3 rfl) ?_
    obtain ⟨e1, e2, e3⟩ := wk_inj hf
    subst e1
    subst e2
    subst e3
    exact W.iret (v := (X 3)) hx hb hr (fun t ht hW => ⟨⟨(X 3), (), rfl, rfl, by rw [ht]; exact hP, va_K.moved hW.alike hK, hD⟩, hS.F ht⟩) hS.2.2 d_M_good_215
  have blk126 : ∀ (rc : Nat → MI → MA → (Nat → Int32) → Option (Int32 × MI × MA)) (hrc6 : ∀ (I : MI) (A : MA) (X : Nat → Int32) (ls : Array Slot) (H : Heap) (locs : List Loc), rc 6 I A X = some (r, I', A') → lv_has ls 5 [(0, .ref h), (1, .int (X 1)), (2, .int (X 2)), (3, .int (X 3))] → va_P (dC, dI) vwCl (mw_W h q g I A) H → va_D B9 (mw_W h q g I A) → va_S B9 s.heap H locs → W p l e (headSpec w_M_good ({ frames := 1, cells := 0, slots := 0, locals := 20 })).room s m ([.ref h] : List Value).toArray below meth c H locs 0 0 (MQ below (va_Qi (fun (r9 : Int32) (_ : Unit) => r9 = r) (fun (_ : Unit) t => va_P (dC, dI) vwCl (mw_W h q g I' A') t.heap ∧ va_K (dC, dI) vwCl (mw_T g) t ∧ va_D B9 (mw_W h q g I' A')) B9) ([.ref h] : List Value).toArray s 0 0 B9) (F0 m 6 ls [])), ∀ (I : MI) (A : MA) (X : Nat → Int32) (ls : Array Slot) (H : Heap) (locs : List Loc), f_M_good_126 rc I A X = some (r, I', A') → lv_has ls 5 [(0, .ref h), (1, .int (X 1)), (2, .int (X 2)), (3, .int (X 3)), (4, .int (X 4))] → va_P (dC, dI) vwCl (mw_W h q g I A) H → va_D B9 (mw_W h q g I A) → va_S B9 s.heap H locs → W p l e (headSpec w_M_good ({ frames := 1, cells := 0, slots := 0, locals := 20 })).room s m ([.ref h] : List Value).toArray below meth c H locs 0 0 (MQ below (va_Qi (fun (r9 : Int32) (_ : Unit) => r9 = r) (fun (_ : Unit) t => va_P (dC, dI) vwCl (mw_W h q g I' A') t.heap ∧ va_K (dC, dI) vwCl (mw_T g) t ∧ va_D B9 (mw_W h q g I' A')) B9) ([.ref h] : List Value).toArray s 0 0 B9) (F0 m 126 ls []) := by
    intro rc hrc6 I A X ls H locs hf hl hP hD hS
    unfold f_M_good_126 at hf
    refine lv_iload hx hb d_M_good_126 (lv_at hl 4 rfl) ?_
    refine lv_bipush (v := 124) hx hb d_M_good_128 (by decide) ?_
    refine lv_icmp_ne (tgt := 138) hx hb d_M_good_130 (by decide) (fun hc1 => ?_) (fun hc1 => ?_)
    ·
      have hf := wk_iff hc1 hf
      refine lv_iload hx hb d_M_good_138 (lv_at hl 4 rfl) ?_
      refine lv_bipush (v := 91) hx hb d_M_good_140 (by decide) ?_
      refine lv_icmp_eq (tgt := 152) hx hb d_M_good_142 (by decide) (fun hc2 => ?_) (fun hc2 => ?_)
      ·
        have hf := wk_ift hc2 hf
        exact blk152 rc hrc6 I A X _ _ _ hf (lv_sub hl [0, 1, 2, 3, 4] rfl) hP hD hS
      ·
        have hf := wk_iff hc2 hf
        refine lv_iload hx hb d_M_good_145 (lv_at hl 4 rfl) ?_
        refine lv_bipush (v := 92) hx hb d_M_good_147 (by decide) ?_
        refine lv_icmp_ne (tgt := 168) hx hb d_M_good_149 (by decide) (fun hc3 => ?_) (fun hc3 => ?_)
        ·
          have hf := wk_iff hc3 hf
          refine lv_iload hx hb d_M_good_168 (lv_at hl 4 rfl) ?_
          have hPc := hP.sub (ws' := []) [] rfl
          have hDc := hD.sub (ws' := []) [] (by decide) rfl
          have hKc := hK.sub (tys' := []) [] rfl
          have hFc := va_free (wc := []) hD hS hA [] rfl
          cases hg1 : f_M_isPlain  (X 4) with
          | none => rw [hg1] at hf; cases hf
          | some z1 =>
            rw [hg1] at hf
            dsimp only [Option.bind_some] at hf
            refine va_calli (va_runS (As := [.int (X 4)]) (rest := []) ⟨hx, hb, hml, hown, hts⟩ (cm_M_isPlain l dC dI  _  (X 4) z1 hg1) (cwS 1 hts (gd_s lk_132 lk_133 lk_46 lk_131) rfl rfl rfl (by decide +kernel) ⟨Nat.le_of_ble_eq_true rfl, Nat.le_of_ble_eq_true rfl⟩) ⟨fun a U g mk q => by obtain ⟨q0, q1, qP, qK, qD⟩ := q; exact ⟨q0, q1, qP, va_K.moved (u := U) (U := U.calling g mk a) (Vm.Alike.refl U.vm) qK, qD⟩, fun U hU hW => ⟨rfl, by rw [hU], by rw [hU]; exact hPc, va_K.moved hW.alike hKc, hDc.weaken (fun _ _ _ _ => trivial)⟩⟩ rfl rfl hl.1 rfl (lv_room (Nat.le_of_ble_eq_true rfl)) d_M_good_170 ⟨Nat.le_of_ble_eq_true rfl, Nat.le_of_ble_eq_true rfl⟩) hS (fun q _ h => hFc q h) hFc (fun r9 u t H1 locs ht hvm hw hB hz1 hk1 hS => ?_)
            obtain ⟨hP1, hK1, hD1⟩ := hB
            rw [ht] at hP1
            rw [hw]
            obtain ⟨hP, hD⟩ := va_join (wr := (mw_W h q g I A)) (w1 := []) hP hD [] [0, 1, 2, 3, 4, 5, 6, 7, 8, 9, 10, 11, 12, 13, 14, 15, 16, 17, 18, 19, 20] rfl rfl (by decide) (by decide) hk1 hFc hP1 hD1
            generalize H1 = H at hP hS ⊢
            have hP : va_P (dC, dI) vwCl (mw_W h q g I A) H := hP
            have hD : va_D B9 (mw_W h q g I A) := hD
            refine lv_if_ne (tgt := 197) hx hb d_M_good_173 (by decide) (fun hc4 => ?_) (fun hc4 => ?_)
            ·
              have hf := wk_iff hc4 hf
              exact blk197 rc hrc6 I A X _ _ _ hf (lv_sub hl [0, 1, 2, 3, 4] rfl) hP hD hS
            ·
              have hf := wk_ift hc4 hf
              refine lv_iload hx hb d_M_good_176 (lv_at hl 4 rfl) ?_
              refine lv_bipush (v := 46) hx hb d_M_good_178 (by decide) ?_
              refine lv_icmp_eq (tgt := 197) hx hb d_M_good_180 (by decide) (fun hc5 => ?_) (fun hc5 => ?_)
              ·
                have hf := wk_ift hc5 hf
                exact blk197 rc hrc6 I A X _ _ _ hf (lv_sub hl [0, 1, 2, 3, 4] rfl) hP hD hS
              ·
                have hf := wk_iff hc5 hf
                refine lv_iload hx hb d_M_good_183 (lv_at hl 4 rfl) ?_
                refine lv_bipush (v := 94) hx hb d_M_good_185 (by decide) ?_
                refine lv_icmp_eq (tgt := 197) hx hb d_M_good_187 (by decide) (fun hc6 => ?_) (fun hc6 => ?_)
                ·
                  have hf := wk_ift hc6 hf
                  exact blk197 rc hrc6 I A X _ _ _ hf (lv_sub hl [0, 1, 2, 3, 4] rfl) hP hD hS
                ·
                  have hf := wk_iff hc6 hf
                  refine lv_iload hx hb d_M_good_190 (lv_at hl 4 rfl) ?_
                  refine lv_bipush (v := 36) hx hb d_M_good_192 (by decide) ?_
                  refine lv_icmp_ne (tgt := 202) hx hb d_M_good_194 (by decide) (fun hc7 => ?_) (fun hc7 => ?_)
                  ·
                    have hf := wk_iff hc7 hf
                    refine lv_iload hx hb d_M_good_202 (lv_at hl 4 rfl) ?_
                    have hPc := hP.sub (ws' := []) [] rfl
                    have hDc := hD.sub (ws' := []) [] (by decide) rfl
                    have hKc := hK.sub (tys' := []) [] rfl
                    have hFc := va_free (wc := []) hD hS hA [] rfl
                    cases hg2 : f_M_isTimes  (X 4) with
                    | none => rw [hg2] at hf; cases hf
                    | some z2 =>
                      rw [hg2] at hf
                      dsimp only [Option.bind_some] at hf
                      refine va_calli (va_runS (As := [.int (X 4)]) (rest := []) ⟨hx, hb, hml, hown, hts⟩ (cm_M_isTimes l dC dI  _  (X 4) z2 hg2) (cwS 1 hts (gd_s lk_80 lk_81 lk_46 lk_79) rfl rfl rfl (by decide +kernel) ⟨Nat.le_of_ble_eq_true rfl, Nat.le_of_ble_eq_true rfl⟩) ⟨fun a U g mk q => by obtain ⟨q0, q1, qP, qK, qD⟩ := q; exact ⟨q0, q1, qP, va_K.moved (u := U) (U := U.calling g mk a) (Vm.Alike.refl U.vm) qK, qD⟩, fun U hU hW => ⟨rfl, by rw [hU], by rw [hU]; exact hPc, va_K.moved hW.alike hKc, hDc.weaken (fun _ _ _ _ => trivial)⟩⟩ rfl rfl hl.1 rfl (lv_room (Nat.le_of_ble_eq_true rfl)) d_M_good_204 ⟨Nat.le_of_ble_eq_true rfl, Nat.le_of_ble_eq_true rfl⟩) hS (fun q _ h => hFc q h) hFc (fun r9 u t H1 locs ht hvm hw hB hz1 hk1 hS => ?_)
                      obtain ⟨hP1, hK1, hD1⟩ := hB
                      rw [ht] at hP1
                      rw [hw]
                      obtain ⟨hP, hD⟩ := va_join (wr := (mw_W h q g I A)) (w1 := []) hP hD [] [0, 1, 2, 3, 4, 5, 6, 7, 8, 9, 10, 11, 12, 13, 14, 15, 16, 17, 18, 19, 20] rfl rfl (by decide) (by decide) hk1 hFc hP1 hD1
                      generalize H1 = H at hP hS ⊢
                      have hP : va_P (dC, dI) vwCl (mw_W h q g I A) H := hP
                      have hD : va_D B9 (mw_W h q g I A) := hD
                      refine lv_if_eq (tgt := 214) hx hb d_M_good_207 (by decide) (fun hc8 => ?_) (fun hc8 => ?_)
                      ·
                        have hf := wk_ift hc8 hf
                        exact blk214 rc hrc6 I A X _ _ _ hf (lv_sub hl [0, 1, 2, 3, 4] rfl) hP hD hS
                      ·
                        have hf := wk_iff hc8 hf
                        refine lv_iload_n hx hb d_M_good_210 rfl (lv_at hl 1 rfl) ?_
                        refine lv_if_ne (tgt := 216) hx hb d_M_good_211 (by decide) (fun hc9 => ?_) (fun hc9 => ?_)
                        ·
                          have hf := wk_iff hc9 hf
                          exact blk216 rc hrc6 I A X _ _ _ hf (lv_sub hl [0, 1, 2, 3, 4] rfl) hP hD hS
                        ·
                          have hf := wk_ift hc9 hf
                          exact blk214 rc hrc6 I A X _ _ _ hf (lv_sub hl [0, 1, 2, 3, 4] rfl) hP hD hS
                  ·
                    have hf := wk_ift hc7 hf
                    exact blk197 rc hrc6 I A X _ _ _ hf (lv_sub hl [0, 1, 2, 3, 4] rfl) hP hD hS
        ·
          have hf := wk_ift hc3 hf
          exact blk152 rc hrc6 I A X _ _ _ hf (lv_sub hl [0, 1, 2, 3, 4] rfl) hP hD hS
    ·
      have hf := wk_ift hc1 hf
      refine lv_iconst (v := 0) hx hb d_M_good_133 (by decide) ?_
      refine lv_istore_n (lv' := [(1, .int 0), (0, .ref h), (2, .int (X 2)), (3, .int (X 3)), (4, .int (X 4))]) hx hb d_M_good_134 rfl hl (by decide) rfl (fun ls hl => ?_)
      have hl : lv_has ls 5 [(1, .int 0), (0, .ref h), (2, .int (X 2)), (3, .int (X 3)), (4, .int (X 4))] := hl
      refine lv_goto (tgt := 216) hx hb d_M_good_135 (by decide) ?_
      exact blk216 rc hrc6 I A (upd X 1 0) _ _ _ hf (lv_sub hl [1, 0, 2, 3, 4] rfl) hP hD hS
  have blk80 : ∀ (rc : Nat → MI → MA → (Nat → Int32) → Option (Int32 × MI × MA)) (hrc6 : ∀ (I : MI) (A : MA) (X : Nat → Int32) (ls : Array Slot) (H : Heap) (locs : List Loc), rc 6 I A X = some (r, I', A') → lv_has ls 5 [(0, .ref h), (1, .int (X 1)), (2, .int (X 2)), (3, .int (X 3))] → va_P (dC, dI) vwCl (mw_W h q g I A) H → va_D B9 (mw_W h q g I A) → va_S B9 s.heap H locs → W p l e (headSpec w_M_good ({ frames := 1, cells := 0, slots := 0, locals := 20 })).room s m ([.ref h] : List Value).toArray below meth c H locs 0 0 (MQ below (va_Qi (fun (r9 : Int32) (_ : Unit) => r9 = r) (fun (_ : Unit) t => va_P (dC, dI) vwCl (mw_W h q g I' A') t.heap ∧ va_K (dC, dI) vwCl (mw_T g) t ∧ va_D B9 (mw_W h q g I' A')) B9) ([.ref h] : List Value).toArray s 0 0 B9) (F0 m 6 ls [])), ∀ (I : MI) (A : MA) (X : Nat → Int32) (s0 : Int32) (ls : Array Slot) (H : Heap) (locs : List Loc), f_M_good_80 rc I A X s0 = some (r, I', A') → lv_has ls 5 [(0, .ref h), (1, .int (X 1)), (2, .int (X 2)), (3, .int (X 3)), (4, .int (X 4))] → va_P (dC, dI) vwCl (mw_W h q g I A) H → va_D B9 (mw_W h q g I A) → va_S B9 s.heap H locs → W p l e (headSpec w_M_good ({ frames := 1, cells := 0, slots := 0, locals := 20 })).room s m ([.ref h] : List Value).toArray below meth c H locs 0 0 (MQ below (va_Qi (fun (r9 : Int32) (_ : Unit) => r9 = r) (fun (_ : Unit) t => va_P (dC, dI) vwCl (mw_W h q g I' A') t.heap ∧ va_K (dC, dI) vwCl (mw_T g) t ∧ va_D B9 (mw_W h q g I' A')) B9) ([.ref h] : List Value).toArray s 0 0 B9) (F0 m 80 ls [.int s0]) := by
    intro rc hrc6 I A X s0 ls H locs hf hl hP hD hS
    unfold f_M_good_80 at hf
    refine lv_istore_n (lv' := [(1, .int s0), (0, .ref h), (2, .int (X 2)), (3, .int (X 3)), (4, .int (X 4))]) hx hb d_M_good_80 rfl hl (by decide) rfl (fun ls hl => ?_)
    have hl : lv_has ls 5 [(1, .int s0), (0, .ref h), (2, .int (X 2)), (3, .int (X 3)), (4, .int (X 4))] := hl
    refine lv_goto (tgt := 216) hx hb d_M_good_81 (by decide) ?_
    exact blk216 rc hrc6 I A (upd X 1 s0) _ _ _ hf (lv_sub hl [1, 0, 2, 3, 4] rfl) hP hD hS
  have blk68 : ∀ (rc : Nat → MI → MA → (Nat → Int32) → Option (Int32 × MI × MA)) (hrc6 : ∀ (I : MI) (A : MA) (X : Nat → Int32) (ls : Array Slot) (H : Heap) (locs : List Loc), rc 6 I A X = some (r, I', A') → lv_has ls 5 [(0, .ref h), (1, .int (X 1)), (2, .int (X 2)), (3, .int (X 3))] → va_P (dC, dI) vwCl (mw_W h q g I A) H → va_D B9 (mw_W h q g I A) → va_S B9 s.heap H locs → W p l e (headSpec w_M_good ({ frames := 1, cells := 0, slots := 0, locals := 20 })).room s m ([.ref h] : List Value).toArray below meth c H locs 0 0 (MQ below (va_Qi (fun (r9 : Int32) (_ : Unit) => r9 = r) (fun (_ : Unit) t => va_P (dC, dI) vwCl (mw_W h q g I' A') t.heap ∧ va_K (dC, dI) vwCl (mw_T g) t ∧ va_D B9 (mw_W h q g I' A')) B9) ([.ref h] : List Value).toArray s 0 0 B9) (F0 m 6 ls [])), ∀ (I : MI) (A : MA) (X : Nat → Int32) (ls : Array Slot) (H : Heap) (locs : List Loc), f_M_good_68 rc I A X = some (r, I', A') → lv_has ls 5 [(0, .ref h), (1, .int (X 1)), (2, .int (X 2)), (3, .int (X 3)), (4, .int (X 4))] → va_P (dC, dI) vwCl (mw_W h q g I A) H → va_D B9 (mw_W h q g I A) → va_S B9 s.heap H locs → W p l e (headSpec w_M_good ({ frames := 1, cells := 0, slots := 0, locals := 20 })).room s m ([.ref h] : List Value).toArray below meth c H locs 0 0 (MQ below (va_Qi (fun (r9 : Int32) (_ : Unit) => r9 = r) (fun (_ : Unit) t => va_P (dC, dI) vwCl (mw_W h q g I' A') t.heap ∧ va_K (dC, dI) vwCl (mw_T g) t ∧ va_D B9 (mw_W h q g I' A')) B9) ([.ref h] : List Value).toArray s 0 0 B9) (F0 m 68 ls []) := by
    intro rc hrc6 I A X ls H locs hf hl hP hD hS
    unfold f_M_good_68 at hf
    refine lv_iload hx hb d_M_good_68 (lv_at hl 4 rfl) ?_
    refine lv_bipush (v := 93) hx hb d_M_good_70 (by decide) ?_
    refine lv_icmp_ne (tgt := 79) hx hb d_M_good_72 (by decide) (fun hc1 => ?_) (fun hc1 => ?_)
    ·
      have hf := wk_iff hc1 hf
      refine lv_iconst (v := 5) hx hb d_M_good_79 (by decide) ?_
      exact blk80 rc hrc6 I A X 5 _ _ _ hf (lv_sub hl [0, 1, 2, 3, 4] rfl) hP hD hS
    ·
      have hf := wk_ift hc1 hf
      refine lv_iconst (v := 1) hx hb d_M_good_75 (by decide) ?_
      refine lv_goto (tgt := 80) hx hb d_M_good_76 (by decide) ?_
      exact blk80 rc hrc6 I A X 1 _ _ _ hf (lv_sub hl [0, 1, 2, 3, 4] rfl) hP hD hS
  have blk49 : ∀ (rc : Nat → MI → MA → (Nat → Int32) → Option (Int32 × MI × MA)) (hrc6 : ∀ (I : MI) (A : MA) (X : Nat → Int32) (ls : Array Slot) (H : Heap) (locs : List Loc), rc 6 I A X = some (r, I', A') → lv_has ls 5 [(0, .ref h), (1, .int (X 1)), (2, .int (X 2)), (3, .int (X 3))] → va_P (dC, dI) vwCl (mw_W h q g I A) H → va_D B9 (mw_W h q g I A) → va_S B9 s.heap H locs → W p l e (headSpec w_M_good ({ frames := 1, cells := 0, slots := 0, locals := 20 })).room s m ([.ref h] : List Value).toArray below meth c H locs 0 0 (MQ below (va_Qi (fun (r9 : Int32) (_ : Unit) => r9 = r) (fun (_ : Unit) t => va_P (dC, dI) vwCl (mw_W h q g I' A') t.heap ∧ va_K (dC, dI) vwCl (mw_T g) t ∧ va_D B9 (mw_W h q g I' A')) B9) ([.ref h] : List Value).toArray s 0 0 B9) (F0 m 6 ls [])), ∀ (I : MI) (A : MA) (X : Nat → Int32) (ls : Array Slot) (H : Heap) (locs : List Loc), f_M_good_49 rc I A X = some (r, I', A') → lv_has ls 5 [(0, .ref h), (1, .int (X 1)), (2, .int (X 2)), (3, .int (X 3)), (4, .int (X 4))] → va_P (dC, dI) vwCl (mw_W h q g I A) H → va_D B9 (mw_W h q g I A) → va_S B9 s.heap H locs → W p l e (headSpec w_M_good ({ frames := 1, cells := 0, slots := 0, locals := 20 })).room s m ([.ref h] : List Value).toArray below meth c H locs 0 0 (MQ below (va_Qi (fun (r9 : Int32) (_ : Unit) => r9 = r) (fun (_ : Unit) t => va_P (dC, dI) vwCl (mw_W h q g I' A') t.heap ∧ va_K (dC, dI) vwCl (mw_T g) t ∧ va_D B9 (mw_W h q g I' A')) B9) ([.ref h] : List Value).toArray s 0 0 B9) (F0 m 49 ls []) := by
    intro rc hrc6 I A X ls H locs hf hl hP hD hS
    unfold f_M_good_49 at hf
    refine lv_iload_n hx hb d_M_good_49 rfl (lv_at hl 1 rfl) ?_
    refine lv_iconst (v := 2) hx hb d_M_good_50 (by decide) ?_
    refine lv_icmp_le (tgt := 84) hx hb d_M_good_51 (by decide) (fun hc1 => ?_) (fun hc1 => ?_)
    ·
      have hf := wk_ift hc1 hf
      refine lv_iload hx hb d_M_good_84 (lv_at hl 4 rfl) ?_
      refine lv_bipush (v := 40) hx hb d_M_good_86 (by decide) ?_
      refine lv_icmp_ne (tgt := 107) hx hb d_M_good_88 (by decide) (fun hc2 => ?_) (fun hc2 => ?_)
      ·
        have hf := wk_iff hc2 hf
        refine lv_iload hx hb d_M_good_107 (lv_at hl 4 rfl) ?_
        refine lv_bipush (v := 41) hx hb d_M_good_109 (by decide) ?_
        refine lv_icmp_ne (tgt := 126) hx hb d_M_good_111 (by decide) (fun hc3 => ?_) (fun hc3 => ?_)
        ·
          have hf := wk_iff hc3 hf
          exact blk126 rc hrc6 I A X _ _ _ hf (lv_sub hl [0, 1, 2, 3, 4] rfl) hP hD hS
        ·
          have hf := wk_ift hc3 hf
          refine lv_iload_n hx hb d_M_good_114 rfl (lv_at hl 2 rfl) ?_
          refine lv_if_le (tgt := 126) hx hb d_M_good_115 (by decide) (fun hc4 => ?_) (fun hc4 => ?_)
          ·
            have hf := wk_ift hc4 hf
            exact blk126 rc hrc6 I A X _ _ _ hf (lv_sub hl [0, 1, 2, 3, 4] rfl) hP hD hS
          ·
            have hf := wk_iff hc4 hf
            refine lv_iinc (k := 2) (v := ((X 2) + (-1))) (lv' := [(2, .int ((X 2) + (-1))), (0, .ref h), (1, .int (X 1)), (3, .int (X 3)), (4, .int (X 4))]) hx hb d_M_good_118 hl rfl (wk_inc (by decide)) (by decide) rfl (fun ls hl => ?_)
            have hl : lv_has ls 5 [(2, .int ((X 2) + (-1))), (0, .ref h), (1, .int (X 1)), (3, .int (X 3)), (4, .int (X 4))] := hl
            refine lv_iconst (v := 1) hx hb d_M_good_121 (by decide) ?_
            refine lv_istore_n (lv' := [(1, .int 1), (2, .int ((X 2) + (-1))), (0, .ref h), (3, .int (X 3)), (4, .int (X 4))]) hx hb d_M_good_122 rfl hl (by decide) rfl (fun ls hl => ?_)
            have hl : lv_has ls 5 [(1, .int 1), (2, .int ((X 2) + (-1))), (0, .ref h), (3, .int (X 3)), (4, .int (X 4))] := hl
            refine lv_goto (tgt := 216) hx hb d_M_good_123 (by decide) ?_
            exact blk216 rc hrc6 I A (upd (upd X 1 1) 2 ((X 2) + (-1))) _ _ _ hf (lv_sub hl [2, 0, 1, 3, 4] rfl) hP hD hS
      ·
        have hf := wk_ift hc2 hf
        refine lv_iload_n hx hb d_M_good_91 rfl (lv_at hl 2 rfl) ?_
        refine lv_bipush (v := 8) hx hb d_M_good_92 (by decide) ?_
        refine lv_icmp_ne (tgt := 99) hx hb d_M_good_94 (by decide) (fun hc3 => ?_) (fun hc3 => ?_)
        ·
          have hf := wk_iff hc3 hf
          refine lv_iinc (k := 2) (v := ((X 2) + 1)) (lv' := [(2, .int ((X 2) + 1)), (0, .ref h), (1, .int (X 1)), (3, .int (X 3)), (4, .int (X 4))]) hx hb d_M_good_99 hl rfl (wk_inc (by decide)) (by decide) rfl (fun ls hl => ?_)
          have hl : lv_has ls 5 [(2, .int ((X 2) + 1)), (0, .ref h), (1, .int (X 1)), (3, .int (X 3)), (4, .int (X 4))] := hl
          refine lv_iconst (v := 0) hx hb d_M_good_102 (by decide) ?_
          refine lv_istore_n (lv' := [(1, .int 0), (2, .int ((X 2) + 1)), (0, .ref h), (3, .int (X 3)), (4, .int (X 4))]) hx hb d_M_good_103 rfl hl (by decide) rfl (fun ls hl => ?_)
          have hl : lv_has ls 5 [(1, .int 0), (2, .int ((X 2) + 1)), (0, .ref h), (3, .int (X 3)), (4, .int (X 4))] := hl
          refine lv_goto (tgt := 216) hx hb d_M_good_104 (by decide) ?_
          exact blk216 rc hrc6 I A (upd (upd X 1 0) 2 ((X 2) + 1)) _ _ _ hf (lv_sub hl [2, 0, 1, 3, 4] rfl) hP hD hS
        ·
          have hf := wk_ift hc3 hf
          refine lv_iload_n hx hb d_M_good_97 rfl (lv_at hl 3 rfl) ?_
          obtain ⟨e1, e2, e3⟩ := wk_inj hf
          subst e1
          subst e2
          subst e3
          exact W.iret (v := (X 3)) hx hb hr (fun t ht hW => ⟨⟨(X 3), (), rfl, rfl, by rw [ht]; exact hP, va_K.moved hW.alike hK, hD⟩, hS.F ht⟩) hS.2.2 d_M_good_98
    ·
      have hf := wk_iff hc1 hf
      refine lv_iload hx hb d_M_good_54 (lv_at hl 4 rfl) ?_
      refine lv_bipush (v := 93) hx hb d_M_good_56 (by decide) ?_
      refine lv_icmp_ne (tgt := 68) hx hb d_M_good_58 (by decide) (fun hc2 => ?_) (fun hc2 => ?_)
      ·
        have hf := wk_iff hc2 hf
        exact blk68 rc hrc6 I A X _ _ _ hf (lv_sub hl [0, 1, 2, 3, 4] rfl) hP hD hS
      ·
        have hf := wk_ift hc2 hf
        refine lv_iload_n hx hb d_M_good_61 rfl (lv_at hl 1 rfl) ?_
        refine lv_iconst (v := 5) hx hb d_M_good_62 (by decide) ?_
        refine lv_icmp_ge (tgt := 68) hx hb d_M_good_63 (by decide) (fun hc3 => ?_) (fun hc3 => ?_)
        ·
          have hf := wk_ift hc3 hf
          exact blk68 rc hrc6 I A X _ _ _ hf (lv_sub hl [0, 1, 2, 3, 4] rfl) hP hD hS
        ·
          have hf := wk_iff hc3 hf
          refine lv_iload_n hx hb d_M_good_66 rfl (lv_at hl 3 rfl) ?_
          obtain ⟨e1, e2, e3⟩ := wk_inj hf
          subst e1
          subst e2
          subst e3
          exact W.iret (v := (X 3)) hx hb hr (fun t ht hW => ⟨⟨(X 3), (), rfl, rfl, by rw [ht]; exact hP, va_K.moved hW.alike hK, hD⟩, hS.F ht⟩) hS.2.2 d_M_good_67
  have stp6 : ∀ (rc : Nat → MI → MA → (Nat → Int32) → Option (Int32 × MI × MA)) (hrc6 : ∀ (I : MI) (A : MA) (X : Nat → Int32) (ls : Array Slot) (H : Heap) (locs : List Loc), rc 6 I A X = some (r, I', A') → lv_has ls 5 [(0, .ref h), (1, .int (X 1)), (2, .int (X 2)), (3, .int (X 3))] → va_P (dC, dI) vwCl (mw_W h q g I A) H → va_D B9 (mw_W h q g I A) → va_S B9 s.heap H locs → W p l e (headSpec w_M_good ({ frames := 1, cells := 0, slots := 0, locals := 20 })).room s m ([.ref h] : List Value).toArray below meth c H locs 0 0 (MQ below (va_Qi (fun (r9 : Int32) (_ : Unit) => r9 = r) (fun (_ : Unit) t => va_P (dC, dI) vwCl (mw_W h q g I' A') t.heap ∧ va_K (dC, dI) vwCl (mw_T g) t ∧ va_D B9 (mw_W h q g I' A')) B9) ([.ref h] : List Value).toArray s 0 0 B9) (F0 m 6 ls [])), ∀ (I : MI) (A : MA) (X : Nat → Int32) (ls : Array Slot) (H : Heap) (locs : List Loc), f_M_good_6 rc I A X = some (r, I', A') → lv_has ls 5 [(0, .ref h), (1, .int (X 1)), (2, .int (X 2)), (3, .int (X 3))] → va_P (dC, dI) vwCl (mw_W h q g I A) H → va_D B9 (mw_W h q g I A) → va_S B9 s.heap H locs → W p l e (headSpec w_M_good ({ frames := 1, cells := 0, slots := 0, locals := 20 })).room s m ([.ref h] : List Value).toArray below meth c H locs 0 0 (MQ below (va_Qi (fun (r9 : Int32) (_ : Unit) => r9 = r) (fun (_ : Unit) t => va_P (dC, dI) vwCl (mw_W h q g I' A') t.heap ∧ va_K (dC, dI) vwCl (mw_T g) t ∧ va_D B9 (mw_W h q g I' A')) B9) ([.ref h] : List Value).toArray s 0 0 B9) (F0 m 6 ls []) := by
    intro rc hrc6 I A X ls H locs hf hl hP hD hS
    unfold f_M_good_6 at hf
    refine lv_iload_n hx hb d_M_good_6 rfl (lv_at hl 3 rfl) ?_
    refine lv_aload_n hx hb d_M_good_7 rfl (lv_at hl 0 rfl) ?_
    refine va_get (D := (dC, dI)) (ci := 4) (v := .int (I 1)) (C := R_M) (T := F_M) (N := 38) hx hb hts (fun w h => List.mem_cons_of_mem _ (in_M w h)) hown hK hP 0 rfl rfl 1 (by decide) (hts _ (List.mem_cons_of_mem _ lk_41)) (fun _ h9 => h9) rfl d_M_good_8 ?_
    refine lv_icmp_ge (tgt := 222) hx hb d_M_good_11 (by decide) (fun hc1 => ?_) (fun hc1 => ?_)
    ·
      have hf := wk_ift hc1 hf
      refine lv_iload_n hx hb d_M_good_222 rfl (lv_at hl 1 rfl) ?_
      refine lv_iconst (v := 1) hx hb d_M_good_223 (by decide) ?_
      refine lv_icmp_gt (tgt := 231) hx hb d_M_good_224 (by decide) (fun hc2 => ?_) (fun hc2 => ?_)
      ·
        have hf := wk_ift hc2 hf
        exact blk231 rc hrc6 I A X _ _ _ hf (lv_sub hl [0, 1, 2, 3] rfl) hP hD hS
      ·
        have hf := wk_iff hc2 hf
        refine lv_iload_n hx hb d_M_good_227 rfl (lv_at hl 2 rfl) ?_
        refine lv_if_le (tgt := 240) hx hb d_M_good_228 (by decide) (fun hc3 => ?_) (fun hc3 => ?_)
        ·
          have hf := wk_ift hc3 hf
          refine lv_aload_n hx hb d_M_good_240 rfl (lv_at hl 0 rfl) ?_
          refine va_get (D := (dC, dI)) (ci := 4) (v := .int (I 1)) (C := R_M) (T := F_M) (N := 38) hx hb hts (fun w h => List.mem_cons_of_mem _ (in_M w h)) hown hK hP 0 rfl rfl 1 (by decide) (hts _ (List.mem_cons_of_mem _ lk_41)) (fun _ h9 => h9) rfl d_M_good_241 ?_
          exact blk244 rc hrc6 I A X (I 1) _ _ _ hf (lv_sub hl [0, 1, 2, 3] rfl) hP hD hS
        ·
          have hf := wk_iff hc3 hf
          exact blk231 rc hrc6 I A X _ _ _ hf (lv_sub hl [0, 1, 2, 3] rfl) hP hD hS
    ·
      have hf := wk_iff hc1 hf
      refine lv_aload_n hx hb d_M_good_14 rfl (lv_at hl 0 rfl) ?_
      refine va_get (D := (dC, dI)) (ci := 4) (v := .ref (q 2)) (C := R_M) (T := F_M) (N := 38) hx hb hts (fun w h => List.mem_cons_of_mem _ (in_M w h)) hown hK hP 0 rfl rfl 2 (by decide) (hts _ (List.mem_cons_of_mem _ lk_42)) (fun _ h9 => h9) rfl d_M_good_15 ?_
      refine lv_iload_n hx hb d_M_good_18 rfl (lv_at hl 3 rfl) ?_
      obtain ⟨hc2, hf⟩ := wk_if hf
      refine va_cald hx hb hK hP 1 0 rfl rfl (wk_inb_ok hc2) d_M_good_19 ?_
      refine lv_istore (lv' := [(4, .int ((A 2) ((X 3)).toNatClampNeg)), (0, .ref h), (1, .int (X 1)), (2, .int (X 2)), (3, .int (X 3))]) hx hb d_M_good_20 hl (by decide) rfl (fun ls hl => ?_)
      have hl : lv_has ls 5 [(4, .int ((A 2) ((X 3)).toNatClampNeg)), (0, .ref h), (1, .int (X 1)), (2, .int (X 2)), (3, .int (X 3))] := hl
      refine lv_iload_n hx hb d_M_good_22 rfl (lv_at hl 2 rfl) ?_
      refine lv_iconst (v := 2) hx hb d_M_good_23 (by decide) ?_
      refine lv_icmp_ne (tgt := 32) hx hb d_M_good_24 (by decide) (fun hc3 => ?_) (fun hc3 => ?_)
      ·
        have hf := wk_iff hc3 hf
        refine lv_iload_n hx hb d_M_good_32 rfl (lv_at hl 2 rfl) ?_
        refine lv_iconst (v := 3) hx hb d_M_good_33 (by decide) ?_
        refine lv_icmp_ne (tgt := 49) hx hb d_M_good_34 (by decide) (fun hc4 => ?_) (fun hc4 => ?_)
        ·
          have hf := wk_iff hc4 hf
          exact blk49 rc hrc6 I A (upd X 4 ((A 2) ((X 3)).toNatClampNeg)) _ _ _ hf (lv_sub hl [1, 2, 3, 4, 0] rfl) hP hD hS
        ·
          have hf := wk_ift hc4 hf
          refine lv_iload hx hb d_M_good_37 (lv_at hl 0 rfl) ?_
          refine lv_bipush (v := 94) hx hb d_M_good_39 (by decide) ?_
          refine lv_icmp_ne (tgt := 49) hx hb d_M_good_41 (by decide) (fun hc5 => ?_) (fun hc5 => ?_)
          ·
            have hf := wk_iff hc5 hf
            exact blk49 rc hrc6 I A (upd X 4 ((A 2) ((X 3)).toNatClampNeg)) _ _ _ hf (lv_sub hl [1, 2, 3, 4, 0] rfl) hP hD hS
          ·
            have hf := wk_ift hc5 hf
            refine lv_iconst (v := 4) hx hb d_M_good_44 (by decide) ?_
            refine lv_istore_n (lv' := [(1, .int 4), (4, .int ((A 2) ((X 3)).toNatClampNeg)), (0, .ref h), (2, .int (X 2)), (3, .int (X 3))]) hx hb d_M_good_45 rfl hl (by decide) rfl (fun ls hl => ?_)
            have hl : lv_has ls 5 [(1, .int 4), (4, .int ((A 2) ((X 3)).toNatClampNeg)), (0, .ref h), (2, .int (X 2)), (3, .int (X 3))] := hl
            refine lv_goto (tgt := 216) hx hb d_M_good_46 (by decide) ?_
            exact blk216 rc hrc6 I A (upd (upd X 1 4) 4 ((A 2) ((X 3)).toNatClampNeg)) _ _ _ hf (lv_sub hl [2, 0, 3, 4, 1] rfl) hP hD hS
      ·
        have hf := wk_ift hc3 hf
        refine lv_iconst (v := 1) hx hb d_M_good_27 (by decide) ?_
        refine lv_istore_n (lv' := [(1, .int 1), (4, .int ((A 2) ((X 3)).toNatClampNeg)), (0, .ref h), (2, .int (X 2)), (3, .int (X 3))]) hx hb d_M_good_28 rfl hl (by decide) rfl (fun ls hl => ?_)
        have hl : lv_has ls 5 [(1, .int 1), (4, .int ((A 2) ((X 3)).toNatClampNeg)), (0, .ref h), (2, .int (X 2)), (3, .int (X 3))] := hl
        refine lv_goto (tgt := 216) hx hb d_M_good_29 (by decide) ?_
        exact blk216 rc hrc6 I A (upd (upd X 1 1) 4 ((A 2) ((X 3)).toNatClampNeg)) _ _ _ hf (lv_sub hl [2, 0, 3, 4, 1] rfl) hP hD hS
  have key : ∀ n : Nat, (∀ (I : MI) (A : MA) (X : Nat → Int32) (ls : Array Slot) (H : Heap) (locs : List Loc), f_M_good_go n 6 I A X = some (r, I', A') → lv_has ls 5 [(0, .ref h), (1, .int (X 1)), (2, .int (X 2)), (3, .int (X 3))] → va_P (dC, dI) vwCl (mw_W h q g I A) H → va_D B9 (mw_W h q g I A) → va_S B9 s.heap H locs → W p l e (headSpec w_M_good ({ frames := 1, cells := 0, slots := 0, locals := 20 })).room s m ([.ref h] : List Value).toArray below meth c H locs 0 0 (MQ below (va_Qi (fun (r9 : Int32) (_ : Unit) => r9 = r) (fun (_ : Unit) t => va_P (dC, dI) vwCl (mw_W h q g I' A') t.heap ∧ va_K (dC, dI) vwCl (mw_T g) t ∧ va_D B9 (mw_W h q g I' A')) B9) ([.ref h] : List Value).toArray s 0 0 B9) (F0 m 6 ls [])) := by
    intro n
    induction n with
    | zero => exact fun I A X ls H locs hf => (by cases hf)
    | succ n ih =>
      have ih6 := ih
      exact stp6 (f_M_good_go n) ih6
  unfold f_M_good f_M_good_e at hf
  have hrc6 := key wk_FUEL
  refine lv_iconst (v := 0) hx hb d_M_good_0 (by decide) ?_
  refine lv_istore_n (lv' := [(1, .int 0), (0, .ref h)]) hx hb d_M_good_1 rfl hl (by decide) rfl (fun ls hl => ?_)
  have hl : lv_has ls 5 [(1, .int 0), (0, .ref h)] := hl
  refine lv_iconst (v := 0) hx hb d_M_good_2 (by decide) ?_
  refine lv_istore_n (lv' := [(2, .int 0), (1, .int 0), (0, .ref h)]) hx hb d_M_good_3 rfl hl (by decide) rfl (fun ls hl => ?_)
  have hl : lv_has ls 5 [(2, .int 0), (1, .int 0), (0, .ref h)] := hl
  refine lv_iconst (v := 0) hx hb d_M_good_4 (by decide) ?_
  refine lv_istore_n (lv' := [(3, .int 0), (2, .int 0), (1, .int 0), (0, .ref h)]) hx hb d_M_good_5 rfl hl (by decide) rfl (fun ls hl => ?_)
  have hl : lv_has ls 5 [(3, .int 0), (2, .int 0), (1, .int 0), (0, .ref h)] := hl
  exact hrc6 I A (upd (upd (upd (fun _ => 0) 1 0) 2 0) 3 0) _ _ _ hf (lv_sub hl [3, 2, 1, 0] rfl) hP hD hS

