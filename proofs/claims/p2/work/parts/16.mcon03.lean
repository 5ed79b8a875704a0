set_option maxHeartbeats 8000000 in
set_option maxRecDepth 100000 in
theorem cm_M_build (l : Launch) (dC : Nat → ClassId) (dI : Nat → Nat → Nat) (h : Nat) (q : Nat → Nat) (g : Nat → ClassId) (sz : Nat) (I : MI) (A : MA) (k1 : Int32) (r : Int32) (I' : MI) (A' : MA) (hf : f_M_build I A k1 = some (r, I', A')) : Met l y_M_build w_M_build ({ frames := 3, cells := 0, slots := 0, locals := 69 }) (va_Pc [.ref h, .int k1] (fun U => U.heap.size = sz ∧ va_P (dC, dI) vwCl (mw_W h q g I A) U.heap ∧ va_K (dC, dI) vwCl (mw_T g) U ∧ va_D (fun _ => True) (mw_W h q g I A))) (va_Qi (fun (r9 : Int32) (_ : Unit) => r9 = r) (fun (_ : Unit) t => va_P (dC, dI) vwCl (mw_W h q g I' A') t.heap ∧ va_K (dC, dI) vwCl (mw_T g) t ∧ va_D (va_A (mw_W h q g I A) sz) (mw_W h q g I' A')) (va_A (mw_W h q g I A) sz)) 0 0 (va_A (mw_W h q g I A) sz) := by
  refine Met.ofW (cc := prog_6_method_35_code) (maxL := 6) (ret := (some .int)) (by decide) rfl ?_
  intro p e s m args below meth c s₁ B hml hv
  obtain ⟨rfl, hsz, hP, hK, hD0⟩ := hv
  have hx := B.exec
  have hb := B.bytes
  have hr := B.returns
  have hts := atoms_spec (ws := w_M_build) B.pre
  have hown : s.vm.findClass R_M = some m.cls := findClass_of_methodNamed B.named
  have hlocks := B.notSynchronized
  subst hsz
  have hD := hD0.self (sz := s.heap.size)
  generalize hAe : va_A (mw_W h q g I A) s.heap.size = B9 at hD ⊢
  have hA : ∀ q : Nat, s.heap.size ≤ q → B9 q := fun q h => by rw [← hAe]; exact Or.inr h
  clear hAe
  have hS : va_S B9 s.heap s.heap [] := va_S.rf
  have hl := lv_entry ([.ref h, .int k1]) (n := 6) (Nat.le_of_ble_eq_true rfl)
  rw [lg_entry_eq]
  generalize (lg_sl ([.ref h, .int k1]) ++ List.replicate (6 - (lg_sl ([.ref h, .int k1])).length) Slot.unset).toArray = ls at hl ⊢
  have hl : lv_has ls 6 [(0, .ref h), (1, .int k1)] := hl
  have blk273 : ∀ (rc : Nat → MI → MA → (Nat → Int32) → Option (Int32 × MI × MA)) (hrc150 : ∀ (I : MI) (A : MA) (X : Nat → Int32) (ls : Array Slot) (H : Heap) (locs : List Loc), rc 150 I A X = some (r, I', A') → lv_has ls 6 [(0, .ref h), (1, .int (X 1)), (2, .int (X 2)), (3, .int (X 3)), (4, .int (X 4))] → va_P (dC, dI) vwCl (mw_W h q g I A) H → va_D B9 (mw_W h q g I A) → va_S B9 s.heap H locs → W p l e (headSpec w_M_build ({ frames := 3, cells := 0, slots := 0, locals := 69 })).room s m ([.ref h, .int k1] : List Value).toArray below meth c H locs 0 0 (MQ below (va_Qi (fun (r9 : Int32) (_ : Unit) => r9 = r) (fun (_ : Unit) t => va_P (dC, dI) vwCl (mw_W h q g I' A') t.heap ∧ va_K (dC, dI) vwCl (mw_T g) t ∧ va_D B9 (mw_W h q g I' A')) B9) ([.ref h, .int k1] : List Value).toArray s 0 0 B9) (F0 m 150 ls [])), ∀ (I : MI) (A : MA) (X : Nat → Int32) (ls : Array Slot) (H : Heap) (locs : List Loc), f_M_build_273 rc I A X = some (r, I', A') → lv_has ls 6 [(0, .ref h), (1, .int (X 1)), (2, .int (X 2)), (3, .int (X 3)), (4, .int (X 4))] → va_P (dC, dI) vwCl (mw_W h q g I A) H → va_D B9 (mw_W h q g I A) → va_S B9 s.heap H locs → W p l e (headSpec w_M_build ({ frames := 3, cells := 0, slots := 0, locals := 69 })).room s m ([.ref h, .int k1] : List Value).toArray below meth c H locs 0 0 (MQ below (va_Qi (fun (r9 : Int32) (_ : Unit) => r9 = r) (fun (_ : Unit) t => va_P (dC, dI) vwCl (mw_W h q g I' A') t.heap ∧ va_K (dC, dI) vwCl (mw_T g) t ∧ va_D B9 (mw_W h q g I' A')) B9) ([.ref h, .int k1] : List Value).toArray s 0 0 B9) (F0 m 273 ls []) := by
    intro rc hrc150 I A X ls H locs hf hl hP hD hS
    unfold f_M_build_273 at hf
    refine lv_iload hx hb d_M_build_273 (lv_at hl 4 rfl) ?_
    obtain ⟨e1, e2, e3⟩ := wk_inj hf
    subst e1
    subst e2
    subst e3
    exact W.iret (v := (X 4)) hx hb hr (fun t ht hW => ⟨⟨(X 4), (), rfl, rfl, by rw [ht]; exact hP, va_K.moved hW.alike hK, hD⟩, hS.F ht⟩) hS.2.2 d_M_build_275
  have blk132 : ∀ (rc : Nat → MI → MA → (Nat → Int32) → Option (Int32 × MI × MA)) (hrc150 : ∀ (I : MI) (A : MA) (X : Nat → Int32) (ls : Array Slot) (H : Heap) (locs : List Loc), rc 150 I A X = some (r, I', A') → lv_has ls 6 [(0, .ref h), (1, .int (X 1)), (2, .int (X 2)), (3, .int (X 3)), (4, .int (X 4))] → va_P (dC, dI) vwCl (mw_W h q g I A) H → va_D B9 (mw_W h q g I A) → va_S B9 s.heap H locs → W p l e (headSpec w_M_build ({ frames := 3, cells := 0, slots := 0, locals := 69 })).room s m ([.ref h, .int k1] : List Value).toArray below meth c H locs 0 0 (MQ below (va_Qi (fun (r9 : Int32) (_ : Unit) => r9 = r) (fun (_ : Unit) t => va_P (dC, dI) vwCl (mw_W h q g I' A') t.heap ∧ va_K (dC, dI) vwCl (mw_T g) t ∧ va_D B9 (mw_W h q g I' A')) B9) ([.ref h, .int k1] : List Value).toArray s 0 0 B9) (F0 m 150 ls [])), ∀ (I : MI) (A : MA) (X : Nat → Int32) (s0 : Int32) (s1 : Int32) (s2 : Int32) (s4 : Int32) (ls : Array Slot) (H : Heap) (locs : List Loc), f_M_build_132 rc I A X s0 s1 s2 s4 = some (r, I', A') → lv_has ls 6 [(0, .ref h), (1, .int (X 1)), (2, .int (X 2)), (3, .int (X 3)), (4, .int (X 4))] → va_P (dC, dI) vwCl (mw_W h q g I A) H → va_D B9 (mw_W h q g I A) → va_S B9 s.heap H locs → W p l e (headSpec w_M_build ({ frames := 3, cells := 0, slots := 0, locals := 69 })).room s m ([.ref h, .int k1] : List Value).toArray below meth c H locs 0 0 (MQ below (va_Qi (fun (r9 : Int32) (_ : Unit) => r9 = r) (fun (_ : Unit) t => va_P (dC, dI) vwCl (mw_W h q g I' A') t.heap ∧ va_K (dC, dI) vwCl (mw_T g) t ∧ va_D B9 (mw_W h q g I' A')) B9) ([.ref h, .int k1] : List Value).toArray s 0 0 B9) (F0 m 132 ls [.int s0, .int s1, .int s2, .ref h, .int s4, .ref (q 31)]) := by
    intro rc hrc150 I A X s0 s1 s2 s4 ls H locs hf hl hP hD hS
    unfold f_M_build_132 at hf
    have hPc := hP.sub (ws' := (mw_W h q g I A)) [0, 1, 2, 3, 4, 5, 6, 7, 8, 9, 10, 11, 12, 13, 14, 15, 16, 17, 18, 19, 20] rfl
    have hDc := hD.sub (ws' := (mw_W h q g I A)) [0, 1, 2, 3, 4, 5, 6, 7, 8, 9, 10, 11, 12, 13, 14, 15, 16, 17, 18, 19, 20] (by decide) rfl
    have hKc := hK.sub (tys' := (mw_T g)) [0, 1, 2, 3, 4, 5, 6, 7, 8, 9, 10, 11, 12, 13, 14, 15, 16, 17, 18, 19] rfl
    have hFc := va_free (wc := (mw_W h q g I A)) hD hS hA [0, 1, 2, 3, 4, 5, 6, 7, 8, 9, 10, 11, 12, 13, 14, 15, 16, 17, 18, 19, 20] rfl
    cases hg1 : f_M_times I A s2 s1 s0 with
    | none => rw [hg1] at hf; cases hf
    | some z1 =>
      obtain ⟨r1, I1, A1⟩ := z1
      rw [hg1] at hf
      dsimp only [Option.bind_some] at hf
      refine va_calli (va_runV (As := [.int s2, .int s1, .int s0]) (rest := [.int s4, .ref (q 31)]) ⟨hx, hb, hml, hown, hts⟩ (cm_M_times l dC dI h q g _ I A s2 s1 s0 r1 I1 A1 hg1) (cwV 3 hts (gd_v lk_121 lk_122 lk_123 lk_46 lk_120) rfl rfl rfl (by decide +kernel) ⟨Nat.le_of_ble_eq_true rfl, Nat.le_of_ble_eq_true rfl⟩) ⟨fun a U g mk q => by obtain ⟨q0, q1, qP, qK, qD⟩ := q; exact ⟨q0, q1, qP, va_K.moved (u := U) (U := U.calling g mk a) (Vm.Alike.refl U.vm) qK, qD⟩, va_recv (ci := 4) (q0 := 0) hK hP rfl rfl, fun U hU hW => ⟨rfl, by rw [hU], by rw [hU]; exact hPc, va_K.moved hW.alike hKc, hDc.weaken (fun _ _ _ _ => trivial)⟩⟩ rfl rfl hl.1 rfl (lv_room (Nat.le_of_ble_eq_true rfl)) d_M_build_132 ⟨Nat.le_of_ble_eq_true rfl, Nat.le_of_ble_eq_true rfl⟩) hS (fun q _ h => hFc q h) hFc (fun r9 u t H1 locs ht hvm hw hB hz1 hk1 hS => ?_)
      obtain ⟨hP1, hK1, hD1⟩ := hB
      rw [ht] at hP1
      rw [hw]
      obtain ⟨hP, hD⟩ := va_join (wr := []) (w1 := (mw_W h q g I1 A1)) hP hD [0, 1, 2, 3, 4, 5, 6, 7, 8, 9, 10, 11, 12, 13, 14, 15, 16, 17, 18, 19, 20] [] rfl rfl (by decide) (by decide) hk1 hFc hP1 hD1
      generalize H1 = H at hP hS ⊢
      have hP : va_P (dC, dI) vwCl (mw_W h q g I1 A1) H := hP
      have hD : va_D B9 (mw_W h q g I1 A1) := hD
      obtain ⟨hc1, hf⟩ := wk_if hf
      refine va_iast hx hb hK hP hD hS 17 16 rfl rfl (wk_inb_ok hc1) d_M_build_135 (fun H locs hP hD hS => ?_)
      obtain ⟨A2, hA2, hf⟩ := wk_letE hf
      have hP : va_P (dC, dI) vwCl (mw_W h q g I1 A2) H := by rw [hA2]; exact hP
      have hD : va_D B9 (mw_W h q g I1 A2) := by rw [hA2]; exact hD
      clear hA2
      refine lv_goto (tgt := 273) hx hb d_M_build_136 (by decide) ?_
      exact blk273 rc hrc150 I1 A2 X _ _ _ hf (lv_sub hl [0, 1, 2, 3, 4] rfl) hP hD hS
  have blk121 : ∀ (rc : Nat → MI → MA → (Nat → Int32) → Option (Int32 × MI × MA)) (hrc150 : ∀ (I : MI) (A : MA) (X : Nat → Int32) (ls : Array Slot) (H : Heap) (locs : List Loc), rc 150 I A X = some (r, I', A') → lv_has ls 6 [(0, .ref h), (1, .int (X 1)), (2, .int (X 2)), (3, .int (X 3)), (4, .int (X 4))] → va_P (dC, dI) vwCl (mw_W h q g I A) H → va_D B9 (mw_W h q g I A) → va_S B9 s.heap H locs → W p l e (headSpec w_M_build ({ frames := 3, cells := 0, slots := 0, locals := 69 })).room s m ([.ref h, .int k1] : List Value).toArray below meth c H locs 0 0 (MQ below (va_Qi (fun (r9 : Int32) (_ : Unit) => r9 = r) (fun (_ : Unit) t => va_P (dC, dI) vwCl (mw_W h q g I' A') t.heap ∧ va_K (dC, dI) vwCl (mw_T g) t ∧ va_D B9 (mw_W h q g I' A')) B9) ([.ref h, .int k1] : List Value).toArray s 0 0 B9) (F0 m 150 ls [])), ∀ (I : MI) (A : MA) (X : Nat → Int32) (s0 : Int32) (s1 : Int32) (s3 : Int32) (ls : Array Slot) (H : Heap) (locs : List Loc), f_M_build_121 rc I A X s0 s1 s3 = some (r, I', A') → lv_has ls 6 [(0, .ref h), (1, .int (X 1)), (2, .int (X 2)), (3, .int (X 3)), (4, .int (X 4))] → va_P (dC, dI) vwCl (mw_W h q g I A) H → va_D B9 (mw_W h q g I A) → va_S B9 s.heap H locs → W p l e (headSpec w_M_build ({ frames := 3, cells := 0, slots := 0, locals := 69 })).room s m ([.ref h, .int k1] : List Value).toArray below meth c H locs 0 0 (MQ below (va_Qi (fun (r9 : Int32) (_ : Unit) => r9 = r) (fun (_ : Unit) t => va_P (dC, dI) vwCl (mw_W h q g I' A') t.heap ∧ va_K (dC, dI) vwCl (mw_T g) t ∧ va_D B9 (mw_W h q g I' A')) B9) ([.ref h, .int k1] : List Value).toArray s 0 0 B9) (F0 m 121 ls [.int s0, .int s1, .ref h, .int s3, .ref (q 31)]) := by
    intro rc hrc150 I A X s0 s1 s3 ls H locs hf hl hP hD hS
    unfold f_M_build_121 at hf
    refine lv_iload_n hx hb d_M_build_121 rfl (lv_at hl 2 rfl) ?_
    refine lv_bipush (v := 63) hx hb d_M_build_122 (by decide) ?_
    refine lv_icmp_eq (tgt := 131) hx hb d_M_build_124 (by decide) (fun hc1 => ?_) (fun hc1 => ?_)
    ·
      have hf := wk_ift hc1 hf
      refine lv_iconst (v := 0) hx hb d_M_build_131 (by decide) ?_
      exact blk132 rc hrc150 I A X 0 s0 s1 s3 _ _ _ hf (lv_sub hl [0, 1, 2, 3, 4] rfl) hP hD hS
    ·
      have hf := wk_iff hc1 hf
      refine lv_iconst (v := 1) hx hb d_M_build_127 (by decide) ?_
      refine lv_goto (tgt := 132) hx hb d_M_build_128 (by decide) ?_
      exact blk132 rc hrc150 I A X 1 s0 s1 s3 _ _ _ hf (lv_sub hl [0, 1, 2, 3, 4] rfl) hP hD hS
  have stp150 : ∀ (rc : Nat → MI → MA → (Nat → Int32) → Option (Int32 × MI × MA)) (hrc150 : ∀ (I : MI) (A : MA) (X : Nat → Int32) (ls : Array Slot) (H : Heap) (locs : List Loc), rc 150 I A X = some (r, I', A') → lv_has ls 6 [(0, .ref h), (1, .int (X 1)), (2, .int (X 2)), (3, .int (X 3)), (4, .int (X 4))] → va_P (dC, dI) vwCl (mw_W h q g I A) H → va_D B9 (mw_W h q g I A) → va_S B9 s.heap H locs → W p l e (headSpec w_M_build ({ frames := 3, cells := 0, slots := 0, locals := 69 })).room s m ([.ref h, .int k1] : List Value).toArray below meth c H locs 0 0 (MQ below (va_Qi (fun (r9 : Int32) (_ : Unit) => r9 = r) (fun (_ : Unit) t => va_P (dC, dI) vwCl (mw_W h q g I' A') t.heap ∧ va_K (dC, dI) vwCl (mw_T g) t ∧ va_D B9 (mw_W h q g I' A')) B9) ([.ref h, .int k1] : List Value).toArray s 0 0 B9) (F0 m 150 ls [])), ∀ (I : MI) (A : MA) (X : Nat → Int32) (ls : Array Slot) (H : Heap) (locs : List Loc), f_M_build_150 rc I A X = some (r, I', A') → lv_has ls 6 [(0, .ref h), (1, .int (X 1)), (2, .int (X 2)), (3, .int (X 3)), (4, .int (X 4))] → va_P (dC, dI) vwCl (mw_W h q g I A) H → va_D B9 (mw_W h q g I A) → va_S B9 s.heap H locs → W p l e (headSpec w_M_build ({ frames := 3, cells := 0, slots := 0, locals := 69 })).room s m ([.ref h, .int k1] : List Value).toArray below meth c H locs 0 0 (MQ below (va_Qi (fun (r9 : Int32) (_ : Unit) => r9 = r) (fun (_ : Unit) t => va_P (dC, dI) vwCl (mw_W h q g I' A') t.heap ∧ va_K (dC, dI) vwCl (mw_T g) t ∧ va_D B9 (mw_W h q g I' A')) B9) ([.ref h, .int k1] : List Value).toArray s 0 0 B9) (F0 m 150 ls []) := by
    intro rc hrc150 I A X ls H locs hf hl hP hD hS
    unfold f_M_build_150 at hf
    refine lv_aload_n hx hb d_M_build_150 rfl (lv_at hl 0 rfl) ?_
    refine va_get (D := (dC, dI)) (ci := 4) (v := .ref (q 16)) (C := R_M) (T := F_M) (N := 38) hx hb hts (fun w h => List.mem_cons_of_mem _ (in_M w h)) hown hK hP 0 rfl rfl 16 (by decide) (hts _ (List.mem_cons_of_mem _ lk_77)) (fun _ h9 => h9) rfl d_M_build_151 ?_
    refine lv_iload hx hb d_M_build_154 (lv_at hl 4 rfl) ?_
    obtain ⟨hc1, hf⟩ := wk_if hf
    refine va_cald hx hb hK hP 7 6 rfl rfl (wk_inb_ok hc1) d_M_build_156 ?_
    refine lv_bipush (v := 93) hx hb d_M_build_157 (by decide) ?_
    refine lv_icmp_eq (tgt := 168) hx hb d_M_build_159 (by decide) (fun hc2 => ?_) (fun hc2 => ?_)
    ·
      have hf := wk_ift hc2 hf
      refine lv_aload_n hx hb d_M_build_168 rfl (lv_at hl 0 rfl) ?_
      refine lv_iconst (v := 3) hx hb d_M_build_169 (by decide) ?_
      refine lv_iload_n hx hb d_M_build_170 rfl (lv_at hl 1 rfl) ?_
      refine lv_iconst (v := 1) hx hb d_M_build_171 (by decide) ?_
      refine lv_iadd hx hb d_M_build_172 ?_
      refine lv_iload hx hb d_M_build_173 (lv_at hl 4 rfl) ?_
      have hPc := hP.sub (ws' := (mw_W h q g I A)) [0, 1, 2, 3, 4, 5, 6, 7, 8, 9, 10, 11, 12, 13, 14, 15, 16, 17, 18, 19, 20] rfl
      have hDc := hD.sub (ws' := (mw_W h q g I A)) [0, 1, 2, 3, 4, 5, 6, 7, 8, 9, 10, 11, 12, 13, 14, 15, 16, 17, 18, 19, 20] (by decide) rfl
      have hKc := hK.sub (tys' := (mw_T g)) [0, 1, 2, 3, 4, 5, 6, 7, 8, 9, 10, 11, 12, 13, 14, 15, 16, 17, 18, 19] rfl
      have hFc := va_free (wc := (mw_W h q g I A)) hD hS hA [0, 1, 2, 3, 4, 5, 6, 7, 8, 9, 10, 11, 12, 13, 14, 15, 16, 17, 18, 19, 20] rfl
      cases hg1 : f_M_single I A 3 ((X 1) + 1) (X 4) with
      | none => rw [hg1] at hf; cases hf
      | some z1 =>
        obtain ⟨r1, I1, A1⟩ := z1
        rw [hg1] at hf
        dsimp only [Option.bind_some] at hf
        refine va_calli (va_runV (As := [.int 3, .int ((X 1) + 1), .int (X 4)]) (rest := []) ⟨hx, hb, hml, hown, hts⟩ (cm_M_single l dC dI h q g _ I A 3 ((X 1) + 1) (X 4) r1 I1 A1 hg1) (cwV 3 hts (gd_v lk_91 lk_92 lk_93 lk_46 lk_90) rfl rfl rfl (by decide +kernel) ⟨Nat.le_of_ble_eq_true rfl, Nat.le_of_ble_eq_true rfl⟩) ⟨fun a U g mk q => by obtain ⟨q0, q1, qP, qK, qD⟩ := q; exact ⟨q0, q1, qP, va_K.moved (u := U) (U := U.calling g mk a) (Vm.Alike.refl U.vm) qK, qD⟩, va_recv (ci := 4) (q0 := 0) hK hP rfl rfl, fun U hU hW => ⟨rfl, by rw [hU], by rw [hU]; exact hPc, va_K.moved hW.alike hKc, hDc.weaken (fun _ _ _ _ => trivial)⟩⟩ rfl rfl hl.1 rfl (lv_room (Nat.le_of_ble_eq_true rfl)) d_M_build_175 ⟨Nat.le_of_ble_eq_true rfl, Nat.le_of_ble_eq_true rfl⟩) hS (fun q _ h => hFc q h) hFc (fun r9 u t H1 locs ht hvm hw hB hz1 hk1 hS => ?_)
        obtain ⟨hP1, hK1, hD1⟩ := hB
        rw [ht] at hP1
        rw [hw]
        obtain ⟨hP, hD⟩ := va_join (wr := []) (w1 := (mw_W h q g I1 A1)) hP hD [0, 1, 2, 3, 4, 5, 6, 7, 8, 9, 10, 11, 12, 13, 14, 15, 16, 17, 18, 19, 20] [] rfl rfl (by decide) (by decide) hk1 hFc hP1 hD1
        generalize H1 = H at hP hS ⊢
        have hP : va_P (dC, dI) vwCl (mw_W h q g I1 A1) H := hP
        have hD : va_D B9 (mw_W h q g I1 A1) := hD
        refine lv_istore (lv' := [(5, .int r1), (0, .ref h), (1, .int (X 1)), (2, .int (X 2)), (3, .int (X 3)), (4, .int (X 4))]) hx hb d_M_build_178 hl (by decide) rfl (fun ls hl => ?_)
        have hl : lv_has ls 6 [(5, .int r1), (0, .ref h), (1, .int (X 1)), (2, .int (X 2)), (3, .int (X 3)), (4, .int (X 4))] := hl
        refine lv_aload_n hx hb d_M_build_180 rfl (lv_at hl 1 rfl) ?_
        refine lv_iload hx hb d_M_build_181 (lv_at hl 0 rfl) ?_
        have hPc := hP.sub (ws' := (mw_W h q g I1 A1)) [0, 1, 2, 3, 4, 5, 6, 7, 8, 9, 10, 11, 12, 13, 14, 15, 16, 17, 18, 19, 20] rfl
        have hDc := hD.sub (ws' := (mw_W h q g I1 A1)) [0, 1, 2, 3, 4, 5, 6, 7, 8, 9, 10, 11, 12, 13, 14, 15, 16, 17, 18, 19, 20] (by decide) rfl
        have hKc := hK.sub (tys' := (mw_T g)) [0, 1, 2, 3, 4, 5, 6, 7, 8, 9, 10, 11, 12, 13, 14, 15, 16, 17, 18, 19] rfl
        have hFc := va_free (wc := (mw_W h q g I1 A1)) hD hS hA [0, 1, 2, 3, 4, 5, 6, 7, 8, 9, 10, 11, 12, 13, 14, 15, 16, 17, 18, 19, 20] rfl
        cases hg2 : f_M_newPart I1 A1 r1 with
        | none => rw [hg2] at hf; cases hf
        | some z2 =>
          obtain ⟨r2, I2, A2⟩ := z2
          rw [hg2] at hf
          dsimp only [Option.bind_some] at hf
          refine va_callv (va_runV (As := [.int r1]) (rest := []) ⟨hx, hb, hml, hown, hts⟩ (cm_M_newPart l dC dI h q g _ I1 A1 r1 r2 I2 A2 hg2) (cwV 1 hts (gd_v lk_100 lk_101 lk_102 lk_46 lk_99) rfl rfl rfl (by decide +kernel) ⟨Nat.le_of_ble_eq_true rfl, Nat.le_of_ble_eq_true rfl⟩) ⟨fun a U g mk q => by obtain ⟨q0, q1, qP, qK, qD⟩ := q; exact ⟨q0, q1, qP, va_K.moved (u := U) (U := U.calling g mk a) (Vm.Alike.refl U.vm) qK, qD⟩, va_recv (ci := 4) (q0 := 0) hK hP rfl rfl, fun U hU hW => ⟨rfl, by rw [hU], by rw [hU]; exact hPc, va_K.moved hW.alike hKc, hDc.weaken (fun _ _ _ _ => trivial)⟩⟩ rfl rfl hl.1 rfl (lv_room (Nat.le_of_ble_eq_true rfl)) d_M_build_183 ⟨Nat.le_of_ble_eq_true rfl, Nat.le_of_ble_eq_true rfl⟩) hS (fun q _ h => hFc q h) hFc (fun u t H1 locs ht hvm hw hB hz1 hk1 hS => ?_)
          obtain ⟨hP1, hK1, hD1⟩ := hB
          rw [ht] at hP1
          obtain ⟨hP, hD⟩ := va_join (wr := []) (w1 := (mw_W h q g I2 A2)) hP hD [0, 1, 2, 3, 4, 5, 6, 7, 8, 9, 10, 11, 12, 13, 14, 15, 16, 17, 18, 19, 20] [] rfl rfl (by decide) (by decide) hk1 hFc hP1 hD1
          generalize H1 = H at hP hS ⊢
          have hP : va_P (dC, dI) vwCl (mw_W h q g I2 A2) H := hP
          have hD : va_D B9 (mw_W h q g I2 A2) := hD
          refine lv_iinc (k := 5) (v := ((X 4) + 1)) (lv' := [(4, .int ((X 4) + 1)), (5, .int r1), (0, .ref h), (1, .int (X 1)), (2, .int (X 2)), (3, .int (X 3))]) hx hb d_M_build_186 hl rfl (wk_inc (by decide)) (by decide) rfl (fun ls hl => ?_)
          have hl : lv_has ls 6 [(4, .int ((X 4) + 1)), (5, .int r1), (0, .ref h), (1, .int (X 1)), (2, .int (X 2)), (3, .int (X 3))] := hl
          refine lv_goto (tgt := 273) hx hb d_M_build_189 (by decide) ?_
          exact blk273 rc hrc150 I2 A2 (upd X 4 ((X 4) + 1)) _ _ _ hf (lv_sub hl [2, 3, 4, 5, 0] rfl) hP hD hS
    ·
      have hf := wk_iff hc2 hf
      refine lv_iinc (k := 4) (v := ((X 4) + 1)) (lv' := [(4, .int ((X 4) + 1)), (0, .ref h), (1, .int (X 1)), (2, .int (X 2)), (3, .int (X 3))]) hx hb d_M_build_162 hl rfl (wk_inc (by decide)) (by decide) rfl (fun ls hl => ?_)
      have hl : lv_has ls 6 [(4, .int ((X 4) + 1)), (0, .ref h), (1, .int (X 1)), (2, .int (X 2)), (3, .int (X 3))] := hl
      refine lv_goto (tgt := 150) hx hb d_M_build_165 (by decide) ?_
      exact hrc150 I A (upd X 4 ((X 4) + 1)) _ _ _ hf (lv_sub hl [1, 2, 3, 4, 0] rfl) hP hD hS
  have blk260 : ∀ (rc : Nat → MI → MA → (Nat → Int32) → Option (Int32 × MI × MA)) (hrc150 : ∀ (I : MI) (A : MA) (X : Nat → Int32) (ls : Array Slot) (H : Heap) (locs : List Loc), rc 150 I A X = some (r, I', A') → lv_has ls 6 [(0, .ref h), (1, .int (X 1)), (2, .int (X 2)), (3, .int (X 3)), (4, .int (X 4))] → va_P (dC, dI) vwCl (mw_W h q g I A) H → va_D B9 (mw_W h q g I A) → va_S B9 s.heap H locs → W p l e (headSpec w_M_build ({ frames := 3, cells := 0, slots := 0, locals := 69 })).room s m ([.ref h, .int k1] : List Value).toArray below meth c H locs 0 0 (MQ below (va_Qi (fun (r9 : Int32) (_ : Unit) => r9 = r) (fun (_ : Unit) t => va_P (dC, dI) vwCl (mw_W h q g I' A') t.heap ∧ va_K (dC, dI) vwCl (mw_T g) t ∧ va_D B9 (mw_W h q g I' A')) B9) ([.ref h, .int k1] : List Value).toArray s 0 0 B9) (F0 m 150 ls [])), ∀ (I : MI) (A : MA) (X : Nat → Int32) (s0 : Int32) (ls : Array Slot) (H : Heap) (locs : List Loc), f_M_build_260 rc I A X s0 = some (r, I', A') → lv_has ls 6 [(0, .ref h), (1, .int (X 1)), (2, .int (X 2)), (3, .int (X 3)), (4, .int (X 4))] → va_P (dC, dI) vwCl (mw_W h q g I A) H → va_D B9 (mw_W h q g I A) → va_S B9 s.heap H locs → W p l e (headSpec w_M_build ({ frames := 3, cells := 0, slots := 0, locals := 69 })).room s m ([.ref h, .int k1] : List Value).toArray below meth c H locs 0 0 (MQ below (va_Qi (fun (r9 : Int32) (_ : Unit) => r9 = r) (fun (_ : Unit) t => va_P (dC, dI) vwCl (mw_W h q g I' A') t.heap ∧ va_K (dC, dI) vwCl (mw_T g) t ∧ va_D B9 (mw_W h q g I' A')) B9) ([.ref h, .int k1] : List Value).toArray s 0 0 B9) (F0 m 260 ls [.int s0, .ref h]) := by
    intro rc hrc150 I A X s0 ls H locs hf hl hP hD hS
    unfold f_M_build_260 at hf
    refine lv_iload_n hx hb d_M_build_260 rfl (lv_at hl 2 rfl) ?_
    refine lv_iconst (v := 0) hx hb d_M_build_261 (by decide) ?_
    have hPc := hP.sub (ws' := (mw_W h q g I A)) [0, 1, 2, 3, 4, 5, 6, 7, 8, 9, 10, 11, 12, 13, 14, 15, 16, 17, 18, 19, 20] rfl
    have hDc := hD.sub (ws' := (mw_W h q g I A)) [0, 1, 2, 3, 4, 5, 6, 7, 8, 9, 10, 11, 12, 13, 14, 15, 16, 17, 18, 19, 20] (by decide) rfl
    have hKc := hK.sub (tys' := (mw_T g)) [0, 1, 2, 3, 4, 5, 6, 7, 8, 9, 10, 11, 12, 13, 14, 15, 16, 17, 18, 19] rfl
    have hFc := va_free (wc := (mw_W h q g I A)) hD hS hA [0, 1, 2, 3, 4, 5, 6, 7, 8, 9, 10, 11, 12, 13, 14, 15, 16, 17, 18, 19, 20] rfl
    cases hg1 : f_M_single I A s0 (X 2) 0 with
    | none => rw [hg1] at hf; cases hf
    | some z1 =>
      obtain ⟨r1, I1, A1⟩ := z1
      rw [hg1] at hf
      dsimp only [Option.bind_some] at hf
      refine va_calli (va_runV (As := [.int s0, .int (X 2), .int 0]) (rest := []) ⟨hx, hb, hml, hown, hts⟩ (cm_M_single l dC dI h q g _ I A s0 (X 2) 0 r1 I1 A1 hg1) (cwV 3 hts (gd_v lk_91 lk_92 lk_93 lk_46 lk_90) rfl rfl rfl (by decide +kernel) ⟨Nat.le_of_ble_eq_true rfl, Nat.le_of_ble_eq_true rfl⟩) ⟨fun a U g mk q => by obtain ⟨q0, q1, qP, qK, qD⟩ := q; exact ⟨q0, q1, qP, va_K.moved (u := U) (U := U.calling g mk a) (Vm.Alike.refl U.vm) qK, qD⟩, va_recv (ci := 4) (q0 := 0) hK hP rfl rfl, fun U hU hW => ⟨rfl, by rw [hU], by rw [hU]; exact hPc, va_K.moved hW.alike hKc, hDc.weaken (fun _ _ _ _ => trivial)⟩⟩ rfl rfl hl.1 rfl (lv_room (Nat.le_of_ble_eq_true rfl)) d_M_build_262 ⟨Nat.le_of_ble_eq_true rfl, Nat.le_of_ble_eq_true rfl⟩) hS (fun q _ h => hFc q h) hFc (fun r9 u t H1 locs ht hvm hw hB hz1 hk1 hS => ?_)
      obtain ⟨hP1, hK1, hD1⟩ := hB
      rw [ht] at hP1
      rw [hw]
      obtain ⟨hP, hD⟩ := va_join (wr := []) (w1 := (mw_W h q g I1 A1)) hP hD [0, 1, 2, 3, 4, 5, 6, 7, 8, 9, 10, 11, 12, 13, 14, 15, 16, 17, 18, 19, 20] [] rfl rfl (by decide) (by decide) hk1 hFc hP1 hD1
      generalize H1 = H at hP hS ⊢
      have hP : va_P (dC, dI) vwCl (mw_W h q g I1 A1) H := hP
      have hD : va_D B9 (mw_W h q g I1 A1) := hD
      refine lv_istore (lv' := [(5, .int r1), (0, .ref h), (1, .int (X 1)), (2, .int (X 2)), (3, .int (X 3)), (4, .int (X 4))]) hx hb d_M_build_265 hl (by decide) rfl (fun ls hl => ?_)
      have hl : lv_has ls 6 [(5, .int r1), (0, .ref h), (1, .int (X 1)), (2, .int (X 2)), (3, .int (X 3)), (4, .int (X 4))] := hl
      refine lv_aload_n hx hb d_M_build_267 rfl (lv_at hl 1 rfl) ?_
      refine lv_iload hx hb d_M_build_268 (lv_at hl 0 rfl) ?_
      have hPc := hP.sub (ws' := (mw_W h q g I1 A1)) [0, 1, 2, 3, 4, 5, 6, 7, 8, 9, 10, 11, 12, 13, 14, 15, 16, 17, 18, 19, 20] rfl
      have hDc := hD.sub (ws' := (mw_W h q g I1 A1)) [0, 1, 2, 3, 4, 5, 6, 7, 8, 9, 10, 11, 12, 13, 14, 15, 16, 17, 18, 19, 20] (by decide) rfl
      have hKc := hK.sub (tys' := (mw_T g)) [0, 1, 2, 3, 4, 5, 6, 7, 8, 9, 10, 11, 12, 13, 14, 15, 16, 17, 18, 19] rfl
      have hFc := va_free (wc := (mw_W h q g I1 A1)) hD hS hA [0, 1, 2, 3, 4, 5, 6, 7, 8, 9, 10, 11, 12, 13, 14, 15, 16, 17, 18, 19, 20] rfl
      cases hg2 : f_M_newPart I1 A1 r1 with
      | none => rw [hg2] at hf; cases hf
      | some z2 =>
        obtain ⟨r2, I2, A2⟩ := z2
        rw [hg2] at hf
        dsimp only [Option.bind_some] at hf
        refine va_callv (va_runV (As := [.int r1]) (rest := []) ⟨hx, hb, hml, hown, hts⟩ (cm_M_newPart l dC dI h q g _ I1 A1 r1 r2 I2 A2 hg2) (cwV 1 hts (gd_v lk_100 lk_101 lk_102 lk_46 lk_99) rfl rfl rfl (by decide +kernel) ⟨Nat.le_of_ble_eq_true rfl, Nat.le_of_ble_eq_true rfl⟩) ⟨fun a U g mk q => by obtain ⟨q0, q1, qP, qK, qD⟩ := q; exact ⟨q0, q1, qP, va_K.moved (u := U) (U := U.calling g mk a) (Vm.Alike.refl U.vm) qK, qD⟩, va_recv (ci := 4) (q0 := 0) hK hP rfl rfl, fun U hU hW => ⟨rfl, by rw [hU], by rw [hU]; exact hPc, va_K.moved hW.alike hKc, hDc.weaken (fun _ _ _ _ => trivial)⟩⟩ rfl rfl hl.1 rfl (lv_room (Nat.le_of_ble_eq_true rfl)) d_M_build_270 ⟨Nat.le_of_ble_eq_true rfl, Nat.le_of_ble_eq_true rfl⟩) hS (fun q _ h => hFc q h) hFc (fun u t H1 locs ht hvm hw hB hz1 hk1 hS => ?_)
        obtain ⟨hP1, hK1, hD1⟩ := hB
        rw [ht] at hP1
        obtain ⟨hP, hD⟩ := va_join (wr := []) (w1 := (mw_W h q g I2 A2)) hP hD [0, 1, 2, 3, 4, 5, 6, 7, 8, 9, 10, 11, 12, 13, 14, 15, 16, 17, 18, 19, 20] [] rfl rfl (by decide) (by decide) hk1 hFc hP1 hD1
        generalize H1 = H at hP hS ⊢
        have hP : va_P (dC, dI) vwCl (mw_W h q g I2 A2) H := hP
        have hD : va_D B9 (mw_W h q g I2 A2) := hD
        exact blk273 rc hrc150 I2 A2 X _ _ _ hf (lv_sub hl [1, 2, 3, 4, 5] rfl) hP hD hS
  have key : ∀ n : Nat, (∀ (I : MI) (A : MA) (X : Nat → Int32) (ls : Array Slot) (H : Heap) (locs : List Loc), f_M_build_go n 150 I A X = some (r, I', A') → lv_has ls 6 [(0, .ref h), (1, .int (X 1)), (2, .int (X 2)), (3, .int (X 3)), (4, .int (X 4))] → va_P (dC, dI) vwCl (mw_W h q g I A) H → va_D B9 (mw_W h q g I A) → va_S B9 s.heap H locs → W p l e (headSpec w_M_build ({ frames := 3, cells := 0, slots := 0, locals := 69 })).room s m ([.ref h, .int k1] : List Value).toArray below meth c H locs 0 0 (MQ below (va_Qi (fun (r9 : Int32) (_ : Unit) => r9 = r) (fun (_ : Unit) t => va_P (dC, dI) vwCl (mw_W h q g I' A') t.heap ∧ va_K (dC, dI) vwCl (mw_T g) t ∧ va_D B9 (mw_W h q g I' A')) B9) ([.ref h, .int k1] : List Value).toArray s 0 0 B9) (F0 m 150 ls [])) := by
    intro n
    induction n with
    | zero => exact fun I A X ls H locs hf => (by cases hf)
    | succ n ih =>
      have ih150 := ih
      exact stp150 (f_M_build_go n) ih150
  unfold f_M_build f_M_build_e at hf
  have hrc150 := key wk_FUEL
  refine lv_aload_n hx hb d_M_build_0 rfl (lv_at hl 0 rfl) ?_
  refine va_get (D := (dC, dI)) (ci := 4) (v := .ref (q 16)) (C := R_M) (T := F_M) (N := 38) hx hb hts (fun w h => List.mem_cons_of_mem _ (in_M w h)) hown hK hP 0 rfl rfl 16 (by decide) (hts _ (List.mem_cons_of_mem _ lk_77)) (fun _ h9 => h9) rfl d_M_build_1 ?_
  refine lv_iload_n hx hb d_M_build_4 rfl (lv_at hl 1 rfl) ?_
  obtain ⟨hc1, hf⟩ := wk_if hf
  refine va_cald hx hb hK hP 7 6 rfl rfl (wk_inb_ok hc1) d_M_build_5 ?_
  refine lv_istore_n (lv' := [(2, .int ((A 16) (k1).toNatClampNeg)), (0, .ref h), (1, .int k1)]) hx hb d_M_build_6 rfl hl (by decide) rfl (fun ls hl => ?_)
  have hl : lv_has ls 6 [(2, .int ((A 16) (k1).toNatClampNeg)), (0, .ref h), (1, .int k1)] := hl
  refine lv_aload_n hx hb d_M_build_7 rfl (lv_at hl 1 rfl) ?_
  refine va_get (D := (dC, dI)) (ci := 4) (v := .int (I 28)) (C := R_M) (T := F_M) (N := 38) hx hb hts (fun w h => List.mem_cons_of_mem _ (in_M w h)) hown hK hP 0 rfl rfl 28 (by decide) (hts _ (List.mem_cons_of_mem _ lk_78)) (fun _ h9 => h9) rfl d_M_build_8 ?_
  refine lv_iconst (v := 1) hx hb d_M_build_11 (by decide) ?_
  refine lv_isub hx hb d_M_build_12 ?_
  refine lv_istore_n (lv' := [(3, .int ((I 28) - 1)), (2, .int ((A 16) (k1).toNatClampNeg)), (0, .ref h), (1, .int k1)]) hx hb d_M_build_13 rfl hl (by decide) rfl (fun ls hl => ?_)
  have hl : lv_has ls 6 [(3, .int ((I 28) - 1)), (2, .int ((A 16) (k1).toNatClampNeg)), (0, .ref h), (1, .int k1)] := hl
  refine lv_iload_n hx hb d_M_build_14 rfl (lv_at hl 3 rfl) ?_
  refine lv_iconst (v := 1) hx hb d_M_build_15 (by decide) ?_
  refine lv_iadd hx hb d_M_build_16 ?_
  refine lv_istore (lv' := [(4, .int (k1 + 1)), (3, .int ((I 28) - 1)), (2, .int ((A 16) (k1).toNatClampNeg)), (0, .ref h), (1, .int k1)]) hx hb d_M_build_17 hl (by decide) rfl (fun ls hl => ?_)
  have hl : lv_has ls 6 [(4, .int (k1 + 1)), (3, .int ((I 28) - 1)), (2, .int ((A 16) (k1).toNatClampNeg)), (0, .ref h), (1, .int k1)] := hl
  refine lv_iload_n hx hb d_M_build_19 rfl (lv_at hl 2 rfl) ?_
  refine lv_bipush (v := 40) hx hb d_M_build_20 (by decide) ?_
  refine lv_icmp_ne (tgt := 32) hx hb d_M_build_22 (by decide) (fun hc2 => ?_) (fun hc2 => ?_)
  ·
    have hf := wk_iff hc2 hf
    refine lv_iload_n hx hb d_M_build_32 rfl (lv_at hl 2 rfl) ?_
    refine lv_bipush (v := 41) hx hb d_M_build_33 (by decide) ?_
    refine lv_icmp_ne (tgt := 68) hx hb d_M_build_35 (by decide) (fun hc3 => ?_) (fun hc3 => ?_)
    ·
      have hf := wk_iff hc3 hf
      refine lv_iload_n hx hb d_M_build_68 rfl (lv_at hl 2 rfl) ?_
      refine lv_bipush (v := 124) hx hb d_M_build_69 (by decide) ?_
      refine lv_icmp_ne (tgt := 91) hx hb d_M_build_71 (by decide) (fun hc4 => ?_) (fun hc4 => ?_)
      ·
        have hf := wk_iff hc4 hf
        refine lv_iload_n hx hb d_M_build_91 rfl (lv_at hl 2 rfl) ?_
        have hPc := hP.sub (ws' := []) [] rfl
        have hDc := hD.sub (ws' := []) [] (by decide) rfl
        have hKc := hK.sub (tys' := []) [] rfl
        have hFc := va_free (wc := []) hD hS hA [] rfl
        cases hg1 : f_M_isTimes  ((A 16) (k1).toNatClampNeg) with
        | none => rw [hg1] at hf; cases hf
        | some z1 =>
          rw [hg1] at hf
          dsimp only [Option.bind_some] at hf
          refine va_calli (va_runS (As := [.int ((A 16) (k1).toNatClampNeg)]) (rest := []) ⟨hx, hb, hml, hown, hts⟩ (cm_M_isTimes l dC dI  _  ((A 16) (k1).toNatClampNeg) z1 hg1) (cwS 1 hts (gd_s lk_80 lk_81 lk_46 lk_79) rfl rfl rfl (by decide +kernel) ⟨Nat.le_of_ble_eq_true rfl, Nat.le_of_ble_eq_true rfl⟩) ⟨fun a U g mk q => by obtain ⟨q0, q1, qP, qK, qD⟩ := q; exact ⟨q0, q1, qP, va_K.moved (u := U) (U := U.calling g mk a) (Vm.Alike.refl U.vm) qK, qD⟩, fun U hU hW => ⟨rfl, by rw [hU], by rw [hU]; exact hPc, va_K.moved hW.alike hKc, hDc.weaken (fun _ _ _ _ => trivial)⟩⟩ rfl rfl hl.1 rfl (lv_room (Nat.le_of_ble_eq_true rfl)) d_M_build_92 ⟨Nat.le_of_ble_eq_true rfl, Nat.le_of_ble_eq_true rfl⟩) hS (fun q _ h => hFc q h) hFc (fun r9 u t H1 locs ht hvm hw hB hz1 hk1 hS => ?_)
          obtain ⟨hP1, hK1, hD1⟩ := hB
          rw [ht] at hP1
          rw [hw]
          obtain ⟨hP, hD⟩ := va_join (wr := (mw_W h q g I A)) (w1 := []) hP hD [] [0, 1, 2, 3, 4, 5, 6, 7, 8, 9, 10, 11, 12, 13, 14, 15, 16, 17, 18, 19, 20] rfl rfl (by decide) (by decide) hk1 hFc hP1 hD1
          generalize H1 = H at hP hS ⊢
          have hP : va_P (dC, dI) vwCl (mw_W h q g I A) H := hP
          have hD : va_D B9 (mw_W h q g I A) := hD
          refine lv_if_eq (tgt := 139) hx hb d_M_build_95 (by decide) (fun hc5 => ?_) (fun hc5 => ?_)
          ·
            have hf := wk_ift hc5 hf
            refine lv_iload_n hx hb d_M_build_139 rfl (lv_at hl 2 rfl) ?_
            refine lv_bipush (v := 91) hx hb d_M_build_140 (by decide) ?_
            refine lv_icmp_ne (tgt := 192) hx hb d_M_build_142 (by decide) (fun hc6 => ?_) (fun hc6 => ?_)
            ·
              have hf := wk_iff hc6 hf
              refine lv_iload_n hx hb d_M_build_192 rfl (lv_at hl 2 rfl) ?_
              refine lv_bipush (v := 92) hx hb d_M_build_193 (by decide) ?_
              refine lv_icmp_ne (tgt := 228) hx hb d_M_build_195 (by decide) (fun hc7 => ?_) (fun hc7 => ?_)
              ·
                have hf := wk_iff hc7 hf
                refine lv_aload_n hx hb d_M_build_228 rfl (lv_at hl 3 rfl) ?_
                refine lv_iload_n hx hb d_M_build_229 rfl (lv_at hl 2 rfl) ?_
                refine lv_bipush (v := 46) hx hb d_M_build_230 (by decide) ?_
                refine lv_icmp_ne (tgt := 239) hx hb d_M_build_232 (by decide) (fun hc8 => ?_) (fun hc8 => ?_)
                ·
                  have hf := wk_iff hc8 hf
                  refine lv_iload_n hx hb d_M_build_239 rfl (lv_at hl 2 rfl) ?_
                  refine lv_bipush (v := 94) hx hb d_M_build_240 (by decide) ?_
                  refine lv_icmp_ne (tgt := 249) hx hb d_M_build_242 (by decide) (fun hc9 => ?_) (fun hc9 => ?_)
                  ·
                    have hf := wk_iff hc9 hf
                    refine lv_iload_n hx hb d_M_build_249 rfl (lv_at hl 2 rfl) ?_
                    refine lv_bipush (v := 36) hx hb d_M_build_250 (by decide) ?_
                    refine lv_icmp_ne (tgt := 259) hx hb d_M_build_252 (by decide) (fun hc10 => ?_) (fun hc10 => ?_)
                    ·
                      have hf := wk_iff hc10 hf
                      refine lv_iconst (v := 1) hx hb d_M_build_259 (by decide) ?_
                      exact blk260 _ hrc150 I A (upd (upd (upd (upd (fun _ => 0) 1 k1) 2 ((A 16) (k1).toNatClampNeg)) 3 ((I 28) - 1)) 4 (k1 + 1)) 1 _ _ _ hf (lv_sub hl [3, 4, 2, 1, 0] rfl) hP hD hS
                    ·
                      have hf := wk_ift hc10 hf
                      refine lv_iconst (v := 5) hx hb d_M_build_255 (by decide) ?_
                      refine lv_goto (tgt := 260) hx hb d_M_build_256 (by decide) ?_
                      exact blk260 _ hrc150 I A (upd (upd (upd (upd (fun _ => 0) 1 k1) 2 ((A 16) (k1).toNatClampNeg)) 3 ((I 28) - 1)) 4 (k1 + 1)) 5 _ _ _ hf (lv_sub hl [3, 4, 2, 1, 0] rfl) hP hD hS
                  ·
                    have hf := wk_ift hc9 hf
                    refine lv_iconst (v := 4) hx hb d_M_build_245 (by decide) ?_
                    refine lv_goto (tgt := 260) hx hb d_M_build_246 (by decide) ?_
                    exact blk260 _ hrc150 I A (upd (upd (upd (upd (fun _ => 0) 1 k1) 2 ((A 16) (k1).toNatClampNeg)) 3 ((I 28) - 1)) 4 (k1 + 1)) 4 _ _ _ hf (lv_sub hl [3, 4, 2, 1, 0] rfl) hP hD hS
                ·
                  have hf := wk_ift hc8 hf
                  refine lv_iconst (v := 2) hx hb d_M_build_235 (by decide) ?_
                  refine lv_goto (tgt := 260) hx hb d_M_build_236 (by decide) ?_
                  exact blk260 _ hrc150 I A (upd (upd (upd (upd (fun _ => 0) 1 k1) 2 ((A 16) (k1).toNatClampNeg)) 3 ((I 28) - 1)) 4 (k1 + 1)) 2 _ _ _ hf (lv_sub hl [3, 4, 2, 1, 0] rfl) hP hD hS
              ·
                have hf := wk_ift hc7 hf
                refine lv_aload_n hx hb d_M_build_198 rfl (lv_at hl 3 rfl) ?_
                refine lv_iconst (v := 1) hx hb d_M_build_199 (by decide) ?_
                refine lv_aload_n hx hb d_M_build_200 rfl (lv_at hl 3 rfl) ?_
                refine va_get (D := (dC, dI)) (ci := 4) (v := .ref (q 16)) (C := R_M) (T := F_M) (N := 38) hx hb hts (fun w h => List.mem_cons_of_mem _ (in_M w h)) hown hK hP 0 rfl rfl 16 (by decide) (hts _ (List.mem_cons_of_mem _ lk_77)) (fun _ h9 => h9) rfl d_M_build_201 ?_
                refine lv_iload_n hx hb d_M_build_204 rfl (lv_at hl 4 rfl) ?_
                refine lv_iconst (v := 1) hx hb d_M_build_205 (by decide) ?_
                refine lv_iadd hx hb d_M_build_206 ?_
                obtain ⟨hc8, hf⟩ := wk_if hf
                refine va_cald hx hb hK hP 7 6 rfl rfl (wk_inb_ok hc8) d_M_build_207 ?_
                refine lv_iconst (v := 0) hx hb d_M_build_208 (by decide) ?_
                have hPc := hP.sub (ws' := (mw_W h q g I A)) [0, 1, 2, 3, 4, 5, 6, 7, 8, 9, 10, 11, 12, 13, 14, 15, 16, 17, 18, 19, 20] rfl
                have hDc := hD.sub (ws' := (mw_W h q g I A)) [0, 1, 2, 3, 4, 5, 6, 7, 8, 9, 10, 11, 12, 13, 14, 15, 16, 17, 18, 19, 20] (by decide) rfl
                have hKc := hK.sub (tys' := (mw_T g)) [0, 1, 2, 3, 4, 5, 6, 7, 8, 9, 10, 11, 12, 13, 14, 15, 16, 17, 18, 19] rfl
                have hFc := va_free (wc := (mw_W h q g I A)) hD hS hA [0, 1, 2, 3, 4, 5, 6, 7, 8, 9, 10, 11, 12, 13, 14, 15, 16, 17, 18, 19, 20] rfl
                cases hg2 : f_M_single I A 1 ((A 16) ((k1 + 1)).toNatClampNeg) 0 with
                | none => rw [hg2] at hf; cases hf
                | some z2 =>
                  obtain ⟨r2, I2, A2⟩ := z2
                  rw [hg2] at hf
                  dsimp only [Option.bind_some] at hf
                  refine va_calli (va_runV (As := [.int 1, .int ((A 16) ((k1 + 1)).toNatClampNeg), .int 0]) (rest := []) ⟨hx, hb, hml, hown, hts⟩ (cm_M_single l dC dI h q g _ I A 1 ((A 16) ((k1 + 1)).toNatClampNeg) 0 r2 I2 A2 hg2) (cwV 3 hts (gd_v lk_91 lk_92 lk_93 lk_46 lk_90) rfl rfl rfl (by decide +kernel) ⟨Nat.le_of_ble_eq_true rfl, Nat.le_of_ble_eq_true rfl⟩) ⟨fun a U g mk q => by obtain ⟨q0, q1, qP, qK, qD⟩ := q; exact ⟨q0, q1, qP, va_K.moved (u := U) (U := U.calling g mk a) (Vm.Alike.refl U.vm) qK, qD⟩, va_recv (ci := 4) (q0 := 0) hK hP rfl rfl, fun U hU hW => ⟨rfl, by rw [hU], by rw [hU]; exact hPc, va_K.moved hW.alike hKc, hDc.weaken (fun _ _ _ _ => trivial)⟩⟩ rfl rfl hl.1 rfl (lv_room (Nat.le_of_ble_eq_true rfl)) d_M_build_209 ⟨Nat.le_of_ble_eq_true rfl, Nat.le_of_ble_eq_true rfl⟩) hS (fun q _ h => hFc q h) hFc (fun r9 u t H1 locs ht hvm hw hB hz1 hk1 hS => ?_)
                  obtain ⟨hP1, hK1, hD1⟩ := hB
                  rw [ht] at hP1
                  rw [hw]
                  obtain ⟨hP, hD⟩ := va_join (wr := []) (w1 := (mw_W h q g I2 A2)) hP hD [0, 1, 2, 3, 4, 5, 6, 7, 8, 9, 10, 11, 12, 13, 14, 15, 16, 17, 18, 19, 20] [] rfl rfl (by decide) (by decide) hk1 hFc hP1 hD1
                  generalize H1 = H at hP hS ⊢
                  have hP : va_P (dC, dI) vwCl (mw_W h q g I2 A2) H := hP
                  have hD : va_D B9 (mw_W h q g I2 A2) := hD
                  refine lv_istore (lv' := [(5, .int r2), (4, .int (k1 + 1)), (3, .int ((I 28) - 1)), (2, .int ((A 16) (k1).toNatClampNeg)), (0, .ref h), (1, .int k1)]) hx hb d_M_build_212 hl (by decide) rfl (fun ls hl => ?_)
                  have hl : lv_has ls 6 [(5, .int r2), (4, .int (k1 + 1)), (3, .int ((I 28) - 1)), (2, .int ((A 16) (k1).toNatClampNeg)), (0, .ref h), (1, .int k1)] := hl
                  refine lv_aload_n hx hb d_M_build_214 rfl (lv_at hl 4 rfl) ?_
                  refine lv_iload hx hb d_M_build_215 (lv_at hl 0 rfl) ?_
                  have hPc := hP.sub (ws' := (mw_W h q g I2 A2)) [0, 1, 2, 3, 4, 5, 6, 7, 8, 9, 10, 11, 12, 13, 14, 15, 16, 17, 18, 19, 20] rfl
                  have hDc := hD.sub (ws' := (mw_W h q g I2 A2)) [0, 1, 2, 3, 4, 5, 6, 7, 8, 9, 10, 11, 12, 13, 14, 15, 16, 17, 18, 19, 20] (by decide) rfl
                  have hKc := hK.sub (tys' := (mw_T g)) [0, 1, 2, 3, 4, 5, 6, 7, 8, 9, 10, 11, 12, 13, 14, 15, 16, 17, 18, 19] rfl
                  have hFc := va_free (wc := (mw_W h q g I2 A2)) hD hS hA [0, 1, 2, 3, 4, 5, 6, 7, 8, 9, 10, 11, 12, 13, 14, 15, 16, 17, 18, 19, 20] rfl
                  cases hg3 : f_M_newPart I2 A2 r2 with
                  | none => rw [hg3] at hf; cases hf
                  | some z3 =>
                    obtain ⟨r3, I3, A3⟩ := z3
                    rw [hg3] at hf
                    dsimp only [Option.bind_some] at hf
                    refine va_callv (va_runV (As := [.int r2]) (rest := []) ⟨hx, hb, hml, hown, hts⟩ (cm_M_newPart l dC dI h q g _ I2 A2 r2 r3 I3 A3 hg3) (cwV 1 hts (gd_v lk_100 lk_101 lk_102 lk_46 lk_99) rfl rfl rfl (by decide +kernel) ⟨Nat.le_of_ble_eq_true rfl, Nat.le_of_ble_eq_true rfl⟩) ⟨fun a U g mk q => by obtain ⟨q0, q1, qP, qK, qD⟩ := q; exact ⟨q0, q1, qP, va_K.moved (u := U) (U := U.calling g mk a) (Vm.Alike.refl U.vm) qK, qD⟩, va_recv (ci := 4) (q0 := 0) hK hP rfl rfl, fun U hU hW => ⟨rfl, by rw [hU], by rw [hU]; exact hPc, va_K.moved hW.alike hKc, hDc.weaken (fun _ _ _ _ => trivial)⟩⟩ rfl rfl hl.1 rfl (lv_room (Nat.le_of_ble_eq_true rfl)) d_M_build_217 ⟨Nat.le_of_ble_eq_true rfl, Nat.le_of_ble_eq_true rfl⟩) hS (fun q _ h => hFc q h) hFc (fun u t H1 locs ht hvm hw hB hz1 hk1 hS => ?_)
                    obtain ⟨hP1, hK1, hD1⟩ := hB
                    rw [ht] at hP1
                    obtain ⟨hP, hD⟩ := va_join (wr := []) (w1 := (mw_W h q g I3 A3)) hP hD [0, 1, 2, 3, 4, 5, 6, 7, 8, 9, 10, 11, 12, 13, 14, 15, 16, 17, 18, 19, 20] [] rfl rfl (by decide) (by decide) hk1 hFc hP1 hD1
                    generalize H1 = H at hP hS ⊢
                    have hP : va_P (dC, dI) vwCl (mw_W h q g I3 A3) H := hP
                    have hD : va_D B9 (mw_W h q g I3 A3) := hD
                    refine lv_iload_n hx hb d_M_build_220 rfl (lv_at hl 5 rfl) ?_
                    refine lv_iconst (v := 2) hx hb d_M_build_221 (by decide) ?_
                    refine lv_iadd hx hb d_M_build_222 ?_
                    refine lv_istore (lv' := [(4, .int (k1 + 2)), (5, .int r2), (3, .int ((I 28) - 1)), (2, .int ((A 16) (k1).toNatClampNeg)), (0, .ref h), (1, .int k1)]) hx hb d_M_build_223 hl (by decide) rfl (fun ls hl => ?_)
                    have hl : lv_has ls 6 [(4, .int (k1 + 2)), (5, .int r2), (3, .int ((I 28) - 1)), (2, .int ((A 16) (k1).toNatClampNeg)), (0, .ref h), (1, .int k1)] := hl
                    refine lv_goto (tgt := 273) hx hb d_M_build_225 (by decide) ?_
                    exact blk273 _ hrc150 I3 A3 (upd (upd (upd (upd (fun _ => 0) 1 k1) 2 ((A 16) (k1).toNatClampNeg)) 3 ((I 28) - 1)) 4 (k1 + 2)) _ _ _ hf (lv_sub hl [4, 5, 3, 2, 0] rfl) hP hD hS
            ·
              have hf := wk_ift hc6 hf
              refine lv_iload_n hx hb d_M_build_145 rfl (lv_at hl 4 rfl) ?_
              refine lv_iconst (v := 2) hx hb d_M_build_146 (by decide) ?_
              refine lv_iadd hx hb d_M_build_147 ?_
              refine lv_istore (lv' := [(4, .int (k1 + 2)), (3, .int ((I 28) - 1)), (2, .int ((A 16) (k1).toNatClampNeg)), (0, .ref h), (1, .int k1)]) hx hb d_M_build_148 hl (by decide) rfl (fun ls hl => ?_)
              have hl : lv_has ls 6 [(4, .int (k1 + 2)), (3, .int ((I 28) - 1)), (2, .int ((A 16) (k1).toNatClampNeg)), (0, .ref h), (1, .int k1)] := hl
              exact hrc150 I A (upd (upd (upd (upd (fun _ => 0) 1 k1) 2 ((A 16) (k1).toNatClampNeg)) 3 ((I 28) - 1)) 4 (k1 + 2)) _ _ _ hf (lv_sub hl [3, 4, 2, 1, 0] rfl) hP hD hS
          ·
            have hf := wk_iff hc5 hf
            refine lv_aload_n hx hb d_M_build_98 rfl (lv_at hl 3 rfl) ?_
            refine va_get (D := (dC, dI)) (ci := 4) (v := .ref (q 31)) (C := R_M) (T := F_M) (N := 38) hx hb hts (fun w h => List.mem_cons_of_mem _ (in_M w h)) hown hK hP 0 rfl rfl 31 (by decide) (hts _ (List.mem_cons_of_mem _ lk_95)) (fun _ h9 => h9) rfl d_M_build_99 ?_
            refine lv_iload_n hx hb d_M_build_102 rfl (lv_at hl 1 rfl) ?_
            refine lv_aload_n hx hb d_M_build_103 rfl (lv_at hl 3 rfl) ?_
            refine lv_aload_n hx hb d_M_build_104 rfl (lv_at hl 3 rfl) ?_
            refine va_get (D := (dC, dI)) (ci := 4) (v := .ref (q 31)) (C := R_M) (T := F_M) (N := 38) hx hb hts (fun w h => List.mem_cons_of_mem _ (in_M w h)) hown hK hP 0 rfl rfl 31 (by decide) (hts _ (List.mem_cons_of_mem _ lk_95)) (fun _ h9 => h9) rfl d_M_build_105 ?_
            refine lv_iload_n hx hb d_M_build_108 rfl (lv_at hl 1 rfl) ?_
            obtain ⟨hc6, hf⟩ := wk_if hf
            refine va_iald hx hb hK hP 17 16 rfl rfl (wk_inb_ok hc6) d_M_build_109 ?_
            refine lv_iload_n hx hb d_M_build_110 rfl (lv_at hl 2 rfl) ?_
            refine lv_bipush (v := 43) hx hb d_M_build_111 (by decide) ?_
            refine lv_icmp_eq (tgt := 120) hx hb d_M_build_113 (by decide) (fun hc7 => ?_) (fun hc7 => ?_)
            ·
              have hf := wk_ift hc7 hf
              refine lv_iconst (v := 0) hx hb d_M_build_120 (by decide) ?_
              exact blk121 _ hrc150 I A (upd (upd (upd (upd (fun _ => 0) 1 k1) 2 ((A 16) (k1).toNatClampNeg)) 3 ((I 28) - 1)) 4 (k1 + 1)) 0 ((A 31) (((I 28) - 1)).toNatClampNeg) ((I 28) - 1) _ _ _ hf (lv_sub hl [3, 4, 2, 1, 0] rfl) hP hD hS
            ·
              have hf := wk_iff hc7 hf
              refine lv_iconst (v := 1) hx hb d_M_build_116 (by decide) ?_
              refine lv_goto (tgt := 121) hx hb d_M_build_117 (by decide) ?_
              exact blk121 _ hrc150 I A (upd (upd (upd (upd (fun _ => 0) 1 k1) 2 ((A 16) (k1).toNatClampNeg)) 3 ((I 28) - 1)) 4 (k1 + 1)) 1 ((A 31) (((I 28) - 1)).toNatClampNeg) ((I 28) - 1) _ _ _ hf (lv_sub hl [3, 4, 2, 1, 0] rfl) hP hD hS
      ·
        have hf := wk_ift hc4 hf
        refine lv_aload_n hx hb d_M_build_74 rfl (lv_at hl 3 rfl) ?_
        have hPc := hP.sub (ws' := (mw_W h q g I A)) [0, 1, 2, 3, 4, 5, 6, 7, 8, 9, 10, 11, 12, 13, 14, 15, 16, 17, 18, 19, 20] rfl
        have hDc := hD.sub (ws' := (mw_W h q g I A)) [0, 1, 2, 3, 4, 5, 6, 7, 8, 9, 10, 11, 12, 13, 14, 15, 16, 17, 18, 19, 20] (by decide) rfl
        have hKc := hK.sub (tys' := (mw_T g)) [0, 1, 2, 3, 4, 5, 6, 7, 8, 9, 10, 11, 12, 13, 14, 15, 16, 17, 18, 19] rfl
        have hFc := va_free (wc := (mw_W h q g I A)) hD hS hA [0, 1, 2, 3, 4, 5, 6, 7, 8, 9, 10, 11, 12, 13, 14, 15, 16, 17, 18, 19, 20] rfl
        cases hg1 : f_M_endRow I A with
        | none => rw [hg1] at hf; cases hf
        | some z1 =>
          obtain ⟨r1, I1, A1⟩ := z1
          rw [hg1] at hf
          dsimp only [Option.bind_some] at hf
          refine va_callv (va_runV (As := []) (rest := []) ⟨hx, hb, hml, hown, hts⟩ (cm_M_endRow l dC dI h q g _ I A r1 I1 A1 hg1) (cwV 0 hts (gd_v lk_109 lk_110 lk_111 lk_46 lk_108) rfl rfl rfl (by decide +kernel) ⟨Nat.le_of_ble_eq_true rfl, Nat.le_of_ble_eq_true rfl⟩) ⟨fun a U g mk q => by obtain ⟨q0, q1, qP, qK, qD⟩ := q; exact ⟨q0, q1, qP, va_K.moved (u := U) (U := U.calling g mk a) (Vm.Alike.refl U.vm) qK, qD⟩, va_recv (ci := 4) (q0 := 0) hK hP rfl rfl, fun U hU hW => ⟨rfl, by rw [hU], by rw [hU]; exact hPc, va_K.moved hW.alike hKc, hDc.weaken (fun _ _ _ _ => trivial)⟩⟩ rfl rfl hl.1 rfl (lv_room (Nat.le_of_ble_eq_true rfl)) d_M_build_75 ⟨Nat.le_of_ble_eq_true rfl, Nat.le_of_ble_eq_true rfl⟩) hS (fun q _ h => hFc q h) hFc (fun u t H1 locs ht hvm hw hB hz1 hk1 hS => ?_)
          obtain ⟨hP1, hK1, hD1⟩ := hB
          rw [ht] at hP1
          obtain ⟨hP, hD⟩ := va_join (wr := []) (w1 := (mw_W h q g I1 A1)) hP hD [0, 1, 2, 3, 4, 5, 6, 7, 8, 9, 10, 11, 12, 13, 14, 15, 16, 17, 18, 19, 20] [] rfl rfl (by decide) (by decide) hk1 hFc hP1 hD1
          generalize H1 = H at hP hS ⊢
          have hP : va_P (dC, dI) vwCl (mw_W h q g I1 A1) H := hP
          have hD : va_D B9 (mw_W h q g I1 A1) := hD
          refine lv_aload_n hx hb d_M_build_78 rfl (lv_at hl 3 rfl) ?_
          refine va_get (D := (dC, dI)) (ci := 4) (v := .ref (q 30)) (C := R_M) (T := F_M) (N := 38) hx hb hts (fun w h => List.mem_cons_of_mem _ (in_M w h)) hown hK hP 0 rfl rfl 30 (by decide) (hts _ (List.mem_cons_of_mem _ lk_94)) (fun _ h9 => h9) rfl d_M_build_79 ?_
          refine lv_iload_n hx hb d_M_build_82 rfl (lv_at hl 1 rfl) ?_
          refine lv_aload_n hx hb d_M_build_83 rfl (lv_at hl 3 rfl) ?_
          have hPc := hP.sub (ws' := (mw_W h q g I1 A1)) [0, 1, 2, 3, 4, 5, 6, 7, 8, 9, 10, 11, 12, 13, 14, 15, 16, 17, 18, 19, 20] rfl
          have hDc := hD.sub (ws' := (mw_W h q g I1 A1)) [0, 1, 2, 3, 4, 5, 6, 7, 8, 9, 10, 11, 12, 13, 14, 15, 16, 17, 18, 19, 20] (by decide) rfl
          have hKc := hK.sub (tys' := (mw_T g)) [0, 1, 2, 3, 4, 5, 6, 7, 8, 9, 10, 11, 12, 13, 14, 15, 16, 17, 18, 19] rfl
          have hFc := va_free (wc := (mw_W h q g I1 A1)) hD hS hA [0, 1, 2, 3, 4, 5, 6, 7, 8, 9, 10, 11, 12, 13, 14, 15, 16, 17, 18, 19, 20] rfl
          cases hg2 : f_M_nothing I1 A1 with
          | none => rw [hg2] at hf; cases hf
          | some z2 =>
            obtain ⟨r2, I2, A2⟩ := z2
            rw [hg2] at hf
            dsimp only [Option.bind_some] at hf
            refine va_calli (va_runV (As := []) (rest := [.int ((I 28) - 1), .ref (q 30)]) ⟨hx, hb, hml, hown, hts⟩ (cm_M_nothing l dC dI h q g _ I1 A1 r2 I2 A2 hg2) (cwV 0 hts (gd_v lk_113 lk_114 lk_115 lk_46 lk_112) rfl rfl rfl (by decide +kernel) ⟨Nat.le_of_ble_eq_true rfl, Nat.le_of_ble_eq_true rfl⟩) ⟨fun a U g mk q => by obtain ⟨q0, q1, qP, qK, qD⟩ := q; exact ⟨q0, q1, qP, va_K.moved (u := U) (U := U.calling g mk a) (Vm.Alike.refl U.vm) qK, qD⟩, va_recv (ci := 4) (q0 := 0) hK hP rfl rfl, fun U hU hW => ⟨rfl, by rw [hU], by rw [hU]; exact hPc, va_K.moved hW.alike hKc, hDc.weaken (fun _ _ _ _ => trivial)⟩⟩ rfl rfl hl.1 rfl (lv_room (Nat.le_of_ble_eq_true rfl)) d_M_build_84 ⟨Nat.le_of_ble_eq_true rfl, Nat.le_of_ble_eq_true rfl⟩) hS (fun q _ h => hFc q h) hFc (fun r9 u t H1 locs ht hvm hw hB hz1 hk1 hS => ?_)
            obtain ⟨hP1, hK1, hD1⟩ := hB
            rw [ht] at hP1
            rw [hw]
            obtain ⟨hP, hD⟩ := va_join (wr := []) (w1 := (mw_W h q g I2 A2)) hP hD [0, 1, 2, 3, 4, 5, 6, 7, 8, 9, 10, 11, 12, 13, 14, 15, 16, 17, 18, 19, 20] [] rfl rfl (by decide) (by decide) hk1 hFc hP1 hD1
            generalize H1 = H at hP hS ⊢
            have hP : va_P (dC, dI) vwCl (mw_W h q g I2 A2) H := hP
            have hD : va_D B9 (mw_W h q g I2 A2) := hD
            obtain ⟨hc5, hf⟩ := wk_if hf
            refine va_iast hx hb hK hP hD hS 16 15 rfl rfl (wk_inb_ok hc5) d_M_build_87 (fun H locs hP hD hS => ?_)
            obtain ⟨A3, hA3, hf⟩ := wk_letE hf
            have hP : va_P (dC, dI) vwCl (mw_W h q g I2 A3) H := by rw [hA3]; exact hP
            have hD : va_D B9 (mw_W h q g I2 A3) := by rw [hA3]; exact hD
            clear hA3
            refine lv_goto (tgt := 273) hx hb d_M_build_88 (by decide) ?_
            exact blk273 _ hrc150 I2 A3 (upd (upd (upd (upd (fun _ => 0) 1 k1) 2 ((A 16) (k1).toNatClampNeg)) 3 ((I 28) - 1)) 4 (k1 + 1)) _ _ _ hf (lv_sub hl [3, 4, 2, 1, 0] rfl) hP hD hS
    ·
      have hf := wk_ift hc3 hf
      refine lv_aload_n hx hb d_M_build_38 rfl (lv_at hl 3 rfl) ?_
      have hPc := hP.sub (ws' := (mw_W h q g I A)) [0, 1, 2, 3, 4, 5, 6, 7, 8, 9, 10, 11, 12, 13, 14, 15, 16, 17, 18, 19, 20] rfl
      have hDc := hD.sub (ws' := (mw_W h q g I A)) [0, 1, 2, 3, 4, 5, 6, 7, 8, 9, 10, 11, 12, 13, 14, 15, 16, 17, 18, 19, 20] (by decide) rfl
      have hKc := hK.sub (tys' := (mw_T g)) [0, 1, 2, 3, 4, 5, 6, 7, 8, 9, 10, 11, 12, 13, 14, 15, 16, 17, 18, 19] rfl
      have hFc := va_free (wc := (mw_W h q g I A)) hD hS hA [0, 1, 2, 3, 4, 5, 6, 7, 8, 9, 10, 11, 12, 13, 14, 15, 16, 17, 18, 19, 20] rfl
      cases hg1 : f_M_endRow I A with
      | none => rw [hg1] at hf; cases hf
      | some z1 =>
        obtain ⟨r1, I1, A1⟩ := z1
        rw [hg1] at hf
        dsimp only [Option.bind_some] at hf
        refine va_callv (va_runV (As := []) (rest := []) ⟨hx, hb, hml, hown, hts⟩ (cm_M_endRow l dC dI h q g _ I A r1 I1 A1 hg1) (cwV 0 hts (gd_v lk_109 lk_110 lk_111 lk_46 lk_108) rfl rfl rfl (by decide +kernel) ⟨Nat.le_of_ble_eq_true rfl, Nat.le_of_ble_eq_true rfl⟩) ⟨fun a U g mk q => by obtain ⟨q0, q1, qP, qK, qD⟩ := q; exact ⟨q0, q1, qP, va_K.moved (u := U) (U := U.calling g mk a) (Vm.Alike.refl U.vm) qK, qD⟩, va_recv (ci := 4) (q0 := 0) hK hP rfl rfl, fun U hU hW => ⟨rfl, by rw [hU], by rw [hU]; exact hPc, va_K.moved hW.alike hKc, hDc.weaken (fun _ _ _ _ => trivial)⟩⟩ rfl rfl hl.1 rfl (lv_room (Nat.le_of_ble_eq_true rfl)) d_M_build_39 ⟨Nat.le_of_ble_eq_true rfl, Nat.le_of_ble_eq_true rfl⟩) hS (fun q _ h => hFc q h) hFc (fun u t H1 locs ht hvm hw hB hz1 hk1 hS => ?_)
        obtain ⟨hP1, hK1, hD1⟩ := hB
        rw [ht] at hP1
        obtain ⟨hP, hD⟩ := va_join (wr := []) (w1 := (mw_W h q g I1 A1)) hP hD [0, 1, 2, 3, 4, 5, 6, 7, 8, 9, 10, 11, 12, 13, 14, 15, 16, 17, 18, 19, 20] [] rfl rfl (by decide) (by decide) hk1 hFc hP1 hD1
        generalize H1 = H at hP hS ⊢
        have hP : va_P (dC, dI) vwCl (mw_W h q g I1 A1) H := hP
        have hD : va_D B9 (mw_W h q g I1 A1) := hD
        refine lv_aload_n hx hb d_M_build_42 rfl (lv_at hl 3 rfl) ?_
        refine lv_dup hx hb d_M_build_43 rfl ?_
        refine va_get (D := (dC, dI)) (ci := 4) (v := .int (I1 28)) (C := R_M) (T := F_M) (N := 38) hx hb hts (fun w h => List.mem_cons_of_mem _ (in_M w h)) hown hK hP 0 rfl rfl 28 (by decide) (hts _ (List.mem_cons_of_mem _ lk_78)) (fun _ h9 => h9) rfl d_M_build_44 ?_
        refine lv_iconst (v := 1) hx hb d_M_build_47 (by decide) ?_
        refine lv_isub hx hb d_M_build_48 ?_
        refine va_put (D := (dC, dI)) (ci := 4) (v := .int ((I1 28) - 1)) (ty := .int) (C := R_M) (T := F_M) (N := 38) hx hb hts (fun w h => List.mem_cons_of_mem _ (in_M w h)) t_M tk_M n_M hown hK hP hD hS 0 rfl rfl 28 (by decide) (hts _ (List.mem_cons_of_mem _ lk_78)) (fun _ h9 => h9) rfl (by decide +kernel) rfl rfl (Nat.le_of_ble_eq_true rfl) d_M_build_49 (fun H locs hP hD hS => ?_)
        obtain ⟨I2, hI2, hf⟩ := wk_letE hf
        have hP : va_P (dC, dI) vwCl (mw_W h q g I2 A1) H := by rw [hI2]; exact hP
        have hD : va_D B9 (mw_W h q g I2 A1) := by rw [hI2]; exact hD
        clear hI2
        refine lv_aload_n hx hb d_M_build_52 rfl (lv_at hl 3 rfl) ?_
        refine lv_aload_n hx hb d_M_build_53 rfl (lv_at hl 3 rfl) ?_
        refine va_get (D := (dC, dI)) (ci := 4) (v := .ref (q 29)) (C := R_M) (T := F_M) (N := 38) hx hb hts (fun w h => List.mem_cons_of_mem _ (in_M w h)) hown hK hP 0 rfl rfl 29 (by decide) (hts _ (List.mem_cons_of_mem _ lk_103)) (fun _ h9 => h9) rfl d_M_build_54 ?_
        refine lv_aload_n hx hb d_M_build_57 rfl (lv_at hl 3 rfl) ?_
        refine va_get (D := (dC, dI)) (ci := 4) (v := .int (I2 28)) (C := R_M) (T := F_M) (N := 38) hx hb hts (fun w h => List.mem_cons_of_mem _ (in_M w h)) hown hK hP 0 rfl rfl 28 (by decide) (hts _ (List.mem_cons_of_mem _ lk_78)) (fun _ h9 => h9) rfl d_M_build_58 ?_
        obtain ⟨hc4, hf⟩ := wk_if hf
        refine va_iald hx hb hK hP 15 14 rfl rfl (wk_inb_ok hc4) d_M_build_61 ?_
        have hPc := hP.sub (ws' := (mw_W h q g I2 A1)) [0, 1, 2, 3, 4, 5, 6, 7, 8, 9, 10, 11, 12, 13, 14, 15, 16, 17, 18, 19, 20] rfl
        have hDc := hD.sub (ws' := (mw_W h q g I2 A1)) [0, 1, 2, 3, 4, 5, 6, 7, 8, 9, 10, 11, 12, 13, 14, 15, 16, 17, 18, 19, 20] (by decide) rfl
        have hKc := hK.sub (tys' := (mw_T g)) [0, 1, 2, 3, 4, 5, 6, 7, 8, 9, 10, 11, 12, 13, 14, 15, 16, 17, 18, 19] rfl
        have hFc := va_free (wc := (mw_W h q g I2 A1)) hD hS hA [0, 1, 2, 3, 4, 5, 6, 7, 8, 9, 10, 11, 12, 13, 14, 15, 16, 17, 18, 19, 20] rfl
        cases hg3 : f_M_newPart I2 A1 ((A1 29) ((I2 28)).toNatClampNeg) with
        | none => rw [hg3] at hf; cases hf
        | some z3 =>
          obtain ⟨r3, I3, A3⟩ := z3
          rw [hg3] at hf
          dsimp only [Option.bind_some] at hf
          refine va_callv (va_runV (As := [.int ((A1 29) ((I2 28)).toNatClampNeg)]) (rest := []) ⟨hx, hb, hml, hown, hts⟩ (cm_M_newPart l dC dI h q g _ I2 A1 ((A1 29) ((I2 28)).toNatClampNeg) r3 I3 A3 hg3) (cwV 1 hts (gd_v lk_100 lk_101 lk_102 lk_46 lk_99) rfl rfl rfl (by decide +kernel) ⟨Nat.le_of_ble_eq_true rfl, Nat.le_of_ble_eq_true rfl⟩) ⟨fun a U g mk q => by obtain ⟨q0, q1, qP, qK, qD⟩ := q; exact ⟨q0, q1, qP, va_K.moved (u := U) (U := U.calling g mk a) (Vm.Alike.refl U.vm) qK, qD⟩, va_recv (ci := 4) (q0 := 0) hK hP rfl rfl, fun U hU hW => ⟨rfl, by rw [hU], by rw [hU]; exact hPc, va_K.moved hW.alike hKc, hDc.weaken (fun _ _ _ _ => trivial)⟩⟩ rfl rfl hl.1 rfl (lv_room (Nat.le_of_ble_eq_true rfl)) d_M_build_62 ⟨Nat.le_of_ble_eq_true rfl, Nat.le_of_ble_eq_true rfl⟩) hS (fun q _ h => hFc q h) hFc (fun u t H1 locs ht hvm hw hB hz1 hk1 hS => ?_)
          obtain ⟨hP1, hK1, hD1⟩ := hB
          rw [ht] at hP1
          obtain ⟨hP, hD⟩ := va_join (wr := []) (w1 := (mw_W h q g I3 A3)) hP hD [0, 1, 2, 3, 4, 5, 6, 7, 8, 9, 10, 11, 12, 13, 14, 15, 16, 17, 18, 19, 20] [] rfl rfl (by decide) (by decide) hk1 hFc hP1 hD1
          generalize H1 = H at hP hS ⊢
          have hP : va_P (dC, dI) vwCl (mw_W h q g I3 A3) H := hP
          have hD : va_D B9 (mw_W h q g I3 A3) := hD
          refine lv_goto (tgt := 273) hx hb d_M_build_65 (by decide) ?_
          exact blk273 _ hrc150 I3 A3 (upd (upd (upd (upd (fun _ => 0) 1 k1) 2 ((A 16) (k1).toNatClampNeg)) 3 ((I 28) - 1)) 4 (k1 + 1)) _ _ _ hf (lv_sub hl [3, 4, 2, 1, 0] rfl) hP hD hS
  ·
    have hf := wk_ift hc2 hf
    refine lv_aload_n hx hb d_M_build_25 rfl (lv_at hl 3 rfl) ?_
    have hPc := hP.sub (ws' := (mw_W h q g I A)) [0, 1, 2, 3, 4, 5, 6, 7, 8, 9, 10, 11, 12, 13, 14, 15, 16, 17, 18, 19, 20] rfl
    have hDc := hD.sub (ws' := (mw_W h q g I A)) [0, 1, 2, 3, 4, 5, 6, 7, 8, 9, 10, 11, 12, 13, 14, 15, 16, 17, 18, 19, 20] (by decide) rfl
    have hKc := hK.sub (tys' := (mw_T g)) [0, 1, 2, 3, 4, 5, 6, 7, 8, 9, 10, 11, 12, 13, 14, 15, 16, 17, 18, 19] rfl
    have hFc := va_free (wc := (mw_W h q g I A)) hD hS hA [0, 1, 2, 3, 4, 5, 6, 7, 8, 9, 10, 11, 12, 13, 14, 15, 16, 17, 18, 19, 20] rfl
    cases hg1 : f_M_openGroup I A with
    | none => rw [hg1] at hf; cases hf
    | some z1 =>
      obtain ⟨r1, I1, A1⟩ := z1
      rw [hg1] at hf
      dsimp only [Option.bind_some] at hf
      refine va_callv (va_runV (As := []) (rest := []) ⟨hx, hb, hml, hown, hts⟩ (cm_M_openGroup l dC dI h q g _ I A r1 I1 A1 hg1) (cwV 0 hts (gd_v lk_117 lk_118 lk_119 lk_46 lk_116) rfl rfl rfl (by decide +kernel) ⟨Nat.le_of_ble_eq_true rfl, Nat.le_of_ble_eq_true rfl⟩) ⟨fun a U g mk q => by obtain ⟨q0, q1, qP, qK, qD⟩ := q; exact ⟨q0, q1, qP, va_K.moved (u := U) (U := U.calling g mk a) (Vm.Alike.refl U.vm) qK, qD⟩, va_recv (ci := 4) (q0 := 0) hK hP rfl rfl, fun U hU hW => ⟨rfl, by rw [hU], by rw [hU]; exact hPc, va_K.moved hW.alike hKc, hDc.weaken (fun _ _ _ _ => trivial)⟩⟩ rfl rfl hl.1 rfl (lv_room (Nat.le_of_ble_eq_true rfl)) d_M_build_26 ⟨Nat.le_of_ble_eq_true rfl, Nat.le_of_ble_eq_true rfl⟩) hS (fun q _ h => hFc q h) hFc (fun u t H1 locs ht hvm hw hB hz1 hk1 hS => ?_)
      obtain ⟨hP1, hK1, hD1⟩ := hB
      rw [ht] at hP1
      obtain ⟨hP, hD⟩ := va_join (wr := []) (w1 := (mw_W h q g I1 A1)) hP hD [0, 1, 2, 3, 4, 5, 6, 7, 8, 9, 10, 11, 12, 13, 14, 15, 16, 17, 18, 19, 20] [] rfl rfl (by decide) (by decide) hk1 hFc hP1 hD1
      generalize H1 = H at hP hS ⊢
      have hP : va_P (dC, dI) vwCl (mw_W h q g I1 A1) H := hP
      have hD : va_D B9 (mw_W h q g I1 A1) := hD
      refine lv_goto (tgt := 273) hx hb d_M_build_29 (by decide) ?_
      exact blk273 _ hrc150 I1 A1 (upd (upd (upd (upd (fun _ => 0) 1 k1) 2 ((A 16) (k1).toNatClampNeg)) 3 ((I 28) - 1)) 4 (k1 + 1)) _ _ _ hf (lv_sub hl [3, 4, 2, 1, 0] rfl) hP hD hS

