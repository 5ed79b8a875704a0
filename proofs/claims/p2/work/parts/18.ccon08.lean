set_option maxHeartbeats 8000000 in
set_option maxRecDepth 100000 in
theorem cm_D_requirePlace (l : Launch) (dC : Nat → ClassId) (dI : Nat → Nat → Nat) (h : Nat) (q : Nat → Nat) (g : Nat → ClassId) (hp : Nat) (qp : Nat → Nat) (gp : Nat → ClassId) (tq : Nat) (tg : ClassId) (tn : Nat) (tx : Nat → Int32) (sz : Nat) (I : MI) (A : MA) (M : MI) (MB : MA) (L : ML) (k1 : Int32) (r : Int32) (I' : MI) (A' : MA) (M' : MI) (MB' : MA) (L' : ML) (hf : f_D_requirePlace tn tx I A M MB L  k1 = some (0, r, I', A', M', MB', L')) : Met l y_D_requirePlace w_D_requirePlace ({ frames := 0, cells := 0, slots := 0, locals := 0 }) (va_Pc [.ref h, .int k1] (fun U => U.heap.size = sz ∧ va_P (dC, dI) vwCl (dw_W h q g hp qp gp tq tg tn tx I A M MB L) U.heap ∧ va_K (dC, dI) vwCl (dw_T h q g hp qp gp tq tg tn tx) U ∧ va_D (fun _ => True) (dw_W h q g hp qp gp tq tg tn tx I A M MB L))) (va_Qv (fun (u : Unit) => u = u) (fun (_ : Unit) t => va_P (dC, dI) vwCl (dw_W h q g hp qp gp tq tg tn tx I' A' M' MB' L') t.heap ∧ va_K (dC, dI) vwCl (dw_T h q g hp qp gp tq tg tn tx) t ∧ va_D (va_A (dw_W h q g hp qp gp tq tg tn tx I A M MB L) sz) (dw_W h q g hp qp gp tq tg tn tx I' A' M' MB' L')) (va_A (dw_W h q g hp qp gp tq tg tn tx I A M MB L) sz)) 0 0 (va_A (dw_W h q g hp qp gp tq tg tn tx I A M MB L) sz) := by
  refine Met.ofW (cc := prog_1_method_19_code) (maxL := 2) (ret := none) (by decide) rfl ?_
  intro p e s m args below meth c s₁ B hml hv
  obtain ⟨rfl, hsz, hP, hK, hD0⟩ := hv
  have hx := B.exec
  have hb := B.bytes
  have hr := B.returns
  have hts := atoms_spec (ws := w_D_requirePlace) B.pre
  have hown : s.vm.findClass "DraftTree" = some m.cls := findClass_of_methodNamed B.named
  have hlocks := B.notSynchronized
  subst hsz
  have hD := hD0.self (sz := s.heap.size)
  generalize hAe : va_A (dw_W h q g hp qp gp tq tg tn tx I A M MB L) s.heap.size = B9 at hD ⊢
  have hA : ∀ q : Nat, s.heap.size ≤ q → B9 q := fun q h => by rw [← hAe]; exact Or.inr h
  clear hAe
  have hS : va_S B9 s.heap s.heap [] := va_S.rf
  have hl := lv_entry ([.ref h, .int k1]) (n := 2) (Nat.le_of_ble_eq_true rfl)
  rw [lg_entry_eq]
  generalize (lg_sl ([.ref h, .int k1]) ++ List.replicate (2 - (lg_sl ([.ref h, .int k1])).length) Slot.unset).toArray = ls at hl ⊢
  have hl : lv_has ls 2 [(0, .ref h), (1, .int k1)] := hl
  have blk13 : ∀ (I : MI) (A : MA) (M : MI) (MB : MA) (L : ML) (X : Nat → Int32) (Y : Nat → Int64) (ls : Array Slot) (H : Heap) (locs : List Loc), f_D_requirePlace_13 tn tx I A M MB L X Y = some (0, r, I', A', M', MB', L') → lv_has ls 2 [(0, .ref h), (1, .int (X 1))] → va_P (dC, dI) vwCl (dw_W h q g hp qp gp tq tg tn tx I A M MB L) H → va_D B9 (dw_W h q g hp qp gp tq tg tn tx I A M MB L) → va_S B9 s.heap H locs → W p l e (headSpec w_D_requirePlace ({ frames := 0, cells := 0, slots := 0, locals := 0 })).room s m ([.ref h, .int k1] : List Value).toArray below meth c H locs 0 0 (MQ below (va_Qv (fun (u : Unit) => u = u) (fun (_ : Unit) t => va_P (dC, dI) vwCl (dw_W h q g hp qp gp tq tg tn tx I' A' M' MB' L') t.heap ∧ va_K (dC, dI) vwCl (dw_T h q g hp qp gp tq tg tn tx) t ∧ va_D B9 (dw_W h q g hp qp gp tq tg tn tx I' A' M' MB' L')) B9) ([.ref h, .int k1] : List Value).toArray s 0 0 B9) (F0 m 13 ls []) := by
    intro I A M MB L X Y ls H locs hf hl hP hD hS
    unfold f_D_requirePlace_13 at hf
    exact (wk_tag (by decide) hf).elim
  unfold f_D_requirePlace at hf
  refine lv_iload_n hx hb d_D_requirePlace_0 rfl (lv_at hl 1 rfl) ?_
  refine lv_if_lt (tgt := 13) hx hb d_D_requirePlace_1 (by decide) (fun hc1 => ?_) (fun hc1 => ?_)
  ·
    have hf := wk_ift hc1 hf
    exact blk13 I A M MB L (upd (fun _ => 0) 1 k1) (fun _ => 0) _ _ _ hf (lv_sub hl [0, 1] rfl) hP hD hS
  ·
    have hf := wk_iff hc1 hf
    refine lv_iload_n hx hb d_D_requirePlace_4 rfl (lv_at hl 1 rfl) ?_
    refine lv_aload_n hx hb d_D_requirePlace_5 rfl (lv_at hl 0 rfl) ?_
    refine va_get (D := (dC, dI)) (ci := 0) (v := .ref tq) (C := R_D) (T := F_D) (N := 14) hx hb hts (fun w h => List.mem_cons_of_mem _ (in_D w h)) hown hK hP 0 rfl rfl 5 (by decide) (hts _ (List.mem_cons_of_mem _ lk_241)) (fun _ h9 => h9) rfl d_D_requirePlace_6 ?_
    refine va_alen (v := (Int32.ofNat tn)) hx hb hK hP 10 8 rfl rfl rfl d_D_requirePlace_9 ?_
    refine lv_icmp_le (tgt := 21) hx hb d_D_requirePlace_10 (by decide) (fun hc2 => ?_) (fun hc2 => ?_)
    ·
      have hf := wk_ift hc2 hf
      obtain ⟨e0, e1, e2, e3, e4, e5, e6⟩ := wk_inj6 hf
      subst e1
      subst e2
      subst e3
      subst e4
      subst e5
      subst e6
      exact W.vret hx hb hr (fun t ht hW => ⟨⟨(), rfl, rfl, by rw [ht]; exact hP, va_K.moved hW.alike hK, hD⟩, hS.F ht⟩) hS.2.2 d_D_requirePlace_21
    ·
      have hf := wk_iff hc2 hf
      exact blk13 I A M MB L (upd (fun _ => 0) 1 k1) (fun _ => 0) _ _ _ hf (lv_sub hl [0, 1] rfl) hP hD hS
set_option maxHeartbeats 8000000 in
set_option maxRecDepth 100000 in
theorem ct_D_requirePlace_2 (l : Launch) (hfl : l.flags = flags0) (dC : Nat → ClassId) (dI : Nat → Nat → Nat) (h : Nat) (q : Nat → Nat) (g : Nat → ClassId) (hp : Nat) (qp : Nat → Nat) (gp : Nat → ClassId) (tq : Nat) (tg : ClassId) (tn : Nat) (tx : Nat → Int32) (sz : Nat) (I : MI) (A : MA) (M : MI) (MB : MA) (L : ML) (k1 : Int32) (r : Int32) (I' : MI) (A' : MA) (M' : MI) (MB' : MA) (L' : ML) (hf : f_D_requirePlace tn tx I A M MB L  k1 = some (2, r, I', A', M', MB', L')) : th_Met l y_D_requirePlace w_D_requirePlace ({ frames := 6, cells := 1, slots := 6, locals := 81 }) (va_Pc [.ref h, .int k1] (fun U => U.heap.size = sz ∧ va_P (dC, dI) vwCl (dw_W h q g hp qp gp tq tg tn tx I A M MB L) U.heap ∧ va_K (dC, dI) vwCl (dw_T h q g hp qp gp tq tg tn tx) U ∧ va_D (fun _ => True) (dw_W h q g hp qp gp tq tg tn tx I A M MB L) ∧ th_ZA (va_A (dw_W h q g hp qp gp tq tg tn tx I A M MB L) sz) U)) (th_Qw "java/lang/IndexOutOfBoundsException" (fun t => va_P (dC, dI) vwCl (dw_W h q g hp qp gp tq tg tn tx I' A' M' MB' L') t.heap ∧ va_K (dC, dI) vwCl (dw_T h q g hp qp gp tq tg tn tx) t ∧ va_D (va_A (dw_W h q g hp qp gp tq tg tn tx I A M MB L) sz) (dw_W h q g hp qp gp tq tg tn tx I' A' M' MB' L')) (va_A (dw_W h q g hp qp gp tq tg tn tx I A M MB L) sz)) 1 6 (va_A (dw_W h q g hp qp gp tq tg tn tx I A M MB L) sz) := by
  refine th_Met.ofW (cc := prog_1_method_19_code) (maxL := 2) (ret := none) (by decide) rfl ?_
  intro p e s m args below meth c s₁ B hml hnh hv
  obtain ⟨rfl, hsz, hP, hK, hD0, hZ⟩ := hv
  have hx := B.exec
  have hb := B.bytes
  have hr := B.returns
  have hts := atoms_spec (ws := w_D_requirePlace) B.pre
  have hown : s.vm.findClass "DraftTree" = some m.cls := findClass_of_methodNamed B.named
  have hlocks := B.notSynchronized
  have htr := Launch.traces_off hfl B.admits
  subst hsz
  have hD := hD0.self (sz := s.heap.size)
  generalize hAe : va_A (dw_W h q g hp qp gp tq tg tn tx I A M MB L) s.heap.size = B9 at hD hZ ⊢
  have hA : ∀ q : Nat, s.heap.size ≤ q → B9 q := fun q h => by rw [← hAe]; exact Or.inr h
  clear hAe
  have hS : va_S B9 s.heap s.heap [] := va_S.rf
  have hl := lv_entry ([.ref h, .int k1]) (n := 2) (Nat.le_of_ble_eq_true rfl)
  rw [lg_entry_eq]
  generalize (lg_sl ([.ref h, .int k1]) ++ List.replicate (2 - (lg_sl ([.ref h, .int k1])).length) Slot.unset).toArray = ls at hl ⊢
  have hl : lv_has ls 2 [(0, .ref h), (1, .int k1)] := hl
  have blk13 : ∀ (I : MI) (A : MA) (M : MI) (MB : MA) (L : ML) (X : Nat → Int32) (Y : Nat → Int64) (ls : Array Slot) (H : Heap) (locs : List Loc), f_D_requirePlace_13 tn tx I A M MB L X Y = some (2, r, I', A', M', MB', L') → lv_has ls 2 [(0, .ref h), (1, .int (X 1))] → va_P (dC, dI) vwCl (dw_W h q g hp qp gp tq tg tn tx I A M MB L) H → va_D B9 (dw_W h q g hp qp gp tq tg tn tx I A M MB L) → va_S B9 s.heap H locs → W p l e (headSpec w_D_requirePlace ({ frames := 6, cells := 1, slots := 6, locals := 81 })).room s m ([.ref h, .int k1] : List Value).toArray below meth c H locs 0 0 (th_Q below (th_Qw "java/lang/IndexOutOfBoundsException" (fun t => va_P (dC, dI) vwCl (dw_W h q g hp qp gp tq tg tn tx I' A' M' MB' L') t.heap ∧ va_K (dC, dI) vwCl (dw_T h q g hp qp gp tq tg tn tx) t ∧ va_D B9 (dw_W h q g hp qp gp tq tg tn tx I' A' M' MB' L')) B9) ([.ref h, .int k1] : List Value).toArray s 1 6 B9) (F0 m 13 ls []) := by
    intro I A M MB L X Y ls H locs hf hl hP hD hS
    unfold f_D_requirePlace_13 at hf
    obtain ⟨e0, e1, e2, e3, e4, e5, e6⟩ := wk_inj6 hf
    subst e1
    subst e2
    subst e3
    subst e4
    subst e5
    subst e6
    exact th_newG hx hb htr hown (by decide) (by decide) (wk_thr hts hZ hS lk_242 lk_243 (fun _ a9 b9 => oa_0 a9 b9)) hnh (by rw [hl.1, hml]) hS (Nat.le_of_ble_eq_true rfl) (Nat.le_of_ble_eq_true rfl) (Nat.le_of_ble_eq_true rfl) (Nat.le_of_ble_eq_true rfl) (Nat.le_of_ble_eq_true rfl) (Nat.le_of_ble_eq_true rfl) hlocks (fun t hal hk => ⟨hP.kept (fun k q hq => hk _ (hP k q hq).lt), va_K.moved hal hK, hD⟩) d_D_requirePlace_13 d_D_requirePlace_16 d_D_requirePlace_17 d_D_requirePlace_20
  unfold f_D_requirePlace at hf
  refine lv_iload_n hx hb d_D_requirePlace_0 rfl (lv_at hl 1 rfl) ?_
  refine lv_if_lt (tgt := 13) hx hb d_D_requirePlace_1 (by decide) (fun hc1 => ?_) (fun hc1 => ?_)
  ·
    have hf := wk_ift hc1 hf
    exact blk13 I A M MB L (upd (fun _ => 0) 1 k1) (fun _ => 0) _ _ _ hf (lv_sub hl [0, 1] rfl) hP hD hS
  ·
    have hf := wk_iff hc1 hf
    refine lv_iload_n hx hb d_D_requirePlace_4 rfl (lv_at hl 1 rfl) ?_
    refine lv_aload_n hx hb d_D_requirePlace_5 rfl (lv_at hl 0 rfl) ?_
    refine va_get (D := (dC, dI)) (ci := 0) (v := .ref tq) (C := R_D) (T := F_D) (N := 14) hx hb hts (fun w h => List.mem_cons_of_mem _ (in_D w h)) hown hK hP 0 rfl rfl 5 (by decide) (hts _ (List.mem_cons_of_mem _ lk_241)) (fun _ h9 => h9) rfl d_D_requirePlace_6 ?_
    refine va_alen (v := (Int32.ofNat tn)) hx hb hK hP 10 8 rfl rfl rfl d_D_requirePlace_9 ?_
    refine lv_icmp_le (tgt := 21) hx hb d_D_requirePlace_10 (by decide) (fun hc2 => ?_) (fun hc2 => ?_)
    ·
      have hf := wk_ift hc2 hf
      exact (wk_tag (by decide) hf).elim
    ·
      have hf := wk_iff hc2 hf
      exact blk13 I A M MB L (upd (fun _ => 0) 1 k1) (fun _ => 0) _ _ _ hf (lv_sub hl [0, 1] rfl) hP hD hS

set_option maxHeartbeats 8000000 in
set_option maxRecDepth 100000 in
theorem cm_D_find (l : Launch) (dC : Nat → ClassId) (dI : Nat → Nat → Nat) (h : Nat) (q : Nat → Nat) (g : Nat → ClassId) (hp : Nat) (qp : Nat → Nat) (gp : Nat → ClassId) (tq : Nat) (tg : ClassId) (tn : Nat) (tx : Nat → Int32) (sz : Nat) (I : MI) (A : MA) (M : MI) (MB : MA) (L : ML) (k1 : Int32) (r : Int32) (I' : MI) (A' : MA) (M' : MI) (MB' : MA) (L' : ML) (hf : f_D_find tn tx I A M MB L  k1 = some (0, r, I', A', M', MB', L')) : Met l y_D_find w_D_find ({ frames := 5, cells := 0, slots := 0, locals := 127 }) (va_Pc [.ref h, .int k1] (fun U => U.heap.size = sz ∧ va_P (dC, dI) vwCl (dw_W h q g hp qp gp tq tg tn tx I A M MB L) U.heap ∧ va_K (dC, dI) vwCl (dw_T h q g hp qp gp tq tg tn tx) U ∧ va_D (fun _ => True) (dw_W h q g hp qp gp tq tg tn tx I A M MB L))) (va_Qi (fun (r9 : Int32) (_ : Unit) => r9 = r) (fun (_ : Unit) t => va_P (dC, dI) vwCl (dw_W h q g hp qp gp tq tg tn tx I' A' M' MB' L') t.heap ∧ va_K (dC, dI) vwCl (dw_T h q g hp qp gp tq tg tn tx) t ∧ va_D (va_A (dw_W h q g hp qp gp tq tg tn tx I A M MB L) sz) (dw_W h q g hp qp gp tq tg tn tx I' A' M' MB' L')) (va_A (dw_W h q g hp qp gp tq tg tn tx I A M MB L) sz)) 0 0 (va_A (dw_W h q g hp qp gp tq tg tn tx I A M MB L) sz) := by
  refine Met.ofW (cc := prog_1_method_9_code) (maxL := 2) (ret := (some .int)) (by decide) rfl ?_
  intro p e s m args below meth c s₁ B hml hv
  obtain ⟨rfl, hsz, hP, hK, hD0⟩ := hv
  have hx := B.exec
  have hb := B.bytes
  have hr := B.returns
  have hts := atoms_spec (ws := w_D_find) B.pre
  have hown : s.vm.findClass "DraftTree" = some m.cls := findClass_of_methodNamed B.named
  have hlocks := B.notSynchronized
  subst hsz
  have hD := hD0.self (sz := s.heap.size)
  generalize hAe : va_A (dw_W h q g hp qp gp tq tg tn tx I A M MB L) s.heap.size = B9 at hD ⊢
  have hA : ∀ q : Nat, s.heap.size ≤ q → B9 q := fun q h => by rw [← hAe]; exact Or.inr h
  clear hAe
  have hS : va_S B9 s.heap s.heap [] := va_S.rf
  have hl := lv_entry ([.ref h, .int k1]) (n := 2) (Nat.le_of_ble_eq_true rfl)
  rw [lg_entry_eq]
  generalize (lg_sl ([.ref h, .int k1]) ++ List.replicate (2 - (lg_sl ([.ref h, .int k1])).length) Slot.unset).toArray = ls at hl ⊢
  have hl : lv_has ls 2 [(0, .ref h), (1, .int k1)] := hl
  unfold f_D_find at hf
  refine lv_aload_n hx hb d_D_find_0 rfl (lv_at hl 0 rfl) ?_
  refine va_get (D := (dC, dI)) (ci := 0) (v := .int (I 10)) (C := R_D) (T := F_D) (N := 14) hx hb hts (fun w h => List.mem_cons_of_mem _ (in_D w h)) hown hK hP 0 rfl rfl 10 (by decide) (hts _ (List.mem_cons_of_mem _ lk_430)) (fun _ h9 => h9) rfl d_D_find_1 ?_
  refine lv_if_ne (tgt := 15) hx hb d_D_find_4 (by decide) (fun hc1 => ?_) (fun hc1 => ?_)
  ·
    have hf := wk_iff hc1 hf
    refine lv_aload_n hx hb d_D_find_15 rfl (lv_at hl 0 rfl) ?_
    refine lv_iload_n hx hb d_D_find_16 rfl (lv_at hl 1 rfl) ?_
    have hPc := hP.sub (ws' := (dw_W h q g hp qp gp tq tg tn tx I A M MB L)) [0, 1, 2, 3, 4, 5, 6, 7, 8, 9, 10] rfl
    have hDc := hD.sub (ws' := (dw_W h q g hp qp gp tq tg tn tx I A M MB L)) [0, 1, 2, 3, 4, 5, 6, 7, 8, 9, 10] (by decide) rfl
    have hKc := hK.sub (tys' := (dw_T h q g hp qp gp tq tg tn tx)) [0, 1, 2, 3, 4, 5, 6, 7, 8] rfl
    have hFc := va_free (wc := (dw_W h q g hp qp gp tq tg tn tx I A M MB L)) hD hS hA [0, 1, 2, 3, 4, 5, 6, 7, 8, 9, 10] rfl
    cases hg1 : f_D_requirePlace tn tx I A M MB L k1 with
    | none => rw [hg1] at hf; cases hf
    | some z1 =>
      obtain ⟨tg1, r1, I1, A1, M1, MB1, L1⟩ := z1
      rw [hg1] at hf
      dsimp only [Option.bind_some] at hf
      by_cases ht1 : tg1 = 0
      ·
        have hf := wk_ift ht1 hf
        rw [ht1] at hg1
        refine va_callv (va_runV (As := [.int k1]) (rest := []) ⟨hx, hb, hml, hown, hts⟩ (cm_D_requirePlace l dC dI h q g hp qp gp tq tg tn tx _  I A M MB L k1 r1 I1 A1 M1 MB1 L1 hg1) (cwV 1 hts (gd_v lk_441 lk_442 lk_443 lk_444 lk_440) rfl rfl rfl (by decide +kernel) ⟨Nat.le_of_ble_eq_true rfl, Nat.le_of_ble_eq_true rfl⟩) ⟨fun a U g mk q => by obtain ⟨q0, q1, qP, qK, qD⟩ := q; exact ⟨q0, q1, qP, va_K.moved (u := U) (U := U.calling g mk a) (Vm.Alike.refl U.vm) qK, qD⟩, va_recv (ci := 0) (q0 := 0) hK hP rfl rfl, fun U hU hW => ⟨rfl, by rw [hU], by rw [hU]; exact hPc, va_K.moved hW.alike hKc, hDc.weaken (fun _ _ _ _ => trivial)⟩⟩ rfl rfl hl.1 rfl (lv_room (Nat.le_of_ble_eq_true rfl)) d_D_find_17 ⟨Nat.le_of_ble_eq_true rfl, Nat.le_of_ble_eq_true rfl⟩) hS (fun q _ h => hFc q h) hFc (fun u t H1 locs ht hvm hw hB hz1 hk1 hS => ?_)
        obtain ⟨hP1, hK1, hD1⟩ := hB
        rw [ht] at hP1
        obtain ⟨hP, hD⟩ := va_join (wr := (([] : List Nat).map (fun i => ((dw_W h q g hp qp gp tq tg tn tx I A M MB L)).getD i (0, .inr (0, []))))) (w1 := (dw_W h q g hp qp gp tq tg tn tx I1 A1 M1 MB1 L1)) hP hD [0, 1, 2, 3, 4, 5, 6, 7, 8, 9, 10] [] rfl rfl (by decide) (by decide) hk1 hFc hP1 hD1
        generalize H1 = H at hP hS ⊢
        have hP := hP.sub (ws' := (dw_W h q g hp qp gp tq tg tn tx I1 A1 M1 MB1 L1)) [0, 1, 2, 3, 4, 5, 6, 7, 8, 9, 10] rfl
        have hD := hD.sub (ws' := (dw_W h q g hp qp gp tq tg tn tx I1 A1 M1 MB1 L1)) [0, 1, 2, 3, 4, 5, 6, 7, 8, 9, 10] (by decide) rfl
        refine lv_aload_n hx hb d_D_find_20 rfl (lv_at hl 0 rfl) ?_
        refine va_get (D := (dC, dI)) (ci := 0) (v := .ref hp) (C := R_D) (T := F_D) (N := 14) hx hb hts (fun w h => List.mem_cons_of_mem _ (in_D w h)) hown hK hP 0 rfl rfl 9 (by decide) (hts _ (List.mem_cons_of_mem _ lk_246)) (fun _ h9 => h9) rfl d_D_find_21 ?_
        refine lv_aload_n hx hb d_D_find_24 rfl (lv_at hl 0 rfl) ?_
        refine va_get (D := (dC, dI)) (ci := 0) (v := .ref tq) (C := R_D) (T := F_D) (N := 14) hx hb hts (fun w h => List.mem_cons_of_mem _ (in_D w h)) hown hK hP 0 rfl rfl 5 (by decide) (hts _ (List.mem_cons_of_mem _ lk_241)) (fun _ h9 => h9) rfl d_D_find_25 ?_
        refine lv_iload_n hx hb d_D_find_28 rfl (lv_at hl 1 rfl) ?_
        have hPc := hP.sub (ws' := (at_W hp qp gp tq tg tn tx M1 MB1 L1)) [4, 5, 6, 7, 8, 9, 10] rfl
        have hDc := hD.sub (ws' := (at_W hp qp gp tq tg tn tx M1 MB1 L1)) [4, 5, 6, 7, 8, 9, 10] (by decide) rfl
        have hKc := hK.sub (tys' := (at_T hp qp gp tq tg tn tx)) [3, 4, 5, 6, 7, 8] rfl
        have hFc := va_free (wc := (at_W hp qp gp tq tg tn tx M1 MB1 L1)) hD hS hA [4, 5, 6, 7, 8, 9, 10] rfl
        cases hg2 : f_A_seek tn tx M1 MB1 L1 k1 with
        | none => rw [hg2] at hf; cases hf
        | some z2 =>
          obtain ⟨r2, M2, MB2, L2⟩ := z2
          rw [hg2] at hf
          dsimp only [Option.bind_some] at hf
          refine va_calli (va_runV (As := [.ref tq, .int k1]) (rest := []) ⟨hx, hb, hml, hown, hts⟩ (cm_A_seek l dC dI hp qp gp tq tg tn tx _  M1 MB1 L1 k1 r2 M2 MB2 L2 hg2) (cwV 2 hts (gd_v lk_302 lk_303 lk_304 lk_273 lk_301) rfl rfl rfl (by decide +kernel) ⟨Nat.le_of_ble_eq_true rfl, Nat.le_of_ble_eq_true rfl⟩) ⟨fun a U g mk q => by obtain ⟨q0, q1, qP, qK, qD⟩ := q; exact ⟨q0, q1, qP, va_K.moved (u := U) (U := U.calling g mk a) (Vm.Alike.refl U.vm) qK, qD⟩, va_recv (ci := 3) (q0 := 4) hK hP rfl rfl, fun U hU hW => ⟨rfl, by rw [hU], by rw [hU]; exact hPc, va_K.moved hW.alike hKc, hDc.weaken (fun _ _ _ _ => trivial)⟩⟩ rfl rfl hl.1 rfl (lv_room (Nat.le_of_ble_eq_true rfl)) d_D_find_29 ⟨Nat.le_of_ble_eq_true rfl, Nat.le_of_ble_eq_true rfl⟩) hS (fun q _ h => hFc q h) hFc (fun r9 u t H1 locs ht hvm hw hB hz1 hk1 hS => ?_)
          obtain ⟨hP1, hK1, hD1⟩ := hB
          rw [ht] at hP1
          rw [hw]
          obtain ⟨hP, hD⟩ := va_join (wr := (([0, 1, 2, 3] : List Nat).map (fun i => ((dw_W h q g hp qp gp tq tg tn tx I1 A1 M1 MB1 L1)).getD i (0, .inr (0, []))))) (w1 := (at_W hp qp gp tq tg tn tx M2 MB2 L2)) hP hD [4, 5, 6, 7, 8, 9, 10] [0, 1, 2, 3] rfl rfl (by decide) (by decide) hk1 hFc hP1 hD1
          generalize H1 = H at hP hS ⊢
          have hP := hP.sub (ws' := (dw_W h q g hp qp gp tq tg tn tx I1 A1 M2 MB2 L2)) [0, 1, 2, 3, 4, 5, 6, 7, 8, 9, 10] rfl
          have hD := hD.sub (ws' := (dw_W h q g hp qp gp tq tg tn tx I1 A1 M2 MB2 L2)) [0, 1, 2, 3, 4, 5, 6, 7, 8, 9, 10] (by decide) rfl
          refine lv_if_ne (tgt := 43) hx hb d_D_find_32 (by decide) (fun hc2 => ?_) (fun hc2 => ?_)
          ·
            have hf := wk_iff hc2 hf
            refine lv_aload_n hx hb d_D_find_43 rfl (lv_at hl 0 rfl) ?_
            refine lv_aload_n hx hb d_D_find_44 rfl (lv_at hl 0 rfl) ?_
            refine va_get (D := (dC, dI)) (ci := 0) (v := .ref hp) (C := R_D) (T := F_D) (N := 14) hx hb hts (fun w h => List.mem_cons_of_mem _ (in_D w h)) hown hK hP 0 rfl rfl 9 (by decide) (hts _ (List.mem_cons_of_mem _ lk_246)) (fun _ h9 => h9) rfl d_D_find_45 ?_
            refine va_get (D := (dC, dI)) (ci := 3) (v := .int (M2 8)) (C := R_A) (T := F_A) (N := 10) hx hb hts (fun w h => List.mem_cons_of_mem _ (in_A w h)) hown hK hP 4 rfl rfl 8 (by decide) (hts _ (List.mem_cons_of_mem _ lk_306)) (fun _ h9 => h9) rfl d_D_find_48 ?_
            refine va_put (D := (dC, dI)) (ci := 0) (v := .int (M2 8)) (ty := .int) (C := R_D) (T := F_D) (N := 14) hx hb hts (fun w h => List.mem_cons_of_mem _ (in_D w h)) t_D tk_D n_D hown hK hP hD hS 0 rfl rfl 7 (by decide) (hts _ (List.mem_cons_of_mem _ lk_438)) (fun _ h9 => h9) rfl (by decide +kernel) rfl rfl (Nat.le_of_ble_eq_true rfl) d_D_find_51 (fun H locs hP hD hS => ?_)
            obtain ⟨I3, hI3, hf⟩ := wk_letE hf
            have hP : va_P (dC, dI) vwCl (dw_W h q g hp qp gp tq tg tn tx I3 A1 M2 MB2 L2) H := by rw [hI3]; exact hP
            have hD : va_D B9 (dw_W h q g hp qp gp tq tg tn tx I3 A1 M2 MB2 L2) := by rw [hI3]; exact hD
            clear hI3
            refine lv_aload_n hx hb d_D_find_54 rfl (lv_at hl 0 rfl) ?_
            refine lv_aload_n hx hb d_D_find_55 rfl (lv_at hl 0 rfl) ?_
            refine va_get (D := (dC, dI)) (ci := 0) (v := .ref hp) (C := R_D) (T := F_D) (N := 14) hx hb hts (fun w h => List.mem_cons_of_mem _ (in_D w h)) hown hK hP 0 rfl rfl 9 (by decide) (hts _ (List.mem_cons_of_mem _ lk_246)) (fun _ h9 => h9) rfl d_D_find_56 ?_
            refine va_get (D := (dC, dI)) (ci := 3) (v := .int (M2 9)) (C := R_A) (T := F_A) (N := 10) hx hb hts (fun w h => List.mem_cons_of_mem _ (in_A w h)) hown hK hP 4 rfl rfl 9 (by decide) (hts _ (List.mem_cons_of_mem _ lk_308)) (fun _ h9 => h9) rfl d_D_find_59 ?_
            refine va_put (D := (dC, dI)) (ci := 0) (v := .int (M2 9)) (ty := .int) (C := R_D) (T := F_D) (N := 14) hx hb hts (fun w h => List.mem_cons_of_mem _ (in_D w h)) t_D tk_D n_D hown hK hP hD hS 0 rfl rfl 6 (by decide) (hts _ (List.mem_cons_of_mem _ lk_437)) (fun _ h9 => h9) rfl (by decide +kernel) rfl rfl (Nat.le_of_ble_eq_true rfl) d_D_find_62 (fun H locs hP hD hS => ?_)
            obtain ⟨I4, hI4, hf⟩ := wk_letE hf
            have hP : va_P (dC, dI) vwCl (dw_W h q g hp qp gp tq tg tn tx I4 A1 M2 MB2 L2) H := by rw [hI4]; exact hP
            have hD : va_D B9 (dw_W h q g hp qp gp tq tg tn tx I4 A1 M2 MB2 L2) := by rw [hI4]; exact hD
            clear hI4
            refine lv_aload_n hx hb d_D_find_65 rfl (lv_at hl 0 rfl) ?_
            refine va_get (D := (dC, dI)) (ci := 0) (v := .int (I4 7)) (C := R_D) (T := F_D) (N := 14) hx hb hts (fun w h => List.mem_cons_of_mem _ (in_D w h)) hown hK hP 0 rfl rfl 7 (by decide) (hts _ (List.mem_cons_of_mem _ lk_438)) (fun _ h9 => h9) rfl d_D_find_66 ?_
            obtain ⟨e0, e1, e2, e3, e4, e5, e6⟩ := wk_inj6 hf
            subst e1
            subst e2
            subst e3
            subst e4
            subst e5
            subst e6
            exact W.iret (v := (I4 7)) hx hb hr (fun t ht hW => ⟨⟨(I4 7), (), rfl, rfl, by rw [ht]; exact hP, va_K.moved hW.alike hK, hD⟩, hS.F ht⟩) hS.2.2 d_D_find_69
          ·
            have hf := wk_ift hc2 hf
            exact (wk_tag (by decide) hf).elim
      ·
        have hf := wk_iff ht1 hf
        by_cases hq1_2 : tg1 = 2
        ·
          have hf := wk_ift hq1_2 hf
          exact (wk_tag (by decide) hf).elim
        ·
          have hf := wk_iff hq1_2 hf
          cases hf
  ·
    have hf := wk_ift hc1 hf
    exact (wk_tag (by decide) hf).elim
set_option maxHeartbeats 8000000 in
set_option maxRecDepth 100000 in
theorem ct_D_find_1 (l : Launch) (hfl : l.flags = flags0) (dC : Nat → ClassId) (dI : Nat → Nat → Nat) (h : Nat) (q : Nat → Nat) (g : Nat → ClassId) (hp : Nat) (qp : Nat → Nat) (gp : Nat → ClassId) (tq : Nat) (tg : ClassId) (tn : Nat) (tx : Nat → Int32) (sz : Nat) (I : MI) (A : MA) (M : MI) (MB : MA) (L : ML) (k1 : Int32) (r : Int32) (I' : MI) (A' : MA) (M' : MI) (MB' : MA) (L' : ML) (hf : f_D_find tn tx I A M MB L  k1 = some (1, r, I', A', M', MB', L')) : th_Met l y_D_find w_D_find ({ frames := 7, cells := 1, slots := 6, locals := 127 }) (va_Pc [.ref h, .int k1] (fun U => U.heap.size = sz ∧ va_P (dC, dI) vwCl (dw_W h q g hp qp gp tq tg tn tx I A M MB L) U.heap ∧ va_K (dC, dI) vwCl (dw_T h q g hp qp gp tq tg tn tx) U ∧ va_D (fun _ => True) (dw_W h q g hp qp gp tq tg tn tx I A M MB L) ∧ th_ZA (va_A (dw_W h q g hp qp gp tq tg tn tx I A M MB L) sz) U)) (th_Qw "java/lang/IllegalStateException" (fun t => va_P (dC, dI) vwCl (dw_W h q g hp qp gp tq tg tn tx I' A' M' MB' L') t.heap ∧ va_K (dC, dI) vwCl (dw_T h q g hp qp gp tq tg tn tx) t ∧ va_D (va_A (dw_W h q g hp qp gp tq tg tn tx I A M MB L) sz) (dw_W h q g hp qp gp tq tg tn tx I' A' M' MB' L')) (va_A (dw_W h q g hp qp gp tq tg tn tx I A M MB L) sz)) 1 6 (va_A (dw_W h q g hp qp gp tq tg tn tx I A M MB L) sz) := by
  refine th_Met.ofW (cc := prog_1_method_9_code) (maxL := 2) (ret := (some .int)) (by decide) rfl ?_
  intro p e s m args below meth c s₁ B hml hnh hv
  obtain ⟨rfl, hsz, hP, hK, hD0, hZ⟩ := hv
  have hx := B.exec
  have hb := B.bytes
  have hr := B.returns
  have hts := atoms_spec (ws := w_D_find) B.pre
  have hown : s.vm.findClass "DraftTree" = some m.cls := findClass_of_methodNamed B.named
  have hlocks := B.notSynchronized
  have htr := Launch.traces_off hfl B.admits
  subst hsz
  have hD := hD0.self (sz := s.heap.size)
  generalize hAe : va_A (dw_W h q g hp qp gp tq tg tn tx I A M MB L) s.heap.size = B9 at hD hZ ⊢
  have hA : ∀ q : Nat, s.heap.size ≤ q → B9 q := fun q h => by rw [← hAe]; exact Or.inr h
  clear hAe
  have hS : va_S B9 s.heap s.heap [] := va_S.rf
  have hl := lv_entry ([.ref h, .int k1]) (n := 2) (Nat.le_of_ble_eq_true rfl)
  rw [lg_entry_eq]
  generalize (lg_sl ([.ref h, .int k1]) ++ List.replicate (2 - (lg_sl ([.ref h, .int k1])).length) Slot.unset).toArray = ls at hl ⊢
  have hl : lv_has ls 2 [(0, .ref h), (1, .int k1)] := hl
  unfold f_D_find at hf
  refine lv_aload_n hx hb d_D_find_0 rfl (lv_at hl 0 rfl) ?_
  refine va_get (D := (dC, dI)) (ci := 0) (v := .int (I 10)) (C := R_D) (T := F_D) (N := 14) hx hb hts (fun w h => List.mem_cons_of_mem _ (in_D w h)) hown hK hP 0 rfl rfl 10 (by decide) (hts _ (List.mem_cons_of_mem _ lk_430)) (fun _ h9 => h9) rfl d_D_find_1 ?_
  refine lv_if_ne (tgt := 15) hx hb d_D_find_4 (by decide) (fun hc1 => ?_) (fun hc1 => ?_)
  ·
    have hf := wk_iff hc1 hf
    refine lv_aload_n hx hb d_D_find_15 rfl (lv_at hl 0 rfl) ?_
    refine lv_iload_n hx hb d_D_find_16 rfl (lv_at hl 1 rfl) ?_
    have hPc := hP.sub (ws' := (dw_W h q g hp qp gp tq tg tn tx I A M MB L)) [0, 1, 2, 3, 4, 5, 6, 7, 8, 9, 10] rfl
    have hDc := hD.sub (ws' := (dw_W h q g hp qp gp tq tg tn tx I A M MB L)) [0, 1, 2, 3, 4, 5, 6, 7, 8, 9, 10] (by decide) rfl
    have hKc := hK.sub (tys' := (dw_T h q g hp qp gp tq tg tn tx)) [0, 1, 2, 3, 4, 5, 6, 7, 8] rfl
    have hFc := va_free (wc := (dw_W h q g hp qp gp tq tg tn tx I A M MB L)) hD hS hA [0, 1, 2, 3, 4, 5, 6, 7, 8, 9, 10] rfl
    cases hg1 : f_D_requirePlace tn tx I A M MB L k1 with
    | none => rw [hg1] at hf; cases hf
    | some z1 =>
      obtain ⟨tg1, r1, I1, A1, M1, MB1, L1⟩ := z1
      rw [hg1] at hf
      dsimp only [Option.bind_some] at hf
      by_cases ht1 : tg1 = 0
      ·
        have hf := wk_ift ht1 hf
        rw [ht1] at hg1
        refine va_callv (va_runV (As := [.int k1]) (rest := []) ⟨hx, hb, hml, hown, hts⟩ (cm_D_requirePlace l dC dI h q g hp qp gp tq tg tn tx _  I A M MB L k1 r1 I1 A1 M1 MB1 L1 hg1) (cwV 1 hts (gd_v lk_441 lk_442 lk_443 lk_444 lk_440) rfl rfl rfl (by decide +kernel) ⟨Nat.le_of_ble_eq_true rfl, Nat.le_of_ble_eq_true rfl⟩) ⟨fun a U g mk q => by obtain ⟨q0, q1, qP, qK, qD⟩ := q; exact ⟨q0, q1, qP, va_K.moved (u := U) (U := U.calling g mk a) (Vm.Alike.refl U.vm) qK, qD⟩, va_recv (ci := 0) (q0 := 0) hK hP rfl rfl, fun U hU hW => ⟨rfl, by rw [hU], by rw [hU]; exact hPc, va_K.moved hW.alike hKc, hDc.weaken (fun _ _ _ _ => trivial)⟩⟩ rfl rfl hl.1 rfl (lv_room (Nat.le_of_ble_eq_true rfl)) d_D_find_17 ⟨Nat.le_of_ble_eq_true rfl, Nat.le_of_ble_eq_true rfl⟩) hS (fun q _ h => hFc q h) hFc (fun u t H1 locs ht hvm hw hB hz1 hk1 hS => ?_)
        obtain ⟨hP1, hK1, hD1⟩ := hB
        rw [ht] at hP1
        obtain ⟨hP, hD⟩ := va_join (wr := (([] : List Nat).map (fun i => ((dw_W h q g hp qp gp tq tg tn tx I A M MB L)).getD i (0, .inr (0, []))))) (w1 := (dw_W h q g hp qp gp tq tg tn tx I1 A1 M1 MB1 L1)) hP hD [0, 1, 2, 3, 4, 5, 6, 7, 8, 9, 10] [] rfl rfl (by decide) (by decide) hk1 hFc hP1 hD1
        generalize H1 = H at hP hS ⊢
        have hP := hP.sub (ws' := (dw_W h q g hp qp gp tq tg tn tx I1 A1 M1 MB1 L1)) [0, 1, 2, 3, 4, 5, 6, 7, 8, 9, 10] rfl
        have hD := hD.sub (ws' := (dw_W h q g hp qp gp tq tg tn tx I1 A1 M1 MB1 L1)) [0, 1, 2, 3, 4, 5, 6, 7, 8, 9, 10] (by decide) rfl
        refine lv_aload_n hx hb d_D_find_20 rfl (lv_at hl 0 rfl) ?_
        refine va_get (D := (dC, dI)) (ci := 0) (v := .ref hp) (C := R_D) (T := F_D) (N := 14) hx hb hts (fun w h => List.mem_cons_of_mem _ (in_D w h)) hown hK hP 0 rfl rfl 9 (by decide) (hts _ (List.mem_cons_of_mem _ lk_246)) (fun _ h9 => h9) rfl d_D_find_21 ?_
        refine lv_aload_n hx hb d_D_find_24 rfl (lv_at hl 0 rfl) ?_
        refine va_get (D := (dC, dI)) (ci := 0) (v := .ref tq) (C := R_D) (T := F_D) (N := 14) hx hb hts (fun w h => List.mem_cons_of_mem _ (in_D w h)) hown hK hP 0 rfl rfl 5 (by decide) (hts _ (List.mem_cons_of_mem _ lk_241)) (fun _ h9 => h9) rfl d_D_find_25 ?_
        refine lv_iload_n hx hb d_D_find_28 rfl (lv_at hl 1 rfl) ?_
        have hPc := hP.sub (ws' := (at_W hp qp gp tq tg tn tx M1 MB1 L1)) [4, 5, 6, 7, 8, 9, 10] rfl
        have hDc := hD.sub (ws' := (at_W hp qp gp tq tg tn tx M1 MB1 L1)) [4, 5, 6, 7, 8, 9, 10] (by decide) rfl
        have hKc := hK.sub (tys' := (at_T hp qp gp tq tg tn tx)) [3, 4, 5, 6, 7, 8] rfl
        have hFc := va_free (wc := (at_W hp qp gp tq tg tn tx M1 MB1 L1)) hD hS hA [4, 5, 6, 7, 8, 9, 10] rfl
        cases hg2 : f_A_seek tn tx M1 MB1 L1 k1 with
        | none => rw [hg2] at hf; cases hf
        | some z2 =>
          obtain ⟨r2, M2, MB2, L2⟩ := z2
          rw [hg2] at hf
          dsimp only [Option.bind_some] at hf
          refine va_calli (va_runV (As := [.ref tq, .int k1]) (rest := []) ⟨hx, hb, hml, hown, hts⟩ (cm_A_seek l dC dI hp qp gp tq tg tn tx _  M1 MB1 L1 k1 r2 M2 MB2 L2 hg2) (cwV 2 hts (gd_v lk_302 lk_303 lk_304 lk_273 lk_301) rfl rfl rfl (by decide +kernel) ⟨Nat.le_of_ble_eq_true rfl, Nat.le_of_ble_eq_true rfl⟩) ⟨fun a U g mk q => by obtain ⟨q0, q1, qP, qK, qD⟩ := q; exact ⟨q0, q1, qP, va_K.moved (u := U) (U := U.calling g mk a) (Vm.Alike.refl U.vm) qK, qD⟩, va_recv (ci := 3) (q0 := 4) hK hP rfl rfl, fun U hU hW => ⟨rfl, by rw [hU], by rw [hU]; exact hPc, va_K.moved hW.alike hKc, hDc.weaken (fun _ _ _ _ => trivial)⟩⟩ rfl rfl hl.1 rfl (lv_room (Nat.le_of_ble_eq_true rfl)) d_D_find_29 ⟨Nat.le_of_ble_eq_true rfl, Nat.le_of_ble_eq_true rfl⟩) hS (fun q _ h => hFc q h) hFc (fun r9 u t H1 locs ht hvm hw hB hz1 hk1 hS => ?_)
          obtain ⟨hP1, hK1, hD1⟩ := hB
          rw [ht] at hP1
          rw [hw]
          obtain ⟨hP, hD⟩ := va_join (wr := (([0, 1, 2, 3] : List Nat).map (fun i => ((dw_W h q g hp qp gp tq tg tn tx I1 A1 M1 MB1 L1)).getD i (0, .inr (0, []))))) (w1 := (at_W hp qp gp tq tg tn tx M2 MB2 L2)) hP hD [4, 5, 6, 7, 8, 9, 10] [0, 1, 2, 3] rfl rfl (by decide) (by decide) hk1 hFc hP1 hD1
          generalize H1 = H at hP hS ⊢
          have hP := hP.sub (ws' := (dw_W h q g hp qp gp tq tg tn tx I1 A1 M2 MB2 L2)) [0, 1, 2, 3, 4, 5, 6, 7, 8, 9, 10] rfl
          have hD := hD.sub (ws' := (dw_W h q g hp qp gp tq tg tn tx I1 A1 M2 MB2 L2)) [0, 1, 2, 3, 4, 5, 6, 7, 8, 9, 10] (by decide) rfl
          refine lv_if_ne (tgt := 43) hx hb d_D_find_32 (by decide) (fun hc2 => ?_) (fun hc2 => ?_)
          ·
            have hf := wk_iff hc2 hf
            refine lv_aload_n hx hb d_D_find_43 rfl (lv_at hl 0 rfl) ?_
            refine lv_aload_n hx hb d_D_find_44 rfl (lv_at hl 0 rfl) ?_
            refine va_get (D := (dC, dI)) (ci := 0) (v := .ref hp) (C := R_D) (T := F_D) (N := 14) hx hb hts (fun w h => List.mem_cons_of_mem _ (in_D w h)) hown hK hP 0 rfl rfl 9 (by decide) (hts _ (List.mem_cons_of_mem _ lk_246)) (fun _ h9 => h9) rfl d_D_find_45 ?_
            refine va_get (D := (dC, dI)) (ci := 3) (v := .int (M2 8)) (C := R_A) (T := F_A) (N := 10) hx hb hts (fun w h => List.mem_cons_of_mem _ (in_A w h)) hown hK hP 4 rfl rfl 8 (by decide) (hts _ (List.mem_cons_of_mem _ lk_306)) (fun _ h9 => h9) rfl d_D_find_48 ?_
            refine va_put (D := (dC, dI)) (ci := 0) (v := .int (M2 8)) (ty := .int) (C := R_D) (T := F_D) (N := 14) hx hb hts (fun w h => List.mem_cons_of_mem _ (in_D w h)) t_D tk_D n_D hown hK hP hD hS 0 rfl rfl 7 (by decide) (hts _ (List.mem_cons_of_mem _ lk_438)) (fun _ h9 => h9) rfl (by decide +kernel) rfl rfl (Nat.le_of_ble_eq_true rfl) d_D_find_51 (fun H locs hP hD hS => ?_)
            obtain ⟨I3, hI3, hf⟩ := wk_letE hf
            have hP : va_P (dC, dI) vwCl (dw_W h q g hp qp gp tq tg tn tx I3 A1 M2 MB2 L2) H := by rw [hI3]; exact hP
            have hD : va_D B9 (dw_W h q g hp qp gp tq tg tn tx I3 A1 M2 MB2 L2) := by rw [hI3]; exact hD
            clear hI3
            refine lv_aload_n hx hb d_D_find_54 rfl (lv_at hl 0 rfl) ?_
            refine lv_aload_n hx hb d_D_find_55 rfl (lv_at hl 0 rfl) ?_
            refine va_get (D := (dC, dI)) (ci := 0) (v := .ref hp) (C := R_D) (T := F_D) (N := 14) hx hb hts (fun w h => List.mem_cons_of_mem _ (in_D w h)) hown hK hP 0 rfl rfl 9 (by decide) (hts _ (List.mem_cons_of_mem _ lk_246)) (fun _ h9 => h9) rfl d_D_find_56 ?_
            refine va_get (D := (dC, dI)) (ci := 3) (v := .int (M2 9)) (C := R_A) (T := F_A) (N := 10) hx hb hts (fun w h => List.mem_cons_of_mem _ (in_A w h)) hown hK hP 4 rfl rfl 9 (by decide) (hts _ (List.mem_cons_of_mem _ lk_308)) (fun _ h9 => h9) rfl d_D_find_59 ?_
            refine va_put (D := (dC, dI)) (ci := 0) (v := .int (M2 9)) (ty := .int) (C := R_D) (T := F_D) (N := 14) hx hb hts (fun w h => List.mem_cons_of_mem _ (in_D w h)) t_D tk_D n_D hown hK hP hD hS 0 rfl rfl 6 (by decide) (hts _ (List.mem_cons_of_mem _ lk_437)) (fun _ h9 => h9) rfl (by decide +kernel) rfl rfl (Nat.le_of_ble_eq_true rfl) d_D_find_62 (fun H locs hP hD hS => ?_)
            obtain ⟨I4, hI4, hf⟩ := wk_letE hf
            have hP : va_P (dC, dI) vwCl (dw_W h q g hp qp gp tq tg tn tx I4 A1 M2 MB2 L2) H := by rw [hI4]; exact hP
            have hD : va_D B9 (dw_W h q g hp qp gp tq tg tn tx I4 A1 M2 MB2 L2) := by rw [hI4]; exact hD
            clear hI4
            refine lv_aload_n hx hb d_D_find_65 rfl (lv_at hl 0 rfl) ?_
            refine va_get (D := (dC, dI)) (ci := 0) (v := .int (I4 7)) (C := R_D) (T := F_D) (N := 14) hx hb hts (fun w h => List.mem_cons_of_mem _ (in_D w h)) hown hK hP 0 rfl rfl 7 (by decide) (hts _ (List.mem_cons_of_mem _ lk_438)) (fun _ h9 => h9) rfl d_D_find_66 ?_
            exact (wk_tag (by decide) hf).elim
          ·
            have hf := wk_ift hc2 hf
            exact (wk_tag (by decide) hf).elim
      ·
        have hf := wk_iff ht1 hf
        by_cases hq1_2 : tg1 = 2
        ·
          have hf := wk_ift hq1_2 hf
          exact (wk_tag (by decide) hf).elim
        ·
          have hf := wk_iff hq1_2 hf
          cases hf
  ·
    have hf := wk_ift hc1 hf
    obtain ⟨e0, e1, e2, e3, e4, e5, e6⟩ := wk_inj6 hf
    subst e1
    subst e2
    subst e3
    subst e4
    subst e5
    subst e6
    exact th_newG hx hb htr hown (by decide) (by decide) (wk_thr hts hZ hS lk_445 lk_446 (fun _ a9 b9 => oa_2 a9 b9)) hnh (by rw [hl.1, hml]) hS (Nat.le_of_ble_eq_true rfl) (Nat.le_of_ble_eq_true rfl) (Nat.le_of_ble_eq_true rfl) (Nat.le_of_ble_eq_true rfl) (Nat.le_of_ble_eq_true rfl) (Nat.le_of_ble_eq_true rfl) hlocks (fun t hal hk => ⟨hP.kept (fun k q hq => hk _ (hP k q hq).lt), va_K.moved hal hK, hD⟩) d_D_find_7 d_D_find_10 d_D_find_11 d_D_find_14
set_option maxHeartbeats 8000000 in
set_option maxRecDepth 100000 in
theorem ct_D_find_2 (l : Launch) (hfl : l.flags = flags0) (dC : Nat → ClassId) (dI : Nat → Nat → Nat) (h : Nat) (q : Nat → Nat) (g : Nat → ClassId) (hp : Nat) (qp : Nat → Nat) (gp : Nat → ClassId) (tq : Nat) (tg : ClassId) (tn : Nat) (tx : Nat → Int32) (sz : Nat) (I : MI) (A : MA) (M : MI) (MB : MA) (L : ML) (k1 : Int32) (r : Int32) (I' : MI) (A' : MA) (M' : MI) (MB' : MA) (L' : ML) (hf : f_D_find tn tx I A M MB L  k1 = some (2, r, I', A', M', MB', L')) : th_Met l y_D_find w_D_find ({ frames := 7, cells := 1, slots := 6, locals := 127 }) (va_Pc [.ref h, .int k1] (fun U => U.heap.size = sz ∧ va_P (dC, dI) vwCl (dw_W h q g hp qp gp tq tg tn tx I A M MB L) U.heap ∧ va_K (dC, dI) vwCl (dw_T h q g hp qp gp tq tg tn tx) U ∧ va_D (fun _ => True) (dw_W h q g hp qp gp tq tg tn tx I A M MB L) ∧ th_ZA (va_A (dw_W h q g hp qp gp tq tg tn tx I A M MB L) sz) U)) (th_Qw "java/lang/IndexOutOfBoundsException" (fun t => va_P (dC, dI) vwCl (dw_W h q g hp qp gp tq tg tn tx I' A' M' MB' L') t.heap ∧ va_K (dC, dI) vwCl (dw_T h q g hp qp gp tq tg tn tx) t ∧ va_D (va_A (dw_W h q g hp qp gp tq tg tn tx I A M MB L) sz) (dw_W h q g hp qp gp tq tg tn tx I' A' M' MB' L')) (va_A (dw_W h q g hp qp gp tq tg tn tx I A M MB L) sz)) 1 6 (va_A (dw_W h q g hp qp gp tq tg tn tx I A M MB L) sz) := by
  refine th_Met.ofW (cc := prog_1_method_9_code) (maxL := 2) (ret := (some .int)) (by decide) rfl ?_
  intro p e s m args below meth c s₁ B hml hnh hv
  obtain ⟨rfl, hsz, hP, hK, hD0, hZ⟩ := hv
  have hx := B.exec
  have hb := B.bytes
  have hr := B.returns
  have hts := atoms_spec (ws := w_D_find) B.pre
  have hown : s.vm.findClass "DraftTree" = some m.cls := findClass_of_methodNamed B.named
  have hlocks := B.notSynchronized
  have htr := Launch.traces_off hfl B.admits
  subst hsz
  have hD := hD0.self (sz := s.heap.size)
  generalize hAe : va_A (dw_W h q g hp qp gp tq tg tn tx I A M MB L) s.heap.size = B9 at hD hZ ⊢
  have hA : ∀ q : Nat, s.heap.size ≤ q → B9 q := fun q h => by rw [← hAe]; exact Or.inr h
  clear hAe
  have hS : va_S B9 s.heap s.heap [] := va_S.rf
  have hl := lv_entry ([.ref h, .int k1]) (n := 2) (Nat.le_of_ble_eq_true rfl)
  rw [lg_entry_eq]
  generalize (lg_sl ([.ref h, .int k1]) ++ List.replicate (2 - (lg_sl ([.ref h, .int k1])).length) Slot.unset).toArray = ls at hl ⊢
  have hl : lv_has ls 2 [(0, .ref h), (1, .int k1)] := hl
  unfold f_D_find at hf
  refine lv_aload_n hx hb d_D_find_0 rfl (lv_at hl 0 rfl) ?_
  refine va_get (D := (dC, dI)) (ci := 0) (v := .int (I 10)) (C := R_D) (T := F_D) (N := 14) hx hb hts (fun w h => List.mem_cons_of_mem _ (in_D w h)) hown hK hP 0 rfl rfl 10 (by decide) (hts _ (List.mem_cons_of_mem _ lk_430)) (fun _ h9 => h9) rfl d_D_find_1 ?_
  refine lv_if_ne (tgt := 15) hx hb d_D_find_4 (by decide) (fun hc1 => ?_) (fun hc1 => ?_)
  ·
    have hf := wk_iff hc1 hf
    refine lv_aload_n hx hb d_D_find_15 rfl (lv_at hl 0 rfl) ?_
    refine lv_iload_n hx hb d_D_find_16 rfl (lv_at hl 1 rfl) ?_
    have hPc := hP.sub (ws' := (dw_W h q g hp qp gp tq tg tn tx I A M MB L)) [0, 1, 2, 3, 4, 5, 6, 7, 8, 9, 10] rfl
    have hDc := hD.sub (ws' := (dw_W h q g hp qp gp tq tg tn tx I A M MB L)) [0, 1, 2, 3, 4, 5, 6, 7, 8, 9, 10] (by decide) rfl
    have hKc := hK.sub (tys' := (dw_T h q g hp qp gp tq tg tn tx)) [0, 1, 2, 3, 4, 5, 6, 7, 8] rfl
    have hFc := va_free (wc := (dw_W h q g hp qp gp tq tg tn tx I A M MB L)) hD hS hA [0, 1, 2, 3, 4, 5, 6, 7, 8, 9, 10] rfl
    cases hg1 : f_D_requirePlace tn tx I A M MB L k1 with
    | none => rw [hg1] at hf; cases hf
    | some z1 =>
      obtain ⟨tg1, r1, I1, A1, M1, MB1, L1⟩ := z1
      rw [hg1] at hf
      dsimp only [Option.bind_some] at hf
      by_cases ht1 : tg1 = 0
      ·
        have hf := wk_ift ht1 hf
        rw [ht1] at hg1
        refine va_callv (va_runV (As := [.int k1]) (rest := []) ⟨hx, hb, hml, hown, hts⟩ (cm_D_requirePlace l dC dI h q g hp qp gp tq tg tn tx _  I A M MB L k1 r1 I1 A1 M1 MB1 L1 hg1) (cwV 1 hts (gd_v lk_441 lk_442 lk_443 lk_444 lk_440) rfl rfl rfl (by decide +kernel) ⟨Nat.le_of_ble_eq_true rfl, Nat.le_of_ble_eq_true rfl⟩) ⟨fun a U g mk q => by obtain ⟨q0, q1, qP, qK, qD⟩ := q; exact ⟨q0, q1, qP, va_K.moved (u := U) (U := U.calling g mk a) (Vm.Alike.refl U.vm) qK, qD⟩, va_recv (ci := 0) (q0 := 0) hK hP rfl rfl, fun U hU hW => ⟨rfl, by rw [hU], by rw [hU]; exact hPc, va_K.moved hW.alike hKc, hDc.weaken (fun _ _ _ _ => trivial)⟩⟩ rfl rfl hl.1 rfl (lv_room (Nat.le_of_ble_eq_true rfl)) d_D_find_17 ⟨Nat.le_of_ble_eq_true rfl, Nat.le_of_ble_eq_true rfl⟩) hS (fun q _ h => hFc q h) hFc (fun u t H1 locs ht hvm hw hB hz1 hk1 hS => ?_)
        obtain ⟨hP1, hK1, hD1⟩ := hB
        rw [ht] at hP1
        obtain ⟨hP, hD⟩ := va_join (wr := (([] : List Nat).map (fun i => ((dw_W h q g hp qp gp tq tg tn tx I A M MB L)).getD i (0, .inr (0, []))))) (w1 := (dw_W h q g hp qp gp tq tg tn tx I1 A1 M1 MB1 L1)) hP hD [0, 1, 2, 3, 4, 5, 6, 7, 8, 9, 10] [] rfl rfl (by decide) (by decide) hk1 hFc hP1 hD1
        generalize H1 = H at hP hS ⊢
        have hP := hP.sub (ws' := (dw_W h q g hp qp gp tq tg tn tx I1 A1 M1 MB1 L1)) [0, 1, 2, 3, 4, 5, 6, 7, 8, 9, 10] rfl
        have hD := hD.sub (ws' := (dw_W h q g hp qp gp tq tg tn tx I1 A1 M1 MB1 L1)) [0, 1, 2, 3, 4, 5, 6, 7, 8, 9, 10] (by decide) rfl
        refine lv_aload_n hx hb d_D_find_20 rfl (lv_at hl 0 rfl) ?_
        refine va_get (D := (dC, dI)) (ci := 0) (v := .ref hp) (C := R_D) (T := F_D) (N := 14) hx hb hts (fun w h => List.mem_cons_of_mem _ (in_D w h)) hown hK hP 0 rfl rfl 9 (by decide) (hts _ (List.mem_cons_of_mem _ lk_246)) (fun _ h9 => h9) rfl d_D_find_21 ?_
        refine lv_aload_n hx hb d_D_find_24 rfl (lv_at hl 0 rfl) ?_
        refine va_get (D := (dC, dI)) (ci := 0) (v := .ref tq) (C := R_D) (T := F_D) (N := 14) hx hb hts (fun w h => List.mem_cons_of_mem _ (in_D w h)) hown hK hP 0 rfl rfl 5 (by decide) (hts _ (List.mem_cons_of_mem _ lk_241)) (fun _ h9 => h9) rfl d_D_find_25 ?_
        refine lv_iload_n hx hb d_D_find_28 rfl (lv_at hl 1 rfl) ?_
        have hPc := hP.sub (ws' := (at_W hp qp gp tq tg tn tx M1 MB1 L1)) [4, 5, 6, 7, 8, 9, 10] rfl
        have hDc := hD.sub (ws' := (at_W hp qp gp tq tg tn tx M1 MB1 L1)) [4, 5, 6, 7, 8, 9, 10] (by decide) rfl
        have hKc := hK.sub (tys' := (at_T hp qp gp tq tg tn tx)) [3, 4, 5, 6, 7, 8] rfl
        have hFc := va_free (wc := (at_W hp qp gp tq tg tn tx M1 MB1 L1)) hD hS hA [4, 5, 6, 7, 8, 9, 10] rfl
        cases hg2 : f_A_seek tn tx M1 MB1 L1 k1 with
        | none => rw [hg2] at hf; cases hf
        | some z2 =>
          obtain ⟨r2, M2, MB2, L2⟩ := z2
          rw [hg2] at hf
          dsimp only [Option.bind_some] at hf
          refine va_calli (va_runV (As := [.ref tq, .int k1]) (rest := []) ⟨hx, hb, hml, hown, hts⟩ (cm_A_seek l dC dI hp qp gp tq tg tn tx _  M1 MB1 L1 k1 r2 M2 MB2 L2 hg2) (cwV 2 hts (gd_v lk_302 lk_303 lk_304 lk_273 lk_301) rfl rfl rfl (by decide +kernel) ⟨Nat.le_of_ble_eq_true rfl, Nat.le_of_ble_eq_true rfl⟩) ⟨fun a U g mk q => by obtain ⟨q0, q1, qP, qK, qD⟩ := q; exact ⟨q0, q1, qP, va_K.moved (u := U) (U := U.calling g mk a) (Vm.Alike.refl U.vm) qK, qD⟩, va_recv (ci := 3) (q0 := 4) hK hP rfl rfl, fun U hU hW => ⟨rfl, by rw [hU], by rw [hU]; exact hPc, va_K.moved hW.alike hKc, hDc.weaken (fun _ _ _ _ => trivial)⟩⟩ rfl rfl hl.1 rfl (lv_room (Nat.le_of_ble_eq_true rfl)) d_D_find_29 ⟨Nat.le_of_ble_eq_true rfl, Nat.le_of_ble_eq_true rfl⟩) hS (fun q _ h => hFc q h) hFc (fun r9 u t H1 locs ht hvm hw hB hz1 hk1 hS => ?_)
          obtain ⟨hP1, hK1, hD1⟩ := hB
          rw [ht] at hP1
          rw [hw]
          obtain ⟨hP, hD⟩ := va_join (wr := (([0, 1, 2, 3] : List Nat).map (fun i => ((dw_W h q g hp qp gp tq tg tn tx I1 A1 M1 MB1 L1)).getD i (0, .inr (0, []))))) (w1 := (at_W hp qp gp tq tg tn tx M2 MB2 L2)) hP hD [4, 5, 6, 7, 8, 9, 10] [0, 1, 2, 3] rfl rfl (by decide) (by decide) hk1 hFc hP1 hD1
          generalize H1 = H at hP hS ⊢
          have hP := hP.sub (ws' := (dw_W h q g hp qp gp tq tg tn tx I1 A1 M2 MB2 L2)) [0, 1, 2, 3, 4, 5, 6, 7, 8, 9, 10] rfl
          have hD := hD.sub (ws' := (dw_W h q g hp qp gp tq tg tn tx I1 A1 M2 MB2 L2)) [0, 1, 2, 3, 4, 5, 6, 7, 8, 9, 10] (by decide) rfl
          refine lv_if_ne (tgt := 43) hx hb d_D_find_32 (by decide) (fun hc2 => ?_) (fun hc2 => ?_)
          ·
            have hf := wk_iff hc2 hf
            refine lv_aload_n hx hb d_D_find_43 rfl (lv_at hl 0 rfl) ?_
            refine lv_aload_n hx hb d_D_find_44 rfl (lv_at hl 0 rfl) ?_
            refine va_get (D := (dC, dI)) (ci := 0) (v := .ref hp) (C := R_D) (T := F_D) (N := 14) hx hb hts (fun w h => List.mem_cons_of_mem _ (in_D w h)) hown hK hP 0 rfl rfl 9 (by decide) (hts _ (List.mem_cons_of_mem _ lk_246)) (fun _ h9 => h9) rfl d_D_find_45 ?_
            refine va_get (D := (dC, dI)) (ci := 3) (v := .int (M2 8)) (C := R_A) (T := F_A) (N := 10) hx hb hts (fun w h => List.mem_cons_of_mem _ (in_A w h)) hown hK hP 4 rfl rfl 8 (by decide) (hts _ (List.mem_cons_of_mem _ lk_306)) (fun _ h9 => h9) rfl d_D_find_48 ?_
            refine va_put (D := (dC, dI)) (ci := 0) (v := .int (M2 8)) (ty := .int) (C := R_D) (T := F_D) (N := 14) hx hb hts (fun w h => List.mem_cons_of_mem _ (in_D w h)) t_D tk_D n_D hown hK hP hD hS 0 rfl rfl 7 (by decide) (hts _ (List.mem_cons_of_mem _ lk_438)) (fun _ h9 => h9) rfl (by decide +kernel) rfl rfl (Nat.le_of_ble_eq_true rfl) d_D_find_51 (fun H locs hP hD hS => ?_)
            obtain ⟨I3, hI3, hf⟩ := wk_letE hf
            have hP : va_P (dC, dI) vwCl (dw_W h q g hp qp gp tq tg tn tx I3 A1 M2 MB2 L2) H := by rw [hI3]; exact hP
            have hD : va_D B9 (dw_W h q g hp qp gp tq tg tn tx I3 A1 M2 MB2 L2) := by rw [hI3]; exact hD
            clear hI3
            refine lv_aload_n hx hb d_D_find_54 rfl (lv_at hl 0 rfl) ?_
            refine lv_aload_n hx hb d_D_find_55 rfl (lv_at hl 0 rfl) ?_
            refine va_get (D := (dC, dI)) (ci := 0) (v := .ref hp) (C := R_D) (T := F_D) (N := 14) hx hb hts (fun w h => List.mem_cons_of_mem _ (in_D w h)) hown hK hP 0 rfl rfl 9 (by decide) (hts _ (List.mem_cons_of_mem _ lk_246)) (fun _ h9 => h9) rfl d_D_find_56 ?_
            refine va_get (D := (dC, dI)) (ci := 3) (v := .int (M2 9)) (C := R_A) (T := F_A) (N := 10) hx hb hts (fun w h => List.mem_cons_of_mem _ (in_A w h)) hown hK hP 4 rfl rfl 9 (by decide) (hts _ (List.mem_cons_of_mem _ lk_308)) (fun _ h9 => h9) rfl d_D_find_59 ?_
            refine va_put (D := (dC, dI)) (ci := 0) (v := .int (M2 9)) (ty := .int) (C := R_D) (T := F_D) (N := 14) hx hb hts (fun w h => List.mem_cons_of_mem _ (in_D w h)) t_D tk_D n_D hown hK hP hD hS 0 rfl rfl 6 (by decide) (hts _ (List.mem_cons_of_mem _ lk_437)) (fun _ h9 => h9) rfl (by decide +kernel) rfl rfl (Nat.le_of_ble_eq_true rfl) d_D_find_62 (fun H locs hP hD hS => ?_)
            obtain ⟨I4, hI4, hf⟩ := wk_letE hf
            have hP : va_P (dC, dI) vwCl (dw_W h q g hp qp gp tq tg tn tx I4 A1 M2 MB2 L2) H := by rw [hI4]; exact hP
            have hD : va_D B9 (dw_W h q g hp qp gp tq tg tn tx I4 A1 M2 MB2 L2) := by rw [hI4]; exact hD
            clear hI4
            refine lv_aload_n hx hb d_D_find_65 rfl (lv_at hl 0 rfl) ?_
            refine va_get (D := (dC, dI)) (ci := 0) (v := .int (I4 7)) (C := R_D) (T := F_D) (N := 14) hx hb hts (fun w h => List.mem_cons_of_mem _ (in_D w h)) hown hK hP 0 rfl rfl 7 (by decide) (hts _ (List.mem_cons_of_mem _ lk_438)) (fun _ h9 => h9) rfl d_D_find_66 ?_
            exact (wk_tag (by decide) hf).elim
          ·
            have hf := wk_ift hc2 hf
            exact (wk_tag (by decide) hf).elim
      ·
        have hf := wk_iff ht1 hf
        by_cases hq1_2 : tg1 = 2
        ·
          have hf := wk_ift hq1_2 hf
          rw [hq1_2] at hg1
          obtain ⟨e0, e1, e2, e3, e4, e5, e6⟩ := wk_inj6 hf
          subst e1
          subst e2
          subst e3
          subst e4
          subst e5
          subst e6
          refine th_passG (A1 := va_A (dw_W h q g hp qp gp tq tg tn tx I A M MB L) _) (th_runV (As := [.int k1]) (rest := []) ⟨hx, hb, hml, hown, hts⟩ (ct_D_requirePlace_2 l hfl dC dI h q g hp qp gp tq tg tn tx _  I A M MB L k1 r1 I1 A1 M1 MB1 L1 hg1) (cwV 1 hts (gd_v lk_441 lk_442 lk_443 lk_444 lk_440) rfl rfl rfl (by decide +kernel) ⟨Nat.le_of_ble_eq_true rfl, Nat.le_of_ble_eq_true rfl⟩) ⟨fun a U g mk q => by obtain ⟨q0, q1, qP, qK, qD, qZ⟩ := q; exact ⟨q0, q1, qP, va_K.moved (u := U) (U := U.calling g mk a) (Vm.Alike.refl U.vm) qK, qD, th_ZA.calling qZ⟩, va_recv (ci := 0) (q0 := 0) hK hP rfl rfl, fun U hU hW => ⟨rfl, by rw [hU], by rw [hU]; exact hPc, va_K.moved hW.alike hKc, hDc.weaken (fun _ _ _ _ => trivial), th_ZA.to hZ hS hU hW hFc⟩⟩ rfl rfl hl.1 rfl (lv_room (Nat.le_of_ble_eq_true rfl)) d_D_find_17 ⟨Nat.le_of_ble_eq_true rfl, Nat.le_of_ble_eq_true rfl⟩) hnh hlocks hS hFc (Nat.le_of_ble_eq_true rfl) (Nat.le_of_ble_eq_true rfl) (fun t hal hb1 hz1 hk1 u hu hau => ?_)
          obtain ⟨hP1, hK1, hD1⟩ := hb1
          obtain ⟨hP, hD⟩ := va_join (wr := (([] : List Nat).map (fun i => ((dw_W h q g hp qp gp tq tg tn tx I A M MB L)).getD i (0, .inr (0, []))))) (w1 := (dw_W h q g hp qp gp tq tg tn tx I1 A1 M1 MB1 L1)) hP hD [0, 1, 2, 3, 4, 5, 6, 7, 8, 9, 10] [] rfl rfl (by decide) (by decide) hk1 hFc hP1 hD1
          exact ⟨by rw [hu]; exact hP.sub (ws' := (dw_W h q g hp qp gp tq tg tn tx I1 A1 M1 MB1 L1)) [0, 1, 2, 3, 4, 5, 6, 7, 8, 9, 10] rfl, va_K.moved hau hK, hD.sub (ws' := (dw_W h q g hp qp gp tq tg tn tx I1 A1 M1 MB1 L1)) [0, 1, 2, 3, 4, 5, 6, 7, 8, 9, 10] (by decide) rfl⟩
        ·
          have hf := wk_iff hq1_2 hf
          cases hf
  ·
    have hf := wk_ift hc1 hf
    exact (wk_tag (by decide) hf).elim
set_option maxHeartbeats 8000000 in
set_option maxRecDepth 100000 in
theorem ct_D_find_4 (l : Launch) (hfl : l.flags = flags0) (dC : Nat → ClassId) (dI : Nat → Nat → Nat) (h : Nat) (q : Nat → Nat) (g : Nat → ClassId) (hp : Nat) (qp : Nat → Nat) (gp : Nat → ClassId) (tq : Nat) (tg : ClassId) (tn : Nat) (tx : Nat → Int32) (sz : Nat) (I : MI) (A : MA) (M : MI) (MB : MA) (L : ML) (k1 : Int32) (r : Int32) (I' : MI) (A' : MA) (M' : MI) (MB' : MA) (L' : ML) (hf : f_D_find tn tx I A M MB L  k1 = some (4, r, I', A', M', MB', L')) : th_Met l y_D_find w_D_find ({ frames := 7, cells := 1, slots := 6, locals := 127 }) (va_Pc [.ref h, .int k1] (fun U => U.heap.size = sz ∧ va_P (dC, dI) vwCl (dw_W h q g hp qp gp tq tg tn tx I A M MB L) U.heap ∧ va_K (dC, dI) vwCl (dw_T h q g hp qp gp tq tg tn tx) U ∧ va_D (fun _ => True) (dw_W h q g hp qp gp tq tg tn tx I A M MB L) ∧ th_ZA (va_A (dw_W h q g hp qp gp tq tg tn tx I A M MB L) sz) U)) (th_Qw "java/util/NoSuchElementException" (fun t => va_P (dC, dI) vwCl (dw_W h q g hp qp gp tq tg tn tx I' A' M' MB' L') t.heap ∧ va_K (dC, dI) vwCl (dw_T h q g hp qp gp tq tg tn tx) t ∧ va_D (va_A (dw_W h q g hp qp gp tq tg tn tx I A M MB L) sz) (dw_W h q g hp qp gp tq tg tn tx I' A' M' MB' L')) (va_A (dw_W h q g hp qp gp tq tg tn tx I A M MB L) sz)) 1 6 (va_A (dw_W h q g hp qp gp tq tg tn tx I A M MB L) sz) := by
  refine th_Met.ofW (cc := prog_1_method_9_code) (maxL := 2) (ret := (some .int)) (by decide) rfl ?_
  intro p e s m args below meth c s₁ B hml hnh hv
  obtain ⟨rfl, hsz, hP, hK, hD0, hZ⟩ := hv
  have hx := B.exec
  have hb := B.bytes
  have hr := B.returns
  have hts := atoms_spec (ws := w_D_find) B.pre
  have hown : s.vm.findClass "DraftTree" = some m.cls := findClass_of_methodNamed B.named
  have hlocks := B.notSynchronized
  have htr := Launch.traces_off hfl B.admits
  subst hsz
  have hD := hD0.self (sz := s.heap.size)
  generalize hAe : va_A (dw_W h q g hp qp gp tq tg tn tx I A M MB L) s.heap.size = B9 at hD hZ ⊢
  have hA : ∀ q : Nat, s.heap.size ≤ q → B9 q := fun q h => by rw [← hAe]; exact Or.inr h
  clear hAe
  have hS : va_S B9 s.heap s.heap [] := va_S.rf
  have hl := lv_entry ([.ref h, .int k1]) (n := 2) (Nat.le_of_ble_eq_true rfl)
  rw [lg_entry_eq]
  generalize (lg_sl ([.ref h, .int k1]) ++ List.replicate (2 - (lg_sl ([.ref h, .int k1])).length) Slot.unset).toArray = ls at hl ⊢
  have hl : lv_has ls 2 [(0, .ref h), (1, .int k1)] := hl
  unfold f_D_find at hf
  refine lv_aload_n hx hb d_D_find_0 rfl (lv_at hl 0 rfl) ?_
  refine va_get (D := (dC, dI)) (ci := 0) (v := .int (I 10)) (C := R_D) (T := F_D) (N := 14) hx hb hts (fun w h => List.mem_cons_of_mem _ (in_D w h)) hown hK hP 0 rfl rfl 10 (by decide) (hts _ (List.mem_cons_of_mem _ lk_430)) (fun _ h9 => h9) rfl d_D_find_1 ?_
  refine lv_if_ne (tgt := 15) hx hb d_D_find_4 (by decide) (fun hc1 => ?_) (fun hc1 => ?_)
  ·
    have hf := wk_iff hc1 hf
    refine lv_aload_n hx hb d_D_find_15 rfl (lv_at hl 0 rfl) ?_
    refine lv_iload_n hx hb d_D_find_16 rfl (lv_at hl 1 rfl) ?_
    have hPc := hP.sub (ws' := (dw_W h q g hp qp gp tq tg tn tx I A M MB L)) [0, 1, 2, 3, 4, 5, 6, 7, 8, 9, 10] rfl
    have hDc := hD.sub (ws' := (dw_W h q g hp qp gp tq tg tn tx I A M MB L)) [0, 1, 2, 3, 4, 5, 6, 7, 8, 9, 10] (by decide) rfl
    have hKc := hK.sub (tys' := (dw_T h q g hp qp gp tq tg tn tx)) [0, 1, 2, 3, 4, 5, 6, 7, 8] rfl
    have hFc := va_free (wc := (dw_W h q g hp qp gp tq tg tn tx I A M MB L)) hD hS hA [0, 1, 2, 3, 4, 5, 6, 7, 8, 9, 10] rfl
    cases hg1 : f_D_requirePlace tn tx I A M MB L k1 with
    | none => rw [hg1] at hf; cases hf
    | some z1 =>
      obtain ⟨tg1, r1, I1, A1, M1, MB1, L1⟩ := z1
      rw [hg1] at hf
      dsimp only [Option.bind_some] at hf
      by_cases ht1 : tg1 = 0
      ·
        have hf := wk_ift ht1 hf
        rw [ht1] at hg1
        refine va_callv (va_runV (As := [.int k1]) (rest := []) ⟨hx, hb, hml, hown, hts⟩ (cm_D_requirePlace l dC dI h q g hp qp gp tq tg tn tx _  I A M MB L k1 r1 I1 A1 M1 MB1 L1 hg1) (cwV 1 hts (gd_v lk_441 lk_442 lk_443 lk_444 lk_440) rfl rfl rfl (by decide +kernel) ⟨Nat.le_of_ble_eq_true rfl, Nat.le_of_ble_eq_true rfl⟩) ⟨fun a U g mk q => by obtain ⟨q0, q1, qP, qK, qD⟩ := q; exact ⟨q0, q1, qP, va_K.moved (u := U) (U := U.calling g mk a) (Vm.Alike.refl U.vm) qK, qD⟩, va_recv (ci := 0) (q0 := 0) hK hP rfl rfl, fun U hU hW => ⟨rfl, by rw [hU], by rw [hU]; exact hPc, va_K.moved hW.alike hKc, hDc.weaken (fun _ _ _ _ => trivial)⟩⟩ rfl rfl hl.1 rfl (lv_room (Nat.le_of_ble_eq_true rfl)) d_D_find_17 ⟨Nat.le_of_ble_eq_true rfl, Nat.le_of_ble_eq_true rfl⟩) hS (fun q _ h => hFc q h) hFc (fun u t H1 locs ht hvm hw hB hz1 hk1 hS => ?_)
        obtain ⟨hP1, hK1, hD1⟩ := hB
        rw [ht] at hP1
        obtain ⟨hP, hD⟩ := va_join (wr := (([] : List Nat).map (fun i => ((dw_W h q g hp qp gp tq tg tn tx I A M MB L)).getD i (0, .inr (0, []))))) (w1 := (dw_W h q g hp qp gp tq tg tn tx I1 A1 M1 MB1 L1)) hP hD [0, 1, 2, 3, 4, 5, 6, 7, 8, 9, 10] [] rfl rfl (by decide) (by decide) hk1 hFc hP1 hD1
        generalize H1 = H at hP hS ⊢
        have hP := hP.sub (ws' := (dw_W h q g hp qp gp tq tg tn tx I1 A1 M1 MB1 L1)) [0, 1, 2, 3, 4, 5, 6, 7, 8, 9, 10] rfl
        have hD := hD.sub (ws' := (dw_W h q g hp qp gp tq tg tn tx I1 A1 M1 MB1 L1)) [0, 1, 2, 3, 4, 5, 6, 7, 8, 9, 10] (by decide) rfl
        refine lv_aload_n hx hb d_D_find_20 rfl (lv_at hl 0 rfl) ?_
        refine va_get (D := (dC, dI)) (ci := 0) (v := .ref hp) (C := R_D) (T := F_D) (N := 14) hx hb hts (fun w h => List.mem_cons_of_mem _ (in_D w h)) hown hK hP 0 rfl rfl 9 (by decide) (hts _ (List.mem_cons_of_mem _ lk_246)) (fun _ h9 => h9) rfl d_D_find_21 ?_
        refine lv_aload_n hx hb d_D_find_24 rfl (lv_at hl 0 rfl) ?_
        refine va_get (D := (dC, dI)) (ci := 0) (v := .ref tq) (C := R_D) (T := F_D) (N := 14) hx hb hts (fun w h => List.mem_cons_of_mem _ (in_D w h)) hown hK hP 0 rfl rfl 5 (by decide) (hts _ (List.mem_cons_of_mem _ lk_241)) (fun _ h9 => h9) rfl d_D_find_25 ?_
        refine lv_iload_n hx hb d_D_find_28 rfl (lv_at hl 1 rfl) ?_
        have hPc := hP.sub (ws' := (at_W hp qp gp tq tg tn tx M1 MB1 L1)) [4, 5, 6, 7, 8, 9, 10] rfl
        have hDc := hD.sub (ws' := (at_W hp qp gp tq tg tn tx M1 MB1 L1)) [4, 5, 6, 7, 8, 9, 10] (by decide) rfl
        have hKc := hK.sub (tys' := (at_T hp qp gp tq tg tn tx)) [3, 4, 5, 6, 7, 8] rfl
        have hFc := va_free (wc := (at_W hp qp gp tq tg tn tx M1 MB1 L1)) hD hS hA [4, 5, 6, 7, 8, 9, 10] rfl
        cases hg2 : f_A_seek tn tx M1 MB1 L1 k1 with
        | none => rw [hg2] at hf; cases hf
        | some z2 =>
          obtain ⟨r2, M2, MB2, L2⟩ := z2
          rw [hg2] at hf
          dsimp only [Option.bind_some] at hf
          refine va_calli (va_runV (As := [.ref tq, .int k1]) (rest := []) ⟨hx, hb, hml, hown, hts⟩ (cm_A_seek l dC dI hp qp gp tq tg tn tx _  M1 MB1 L1 k1 r2 M2 MB2 L2 hg2) (cwV 2 hts (gd_v lk_302 lk_303 lk_304 lk_273 lk_301) rfl rfl rfl (by decide +kernel) ⟨Nat.le_of_ble_eq_true rfl, Nat.le_of_ble_eq_true rfl⟩) ⟨fun a U g mk q => by obtain ⟨q0, q1, qP, qK, qD⟩ := q; exact ⟨q0, q1, qP, va_K.moved (u := U) (U := U.calling g mk a) (Vm.Alike.refl U.vm) qK, qD⟩, va_recv (ci := 3) (q0 := 4) hK hP rfl rfl, fun U hU hW => ⟨rfl, by rw [hU], by rw [hU]; exact hPc, va_K.moved hW.alike hKc, hDc.weaken (fun _ _ _ _ => trivial)⟩⟩ rfl rfl hl.1 rfl (lv_room (Nat.le_of_ble_eq_true rfl)) d_D_find_29 ⟨Nat.le_of_ble_eq_true rfl, Nat.le_of_ble_eq_true rfl⟩) hS (fun q _ h => hFc q h) hFc (fun r9 u t H1 locs ht hvm hw hB hz1 hk1 hS => ?_)
          obtain ⟨hP1, hK1, hD1⟩ := hB
          rw [ht] at hP1
          rw [hw]
          obtain ⟨hP, hD⟩ := va_join (wr := (([0, 1, 2, 3] : List Nat).map (fun i => ((dw_W h q g hp qp gp tq tg tn tx I1 A1 M1 MB1 L1)).getD i (0, .inr (0, []))))) (w1 := (at_W hp qp gp tq tg tn tx M2 MB2 L2)) hP hD [4, 5, 6, 7, 8, 9, 10] [0, 1, 2, 3] rfl rfl (by decide) (by decide) hk1 hFc hP1 hD1
          generalize H1 = H at hP hS ⊢
          have hP := hP.sub (ws' := (dw_W h q g hp qp gp tq tg tn tx I1 A1 M2 MB2 L2)) [0, 1, 2, 3, 4, 5, 6, 7, 8, 9, 10] rfl
          have hD := hD.sub (ws' := (dw_W h q g hp qp gp tq tg tn tx I1 A1 M2 MB2 L2)) [0, 1, 2, 3, 4, 5, 6, 7, 8, 9, 10] (by decide) rfl
          refine lv_if_ne (tgt := 43) hx hb d_D_find_32 (by decide) (fun hc2 => ?_) (fun hc2 => ?_)
          ·
            have hf := wk_iff hc2 hf
            refine lv_aload_n hx hb d_D_find_43 rfl (lv_at hl 0 rfl) ?_
            refine lv_aload_n hx hb d_D_find_44 rfl (lv_at hl 0 rfl) ?_
            refine va_get (D := (dC, dI)) (ci := 0) (v := .ref hp) (C := R_D) (T := F_D) (N := 14) hx hb hts (fun w h => List.mem_cons_of_mem _ (in_D w h)) hown hK hP 0 rfl rfl 9 (by decide) (hts _ (List.mem_cons_of_mem _ lk_246)) (fun _ h9 => h9) rfl d_D_find_45 ?_
            refine va_get (D := (dC, dI)) (ci := 3) (v := .int (M2 8)) (C := R_A) (T := F_A) (N := 10) hx hb hts (fun w h => List.mem_cons_of_mem _ (in_A w h)) hown hK hP 4 rfl rfl 8 (by decide) (hts _ (List.mem_cons_of_mem _ lk_306)) (fun _ h9 => h9) rfl d_D_find_48 ?_
            refine va_put (D := (dC, dI)) (ci := 0) (v := .int (M2 8)) (ty := .int) (C := R_D) (T := F_D) (N := 14) hx hb hts (fun w h => List.mem_cons_of_mem _ (in_D w h)) t_D tk_D n_D hown hK hP hD hS 0 rfl rfl 7 (by decide) (hts _ (List.mem_cons_of_mem _ lk_438)) (fun _ h9 => h9) rfl (by decide +kernel) rfl rfl (Nat.le_of_ble_eq_true rfl) d_D_find_51 (fun H locs hP hD hS => ?_)
            obtain ⟨I3, hI3, hf⟩ := wk_letE hf
            have hP : va_P (dC, dI) vwCl (dw_W h q g hp qp gp tq tg tn tx I3 A1 M2 MB2 L2) H := by rw [hI3]; exact hP
            have hD : va_D B9 (dw_W h q g hp qp gp tq tg tn tx I3 A1 M2 MB2 L2) := by rw [hI3]; exact hD
            clear hI3
            refine lv_aload_n hx hb d_D_find_54 rfl (lv_at hl 0 rfl) ?_
            refine lv_aload_n hx hb d_D_find_55 rfl (lv_at hl 0 rfl) ?_
            refine va_get (D := (dC, dI)) (ci := 0) (v := .ref hp) (C := R_D) (T := F_D) (N := 14) hx hb hts (fun w h => List.mem_cons_of_mem _ (in_D w h)) hown hK hP 0 rfl rfl 9 (by decide) (hts _ (List.mem_cons_of_mem _ lk_246)) (fun _ h9 => h9) rfl d_D_find_56 ?_
            refine va_get (D := (dC, dI)) (ci := 3) (v := .int (M2 9)) (C := R_A) (T := F_A) (N := 10) hx hb hts (fun w h => List.mem_cons_of_mem _ (in_A w h)) hown hK hP 4 rfl rfl 9 (by decide) (hts _ (List.mem_cons_of_mem _ lk_308)) (fun _ h9 => h9) rfl d_D_find_59 ?_
            refine va_put (D := (dC, dI)) (ci := 0) (v := .int (M2 9)) (ty := .int) (C := R_D) (T := F_D) (N := 14) hx hb hts (fun w h => List.mem_cons_of_mem _ (in_D w h)) t_D tk_D n_D hown hK hP hD hS 0 rfl rfl 6 (by decide) (hts _ (List.mem_cons_of_mem _ lk_437)) (fun _ h9 => h9) rfl (by decide +kernel) rfl rfl (Nat.le_of_ble_eq_true rfl) d_D_find_62 (fun H locs hP hD hS => ?_)
            obtain ⟨I4, hI4, hf⟩ := wk_letE hf
            have hP : va_P (dC, dI) vwCl (dw_W h q g hp qp gp tq tg tn tx I4 A1 M2 MB2 L2) H := by rw [hI4]; exact hP
            have hD : va_D B9 (dw_W h q g hp qp gp tq tg tn tx I4 A1 M2 MB2 L2) := by rw [hI4]; exact hD
            clear hI4
            refine lv_aload_n hx hb d_D_find_65 rfl (lv_at hl 0 rfl) ?_
            refine va_get (D := (dC, dI)) (ci := 0) (v := .int (I4 7)) (C := R_D) (T := F_D) (N := 14) hx hb hts (fun w h => List.mem_cons_of_mem _ (in_D w h)) hown hK hP 0 rfl rfl 7 (by decide) (hts _ (List.mem_cons_of_mem _ lk_438)) (fun _ h9 => h9) rfl d_D_find_66 ?_
            exact (wk_tag (by decide) hf).elim
          ·
            have hf := wk_ift hc2 hf
            obtain ⟨e0, e1, e2, e3, e4, e5, e6⟩ := wk_inj6 hf
            subst e1
            subst e2
            subst e3
            subst e4
            subst e5
            subst e6
            exact th_newG hx hb htr hown (by decide) (by decide) (wk_thr hts hZ hS lk_447 lk_448 (fun _ a9 b9 => oa_3 a9 b9)) hnh (by rw [hl.1, hml]) hS (Nat.le_of_ble_eq_true rfl) (Nat.le_of_ble_eq_true rfl) (Nat.le_of_ble_eq_true rfl) (Nat.le_of_ble_eq_true rfl) (Nat.le_of_ble_eq_true rfl) (Nat.le_of_ble_eq_true rfl) hlocks (fun t hal hk => ⟨hP.kept (fun k q hq => hk _ (hP k q hq).lt), va_K.moved hal hK, hD⟩) d_D_find_35 d_D_find_38 d_D_find_39 d_D_find_42
      ·
        have hf := wk_iff ht1 hf
        by_cases hq1_2 : tg1 = 2
        ·
          have hf := wk_ift hq1_2 hf
          exact (wk_tag (by decide) hf).elim
        ·
          have hf := wk_iff hq1_2 hf
          cases hf
  ·
    have hf := wk_ift hc1 hf
    exact (wk_tag (by decide) hf).elim

