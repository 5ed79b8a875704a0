-- own rows: the law's helpers
abbrev oC (x : FX) (ov : Nat → Int64) : Nat × va_E := (x.ob, .inl (x.gl, 1, .inr (.inl ov)))
abbrev HW (x : FX) (k : CK) (e : ES) (ov : Nat → Int64) : va_W := oC x ov :: KW x k e
abbrev hRm : Room := { frames := 9, cells := 3, slots := 170, locals := 300 }
theorem perm_o (x : FX) (k : CK) (e : ES) (ov : Nat → Int64) : (HW x k e ov).Perm (KW x k e ++ [oC x ov]) := List.perm_append_comm (l₁ := [oC x ov]) (l₂ := KW x k e)
/-- a helper returns the code c -/
def HRet (l : Launch) (x : FX) (y : MethodName) (wl : List Cond) (av : List Value) (k : CK) (e : ES) (ov : Nat → Int64) (c : Int32) (e' : ES) (ov' : Nat → Int64) : Prop := ∀ sz : Nat, Met l y wl hRm (va_Pc av (kPreT x.D sz (HW x k e ov) (kT x))) (va_Qi (fun (r9 : Int32) (k' : CK) => r9 = c ∧ CRel e' k') (fun k' t => va_P x.D vwCl (HW x k' e' ov') t.heap ∧ va_D (va_A (HW x k e ov) sz) (HW x k' e' ov')) (va_A (HW x k e ov) sz)) 3 170 (va_A (HW x k e ov) sz)
theorem KRetI.up {l : Launch} {x : FX} {y : MethodName} {wl : List Cond} {rm : Room} {av : List Value} {k : CK} {e : ES} {mc ms : Nat} {r : Int32} {e' : ES} (h : KRetI l x y wl rm av k e mc ms r e') (ov : Nat → Int64) (sz : Nat) : Met l y wl rm (va_Pc av (kPre x.D sz (HW x k e ov) (kT x))) (va_Qi (fun (r9 : Int32) (k' : CK) => r9 = r ∧ CRel e' k') (fun k' t => va_P x.D vwCl (HW x k' e' ov) t.heap ∧ va_D (va_A (HW x k e ov) sz) (HW x k' e' ov)) (va_A (HW x k e ov) sz)) mc ms (va_A (HW x k e ov) sz) :=
  Met.liftI (rs := [oC x ov]) (fun k' => HW x k' e' ov) (h sz) (fun _ _ z => z) (perm_o x k e ov) (fun k' => perm_o x k' e' ov) (fun _ z => z)
theorem KRetV.up {l : Launch} {x : FX} {y : MethodName} {wl : List Cond} {rm : Room} {av : List Value} {k : CK} {e : ES} {mc ms : Nat} {e' : ES} (h : KRetV l x y wl rm av k e mc ms e') (ov : Nat → Int64) (sz : Nat) : Met l y wl rm (va_Pc av (kPre x.D sz (HW x k e ov) (kT x))) (va_Qv (fun (k' : CK) => CRel e' k') (fun k' t => va_P x.D vwCl (HW x k' e' ov) t.heap ∧ va_D (va_A (HW x k e ov) sz) (HW x k' e' ov)) (va_A (HW x k e ov) sz)) mc ms (va_A (HW x k e ov) sz) :=
  Met.liftV (rs := [oC x ov]) (fun k' => HW x k' e' ov) (h sz) (fun _ _ z => z) (perm_o x k e ov) (fun k' => perm_o x k' e' ov) (fun _ z => z)
theorem KThr.up {l : Launch} {x : FX} {y : MethodName} {wl : List Cond} {rm : Room} {av : List Value} {k : CK} {e : ES} {mc ms : Nat} {E : String} {e' : ES} (h : KThr l x y wl rm av k e mc ms E e') (ov : Nat → Int64) : ∃ k' : CK, CRel e' k' ∧ ∀ sz : Nat, th_Met l y wl rm (va_Pc av (kPreT x.D sz (HW x k e ov) (kT x))) (th_Qw E (fun t => va_P x.D vwCl (HW x k' e' ov) t.heap ∧ va_D (va_A (HW x k e ov) sz) (HW x k' e' ov)) (va_A (HW x k e ov) sz)) mc ms (va_A (HW x k e ov) sz) := by
  obtain ⟨k', hr, hM⟩ := h
  exact ⟨k', hr, fun sz => th_Met.lift (rs := [oC x ov]) (hM sz) (fun _ z => z) (perm_o x k e ov) (perm_o x k' e' ov) (fun _ z => z)⟩
set_option maxHeartbeats 8000000 in
set_option maxRecDepth 100000 in
theorem H_insert_0 (l : Launch) (hfl : l.flags = flags0) (x : FX) {k : CK} {e : ES} (ov : Nat → Int64) {r : Int32} {e' : ES} (hM : KRetI l x y_D_insert w_D_insert ({ frames := 5, cells := 2, slots := 164, locals := 150 }) [.ref x.h] k e 2 164 r e') : HRet l x y_L_insert w_L_insert [.ref x.h, .ref x.ob] k e ov 0 e' (vp_updL ov 0 r.toInt64) := by
  intro sz
  refine th_ofWw (tab := [(0, 8, 11, 13)]) (cc := method_3_code) (maxL := 3) (ret := some .int) (by decide) rfl ?_
  intro p en s m args below meth c s₁ B hml htab hv
  obtain ⟨rfl, hsz, hP, hK, hD0, hZ⟩ := hv
  have hx := B.exec
  have hb := B.bytes
  have hr := B.returns
  have hts := atoms_spec (ws := w_L_insert) B.pre
  have hown : s.vm.findClass "DraftTreeLaw" = some m.cls := findClass_of_methodNamed B.named
  subst hsz
  have hD := hD0.self (sz := s.heap.size)
  generalize hAe : va_A (HW x k e ov) s.heap.size = B9 at hD hZ ⊢
  have hA : ∀ q : Nat, s.heap.size ≤ q → B9 q := fun q h => by rw [← hAe]; exact Or.inr h
  clear hAe
  have hS : va_S B9 s.heap s.heap [] := va_S.rf
  have hl := lv_entry ([.ref x.h, .ref x.ob]) (n := 3) (Nat.le_of_ble_eq_true rfl)
  rw [lg_entry_eq]
  generalize (lg_sl ([.ref x.h, .ref x.ob]) ++ List.replicate (3 - (lg_sl ([.ref x.h, .ref x.ob])).length) Slot.unset).toArray = ls at hl ⊢
  have hl : lv_has ls 3 [(0, .ref x.h), (1, .ref x.ob)] := hl
  refine lv_aload_n hx hb d_L_insert_0 rfl (lv_at hl 1 rfl) ?_
  refine lv_iconst (v := 0) hx hb d_L_insert_1 (by decide) ?_
  refine lv_aload_n hx hb d_L_insert_2 rfl (lv_at hl 0 rfl) ?_
  have hFc := va_freeM (wc := HW x k e ov) hD hS hA (fun _ h9 => h9)
  refine va_calli (va_runV (As := []) (rest := [.int 0, .ref x.ob]) ⟨hx, hb, hml, hown, hts⟩ (hM.up ov _) (cwV 0 hts (gd_v lk_571 lk_572 lk_573 lk_444 lk_525) rfl rfl rfl (by decide +kernel) ⟨Nat.le_of_ble_eq_true rfl, Nat.le_of_ble_eq_true rfl⟩) ⟨fun a U g mk q => by obtain ⟨q0, q1, qP, qK, qD⟩ := q; exact ⟨q0, q1, qP, va_K.moved (u := U) (U := U.calling g mk a) (Vm.Alike.refl U.vm) qK, qD⟩, va_recv (ci := 0) (q0 := 1) hK hP rfl rfl, fun U hU hW => ⟨rfl, by rw [hU], by rw [hU]; exact hP, va_K.moved hW.alike hK, hD.weaken (fun _ _ _ _ => trivial)⟩⟩ rfl rfl hl.1 rfl (lv_room (Nat.le_of_ble_eq_true rfl)) d_L_insert_3 ⟨Nat.le_of_ble_eq_true rfl, Nat.le_of_ble_eq_true rfl⟩) hS (fun q _ h => hFc q h) hFc (fun r9 kn t H1 locs ht hvm hw hB hz1 hk1 hS => ?_)
  obtain ⟨hP1, hD1⟩ := hB
  rw [ht] at hP1
  have hP := hP1
  have hD := hD1.weaken (fun _ q _ h => hFc q.1 h)
  clear hP1 hD1 hFc hk1 hz1
  refine W.cs (cells' := 2) (slots' := 164) rfl rfl ?_
  obtain ⟨hw0, hC⟩ := hw
  subst hw0
  refine lv_i2l hx hb d_L_insert_6 rfl ?_
  refine va_last hx hb hK hP hD hS 0 2 rfl rfl (wk_inb_ok (by decide)) d_L_insert_7 (fun H locs hP hD hS => ?_)
  have hP : va_P x.D vwCl (HW x kn e' (vp_updL ov 0 r9.toInt64)) H := hP
  have hD : va_D B9 (HW x kn e' (vp_updL ov 0 r9.toInt64)) := hD
  refine lv_goto (tgt := 14) hx hb d_L_insert_8 (by decide) ?_
  refine lv_iconst (v := 0) hx hb d_L_insert_14 (by decide) ?_
  refine W.widen (k := 3) (n := 170) (Nat.le_of_ble_eq_true rfl) (Nat.le_of_ble_eq_true rfl) ?_
  exact W.iret (v := 0) hx hb hr (fun t ht hW => ⟨⟨_, kn, rfl, ⟨rfl, hC⟩, by rw [ht]; exact hP, hD⟩, hS.F ht⟩) hS.2.2 d_L_insert_15
set_option maxHeartbeats 8000000 in
set_option maxRecDepth 100000 in
theorem H_insert_1 (l : Launch) (hfl : l.flags = flags0) (x : FX) {k : CK} {e : ES} (ov : Nat → Int64) {e' : ES} (hM : KThr l x y_D_insert w_D_insert ({ frames := 6, cells := 1, slots := 6, locals := 120 }) [.ref x.h] k e 1 6 "java/lang/IllegalStateException" e') : HRet l x y_L_insert w_L_insert [.ref x.h, .ref x.ob] k e ov 1 e' ov := by
  obtain ⟨kn, hC, hT⟩ := hM.up ov
  intro sz
  refine th_ofWw (tab := [(0, 8, 11, 13)]) (cc := method_3_code) (maxL := 3) (ret := some .int) (by decide) rfl ?_
  intro p en s m args below meth c s₁ B hml htab hv
  obtain ⟨rfl, hsz, hP, hK, hD0, hZ⟩ := hv
  have hx := B.exec
  have hb := B.bytes
  have hr := B.returns
  have hts := atoms_spec (ws := w_L_insert) B.pre
  have hown : s.vm.findClass "DraftTreeLaw" = some m.cls := findClass_of_methodNamed B.named
  subst hsz
  have hD := hD0.self (sz := s.heap.size)
  generalize hAe : va_A (HW x k e ov) s.heap.size = B9 at hD hZ ⊢
  have hA : ∀ q : Nat, s.heap.size ≤ q → B9 q := fun q h => by rw [← hAe]; exact Or.inr h
  clear hAe
  have hS : va_S B9 s.heap s.heap [] := va_S.rf
  have hl := lv_entry ([.ref x.h, .ref x.ob]) (n := 3) (Nat.le_of_ble_eq_true rfl)
  rw [lg_entry_eq]
  generalize (lg_sl ([.ref x.h, .ref x.ob]) ++ List.replicate (3 - (lg_sl ([.ref x.h, .ref x.ob])).length) Slot.unset).toArray = ls at hl ⊢
  have hl : lv_has ls 3 [(0, .ref x.h), (1, .ref x.ob)] := hl
  refine lv_aload_n hx hb d_L_insert_0 rfl (lv_at hl 1 rfl) ?_
  refine lv_iconst (v := 0) hx hb d_L_insert_1 (by decide) ?_
  refine lv_aload_n hx hb d_L_insert_2 rfl (lv_at hl 0 rfl) ?_
  have hFc := va_freeM (wc := HW x k e ov) hD hS hA (fun _ h9 => h9)
  refine th_catch (own := "DraftTreeLaw") (C := "java/lang/IllegalStateException") (hpc := 11) (A1 := va_A (HW x k e ov) s.heap.size) (th_runV (As := []) (rest := [.int 0, .ref x.ob]) ⟨hx, hb, hml, hown, hts⟩ (hT _) (cwV 0 hts (gd_v lk_571 lk_572 lk_573 lk_444 lk_525) rfl rfl rfl (by decide +kernel) ⟨Nat.le_of_ble_eq_true rfl, Nat.le_of_ble_eq_true rfl⟩) ⟨fun a U g mk q => by obtain ⟨q0, q1, qP, qK, qD, qZ⟩ := q; exact ⟨q0, q1, qP, va_K.moved (u := U) (U := U.calling g mk a) (Vm.Alike.refl U.vm) qK, qD, th_ZA.calling qZ⟩, va_recv (ci := 0) (q0 := 1) hK hP rfl rfl, fun U hU hW => ⟨rfl, by rw [hU], by rw [hU]; exact hP, va_K.moved hW.alike hK, hD.weaken (fun _ _ _ _ => trivial), th_ZA.to hZ hS hU hW hFc⟩⟩ rfl rfl hl.1 rfl (lv_room (Nat.le_of_ble_eq_true rfl)) d_L_insert_3 ⟨Nat.le_of_ble_eq_true rfl, Nat.le_of_ble_eq_true rfl⟩) hown htab (by refine ⟨⟨by decide, by decide, by decide⟩, "java/lang/IllegalStateException", (hts _ (List.mem_cons_of_mem _ lk_556)), ?_⟩; exact Or.inl ⟨rfl, rfl⟩) (fun _ _ _ h => ⟨h.1, h.2.2⟩) hS (fun q _ h => hFc q h) hFc (fun xx st₀ t H1 locs ht hvm _ hB hz1 hk1 hS => ?_)
  obtain ⟨-, ⟨hP1, hD1⟩, -⟩ := hB
  rw [ht] at hP1
  have hP := hP1
  have hD := hD1.weaken (fun _ q _ h => hFc q.1 h)
  clear hP1 hD1 hFc hk1 hz1
  refine W.cs (cells' := 1) (slots' := 6) rfl rfl ?_
  refine lv_astore_n (lv' := [(2, .ref xx), (0, .ref x.h), (1, .ref x.ob)]) hx hb d_L_insert_11 rfl hl (by decide) rfl (fun ls hl => ?_)
  refine lv_iconst (v := 1) hx hb d_L_insert_12 (by decide) ?_
  refine W.widen (k := 3) (n := 170) (Nat.le_of_ble_eq_true rfl) (Nat.le_of_ble_eq_true rfl) ?_
  exact W.iret (v := 1) hx hb hr (fun t ht hW => ⟨⟨_, kn, rfl, ⟨rfl, hC⟩, by rw [ht]; exact hP, hD⟩, hS.F ht⟩) hS.2.2 d_L_insert_13
set_option maxHeartbeats 8000000 in
set_option maxRecDepth 100000 in
theorem H_erase_0 (l : Launch) (hfl : l.flags = flags0) (x : FX) {k : CK} {e : ES} {k1 : Int32} (ov : Nat → Int64) {r : Int32} {e' : ES} (hM : KRetI l x y_D_erase w_D_erase ({ frames := 5, cells := 2, slots := 164, locals := 150 }) [.ref x.h, .int k1] k e 2 164 r e') : HRet l x y_L_erase w_L_erase [.ref x.h, .int k1, .ref x.ob] k e ov 0 e' (vp_updL ov 0 r.toInt64) := by
  intro sz
  refine th_ofWw (tab := [(0, 9, 12, 13)]) (cc := method_4_code) (maxL := 4) (ret := some .int) (by decide) rfl ?_
  intro p en s m args below meth c s₁ B hml htab hv
  obtain ⟨rfl, hsz, hP, hK, hD0, hZ⟩ := hv
  have hx := B.exec
  have hb := B.bytes
  have hr := B.returns
  have hts := atoms_spec (ws := w_L_erase) B.pre
  have hown : s.vm.findClass "DraftTreeLaw" = some m.cls := findClass_of_methodNamed B.named
  subst hsz
  have hD := hD0.self (sz := s.heap.size)
  generalize hAe : va_A (HW x k e ov) s.heap.size = B9 at hD hZ ⊢
  have hA : ∀ q : Nat, s.heap.size ≤ q → B9 q := fun q h => by rw [← hAe]; exact Or.inr h
  clear hAe
  have hS : va_S B9 s.heap s.heap [] := va_S.rf
  have hl := lv_entry ([.ref x.h, .int k1, .ref x.ob]) (n := 4) (Nat.le_of_ble_eq_true rfl)
  rw [lg_entry_eq]
  generalize (lg_sl ([.ref x.h, .int k1, .ref x.ob]) ++ List.replicate (4 - (lg_sl ([.ref x.h, .int k1, .ref x.ob])).length) Slot.unset).toArray = ls at hl ⊢
  have hl : lv_has ls 4 [(0, .ref x.h), (1, .int k1), (2, .ref x.ob)] := hl
  refine lv_aload_n hx hb d_L_erase_0 rfl (lv_at hl 2 rfl) ?_
  refine lv_iconst (v := 0) hx hb d_L_erase_1 (by decide) ?_
  refine lv_aload_n hx hb d_L_erase_2 rfl (lv_at hl 0 rfl) ?_
  refine lv_iload_n hx hb d_L_erase_3 rfl (lv_at hl 1 rfl) ?_
  have hFc := va_freeM (wc := HW x k e ov) hD hS hA (fun _ h9 => h9)
  refine va_calli (va_runV (As := [.int k1]) (rest := [.int 0, .ref x.ob]) ⟨hx, hb, hml, hown, hts⟩ (hM.up ov _) (cwV 1 hts (gd_v lk_553 lk_554 lk_555 lk_444 lk_505) rfl rfl rfl (by decide +kernel) ⟨Nat.le_of_ble_eq_true rfl, Nat.le_of_ble_eq_true rfl⟩) ⟨fun a U g mk q => by obtain ⟨q0, q1, qP, qK, qD⟩ := q; exact ⟨q0, q1, qP, va_K.moved (u := U) (U := U.calling g mk a) (Vm.Alike.refl U.vm) qK, qD⟩, va_recv (ci := 0) (q0 := 1) hK hP rfl rfl, fun U hU hW => ⟨rfl, by rw [hU], by rw [hU]; exact hP, va_K.moved hW.alike hK, hD.weaken (fun _ _ _ _ => trivial)⟩⟩ rfl rfl hl.1 rfl (lv_room (Nat.le_of_ble_eq_true rfl)) d_L_erase_4 ⟨Nat.le_of_ble_eq_true rfl, Nat.le_of_ble_eq_true rfl⟩) hS (fun q _ h => hFc q h) hFc (fun r9 kn t H1 locs ht hvm hw hB hz1 hk1 hS => ?_)
  obtain ⟨hP1, hD1⟩ := hB
  rw [ht] at hP1
  have hP := hP1
  have hD := hD1.weaken (fun _ q _ h => hFc q.1 h)
  clear hP1 hD1 hFc hk1 hz1
  refine W.cs (cells' := 2) (slots' := 164) rfl rfl ?_
  obtain ⟨hw0, hC⟩ := hw
  subst hw0
  refine lv_i2l hx hb d_L_erase_7 rfl ?_
  refine va_last hx hb hK hP hD hS 0 2 rfl rfl (wk_inb_ok (by decide)) d_L_erase_8 (fun H locs hP hD hS => ?_)
  have hP : va_P x.D vwCl (HW x kn e' (vp_updL ov 0 r9.toInt64)) H := hP
  have hD : va_D B9 (HW x kn e' (vp_updL ov 0 r9.toInt64)) := hD
  refine lv_goto (tgt := 15) hx hb d_L_erase_9 (by decide) ?_
  refine lv_iconst (v := 0) hx hb d_L_erase_15 (by decide) ?_
  refine W.widen (k := 3) (n := 170) (Nat.le_of_ble_eq_true rfl) (Nat.le_of_ble_eq_true rfl) ?_
  exact W.iret (v := 0) hx hb hr (fun t ht hW => ⟨⟨_, kn, rfl, ⟨rfl, hC⟩, by rw [ht]; exact hP, hD⟩, hS.F ht⟩) hS.2.2 d_L_erase_16
set_option maxHeartbeats 8000000 in
set_option maxRecDepth 100000 in
theorem H_erase_1 (l : Launch) (hfl : l.flags = flags0) (x : FX) {k : CK} {e : ES} {k1 : Int32} (ov : Nat → Int64) {e' : ES} (hM : KThr l x y_D_erase w_D_erase ({ frames := 6, cells := 1, slots := 6, locals := 120 }) [.ref x.h, .int k1] k e 1 6 "java/lang/IllegalStateException" e') : HRet l x y_L_erase w_L_erase [.ref x.h, .int k1, .ref x.ob] k e ov 1 e' ov := by
  obtain ⟨kn, hC, hT⟩ := hM.up ov
  intro sz
  refine th_ofWw (tab := [(0, 9, 12, 13)]) (cc := method_4_code) (maxL := 4) (ret := some .int) (by decide) rfl ?_
  intro p en s m args below meth c s₁ B hml htab hv
  obtain ⟨rfl, hsz, hP, hK, hD0, hZ⟩ := hv
  have hx := B.exec
  have hb := B.bytes
  have hr := B.returns
  have hts := atoms_spec (ws := w_L_erase) B.pre
  have hown : s.vm.findClass "DraftTreeLaw" = some m.cls := findClass_of_methodNamed B.named
  subst hsz
  have hD := hD0.self (sz := s.heap.size)
  generalize hAe : va_A (HW x k e ov) s.heap.size = B9 at hD hZ ⊢
  have hA : ∀ q : Nat, s.heap.size ≤ q → B9 q := fun q h => by rw [← hAe]; exact Or.inr h
  clear hAe
  have hS : va_S B9 s.heap s.heap [] := va_S.rf
  have hl := lv_entry ([.ref x.h, .int k1, .ref x.ob]) (n := 4) (Nat.le_of_ble_eq_true rfl)
  rw [lg_entry_eq]
  generalize (lg_sl ([.ref x.h, .int k1, .ref x.ob]) ++ List.replicate (4 - (lg_sl ([.ref x.h, .int k1, .ref x.ob])).length) Slot.unset).toArray = ls at hl ⊢
  have hl : lv_has ls 4 [(0, .ref x.h), (1, .int k1), (2, .ref x.ob)] := hl
  refine lv_aload_n hx hb d_L_erase_0 rfl (lv_at hl 2 rfl) ?_
  refine lv_iconst (v := 0) hx hb d_L_erase_1 (by decide) ?_
  refine lv_aload_n hx hb d_L_erase_2 rfl (lv_at hl 0 rfl) ?_
  refine lv_iload_n hx hb d_L_erase_3 rfl (lv_at hl 1 rfl) ?_
  have hFc := va_freeM (wc := HW x k e ov) hD hS hA (fun _ h9 => h9)
  refine th_catch (own := "DraftTreeLaw") (C := "java/lang/IllegalStateException") (hpc := 12) (A1 := va_A (HW x k e ov) s.heap.size) (th_runV (As := [.int k1]) (rest := [.int 0, .ref x.ob]) ⟨hx, hb, hml, hown, hts⟩ (hT _) (cwV 1 hts (gd_v lk_553 lk_554 lk_555 lk_444 lk_505) rfl rfl rfl (by decide +kernel) ⟨Nat.le_of_ble_eq_true rfl, Nat.le_of_ble_eq_true rfl⟩) ⟨fun a U g mk q => by obtain ⟨q0, q1, qP, qK, qD, qZ⟩ := q; exact ⟨q0, q1, qP, va_K.moved (u := U) (U := U.calling g mk a) (Vm.Alike.refl U.vm) qK, qD, th_ZA.calling qZ⟩, va_recv (ci := 0) (q0 := 1) hK hP rfl rfl, fun U hU hW => ⟨rfl, by rw [hU], by rw [hU]; exact hP, va_K.moved hW.alike hK, hD.weaken (fun _ _ _ _ => trivial), th_ZA.to hZ hS hU hW hFc⟩⟩ rfl rfl hl.1 rfl (lv_room (Nat.le_of_ble_eq_true rfl)) d_L_erase_4 ⟨Nat.le_of_ble_eq_true rfl, Nat.le_of_ble_eq_true rfl⟩) hown htab (by refine ⟨⟨by decide, by decide, by decide⟩, "java/lang/IllegalStateException", (hts _ (List.mem_cons_of_mem _ lk_556)), ?_⟩; exact Or.inl ⟨rfl, rfl⟩) (fun _ _ _ h => ⟨h.1, h.2.2⟩) hS (fun q _ h => hFc q h) hFc (fun xx st₀ t H1 locs ht hvm _ hB hz1 hk1 hS => ?_)
  obtain ⟨-, ⟨hP1, hD1⟩, -⟩ := hB
  rw [ht] at hP1
  have hP := hP1
  have hD := hD1.weaken (fun _ q _ h => hFc q.1 h)
  clear hP1 hD1 hFc hk1 hz1
  refine W.cs (cells' := 1) (slots' := 6) rfl rfl ?_
  refine lv_astore_n (lv' := [(3, .ref xx), (0, .ref x.h), (1, .int k1), (2, .ref x.ob)]) hx hb d_L_erase_12 rfl hl (by decide) rfl (fun ls hl => ?_)
  refine lv_iconst (v := 1) hx hb d_L_erase_13 (by decide) ?_
  refine W.widen (k := 3) (n := 170) (Nat.le_of_ble_eq_true rfl) (Nat.le_of_ble_eq_true rfl) ?_
  exact W.iret (v := 1) hx hb hr (fun t ht hW => ⟨⟨_, kn, rfl, ⟨rfl, hC⟩, by rw [ht]; exact hP, hD⟩, hS.F ht⟩) hS.2.2 d_L_erase_14
set_option maxHeartbeats 8000000 in
set_option maxRecDepth 100000 in
theorem H_go_0 (l : Launch) (hfl : l.flags = flags0) (x : FX) {k : CK} {e : ES} {k1 k2 : Int32} (ov : Nat → Int64) {e' : ES} (hM : KRetV l x y_D_go w_D_go ({ frames := 1, cells := 0, slots := 0, locals := 21 }) [.ref x.h, .int k1, .int k2] k e 0 0 e') : HRet l x y_L_go w_L_go [.ref x.h, .int k1, .int k2] k e ov 0 e' ov := by
  intro sz
  refine th_ofWw (tab := [(0, 6, 9, 23)]) (cc := method_5_code) (maxL := 4) (ret := some .int) (by decide) rfl ?_
  intro p en s m args below meth c s₁ B hml htab hv
  obtain ⟨rfl, hsz, hP, hK, hD0, hZ⟩ := hv
  have hx := B.exec
  have hb := B.bytes
  have hr := B.returns
  have hts := atoms_spec (ws := w_L_go) B.pre
  have hown : s.vm.findClass "DraftTreeLaw" = some m.cls := findClass_of_methodNamed B.named
  subst hsz
  have hD := hD0.self (sz := s.heap.size)
  generalize hAe : va_A (HW x k e ov) s.heap.size = B9 at hD hZ ⊢
  have hA : ∀ q : Nat, s.heap.size ≤ q → B9 q := fun q h => by rw [← hAe]; exact Or.inr h
  clear hAe
  have hS : va_S B9 s.heap s.heap [] := va_S.rf
  have hl := lv_entry ([.ref x.h, .int k1, .int k2]) (n := 4) (Nat.le_of_ble_eq_true rfl)
  rw [lg_entry_eq]
  generalize (lg_sl ([.ref x.h, .int k1, .int k2]) ++ List.replicate (4 - (lg_sl ([.ref x.h, .int k1, .int k2])).length) Slot.unset).toArray = ls at hl ⊢
  have hl : lv_has ls 4 [(0, .ref x.h), (1, .int k1), (2, .int k2)] := hl
  refine lv_aload_n hx hb d_L_go_0 rfl (lv_at hl 0 rfl) ?_
  refine lv_iload_n hx hb d_L_go_1 rfl (lv_at hl 1 rfl) ?_
  refine lv_iload_n hx hb d_L_go_2 rfl (lv_at hl 2 rfl) ?_
  have hFc := va_freeM (wc := HW x k e ov) hD hS hA (fun _ h9 => h9)
  refine va_callv (va_runV (As := [.int k1, .int k2]) (rest := []) ⟨hx, hb, hml, hown, hts⟩ (hM.up ov _) (cwV 2 hts (gd_v lk_567 lk_568 lk_569 lk_444 lk_450) rfl rfl rfl (by decide +kernel) ⟨Nat.le_of_ble_eq_true rfl, Nat.le_of_ble_eq_true rfl⟩) ⟨fun a U g mk q => by obtain ⟨q0, q1, qP, qK, qD⟩ := q; exact ⟨q0, q1, qP, va_K.moved (u := U) (U := U.calling g mk a) (Vm.Alike.refl U.vm) qK, qD⟩, va_recv (ci := 0) (q0 := 1) hK hP rfl rfl, fun U hU hW => ⟨rfl, by rw [hU], by rw [hU]; exact hP, va_K.moved hW.alike hK, hD.weaken (fun _ _ _ _ => trivial)⟩⟩ rfl rfl hl.1 rfl (lv_room (Nat.le_of_ble_eq_true rfl)) d_L_go_3 ⟨Nat.le_of_ble_eq_true rfl, Nat.le_of_ble_eq_true rfl⟩) hS (fun q _ h => hFc q h) hFc (fun kn t H1 locs ht hvm hw hB hz1 hk1 hS => ?_)
  obtain ⟨hP1, hD1⟩ := hB
  rw [ht] at hP1
  have hP := hP1
  have hD := hD1.weaken (fun _ q _ h => hFc q.1 h)
  clear hP1 hD1 hFc hk1 hz1
  refine W.cs (cells' := 0) (slots' := 0) rfl rfl ?_
  have hC := hw
  refine lv_goto (tgt := 12) hx hb d_L_go_6 (by decide) ?_
  refine lv_iconst (v := 0) hx hb d_L_go_12 (by decide) ?_
  refine W.widen (k := 3) (n := 170) (Nat.le_of_ble_eq_true rfl) (Nat.le_of_ble_eq_true rfl) ?_
  exact W.iret (v := 0) hx hb hr (fun t ht hW => ⟨⟨_, kn, rfl, ⟨rfl, hC⟩, by rw [ht]; exact hP, hD⟩, hS.F ht⟩) hS.2.2 d_L_go_13
set_option maxHeartbeats 8000000 in
set_option maxRecDepth 100000 in
theorem H_go_1 (l : Launch) (hfl : l.flags = flags0) (x : FX) {k : CK} {e : ES} {k1 k2 : Int32} (ov : Nat → Int64) {e' : ES} (hM : KThr l x y_D_go w_D_go ({ frames := 7, cells := 1, slots := 6, locals := 102 }) [.ref x.h, .int k1, .int k2] k e 1 6 "java/lang/IndexOutOfBoundsException" e') : HRet l x y_L_go w_L_go [.ref x.h, .int k1, .int k2] k e ov 1 e' ov := by
  obtain ⟨kn, hC, hT⟩ := hM.up ov
  intro sz
  refine th_ofWw (tab := [(0, 6, 9, 23)]) (cc := method_5_code) (maxL := 4) (ret := some .int) (by decide) rfl ?_
  intro p en s m args below meth c s₁ B hml htab hv
  obtain ⟨rfl, hsz, hP, hK, hD0, hZ⟩ := hv
  have hx := B.exec
  have hb := B.bytes
  have hr := B.returns
  have hts := atoms_spec (ws := w_L_go) B.pre
  have hown : s.vm.findClass "DraftTreeLaw" = some m.cls := findClass_of_methodNamed B.named
  subst hsz
  have hD := hD0.self (sz := s.heap.size)
  generalize hAe : va_A (HW x k e ov) s.heap.size = B9 at hD hZ ⊢
  have hA : ∀ q : Nat, s.heap.size ≤ q → B9 q := fun q h => by rw [← hAe]; exact Or.inr h
  clear hAe
  have hS : va_S B9 s.heap s.heap [] := va_S.rf
  have hl := lv_entry ([.ref x.h, .int k1, .int k2]) (n := 4) (Nat.le_of_ble_eq_true rfl)
  rw [lg_entry_eq]
  generalize (lg_sl ([.ref x.h, .int k1, .int k2]) ++ List.replicate (4 - (lg_sl ([.ref x.h, .int k1, .int k2])).length) Slot.unset).toArray = ls at hl ⊢
  have hl : lv_has ls 4 [(0, .ref x.h), (1, .int k1), (2, .int k2)] := hl
  refine lv_aload_n hx hb d_L_go_0 rfl (lv_at hl 0 rfl) ?_
  refine lv_iload_n hx hb d_L_go_1 rfl (lv_at hl 1 rfl) ?_
  refine lv_iload_n hx hb d_L_go_2 rfl (lv_at hl 2 rfl) ?_
  have hFc := va_freeM (wc := HW x k e ov) hD hS hA (fun _ h9 => h9)
  refine th_catch (own := "DraftTreeLaw") (C := "java/lang/IndexOutOfBoundsException") (hpc := 9) (A1 := va_A (HW x k e ov) s.heap.size) (th_runV (As := [.int k1, .int k2]) (rest := []) ⟨hx, hb, hml, hown, hts⟩ (hT _) (cwV 2 hts (gd_v lk_567 lk_568 lk_569 lk_444 lk_450) rfl rfl rfl (by decide +kernel) ⟨Nat.le_of_ble_eq_true rfl, Nat.le_of_ble_eq_true rfl⟩) ⟨fun a U g mk q => by obtain ⟨q0, q1, qP, qK, qD, qZ⟩ := q; exact ⟨q0, q1, qP, va_K.moved (u := U) (U := U.calling g mk a) (Vm.Alike.refl U.vm) qK, qD, th_ZA.calling qZ⟩, va_recv (ci := 0) (q0 := 1) hK hP rfl rfl, fun U hU hW => ⟨rfl, by rw [hU], by rw [hU]; exact hP, va_K.moved hW.alike hK, hD.weaken (fun _ _ _ _ => trivial), th_ZA.to hZ hS hU hW hFc⟩⟩ rfl rfl hl.1 rfl (lv_room (Nat.le_of_ble_eq_true rfl)) d_L_go_3 ⟨Nat.le_of_ble_eq_true rfl, Nat.le_of_ble_eq_true rfl⟩) hown htab (by refine ⟨⟨by decide, by decide, by decide⟩, "java/lang/IndexOutOfBoundsException", (hts _ (List.mem_cons_of_mem _ lk_546)), ?_⟩; exact Or.inl ⟨rfl, rfl⟩) (fun _ _ _ h => ⟨h.1, h.2.2⟩) hS (fun q _ h => hFc q h) hFc (fun xx st₀ t H1 locs ht hvm _ hB hz1 hk1 hS => ?_)
  obtain ⟨-, ⟨hP1, hD1⟩, -⟩ := hB
  rw [ht] at hP1
  have hP := hP1
  have hD := hD1.weaken (fun _ q _ h => hFc q.1 h)
  clear hP1 hD1 hFc hk1 hz1
  refine W.cs (cells' := 1) (slots' := 6) rfl rfl ?_
  refine lv_astore_n (lv' := [(3, .ref xx), (0, .ref x.h), (1, .int k1), (2, .int k2)]) hx hb d_L_go_9 rfl hl (by decide) rfl (fun ls hl => ?_)
  refine lv_iconst (v := 1) hx hb d_L_go_10 (by decide) ?_
  refine W.widen (k := 3) (n := 170) (Nat.le_of_ble_eq_true rfl) (Nat.le_of_ble_eq_true rfl) ?_
  exact W.iret (v := 1) hx hb hr (fun t ht hW => ⟨⟨_, kn, rfl, ⟨rfl, hC⟩, by rw [ht]; exact hP, hD⟩, hS.F ht⟩) hS.2.2 d_L_go_11
set_option maxHeartbeats 8000000 in
set_option maxRecDepth 100000 in
theorem H_compile_0 (l : Launch) (hfl : l.flags = flags0) (x : FX) {k : CK} {e : ES} (ov : Nat → Int64) {e' : ES} (hM : KRetV l x y_D_compile w_D_compile ({ frames := 6, cells := 0, slots := 0, locals := 131 }) [.ref x.h] k e 0 0 e') : HRet l x y_L_compile w_L_compile [.ref x.h] k e ov 0 e' ov := by
  intro sz
  refine th_ofWw (tab := [(0, 4, 7, 28)]) (cc := method_6_code) (maxL := 2) (ret := some .int) (by decide) rfl ?_
  intro p en s m args below meth c s₁ B hml htab hv
  obtain ⟨rfl, hsz, hP, hK, hD0, hZ⟩ := hv
  have hx := B.exec
  have hb := B.bytes
  have hr := B.returns
  have hts := atoms_spec (ws := w_L_compile) B.pre
  have hown : s.vm.findClass "DraftTreeLaw" = some m.cls := findClass_of_methodNamed B.named
  subst hsz
  have hD := hD0.self (sz := s.heap.size)
  generalize hAe : va_A (HW x k e ov) s.heap.size = B9 at hD hZ ⊢
  have hA : ∀ q : Nat, s.heap.size ≤ q → B9 q := fun q h => by rw [← hAe]; exact Or.inr h
  clear hAe
  have hS : va_S B9 s.heap s.heap [] := va_S.rf
  have hl := lv_entry ([.ref x.h]) (n := 2) (Nat.le_of_ble_eq_true rfl)
  rw [lg_entry_eq]
  generalize (lg_sl ([.ref x.h]) ++ List.replicate (2 - (lg_sl ([.ref x.h])).length) Slot.unset).toArray = ls at hl ⊢
  have hl : lv_has ls 2 [(0, .ref x.h)] := hl
  refine lv_aload_n hx hb d_L_compile_0 rfl (lv_at hl 0 rfl) ?_
  have hFc := va_freeM (wc := HW x k e ov) hD hS hA (fun _ h9 => h9)
  refine va_callv (va_runV (As := []) (rest := []) ⟨hx, hb, hml, hown, hts⟩ (hM.up ov _) (cwV 0 hts (gd_v lk_548 lk_549 lk_550 lk_444 lk_433) rfl rfl rfl (by decide +kernel) ⟨Nat.le_of_ble_eq_true rfl, Nat.le_of_ble_eq_true rfl⟩) ⟨fun a U g mk q => by obtain ⟨q0, q1, qP, qK, qD⟩ := q; exact ⟨q0, q1, qP, va_K.moved (u := U) (U := U.calling g mk a) (Vm.Alike.refl U.vm) qK, qD⟩, va_recv (ci := 0) (q0 := 1) hK hP rfl rfl, fun U hU hW => ⟨rfl, by rw [hU], by rw [hU]; exact hP, va_K.moved hW.alike hK, hD.weaken (fun _ _ _ _ => trivial)⟩⟩ rfl rfl hl.1 rfl (lv_room (Nat.le_of_ble_eq_true rfl)) d_L_compile_1 ⟨Nat.le_of_ble_eq_true rfl, Nat.le_of_ble_eq_true rfl⟩) hS (fun q _ h => hFc q h) hFc (fun kn t H1 locs ht hvm hw hB hz1 hk1 hS => ?_)
  obtain ⟨hP1, hD1⟩ := hB
  rw [ht] at hP1
  have hP := hP1
  have hD := hD1.weaken (fun _ q _ h => hFc q.1 h)
  clear hP1 hD1 hFc hk1 hz1
  refine W.cs (cells' := 0) (slots' := 0) rfl rfl ?_
  have hC := hw
  refine lv_goto (tgt := 10) hx hb d_L_compile_4 (by decide) ?_
  refine lv_iconst (v := 0) hx hb d_L_compile_10 (by decide) ?_
  refine W.widen (k := 3) (n := 170) (Nat.le_of_ble_eq_true rfl) (Nat.le_of_ble_eq_true rfl) ?_
  exact W.iret (v := 0) hx hb hr (fun t ht hW => ⟨⟨_, kn, rfl, ⟨rfl, hC⟩, by rw [ht]; exact hP, hD⟩, hS.F ht⟩) hS.2.2 d_L_compile_11
set_option maxHeartbeats 8000000 in
set_option maxRecDepth 100000 in
theorem H_compile_1 (l : Launch) (hfl : l.flags = flags0) (x : FX) {k : CK} {e : ES} (ov : Nat → Int64) {e' : ES} (hM : KThr l x y_D_compile w_D_compile ({ frames := 6, cells := 1, slots := 6, locals := 131 }) [.ref x.h] k e 1 6 "java/lang/IllegalArgumentException" e') : HRet l x y_L_compile w_L_compile [.ref x.h] k e ov 1 e' ov := by
  obtain ⟨kn, hC, hT⟩ := hM.up ov
  intro sz
  refine th_ofWw (tab := [(0, 4, 7, 28)]) (cc := method_6_code) (maxL := 2) (ret := some .int) (by decide) rfl ?_
  intro p en s m args below meth c s₁ B hml htab hv
  obtain ⟨rfl, hsz, hP, hK, hD0, hZ⟩ := hv
  have hx := B.exec
  have hb := B.bytes
  have hr := B.returns
  have hts := atoms_spec (ws := w_L_compile) B.pre
  have hown : s.vm.findClass "DraftTreeLaw" = some m.cls := findClass_of_methodNamed B.named
  subst hsz
  have hD := hD0.self (sz := s.heap.size)
  generalize hAe : va_A (HW x k e ov) s.heap.size = B9 at hD hZ ⊢
  have hA : ∀ q : Nat, s.heap.size ≤ q → B9 q := fun q h => by rw [← hAe]; exact Or.inr h
  clear hAe
  have hS : va_S B9 s.heap s.heap [] := va_S.rf
  have hl := lv_entry ([.ref x.h]) (n := 2) (Nat.le_of_ble_eq_true rfl)
  rw [lg_entry_eq]
  generalize (lg_sl ([.ref x.h]) ++ List.replicate (2 - (lg_sl ([.ref x.h])).length) Slot.unset).toArray = ls at hl ⊢
  have hl : lv_has ls 2 [(0, .ref x.h)] := hl
  refine lv_aload_n hx hb d_L_compile_0 rfl (lv_at hl 0 rfl) ?_
  have hFc := va_freeM (wc := HW x k e ov) hD hS hA (fun _ h9 => h9)
  refine th_catch (own := "DraftTreeLaw") (C := "java/lang/IllegalArgumentException") (hpc := 7) (A1 := va_A (HW x k e ov) s.heap.size) (th_runV (As := []) (rest := []) ⟨hx, hb, hml, hown, hts⟩ (hT _) (cwV 0 hts (gd_v lk_548 lk_549 lk_550 lk_444 lk_433) rfl rfl rfl (by decide +kernel) ⟨Nat.le_of_ble_eq_true rfl, Nat.le_of_ble_eq_true rfl⟩) ⟨fun a U g mk q => by obtain ⟨q0, q1, qP, qK, qD, qZ⟩ := q; exact ⟨q0, q1, qP, va_K.moved (u := U) (U := U.calling g mk a) (Vm.Alike.refl U.vm) qK, qD, th_ZA.calling qZ⟩, va_recv (ci := 0) (q0 := 1) hK hP rfl rfl, fun U hU hW => ⟨rfl, by rw [hU], by rw [hU]; exact hP, va_K.moved hW.alike hK, hD.weaken (fun _ _ _ _ => trivial), th_ZA.to hZ hS hU hW hFc⟩⟩ rfl rfl hl.1 rfl (lv_room (Nat.le_of_ble_eq_true rfl)) d_L_compile_1 ⟨Nat.le_of_ble_eq_true rfl, Nat.le_of_ble_eq_true rfl⟩) hown htab (by refine ⟨⟨by decide, by decide, by decide⟩, "java/lang/IllegalArgumentException", (hts _ (List.mem_cons_of_mem _ lk_551)), ?_⟩; exact Or.inl ⟨rfl, rfl⟩) (fun _ _ _ h => ⟨h.1, h.2.2⟩) hS (fun q _ h => hFc q h) hFc (fun xx st₀ t H1 locs ht hvm _ hB hz1 hk1 hS => ?_)
  obtain ⟨-, ⟨hP1, hD1⟩, -⟩ := hB
  rw [ht] at hP1
  have hP := hP1
  have hD := hD1.weaken (fun _ q _ h => hFc q.1 h)
  clear hP1 hD1 hFc hk1 hz1
  refine W.cs (cells' := 1) (slots' := 6) rfl rfl ?_
  refine lv_astore_n (lv' := [(1, .ref xx), (0, .ref x.h)]) hx hb d_L_compile_7 rfl hl (by decide) rfl (fun ls hl => ?_)
  refine lv_iconst (v := 1) hx hb d_L_compile_8 (by decide) ?_
  refine W.widen (k := 3) (n := 170) (Nat.le_of_ble_eq_true rfl) (Nat.le_of_ble_eq_true rfl) ?_
  exact W.iret (v := 1) hx hb hr (fun t ht hW => ⟨⟨_, kn, rfl, ⟨rfl, hC⟩, by rw [ht]; exact hP, hD⟩, hS.F ht⟩) hS.2.2 d_L_compile_9
set_option maxHeartbeats 8000000 in
set_option maxRecDepth 100000 in
theorem H_find_0 (l : Launch) (hfl : l.flags = flags0) (x : FX) {k : CK} {e : ES} {k1 : Int32} (ov : Nat → Int64) {r : Int32} {e' : ES} (hM : KRetI l x y_D_find w_D_find ({ frames := 5, cells := 0, slots := 0, locals := 127 }) [.ref x.h, .int k1] k e 0 0 r e') : HRet l x y_L_find w_L_find [.ref x.h, .int k1, .ref x.ob] k e ov 0 e' (vp_updL ov 0 r.toInt64) := by
  intro sz
  refine th_ofWw (tab := [(0, 9, 12, 13), (0, 9, 15, 23), (0, 9, 18, 33)]) (cc := method_7_code) (maxL := 4) (ret := some .int) (by decide) rfl ?_
  intro p en s m args below meth c s₁ B hml htab hv
  obtain ⟨rfl, hsz, hP, hK, hD0, hZ⟩ := hv
  have hx := B.exec
  have hb := B.bytes
  have hr := B.returns
  have hts := atoms_spec (ws := w_L_find) B.pre
  have hown : s.vm.findClass "DraftTreeLaw" = some m.cls := findClass_of_methodNamed B.named
  subst hsz
  have hD := hD0.self (sz := s.heap.size)
  generalize hAe : va_A (HW x k e ov) s.heap.size = B9 at hD hZ ⊢
  have hA : ∀ q : Nat, s.heap.size ≤ q → B9 q := fun q h => by rw [← hAe]; exact Or.inr h
  clear hAe
  have hS : va_S B9 s.heap s.heap [] := va_S.rf
  have hl := lv_entry ([.ref x.h, .int k1, .ref x.ob]) (n := 4) (Nat.le_of_ble_eq_true rfl)
  rw [lg_entry_eq]
  generalize (lg_sl ([.ref x.h, .int k1, .ref x.ob]) ++ List.replicate (4 - (lg_sl ([.ref x.h, .int k1, .ref x.ob])).length) Slot.unset).toArray = ls at hl ⊢
  have hl : lv_has ls 4 [(0, .ref x.h), (1, .int k1), (2, .ref x.ob)] := hl
  refine lv_aload_n hx hb d_L_find_0 rfl (lv_at hl 2 rfl) ?_
  refine lv_iconst (v := 0) hx hb d_L_find_1 (by decide) ?_
  refine lv_aload_n hx hb d_L_find_2 rfl (lv_at hl 0 rfl) ?_
  refine lv_iload_n hx hb d_L_find_3 rfl (lv_at hl 1 rfl) ?_
  have hFc := va_freeM (wc := HW x k e ov) hD hS hA (fun _ h9 => h9)
  refine va_calli (va_runV (As := [.int k1]) (rest := [.int 0, .ref x.ob]) ⟨hx, hb, hml, hown, hts⟩ (hM.up ov _) (cwV 1 hts (gd_v lk_562 lk_563 lk_564 lk_444 lk_449) rfl rfl rfl (by decide +kernel) ⟨Nat.le_of_ble_eq_true rfl, Nat.le_of_ble_eq_true rfl⟩) ⟨fun a U g mk q => by obtain ⟨q0, q1, qP, qK, qD⟩ := q; exact ⟨q0, q1, qP, va_K.moved (u := U) (U := U.calling g mk a) (Vm.Alike.refl U.vm) qK, qD⟩, va_recv (ci := 0) (q0 := 1) hK hP rfl rfl, fun U hU hW => ⟨rfl, by rw [hU], by rw [hU]; exact hP, va_K.moved hW.alike hK, hD.weaken (fun _ _ _ _ => trivial)⟩⟩ rfl rfl hl.1 rfl (lv_room (Nat.le_of_ble_eq_true rfl)) d_L_find_4 ⟨Nat.le_of_ble_eq_true rfl, Nat.le_of_ble_eq_true rfl⟩) hS (fun q _ h => hFc q h) hFc (fun r9 kn t H1 locs ht hvm hw hB hz1 hk1 hS => ?_)
  obtain ⟨hP1, hD1⟩ := hB
  rw [ht] at hP1
  have hP := hP1
  have hD := hD1.weaken (fun _ q _ h => hFc q.1 h)
  clear hP1 hD1 hFc hk1 hz1
  refine W.cs (cells' := 0) (slots' := 0) rfl rfl ?_
  obtain ⟨hw0, hC⟩ := hw
  subst hw0
  refine lv_i2l hx hb d_L_find_7 rfl ?_
  refine va_last hx hb hK hP hD hS 0 2 rfl rfl (wk_inb_ok (by decide)) d_L_find_8 (fun H locs hP hD hS => ?_)
  have hP : va_P x.D vwCl (HW x kn e' (vp_updL ov 0 r9.toInt64)) H := hP
  have hD : va_D B9 (HW x kn e' (vp_updL ov 0 r9.toInt64)) := hD
  refine lv_goto (tgt := 21) hx hb d_L_find_9 (by decide) ?_
  refine lv_iconst (v := 0) hx hb d_L_find_21 (by decide) ?_
  refine W.widen (k := 3) (n := 170) (Nat.le_of_ble_eq_true rfl) (Nat.le_of_ble_eq_true rfl) ?_
  exact W.iret (v := 0) hx hb hr (fun t ht hW => ⟨⟨_, kn, rfl, ⟨rfl, hC⟩, by rw [ht]; exact hP, hD⟩, hS.F ht⟩) hS.2.2 d_L_find_22
set_option maxHeartbeats 8000000 in
set_option maxRecDepth 100000 in
theorem H_find_1 (l : Launch) (hfl : l.flags = flags0) (x : FX) {k : CK} {e : ES} {k1 : Int32} (ov : Nat → Int64) {e' : ES} (hM : KThr l x y_D_find w_D_find ({ frames := 7, cells := 1, slots := 6, locals := 127 }) [.ref x.h, .int k1] k e 1 6 "java/lang/IllegalStateException" e') : HRet l x y_L_find w_L_find [.ref x.h, .int k1, .ref x.ob] k e ov 1 e' ov := by
  obtain ⟨kn, hC, hT⟩ := hM.up ov
  intro sz
  refine th_ofWw (tab := [(0, 9, 12, 13), (0, 9, 15, 23), (0, 9, 18, 33)]) (cc := method_7_code) (maxL := 4) (ret := some .int) (by decide) rfl ?_
  intro p en s m args below meth c s₁ B hml htab hv
  obtain ⟨rfl, hsz, hP, hK, hD0, hZ⟩ := hv
  have hx := B.exec
  have hb := B.bytes
  have hr := B.returns
  have hts := atoms_spec (ws := w_L_find) B.pre
  have hown : s.vm.findClass "DraftTreeLaw" = some m.cls := findClass_of_methodNamed B.named
  subst hsz
  have hD := hD0.self (sz := s.heap.size)
  generalize hAe : va_A (HW x k e ov) s.heap.size = B9 at hD hZ ⊢
  have hA : ∀ q : Nat, s.heap.size ≤ q → B9 q := fun q h => by rw [← hAe]; exact Or.inr h
  clear hAe
  have hS : va_S B9 s.heap s.heap [] := va_S.rf
  have hl := lv_entry ([.ref x.h, .int k1, .ref x.ob]) (n := 4) (Nat.le_of_ble_eq_true rfl)
  rw [lg_entry_eq]
  generalize (lg_sl ([.ref x.h, .int k1, .ref x.ob]) ++ List.replicate (4 - (lg_sl ([.ref x.h, .int k1, .ref x.ob])).length) Slot.unset).toArray = ls at hl ⊢
  have hl : lv_has ls 4 [(0, .ref x.h), (1, .int k1), (2, .ref x.ob)] := hl
  refine lv_aload_n hx hb d_L_find_0 rfl (lv_at hl 2 rfl) ?_
  refine lv_iconst (v := 0) hx hb d_L_find_1 (by decide) ?_
  refine lv_aload_n hx hb d_L_find_2 rfl (lv_at hl 0 rfl) ?_
  refine lv_iload_n hx hb d_L_find_3 rfl (lv_at hl 1 rfl) ?_
  have hFc := va_freeM (wc := HW x k e ov) hD hS hA (fun _ h9 => h9)
  refine th_catch (own := "DraftTreeLaw") (C := "java/lang/IllegalStateException") (hpc := 12) (A1 := va_A (HW x k e ov) s.heap.size) (th_runV (As := [.int k1]) (rest := [.int 0, .ref x.ob]) ⟨hx, hb, hml, hown, hts⟩ (hT _) (cwV 1 hts (gd_v lk_562 lk_563 lk_564 lk_444 lk_449) rfl rfl rfl (by decide +kernel) ⟨Nat.le_of_ble_eq_true rfl, Nat.le_of_ble_eq_true rfl⟩) ⟨fun a U g mk q => by obtain ⟨q0, q1, qP, qK, qD, qZ⟩ := q; exact ⟨q0, q1, qP, va_K.moved (u := U) (U := U.calling g mk a) (Vm.Alike.refl U.vm) qK, qD, th_ZA.calling qZ⟩, va_recv (ci := 0) (q0 := 1) hK hP rfl rfl, fun U hU hW => ⟨rfl, by rw [hU], by rw [hU]; exact hP, va_K.moved hW.alike hK, hD.weaken (fun _ _ _ _ => trivial), th_ZA.to hZ hS hU hW hFc⟩⟩ rfl rfl hl.1 rfl (lv_room (Nat.le_of_ble_eq_true rfl)) d_L_find_4 ⟨Nat.le_of_ble_eq_true rfl, Nat.le_of_ble_eq_true rfl⟩) hown htab (by refine ⟨⟨by decide, by decide, by decide⟩, "java/lang/IllegalStateException", (hts _ (List.mem_cons_of_mem _ lk_556)), ?_⟩; exact Or.inl ⟨rfl, rfl⟩) (fun _ _ _ h => ⟨h.1, h.2.2⟩) hS (fun q _ h => hFc q h) hFc (fun xx st₀ t H1 locs ht hvm _ hB hz1 hk1 hS => ?_)
  obtain ⟨-, ⟨hP1, hD1⟩, -⟩ := hB
  rw [ht] at hP1
  have hP := hP1
  have hD := hD1.weaken (fun _ q _ h => hFc q.1 h)
  clear hP1 hD1 hFc hk1 hz1
  refine W.cs (cells' := 1) (slots' := 6) rfl rfl ?_
  refine lv_astore_n (lv' := [(3, .ref xx), (0, .ref x.h), (1, .int k1), (2, .ref x.ob)]) hx hb d_L_find_12 rfl hl (by decide) rfl (fun ls hl => ?_)
  refine lv_iconst (v := 1) hx hb d_L_find_13 (by decide) ?_
  refine W.widen (k := 3) (n := 170) (Nat.le_of_ble_eq_true rfl) (Nat.le_of_ble_eq_true rfl) ?_
  exact W.iret (v := 1) hx hb hr (fun t ht hW => ⟨⟨_, kn, rfl, ⟨rfl, hC⟩, by rw [ht]; exact hP, hD⟩, hS.F ht⟩) hS.2.2 d_L_find_14
set_option maxHeartbeats 8000000 in
set_option maxRecDepth 100000 in
theorem H_find_2 (l : Launch) (hfl : l.flags = flags0) (x : FX) {k : CK} {e : ES} {k1 : Int32} (ov : Nat → Int64) {e' : ES} (hM : KThr l x y_D_find w_D_find ({ frames := 7, cells := 1, slots := 6, locals := 127 }) [.ref x.h, .int k1] k e 1 6 "java/lang/IndexOutOfBoundsException" e') : HRet l x y_L_find w_L_find [.ref x.h, .int k1, .ref x.ob] k e ov 2 e' ov := by
  obtain ⟨kn, hC, hT⟩ := hM.up ov
  intro sz
  refine th_ofWw (tab := [(0, 9, 12, 13), (0, 9, 15, 23), (0, 9, 18, 33)]) (cc := method_7_code) (maxL := 4) (ret := some .int) (by decide) rfl ?_
  intro p en s m args below meth c s₁ B hml htab hv
  obtain ⟨rfl, hsz, hP, hK, hD0, hZ⟩ := hv
  have hx := B.exec
  have hb := B.bytes
  have hr := B.returns
  have hts := atoms_spec (ws := w_L_find) B.pre
  have hown : s.vm.findClass "DraftTreeLaw" = some m.cls := findClass_of_methodNamed B.named
  subst hsz
  have hD := hD0.self (sz := s.heap.size)
  generalize hAe : va_A (HW x k e ov) s.heap.size = B9 at hD hZ ⊢
  have hA : ∀ q : Nat, s.heap.size ≤ q → B9 q := fun q h => by rw [← hAe]; exact Or.inr h
  clear hAe
  have hS : va_S B9 s.heap s.heap [] := va_S.rf
  have hl := lv_entry ([.ref x.h, .int k1, .ref x.ob]) (n := 4) (Nat.le_of_ble_eq_true rfl)
  rw [lg_entry_eq]
  generalize (lg_sl ([.ref x.h, .int k1, .ref x.ob]) ++ List.replicate (4 - (lg_sl ([.ref x.h, .int k1, .ref x.ob])).length) Slot.unset).toArray = ls at hl ⊢
  have hl : lv_has ls 4 [(0, .ref x.h), (1, .int k1), (2, .ref x.ob)] := hl
  refine lv_aload_n hx hb d_L_find_0 rfl (lv_at hl 2 rfl) ?_
  refine lv_iconst (v := 0) hx hb d_L_find_1 (by decide) ?_
  refine lv_aload_n hx hb d_L_find_2 rfl (lv_at hl 0 rfl) ?_
  refine lv_iload_n hx hb d_L_find_3 rfl (lv_at hl 1 rfl) ?_
  have hFc := va_freeM (wc := HW x k e ov) hD hS hA (fun _ h9 => h9)
  refine th_catch (own := "DraftTreeLaw") (C := "java/lang/IndexOutOfBoundsException") (hpc := 15) (A1 := va_A (HW x k e ov) s.heap.size) (th_runV (As := [.int k1]) (rest := [.int 0, .ref x.ob]) ⟨hx, hb, hml, hown, hts⟩ (hT _) (cwV 1 hts (gd_v lk_562 lk_563 lk_564 lk_444 lk_449) rfl rfl rfl (by decide +kernel) ⟨Nat.le_of_ble_eq_true rfl, Nat.le_of_ble_eq_true rfl⟩) ⟨fun a U g mk q => by obtain ⟨q0, q1, qP, qK, qD, qZ⟩ := q; exact ⟨q0, q1, qP, va_K.moved (u := U) (U := U.calling g mk a) (Vm.Alike.refl U.vm) qK, qD, th_ZA.calling qZ⟩, va_recv (ci := 0) (q0 := 1) hK hP rfl rfl, fun U hU hW => ⟨rfl, by rw [hU], by rw [hU]; exact hP, va_K.moved hW.alike hK, hD.weaken (fun _ _ _ _ => trivial), th_ZA.to hZ hS hU hW hFc⟩⟩ rfl rfl hl.1 rfl (lv_room (Nat.le_of_ble_eq_true rfl)) d_L_find_4 ⟨Nat.le_of_ble_eq_true rfl, Nat.le_of_ble_eq_true rfl⟩) hown htab (by refine ⟨⟨by decide, by decide, by decide⟩, "java/lang/IllegalStateException", (hts _ (List.mem_cons_of_mem _ lk_556)), ?_⟩; refine Or.inr ⟨hZ.2.2.2.2.2.1, ?_⟩; refine ⟨⟨by decide, by decide, by decide⟩, "java/lang/IndexOutOfBoundsException", (hts _ (List.mem_cons_of_mem _ lk_546)), ?_⟩; exact Or.inl ⟨rfl, rfl⟩) (fun _ _ _ h => ⟨h.1, h.2.2⟩) hS (fun q _ h => hFc q h) hFc (fun xx st₀ t H1 locs ht hvm _ hB hz1 hk1 hS => ?_)
  obtain ⟨-, ⟨hP1, hD1⟩, -⟩ := hB
  rw [ht] at hP1
  have hP := hP1
  have hD := hD1.weaken (fun _ q _ h => hFc q.1 h)
  clear hP1 hD1 hFc hk1 hz1
  refine W.cs (cells' := 1) (slots' := 6) rfl rfl ?_
  refine lv_astore_n (lv' := [(3, .ref xx), (0, .ref x.h), (1, .int k1), (2, .ref x.ob)]) hx hb d_L_find_15 rfl hl (by decide) rfl (fun ls hl => ?_)
  refine lv_iconst (v := 2) hx hb d_L_find_16 (by decide) ?_
  refine W.widen (k := 3) (n := 170) (Nat.le_of_ble_eq_true rfl) (Nat.le_of_ble_eq_true rfl) ?_
  exact W.iret (v := 2) hx hb hr (fun t ht hW => ⟨⟨_, kn, rfl, ⟨rfl, hC⟩, by rw [ht]; exact hP, hD⟩, hS.F ht⟩) hS.2.2 d_L_find_17
set_option maxHeartbeats 8000000 in
set_option maxRecDepth 100000 in
theorem H_find_3 (l : Launch) (hfl : l.flags = flags0) (x : FX) {k : CK} {e : ES} {k1 : Int32} (ov : Nat → Int64) {e' : ES} (hM : KThr l x y_D_find w_D_find ({ frames := 7, cells := 1, slots := 6, locals := 127 }) [.ref x.h, .int k1] k e 1 6 "java/util/NoSuchElementException" e') : HRet l x y_L_find w_L_find [.ref x.h, .int k1, .ref x.ob] k e ov 3 e' ov := by
  obtain ⟨kn, hC, hT⟩ := hM.up ov
  intro sz
  refine th_ofWw (tab := [(0, 9, 12, 13), (0, 9, 15, 23), (0, 9, 18, 33)]) (cc := method_7_code) (maxL := 4) (ret := some .int) (by decide) rfl ?_
  intro p en s m args below meth c s₁ B hml htab hv
  obtain ⟨rfl, hsz, hP, hK, hD0, hZ⟩ := hv
  have hx := B.exec
  have hb := B.bytes
  have hr := B.returns
  have hts := atoms_spec (ws := w_L_find) B.pre
  have hown : s.vm.findClass "DraftTreeLaw" = some m.cls := findClass_of_methodNamed B.named
  subst hsz
  have hD := hD0.self (sz := s.heap.size)
  generalize hAe : va_A (HW x k e ov) s.heap.size = B9 at hD hZ ⊢
  have hA : ∀ q : Nat, s.heap.size ≤ q → B9 q := fun q h => by rw [← hAe]; exact Or.inr h
  clear hAe
  have hS : va_S B9 s.heap s.heap [] := va_S.rf
  have hl := lv_entry ([.ref x.h, .int k1, .ref x.ob]) (n := 4) (Nat.le_of_ble_eq_true rfl)
  rw [lg_entry_eq]
  generalize (lg_sl ([.ref x.h, .int k1, .ref x.ob]) ++ List.replicate (4 - (lg_sl ([.ref x.h, .int k1, .ref x.ob])).length) Slot.unset).toArray = ls at hl ⊢
  have hl : lv_has ls 4 [(0, .ref x.h), (1, .int k1), (2, .ref x.ob)] := hl
  refine lv_aload_n hx hb d_L_find_0 rfl (lv_at hl 2 rfl) ?_
  refine lv_iconst (v := 0) hx hb d_L_find_1 (by decide) ?_
  refine lv_aload_n hx hb d_L_find_2 rfl (lv_at hl 0 rfl) ?_
  refine lv_iload_n hx hb d_L_find_3 rfl (lv_at hl 1 rfl) ?_
  have hFc := va_freeM (wc := HW x k e ov) hD hS hA (fun _ h9 => h9)
  refine th_catch (own := "DraftTreeLaw") (C := "java/util/NoSuchElementException") (hpc := 18) (A1 := va_A (HW x k e ov) s.heap.size) (th_runV (As := [.int k1]) (rest := [.int 0, .ref x.ob]) ⟨hx, hb, hml, hown, hts⟩ (hT _) (cwV 1 hts (gd_v lk_562 lk_563 lk_564 lk_444 lk_449) rfl rfl rfl (by decide +kernel) ⟨Nat.le_of_ble_eq_true rfl, Nat.le_of_ble_eq_true rfl⟩) ⟨fun a U g mk q => by obtain ⟨q0, q1, qP, qK, qD, qZ⟩ := q; exact ⟨q0, q1, qP, va_K.moved (u := U) (U := U.calling g mk a) (Vm.Alike.refl U.vm) qK, qD, th_ZA.calling qZ⟩, va_recv (ci := 0) (q0 := 1) hK hP rfl rfl, fun U hU hW => ⟨rfl, by rw [hU], by rw [hU]; exact hP, va_K.moved hW.alike hK, hD.weaken (fun _ _ _ _ => trivial), th_ZA.to hZ hS hU hW hFc⟩⟩ rfl rfl hl.1 rfl (lv_room (Nat.le_of_ble_eq_true rfl)) d_L_find_4 ⟨Nat.le_of_ble_eq_true rfl, Nat.le_of_ble_eq_true rfl⟩) hown htab (by refine ⟨⟨by decide, by decide, by decide⟩, "java/lang/IllegalStateException", (hts _ (List.mem_cons_of_mem _ lk_556)), ?_⟩; refine Or.inr ⟨hZ.2.2.2.2.2.2.1, ?_⟩; refine ⟨⟨by decide, by decide, by decide⟩, "java/lang/IndexOutOfBoundsException", (hts _ (List.mem_cons_of_mem _ lk_546)), ?_⟩; refine Or.inr ⟨hZ.2.2.2.2.2.2.2, ?_⟩; refine ⟨⟨by decide, by decide, by decide⟩, "java/util/NoSuchElementException", (hts _ (List.mem_cons_of_mem _ lk_565)), ?_⟩; exact Or.inl ⟨rfl, rfl⟩) (fun _ _ _ h => ⟨h.1, h.2.2⟩) hS (fun q _ h => hFc q h) hFc (fun xx st₀ t H1 locs ht hvm _ hB hz1 hk1 hS => ?_)
  obtain ⟨-, ⟨hP1, hD1⟩, -⟩ := hB
  rw [ht] at hP1
  have hP := hP1
  have hD := hD1.weaken (fun _ q _ h => hFc q.1 h)
  clear hP1 hD1 hFc hk1 hz1
  refine W.cs (cells' := 1) (slots' := 6) rfl rfl ?_
  refine lv_astore_n (lv' := [(3, .ref xx), (0, .ref x.h), (1, .int k1), (2, .ref x.ob)]) hx hb d_L_find_18 rfl hl (by decide) rfl (fun ls hl => ?_)
  refine lv_iconst (v := 3) hx hb d_L_find_19 (by decide) ?_
  refine W.widen (k := 3) (n := 170) (Nat.le_of_ble_eq_true rfl) (Nat.le_of_ble_eq_true rfl) ?_
  exact W.iret (v := 3) hx hb hr (fun t ht hW => ⟨⟨_, kn, rfl, ⟨rfl, hC⟩, by rw [ht]; exact hP, hD⟩, hS.F ht⟩) hS.2.2 d_L_find_20
set_option maxHeartbeats 8000000 in
set_option maxRecDepth 100000 in
theorem H_replace_0 (l : Launch) (hfl : l.flags = flags0) (x : FX) {k : CK} {e : ES} (ov : Nat → Int64) {r : Int32} {e' : ES} (hM : KRetI l x y_D_replace w_D_replace ({ frames := 7, cells := 2, slots := 164, locals := 160 }) [.ref x.h] k e 2 164 r e') : HRet l x y_L_replace w_L_replace [.ref x.h, .ref x.ob] k e ov 0 e' (vp_updL ov 0 r.toInt64) := by
  intro sz
  refine th_ofWw (tab := [(0, 8, 11, 13)]) (cc := method_8_code) (maxL := 3) (ret := some .int) (by decide) rfl ?_
  intro p en s m args below meth c s₁ B hml htab hv
  obtain ⟨rfl, hsz, hP, hK, hD0, hZ⟩ := hv
  have hx := B.exec
  have hb := B.bytes
  have hr := B.returns
  have hts := atoms_spec (ws := w_L_replace) B.pre
  have hown : s.vm.findClass "DraftTreeLaw" = some m.cls := findClass_of_methodNamed B.named
  subst hsz
  have hD := hD0.self (sz := s.heap.size)
  generalize hAe : va_A (HW x k e ov) s.heap.size = B9 at hD hZ ⊢
  have hA : ∀ q : Nat, s.heap.size ≤ q → B9 q := fun q h => by rw [← hAe]; exact Or.inr h
  clear hAe
  have hS : va_S B9 s.heap s.heap [] := va_S.rf
  have hl := lv_entry ([.ref x.h, .ref x.ob]) (n := 3) (Nat.le_of_ble_eq_true rfl)
  rw [lg_entry_eq]
  generalize (lg_sl ([.ref x.h, .ref x.ob]) ++ List.replicate (3 - (lg_sl ([.ref x.h, .ref x.ob])).length) Slot.unset).toArray = ls at hl ⊢
  have hl : lv_has ls 3 [(0, .ref x.h), (1, .ref x.ob)] := hl
  refine lv_aload_n hx hb d_L_replace_0 rfl (lv_at hl 1 rfl) ?_
  refine lv_iconst (v := 0) hx hb d_L_replace_1 (by decide) ?_
  refine lv_aload_n hx hb d_L_replace_2 rfl (lv_at hl 0 rfl) ?_
  have hFc := va_freeM (wc := HW x k e ov) hD hS hA (fun _ h9 => h9)
  refine va_calli (va_runV (As := []) (rest := [.int 0, .ref x.ob]) ⟨hx, hb, hml, hown, hts⟩ (hM.up ov _) (cwV 0 hts (gd_v lk_591 lk_592 lk_593 lk_444 lk_532) rfl rfl rfl (by decide +kernel) ⟨Nat.le_of_ble_eq_true rfl, Nat.le_of_ble_eq_true rfl⟩) ⟨fun a U g mk q => by obtain ⟨q0, q1, qP, qK, qD⟩ := q; exact ⟨q0, q1, qP, va_K.moved (u := U) (U := U.calling g mk a) (Vm.Alike.refl U.vm) qK, qD⟩, va_recv (ci := 0) (q0 := 1) hK hP rfl rfl, fun U hU hW => ⟨rfl, by rw [hU], by rw [hU]; exact hP, va_K.moved hW.alike hK, hD.weaken (fun _ _ _ _ => trivial)⟩⟩ rfl rfl hl.1 rfl (lv_room (Nat.le_of_ble_eq_true rfl)) d_L_replace_3 ⟨Nat.le_of_ble_eq_true rfl, Nat.le_of_ble_eq_true rfl⟩) hS (fun q _ h => hFc q h) hFc (fun r9 kn t H1 locs ht hvm hw hB hz1 hk1 hS => ?_)
  obtain ⟨hP1, hD1⟩ := hB
  rw [ht] at hP1
  have hP := hP1
  have hD := hD1.weaken (fun _ q _ h => hFc q.1 h)
  clear hP1 hD1 hFc hk1 hz1
  refine W.cs (cells' := 2) (slots' := 164) rfl rfl ?_
  obtain ⟨hw0, hC⟩ := hw
  subst hw0
  refine lv_i2l hx hb d_L_replace_6 rfl ?_
  refine va_last hx hb hK hP hD hS 0 2 rfl rfl (wk_inb_ok (by decide)) d_L_replace_7 (fun H locs hP hD hS => ?_)
  have hP : va_P x.D vwCl (HW x kn e' (vp_updL ov 0 r9.toInt64)) H := hP
  have hD : va_D B9 (HW x kn e' (vp_updL ov 0 r9.toInt64)) := hD
  refine lv_goto (tgt := 14) hx hb d_L_replace_8 (by decide) ?_
  refine lv_iconst (v := 0) hx hb d_L_replace_14 (by decide) ?_
  refine W.widen (k := 3) (n := 170) (Nat.le_of_ble_eq_true rfl) (Nat.le_of_ble_eq_true rfl) ?_
  exact W.iret (v := 0) hx hb hr (fun t ht hW => ⟨⟨_, kn, rfl, ⟨rfl, hC⟩, by rw [ht]; exact hP, hD⟩, hS.F ht⟩) hS.2.2 d_L_replace_15
set_option maxHeartbeats 8000000 in
set_option maxRecDepth 100000 in
theorem H_replace_1 (l : Launch) (hfl : l.flags = flags0) (x : FX) {k : CK} {e : ES} (ov : Nat → Int64) {e' : ES} (hM : KThr l x y_D_replace w_D_replace ({ frames := 8, cells := 1, slots := 6, locals := 160 }) [.ref x.h] k e 1 6 "java/lang/IllegalStateException" e') : HRet l x y_L_replace w_L_replace [.ref x.h, .ref x.ob] k e ov 1 e' ov := by
  obtain ⟨kn, hC, hT⟩ := hM.up ov
  intro sz
  refine th_ofWw (tab := [(0, 8, 11, 13)]) (cc := method_8_code) (maxL := 3) (ret := some .int) (by decide) rfl ?_
  intro p en s m args below meth c s₁ B hml htab hv
  obtain ⟨rfl, hsz, hP, hK, hD0, hZ⟩ := hv
  have hx := B.exec
  have hb := B.bytes
  have hr := B.returns
  have hts := atoms_spec (ws := w_L_replace) B.pre
  have hown : s.vm.findClass "DraftTreeLaw" = some m.cls := findClass_of_methodNamed B.named
  subst hsz
  have hD := hD0.self (sz := s.heap.size)
  generalize hAe : va_A (HW x k e ov) s.heap.size = B9 at hD hZ ⊢
  have hA : ∀ q : Nat, s.heap.size ≤ q → B9 q := fun q h => by rw [← hAe]; exact Or.inr h
  clear hAe
  have hS : va_S B9 s.heap s.heap [] := va_S.rf
  have hl := lv_entry ([.ref x.h, .ref x.ob]) (n := 3) (Nat.le_of_ble_eq_true rfl)
  rw [lg_entry_eq]
  generalize (lg_sl ([.ref x.h, .ref x.ob]) ++ List.replicate (3 - (lg_sl ([.ref x.h, .ref x.ob])).length) Slot.unset).toArray = ls at hl ⊢
  have hl : lv_has ls 3 [(0, .ref x.h), (1, .ref x.ob)] := hl
  refine lv_aload_n hx hb d_L_replace_0 rfl (lv_at hl 1 rfl) ?_
  refine lv_iconst (v := 0) hx hb d_L_replace_1 (by decide) ?_
  refine lv_aload_n hx hb d_L_replace_2 rfl (lv_at hl 0 rfl) ?_
  have hFc := va_freeM (wc := HW x k e ov) hD hS hA (fun _ h9 => h9)
  refine th_catch (own := "DraftTreeLaw") (C := "java/lang/IllegalStateException") (hpc := 11) (A1 := va_A (HW x k e ov) s.heap.size) (th_runV (As := []) (rest := [.int 0, .ref x.ob]) ⟨hx, hb, hml, hown, hts⟩ (hT _) (cwV 0 hts (gd_v lk_591 lk_592 lk_593 lk_444 lk_532) rfl rfl rfl (by decide +kernel) ⟨Nat.le_of_ble_eq_true rfl, Nat.le_of_ble_eq_true rfl⟩) ⟨fun a U g mk q => by obtain ⟨q0, q1, qP, qK, qD, qZ⟩ := q; exact ⟨q0, q1, qP, va_K.moved (u := U) (U := U.calling g mk a) (Vm.Alike.refl U.vm) qK, qD, th_ZA.calling qZ⟩, va_recv (ci := 0) (q0 := 1) hK hP rfl rfl, fun U hU hW => ⟨rfl, by rw [hU], by rw [hU]; exact hP, va_K.moved hW.alike hK, hD.weaken (fun _ _ _ _ => trivial), th_ZA.to hZ hS hU hW hFc⟩⟩ rfl rfl hl.1 rfl (lv_room (Nat.le_of_ble_eq_true rfl)) d_L_replace_3 ⟨Nat.le_of_ble_eq_true rfl, Nat.le_of_ble_eq_true rfl⟩) hown htab (by refine ⟨⟨by decide, by decide, by decide⟩, "java/lang/IllegalStateException", (hts _ (List.mem_cons_of_mem _ lk_556)), ?_⟩; exact Or.inl ⟨rfl, rfl⟩) (fun _ _ _ h => ⟨h.1, h.2.2⟩) hS (fun q _ h => hFc q h) hFc (fun xx st₀ t H1 locs ht hvm _ hB hz1 hk1 hS => ?_)
  obtain ⟨-, ⟨hP1, hD1⟩, -⟩ := hB
  rw [ht] at hP1
  have hP := hP1
  have hD := hD1.weaken (fun _ q _ h => hFc q.1 h)
  clear hP1 hD1 hFc hk1 hz1
  refine W.cs (cells' := 1) (slots' := 6) rfl rfl ?_
  refine lv_astore_n (lv' := [(2, .ref xx), (0, .ref x.h), (1, .ref x.ob)]) hx hb d_L_replace_11 rfl hl (by decide) rfl (fun ls hl => ?_)
  refine lv_iconst (v := 1) hx hb d_L_replace_12 (by decide) ?_
  refine W.widen (k := 3) (n := 170) (Nat.le_of_ble_eq_true rfl) (Nat.le_of_ble_eq_true rfl) ?_
  exact W.iret (v := 1) hx hb hr (fun t ht hW => ⟨⟨_, kn, rfl, ⟨rfl, hC⟩, by rw [ht]; exact hP, hD⟩, hS.F ht⟩) hS.2.2 d_L_replace_13
set_option maxHeartbeats 8000000 in
set_option maxRecDepth 100000 in
theorem H_undo_0 (l : Launch) (hfl : l.flags = flags0) (x : FX) {k : CK} {e : ES} (ov : Nat → Int64) {r : Int32} {e' : ES} (hM : KRetI l x y_D_undo w_D_undo ({ frames := 1, cells := 0, slots := 0, locals := 22 }) [.ref x.h] k e 0 0 r e') : HRet l x y_L_undo w_L_undo [.ref x.h, .ref x.ob] k e ov 0 e' (vp_updL ov 0 r.toInt64) := by
  intro sz
  refine th_ofWw (tab := [(0, 8, 11, 33)]) (cc := method_9_code) (maxL := 3) (ret := some .int) (by decide) rfl ?_
  intro p en s m args below meth c s₁ B hml htab hv
  obtain ⟨rfl, hsz, hP, hK, hD0, hZ⟩ := hv
  have hx := B.exec
  have hb := B.bytes
  have hr := B.returns
  have hts := atoms_spec (ws := w_L_undo) B.pre
  have hown : s.vm.findClass "DraftTreeLaw" = some m.cls := findClass_of_methodNamed B.named
  subst hsz
  have hD := hD0.self (sz := s.heap.size)
  generalize hAe : va_A (HW x k e ov) s.heap.size = B9 at hD hZ ⊢
  have hA : ∀ q : Nat, s.heap.size ≤ q → B9 q := fun q h => by rw [← hAe]; exact Or.inr h
  clear hAe
  have hS : va_S B9 s.heap s.heap [] := va_S.rf
  have hl := lv_entry ([.ref x.h, .ref x.ob]) (n := 3) (Nat.le_of_ble_eq_true rfl)
  rw [lg_entry_eq]
  generalize (lg_sl ([.ref x.h, .ref x.ob]) ++ List.replicate (3 - (lg_sl ([.ref x.h, .ref x.ob])).length) Slot.unset).toArray = ls at hl ⊢
  have hl : lv_has ls 3 [(0, .ref x.h), (1, .ref x.ob)] := hl
  refine lv_aload_n hx hb d_L_undo_0 rfl (lv_at hl 1 rfl) ?_
  refine lv_iconst (v := 0) hx hb d_L_undo_1 (by decide) ?_
  refine lv_aload_n hx hb d_L_undo_2 rfl (lv_at hl 0 rfl) ?_
  have hFc := va_freeM (wc := HW x k e ov) hD hS hA (fun _ h9 => h9)
  refine va_calli (va_runV (As := []) (rest := [.int 0, .ref x.ob]) ⟨hx, hb, hml, hown, hts⟩ (hM.up ov _) (cwV 0 hts (gd_v lk_595 lk_596 lk_597 lk_444 lk_495) rfl rfl rfl (by decide +kernel) ⟨Nat.le_of_ble_eq_true rfl, Nat.le_of_ble_eq_true rfl⟩) ⟨fun a U g mk q => by obtain ⟨q0, q1, qP, qK, qD⟩ := q; exact ⟨q0, q1, qP, va_K.moved (u := U) (U := U.calling g mk a) (Vm.Alike.refl U.vm) qK, qD⟩, va_recv (ci := 0) (q0 := 1) hK hP rfl rfl, fun U hU hW => ⟨rfl, by rw [hU], by rw [hU]; exact hP, va_K.moved hW.alike hK, hD.weaken (fun _ _ _ _ => trivial)⟩⟩ rfl rfl hl.1 rfl (lv_room (Nat.le_of_ble_eq_true rfl)) d_L_undo_3 ⟨Nat.le_of_ble_eq_true rfl, Nat.le_of_ble_eq_true rfl⟩) hS (fun q _ h => hFc q h) hFc (fun r9 kn t H1 locs ht hvm hw hB hz1 hk1 hS => ?_)
  obtain ⟨hP1, hD1⟩ := hB
  rw [ht] at hP1
  have hP := hP1
  have hD := hD1.weaken (fun _ q _ h => hFc q.1 h)
  clear hP1 hD1 hFc hk1 hz1
  refine W.cs (cells' := 0) (slots' := 0) rfl rfl ?_
  obtain ⟨hw0, hC⟩ := hw
  subst hw0
  refine lv_i2l hx hb d_L_undo_6 rfl ?_
  refine va_last hx hb hK hP hD hS 0 2 rfl rfl (wk_inb_ok (by decide)) d_L_undo_7 (fun H locs hP hD hS => ?_)
  have hP : va_P x.D vwCl (HW x kn e' (vp_updL ov 0 r9.toInt64)) H := hP
  have hD : va_D B9 (HW x kn e' (vp_updL ov 0 r9.toInt64)) := hD
  refine lv_goto (tgt := 14) hx hb d_L_undo_8 (by decide) ?_
  refine lv_iconst (v := 0) hx hb d_L_undo_14 (by decide) ?_
  refine W.widen (k := 3) (n := 170) (Nat.le_of_ble_eq_true rfl) (Nat.le_of_ble_eq_true rfl) ?_
  exact W.iret (v := 0) hx hb hr (fun t ht hW => ⟨⟨_, kn, rfl, ⟨rfl, hC⟩, by rw [ht]; exact hP, hD⟩, hS.F ht⟩) hS.2.2 d_L_undo_15
set_option maxHeartbeats 8000000 in
set_option maxRecDepth 100000 in
theorem H_undo_1 (l : Launch) (hfl : l.flags = flags0) (x : FX) {k : CK} {e : ES} (ov : Nat → Int64) {e' : ES} (hM : KThr l x y_D_undo w_D_undo ({ frames := 6, cells := 1, slots := 6, locals := 81 }) [.ref x.h] k e 1 6 "java/util/NoSuchElementException" e') : HRet l x y_L_undo w_L_undo [.ref x.h, .ref x.ob] k e ov 1 e' ov := by
  obtain ⟨kn, hC, hT⟩ := hM.up ov
  intro sz
  refine th_ofWw (tab := [(0, 8, 11, 33)]) (cc := method_9_code) (maxL := 3) (ret := some .int) (by decide) rfl ?_
  intro p en s m args below meth c s₁ B hml htab hv
  obtain ⟨rfl, hsz, hP, hK, hD0, hZ⟩ := hv
  have hx := B.exec
  have hb := B.bytes
  have hr := B.returns
  have hts := atoms_spec (ws := w_L_undo) B.pre
  have hown : s.vm.findClass "DraftTreeLaw" = some m.cls := findClass_of_methodNamed B.named
  subst hsz
  have hD := hD0.self (sz := s.heap.size)
  generalize hAe : va_A (HW x k e ov) s.heap.size = B9 at hD hZ ⊢
  have hA : ∀ q : Nat, s.heap.size ≤ q → B9 q := fun q h => by rw [← hAe]; exact Or.inr h
  clear hAe
  have hS : va_S B9 s.heap s.heap [] := va_S.rf
  have hl := lv_entry ([.ref x.h, .ref x.ob]) (n := 3) (Nat.le_of_ble_eq_true rfl)
  rw [lg_entry_eq]
  generalize (lg_sl ([.ref x.h, .ref x.ob]) ++ List.replicate (3 - (lg_sl ([.ref x.h, .ref x.ob])).length) Slot.unset).toArray = ls at hl ⊢
  have hl : lv_has ls 3 [(0, .ref x.h), (1, .ref x.ob)] := hl
  refine lv_aload_n hx hb d_L_undo_0 rfl (lv_at hl 1 rfl) ?_
  refine lv_iconst (v := 0) hx hb d_L_undo_1 (by decide) ?_
  refine lv_aload_n hx hb d_L_undo_2 rfl (lv_at hl 0 rfl) ?_
  have hFc := va_freeM (wc := HW x k e ov) hD hS hA (fun _ h9 => h9)
  refine th_catch (own := "DraftTreeLaw") (C := "java/util/NoSuchElementException") (hpc := 11) (A1 := va_A (HW x k e ov) s.heap.size) (th_runV (As := []) (rest := [.int 0, .ref x.ob]) ⟨hx, hb, hml, hown, hts⟩ (hT _) (cwV 0 hts (gd_v lk_595 lk_596 lk_597 lk_444 lk_495) rfl rfl rfl (by decide +kernel) ⟨Nat.le_of_ble_eq_true rfl, Nat.le_of_ble_eq_true rfl⟩) ⟨fun a U g mk q => by obtain ⟨q0, q1, qP, qK, qD, qZ⟩ := q; exact ⟨q0, q1, qP, va_K.moved (u := U) (U := U.calling g mk a) (Vm.Alike.refl U.vm) qK, qD, th_ZA.calling qZ⟩, va_recv (ci := 0) (q0 := 1) hK hP rfl rfl, fun U hU hW => ⟨rfl, by rw [hU], by rw [hU]; exact hP, va_K.moved hW.alike hK, hD.weaken (fun _ _ _ _ => trivial), th_ZA.to hZ hS hU hW hFc⟩⟩ rfl rfl hl.1 rfl (lv_room (Nat.le_of_ble_eq_true rfl)) d_L_undo_3 ⟨Nat.le_of_ble_eq_true rfl, Nat.le_of_ble_eq_true rfl⟩) hown htab (by refine ⟨⟨by decide, by decide, by decide⟩, "java/util/NoSuchElementException", (hts _ (List.mem_cons_of_mem _ lk_565)), ?_⟩; exact Or.inl ⟨rfl, rfl⟩) (fun _ _ _ h => ⟨h.1, h.2.2⟩) hS (fun q _ h => hFc q h) hFc (fun xx st₀ t H1 locs ht hvm _ hB hz1 hk1 hS => ?_)
  obtain ⟨-, ⟨hP1, hD1⟩, -⟩ := hB
  rw [ht] at hP1
  have hP := hP1
  have hD := hD1.weaken (fun _ q _ h => hFc q.1 h)
  clear hP1 hD1 hFc hk1 hz1
  refine W.cs (cells' := 1) (slots' := 6) rfl rfl ?_
  refine lv_astore_n (lv' := [(2, .ref xx), (0, .ref x.h), (1, .ref x.ob)]) hx hb d_L_undo_11 rfl hl (by decide) rfl (fun ls hl => ?_)
  refine lv_iconst (v := 1) hx hb d_L_undo_12 (by decide) ?_
  refine W.widen (k := 3) (n := 170) (Nat.le_of_ble_eq_true rfl) (Nat.le_of_ble_eq_true rfl) ?_
  exact W.iret (v := 1) hx hb hr (fun t ht hW => ⟨⟨_, kn, rfl, ⟨rfl, hC⟩, by rw [ht]; exact hP, hD⟩, hS.F ht⟩) hS.2.2 d_L_undo_13
set_option maxHeartbeats 8000000 in
set_option maxRecDepth 100000 in
theorem H_redo_0 (l : Launch) (hfl : l.flags = flags0) (x : FX) {k : CK} {e : ES} (ov : Nat → Int64) {r : Int32} {e' : ES} (hM : KRetI l x y_D_redo w_D_redo ({ frames := 1, cells := 0, slots := 0, locals := 22 }) [.ref x.h] k e 0 0 r e') : HRet l x y_L_redo w_L_redo [.ref x.h, .ref x.ob] k e ov 0 e' (vp_updL ov 0 r.toInt64) := by
  intro sz
  refine th_ofWw (tab := [(0, 8, 11, 33)]) (cc := method_10_code) (maxL := 3) (ret := some .int) (by decide) rfl ?_
  intro p en s m args below meth c s₁ B hml htab hv
  obtain ⟨rfl, hsz, hP, hK, hD0, hZ⟩ := hv
  have hx := B.exec
  have hb := B.bytes
  have hr := B.returns
  have hts := atoms_spec (ws := w_L_redo) B.pre
  have hown : s.vm.findClass "DraftTreeLaw" = some m.cls := findClass_of_methodNamed B.named
  subst hsz
  have hD := hD0.self (sz := s.heap.size)
  generalize hAe : va_A (HW x k e ov) s.heap.size = B9 at hD hZ ⊢
  have hA : ∀ q : Nat, s.heap.size ≤ q → B9 q := fun q h => by rw [← hAe]; exact Or.inr h
  clear hAe
  have hS : va_S B9 s.heap s.heap [] := va_S.rf
  have hl := lv_entry ([.ref x.h, .ref x.ob]) (n := 3) (Nat.le_of_ble_eq_true rfl)
  rw [lg_entry_eq]
  generalize (lg_sl ([.ref x.h, .ref x.ob]) ++ List.replicate (3 - (lg_sl ([.ref x.h, .ref x.ob])).length) Slot.unset).toArray = ls at hl ⊢
  have hl : lv_has ls 3 [(0, .ref x.h), (1, .ref x.ob)] := hl
  refine lv_aload_n hx hb d_L_redo_0 rfl (lv_at hl 1 rfl) ?_
  refine lv_iconst (v := 0) hx hb d_L_redo_1 (by decide) ?_
  refine lv_aload_n hx hb d_L_redo_2 rfl (lv_at hl 0 rfl) ?_
  have hFc := va_freeM (wc := HW x k e ov) hD hS hA (fun _ h9 => h9)
  refine va_calli (va_runV (As := []) (rest := [.int 0, .ref x.ob]) ⟨hx, hb, hml, hown, hts⟩ (hM.up ov _) (cwV 0 hts (gd_v lk_587 lk_588 lk_589 lk_444 lk_483) rfl rfl rfl (by decide +kernel) ⟨Nat.le_of_ble_eq_true rfl, Nat.le_of_ble_eq_true rfl⟩) ⟨fun a U g mk q => by obtain ⟨q0, q1, qP, qK, qD⟩ := q; exact ⟨q0, q1, qP, va_K.moved (u := U) (U := U.calling g mk a) (Vm.Alike.refl U.vm) qK, qD⟩, va_recv (ci := 0) (q0 := 1) hK hP rfl rfl, fun U hU hW => ⟨rfl, by rw [hU], by rw [hU]; exact hP, va_K.moved hW.alike hK, hD.weaken (fun _ _ _ _ => trivial)⟩⟩ rfl rfl hl.1 rfl (lv_room (Nat.le_of_ble_eq_true rfl)) d_L_redo_3 ⟨Nat.le_of_ble_eq_true rfl, Nat.le_of_ble_eq_true rfl⟩) hS (fun q _ h => hFc q h) hFc (fun r9 kn t H1 locs ht hvm hw hB hz1 hk1 hS => ?_)
  obtain ⟨hP1, hD1⟩ := hB
  rw [ht] at hP1
  have hP := hP1
  have hD := hD1.weaken (fun _ q _ h => hFc q.1 h)
  clear hP1 hD1 hFc hk1 hz1
  refine W.cs (cells' := 0) (slots' := 0) rfl rfl ?_
  obtain ⟨hw0, hC⟩ := hw
  subst hw0
  refine lv_i2l hx hb d_L_redo_6 rfl ?_
  refine va_last hx hb hK hP hD hS 0 2 rfl rfl (wk_inb_ok (by decide)) d_L_redo_7 (fun H locs hP hD hS => ?_)
  have hP : va_P x.D vwCl (HW x kn e' (vp_updL ov 0 r9.toInt64)) H := hP
  have hD : va_D B9 (HW x kn e' (vp_updL ov 0 r9.toInt64)) := hD
  refine lv_goto (tgt := 14) hx hb d_L_redo_8 (by decide) ?_
  refine lv_iconst (v := 0) hx hb d_L_redo_14 (by decide) ?_
  refine W.widen (k := 3) (n := 170) (Nat.le_of_ble_eq_true rfl) (Nat.le_of_ble_eq_true rfl) ?_
  exact W.iret (v := 0) hx hb hr (fun t ht hW => ⟨⟨_, kn, rfl, ⟨rfl, hC⟩, by rw [ht]; exact hP, hD⟩, hS.F ht⟩) hS.2.2 d_L_redo_15
set_option maxHeartbeats 8000000 in
set_option maxRecDepth 100000 in
theorem H_redo_1 (l : Launch) (hfl : l.flags = flags0) (x : FX) {k : CK} {e : ES} (ov : Nat → Int64) {e' : ES} (hM : KThr l x y_D_redo w_D_redo ({ frames := 6, cells := 1, slots := 6, locals := 81 }) [.ref x.h] k e 1 6 "java/util/NoSuchElementException" e') : HRet l x y_L_redo w_L_redo [.ref x.h, .ref x.ob] k e ov 1 e' ov := by
  obtain ⟨kn, hC, hT⟩ := hM.up ov
  intro sz
  refine th_ofWw (tab := [(0, 8, 11, 33)]) (cc := method_10_code) (maxL := 3) (ret := some .int) (by decide) rfl ?_
  intro p en s m args below meth c s₁ B hml htab hv
  obtain ⟨rfl, hsz, hP, hK, hD0, hZ⟩ := hv
  have hx := B.exec
  have hb := B.bytes
  have hr := B.returns
  have hts := atoms_spec (ws := w_L_redo) B.pre
  have hown : s.vm.findClass "DraftTreeLaw" = some m.cls := findClass_of_methodNamed B.named
  subst hsz
  have hD := hD0.self (sz := s.heap.size)
  generalize hAe : va_A (HW x k e ov) s.heap.size = B9 at hD hZ ⊢
  have hA : ∀ q : Nat, s.heap.size ≤ q → B9 q := fun q h => by rw [← hAe]; exact Or.inr h
  clear hAe
  have hS : va_S B9 s.heap s.heap [] := va_S.rf
  have hl := lv_entry ([.ref x.h, .ref x.ob]) (n := 3) (Nat.le_of_ble_eq_true rfl)
  rw [lg_entry_eq]
  generalize (lg_sl ([.ref x.h, .ref x.ob]) ++ List.replicate (3 - (lg_sl ([.ref x.h, .ref x.ob])).length) Slot.unset).toArray = ls at hl ⊢
  have hl : lv_has ls 3 [(0, .ref x.h), (1, .ref x.ob)] := hl
  refine lv_aload_n hx hb d_L_redo_0 rfl (lv_at hl 1 rfl) ?_
  refine lv_iconst (v := 0) hx hb d_L_redo_1 (by decide) ?_
  refine lv_aload_n hx hb d_L_redo_2 rfl (lv_at hl 0 rfl) ?_
  have hFc := va_freeM (wc := HW x k e ov) hD hS hA (fun _ h9 => h9)
  refine th_catch (own := "DraftTreeLaw") (C := "java/util/NoSuchElementException") (hpc := 11) (A1 := va_A (HW x k e ov) s.heap.size) (th_runV (As := []) (rest := [.int 0, .ref x.ob]) ⟨hx, hb, hml, hown, hts⟩ (hT _) (cwV 0 hts (gd_v lk_587 lk_588 lk_589 lk_444 lk_483) rfl rfl rfl (by decide +kernel) ⟨Nat.le_of_ble_eq_true rfl, Nat.le_of_ble_eq_true rfl⟩) ⟨fun a U g mk q => by obtain ⟨q0, q1, qP, qK, qD, qZ⟩ := q; exact ⟨q0, q1, qP, va_K.moved (u := U) (U := U.calling g mk a) (Vm.Alike.refl U.vm) qK, qD, th_ZA.calling qZ⟩, va_recv (ci := 0) (q0 := 1) hK hP rfl rfl, fun U hU hW => ⟨rfl, by rw [hU], by rw [hU]; exact hP, va_K.moved hW.alike hK, hD.weaken (fun _ _ _ _ => trivial), th_ZA.to hZ hS hU hW hFc⟩⟩ rfl rfl hl.1 rfl (lv_room (Nat.le_of_ble_eq_true rfl)) d_L_redo_3 ⟨Nat.le_of_ble_eq_true rfl, Nat.le_of_ble_eq_true rfl⟩) hown htab (by refine ⟨⟨by decide, by decide, by decide⟩, "java/util/NoSuchElementException", (hts _ (List.mem_cons_of_mem _ lk_565)), ?_⟩; exact Or.inl ⟨rfl, rfl⟩) (fun _ _ _ h => ⟨h.1, h.2.2⟩) hS (fun q _ h => hFc q h) hFc (fun xx st₀ t H1 locs ht hvm _ hB hz1 hk1 hS => ?_)
  obtain ⟨-, ⟨hP1, hD1⟩, -⟩ := hB
  rw [ht] at hP1
  have hP := hP1
  have hD := hD1.weaken (fun _ q _ h => hFc q.1 h)
  clear hP1 hD1 hFc hk1 hz1
  refine W.cs (cells' := 1) (slots' := 6) rfl rfl ?_
  refine lv_astore_n (lv' := [(2, .ref xx), (0, .ref x.h), (1, .ref x.ob)]) hx hb d_L_redo_11 rfl hl (by decide) rfl (fun ls hl => ?_)
  refine lv_iconst (v := 1) hx hb d_L_redo_12 (by decide) ?_
  refine W.widen (k := 3) (n := 170) (Nat.le_of_ble_eq_true rfl) (Nat.le_of_ble_eq_true rfl) ?_
  exact W.iret (v := 1) hx hb hr (fun t ht hW => ⟨⟨_, kn, rfl, ⟨rfl, hC⟩, by rw [ht]; exact hP, hD⟩, hS.F ht⟩) hS.2.2 d_L_redo_13
set_option maxHeartbeats 8000000 in
set_option maxRecDepth 100000 in
theorem H_jump_0 (l : Launch) (hfl : l.flags = flags0) (x : FX) {k : CK} {e : ES} {k1 : Int32} (ov : Nat → Int64) {e' : ES} (hM : KRetV l x y_D_jump w_D_jump ({ frames := 1, cells := 0, slots := 0, locals := 22 }) [.ref x.h, .int k1] k e 0 0 e') : HRet l x y_L_jump w_L_jump [.ref x.h, .int k1] k e ov 0 e' ov := by
  intro sz
  refine th_ofWw (tab := [(0, 5, 8, 28)]) (cc := method_11_code) (maxL := 3) (ret := some .int) (by decide) rfl ?_
  intro p en s m args below meth c s₁ B hml htab hv
  obtain ⟨rfl, hsz, hP, hK, hD0, hZ⟩ := hv
  have hx := B.exec
  have hb := B.bytes
  have hr := B.returns
  have hts := atoms_spec (ws := w_L_jump) B.pre
  have hown : s.vm.findClass "DraftTreeLaw" = some m.cls := findClass_of_methodNamed B.named
  subst hsz
  have hD := hD0.self (sz := s.heap.size)
  generalize hAe : va_A (HW x k e ov) s.heap.size = B9 at hD hZ ⊢
  have hA : ∀ q : Nat, s.heap.size ≤ q → B9 q := fun q h => by rw [← hAe]; exact Or.inr h
  clear hAe
  have hS : va_S B9 s.heap s.heap [] := va_S.rf
  have hl := lv_entry ([.ref x.h, .int k1]) (n := 3) (Nat.le_of_ble_eq_true rfl)
  rw [lg_entry_eq]
  generalize (lg_sl ([.ref x.h, .int k1]) ++ List.replicate (3 - (lg_sl ([.ref x.h, .int k1])).length) Slot.unset).toArray = ls at hl ⊢
  have hl : lv_has ls 3 [(0, .ref x.h), (1, .int k1)] := hl
  refine lv_aload_n hx hb d_L_jump_0 rfl (lv_at hl 0 rfl) ?_
  refine lv_iload_n hx hb d_L_jump_1 rfl (lv_at hl 1 rfl) ?_
  have hFc := va_freeM (wc := HW x k e ov) hD hS hA (fun _ h9 => h9)
  refine va_callv (va_runV (As := [.int k1]) (rest := []) ⟨hx, hb, hml, hown, hts⟩ (hM.up ov _) (cwV 1 hts (gd_v lk_575 lk_576 lk_577 lk_444 lk_468) rfl rfl rfl (by decide +kernel) ⟨Nat.le_of_ble_eq_true rfl, Nat.le_of_ble_eq_true rfl⟩) ⟨fun a U g mk q => by obtain ⟨q0, q1, qP, qK, qD⟩ := q; exact ⟨q0, q1, qP, va_K.moved (u := U) (U := U.calling g mk a) (Vm.Alike.refl U.vm) qK, qD⟩, va_recv (ci := 0) (q0 := 1) hK hP rfl rfl, fun U hU hW => ⟨rfl, by rw [hU], by rw [hU]; exact hP, va_K.moved hW.alike hK, hD.weaken (fun _ _ _ _ => trivial)⟩⟩ rfl rfl hl.1 rfl (lv_room (Nat.le_of_ble_eq_true rfl)) d_L_jump_2 ⟨Nat.le_of_ble_eq_true rfl, Nat.le_of_ble_eq_true rfl⟩) hS (fun q _ h => hFc q h) hFc (fun kn t H1 locs ht hvm hw hB hz1 hk1 hS => ?_)
  obtain ⟨hP1, hD1⟩ := hB
  rw [ht] at hP1
  have hP := hP1
  have hD := hD1.weaken (fun _ q _ h => hFc q.1 h)
  clear hP1 hD1 hFc hk1 hz1
  refine W.cs (cells' := 0) (slots' := 0) rfl rfl ?_
  have hC := hw
  refine lv_goto (tgt := 11) hx hb d_L_jump_5 (by decide) ?_
  refine lv_iconst (v := 0) hx hb d_L_jump_11 (by decide) ?_
  refine W.widen (k := 3) (n := 170) (Nat.le_of_ble_eq_true rfl) (Nat.le_of_ble_eq_true rfl) ?_
  exact W.iret (v := 0) hx hb hr (fun t ht hW => ⟨⟨_, kn, rfl, ⟨rfl, hC⟩, by rw [ht]; exact hP, hD⟩, hS.F ht⟩) hS.2.2 d_L_jump_12
set_option maxHeartbeats 8000000 in
set_option maxRecDepth 100000 in
theorem H_jump_1 (l : Launch) (hfl : l.flags = flags0) (x : FX) {k : CK} {e : ES} {k1 : Int32} (ov : Nat → Int64) {e' : ES} (hM : KThr l x y_D_jump w_D_jump ({ frames := 7, cells := 1, slots := 6, locals := 102 }) [.ref x.h, .int k1] k e 1 6 "java/lang/IllegalArgumentException" e') : HRet l x y_L_jump w_L_jump [.ref x.h, .int k1] k e ov 1 e' ov := by
  obtain ⟨kn, hC, hT⟩ := hM.up ov
  intro sz
  refine th_ofWw (tab := [(0, 5, 8, 28)]) (cc := method_11_code) (maxL := 3) (ret := some .int) (by decide) rfl ?_
  intro p en s m args below meth c s₁ B hml htab hv
  obtain ⟨rfl, hsz, hP, hK, hD0, hZ⟩ := hv
  have hx := B.exec
  have hb := B.bytes
  have hr := B.returns
  have hts := atoms_spec (ws := w_L_jump) B.pre
  have hown : s.vm.findClass "DraftTreeLaw" = some m.cls := findClass_of_methodNamed B.named
  subst hsz
  have hD := hD0.self (sz := s.heap.size)
  generalize hAe : va_A (HW x k e ov) s.heap.size = B9 at hD hZ ⊢
  have hA : ∀ q : Nat, s.heap.size ≤ q → B9 q := fun q h => by rw [← hAe]; exact Or.inr h
  clear hAe
  have hS : va_S B9 s.heap s.heap [] := va_S.rf
  have hl := lv_entry ([.ref x.h, .int k1]) (n := 3) (Nat.le_of_ble_eq_true rfl)
  rw [lg_entry_eq]
  generalize (lg_sl ([.ref x.h, .int k1]) ++ List.replicate (3 - (lg_sl ([.ref x.h, .int k1])).length) Slot.unset).toArray = ls at hl ⊢
  have hl : lv_has ls 3 [(0, .ref x.h), (1, .int k1)] := hl
  refine lv_aload_n hx hb d_L_jump_0 rfl (lv_at hl 0 rfl) ?_
  refine lv_iload_n hx hb d_L_jump_1 rfl (lv_at hl 1 rfl) ?_
  have hFc := va_freeM (wc := HW x k e ov) hD hS hA (fun _ h9 => h9)
  refine th_catch (own := "DraftTreeLaw") (C := "java/lang/IllegalArgumentException") (hpc := 8) (A1 := va_A (HW x k e ov) s.heap.size) (th_runV (As := [.int k1]) (rest := []) ⟨hx, hb, hml, hown, hts⟩ (hT _) (cwV 1 hts (gd_v lk_575 lk_576 lk_577 lk_444 lk_468) rfl rfl rfl (by decide +kernel) ⟨Nat.le_of_ble_eq_true rfl, Nat.le_of_ble_eq_true rfl⟩) ⟨fun a U g mk q => by obtain ⟨q0, q1, qP, qK, qD, qZ⟩ := q; exact ⟨q0, q1, qP, va_K.moved (u := U) (U := U.calling g mk a) (Vm.Alike.refl U.vm) qK, qD, th_ZA.calling qZ⟩, va_recv (ci := 0) (q0 := 1) hK hP rfl rfl, fun U hU hW => ⟨rfl, by rw [hU], by rw [hU]; exact hP, va_K.moved hW.alike hK, hD.weaken (fun _ _ _ _ => trivial), th_ZA.to hZ hS hU hW hFc⟩⟩ rfl rfl hl.1 rfl (lv_room (Nat.le_of_ble_eq_true rfl)) d_L_jump_2 ⟨Nat.le_of_ble_eq_true rfl, Nat.le_of_ble_eq_true rfl⟩) hown htab (by refine ⟨⟨by decide, by decide, by decide⟩, "java/lang/IllegalArgumentException", (hts _ (List.mem_cons_of_mem _ lk_551)), ?_⟩; exact Or.inl ⟨rfl, rfl⟩) (fun _ _ _ h => ⟨h.1, h.2.2⟩) hS (fun q _ h => hFc q h) hFc (fun xx st₀ t H1 locs ht hvm _ hB hz1 hk1 hS => ?_)
  obtain ⟨-, ⟨hP1, hD1⟩, -⟩ := hB
  rw [ht] at hP1
  have hP := hP1
  have hD := hD1.weaken (fun _ q _ h => hFc q.1 h)
  clear hP1 hD1 hFc hk1 hz1
  refine W.cs (cells' := 1) (slots' := 6) rfl rfl ?_
  refine lv_astore_n (lv' := [(2, .ref xx), (0, .ref x.h), (1, .int k1)]) hx hb d_L_jump_8 rfl hl (by decide) rfl (fun ls hl => ?_)
  refine lv_iconst (v := 1) hx hb d_L_jump_9 (by decide) ?_
  refine W.widen (k := 3) (n := 170) (Nat.le_of_ble_eq_true rfl) (Nat.le_of_ble_eq_true rfl) ?_
  exact W.iret (v := 1) hx hb hr (fun t ht hW => ⟨⟨_, kn, rfl, ⟨rfl, hC⟩, by rw [ht]; exact hP, hD⟩, hS.F ht⟩) hS.2.2 d_L_jump_10
set_option maxHeartbeats 8000000 in
set_option maxRecDepth 100000 in
theorem H_at_0 (l : Launch) (hfl : l.flags = flags0) (x : FX) {k : CK} {e : ES} {k1 : Int32} (ov : Nat → Int64) {r : Int32} {e' : ES} (hM : KRetI l x y_D_at w_D_at ({ frames := 0, cells := 0, slots := 0, locals := 0 }) [.ref x.h, .int k1] k e 0 0 r e') : HRet l x y_L_at w_L_at [.ref x.h, .int k1, .ref x.ob] k e ov 0 e' (vp_updL ov 0 r.toInt64) := by
  intro sz
  refine th_ofWw (tab := [(0, 9, 12, 23)]) (cc := method_12_code) (maxL := 4) (ret := some .int) (by decide) rfl ?_
  intro p en s m args below meth c s₁ B hml htab hv
  obtain ⟨rfl, hsz, hP, hK, hD0, hZ⟩ := hv
  have hx := B.exec
  have hb := B.bytes
  have hr := B.returns
  have hts := atoms_spec (ws := w_L_at) B.pre
  have hown : s.vm.findClass "DraftTreeLaw" = some m.cls := findClass_of_methodNamed B.named
  subst hsz
  have hD := hD0.self (sz := s.heap.size)
  generalize hAe : va_A (HW x k e ov) s.heap.size = B9 at hD hZ ⊢
  have hA : ∀ q : Nat, s.heap.size ≤ q → B9 q := fun q h => by rw [← hAe]; exact Or.inr h
  clear hAe
  have hS : va_S B9 s.heap s.heap [] := va_S.rf
  have hl := lv_entry ([.ref x.h, .int k1, .ref x.ob]) (n := 4) (Nat.le_of_ble_eq_true rfl)
  rw [lg_entry_eq]
  generalize (lg_sl ([.ref x.h, .int k1, .ref x.ob]) ++ List.replicate (4 - (lg_sl ([.ref x.h, .int k1, .ref x.ob])).length) Slot.unset).toArray = ls at hl ⊢
  have hl : lv_has ls 4 [(0, .ref x.h), (1, .int k1), (2, .ref x.ob)] := hl
  refine lv_aload_n hx hb d_L_at_0 rfl (lv_at hl 2 rfl) ?_
  refine lv_iconst (v := 0) hx hb d_L_at_1 (by decide) ?_
  refine lv_aload_n hx hb d_L_at_2 rfl (lv_at hl 0 rfl) ?_
  refine lv_iload_n hx hb d_L_at_3 rfl (lv_at hl 1 rfl) ?_
  have hFc := va_freeM (wc := HW x k e ov) hD hS hA (fun _ h9 => h9)
  refine va_calli (va_runV (As := [.int k1]) (rest := [.int 0, .ref x.ob]) ⟨hx, hb, hml, hown, hts⟩ (hM.up ov _) (cwV 1 hts (gd_v lk_543 lk_544 lk_545 lk_444 lk_244) rfl rfl rfl (by decide +kernel) ⟨Nat.le_of_ble_eq_true rfl, Nat.le_of_ble_eq_true rfl⟩) ⟨fun a U g mk q => by obtain ⟨q0, q1, qP, qK, qD⟩ := q; exact ⟨q0, q1, qP, va_K.moved (u := U) (U := U.calling g mk a) (Vm.Alike.refl U.vm) qK, qD⟩, va_recv (ci := 0) (q0 := 1) hK hP rfl rfl, fun U hU hW => ⟨rfl, by rw [hU], by rw [hU]; exact hP, va_K.moved hW.alike hK, hD.weaken (fun _ _ _ _ => trivial)⟩⟩ rfl rfl hl.1 rfl (lv_room (Nat.le_of_ble_eq_true rfl)) d_L_at_4 ⟨Nat.le_of_ble_eq_true rfl, Nat.le_of_ble_eq_true rfl⟩) hS (fun q _ h => hFc q h) hFc (fun r9 kn t H1 locs ht hvm hw hB hz1 hk1 hS => ?_)
  obtain ⟨hP1, hD1⟩ := hB
  rw [ht] at hP1
  have hP := hP1
  have hD := hD1.weaken (fun _ q _ h => hFc q.1 h)
  clear hP1 hD1 hFc hk1 hz1
  refine W.cs (cells' := 0) (slots' := 0) rfl rfl ?_
  obtain ⟨hw0, hC⟩ := hw
  subst hw0
  refine lv_i2l hx hb d_L_at_7 rfl ?_
  refine va_last hx hb hK hP hD hS 0 2 rfl rfl (wk_inb_ok (by decide)) d_L_at_8 (fun H locs hP hD hS => ?_)
  have hP : va_P x.D vwCl (HW x kn e' (vp_updL ov 0 r9.toInt64)) H := hP
  have hD : va_D B9 (HW x kn e' (vp_updL ov 0 r9.toInt64)) := hD
  refine lv_goto (tgt := 15) hx hb d_L_at_9 (by decide) ?_
  refine lv_iconst (v := 0) hx hb d_L_at_15 (by decide) ?_
  refine W.widen (k := 3) (n := 170) (Nat.le_of_ble_eq_true rfl) (Nat.le_of_ble_eq_true rfl) ?_
  exact W.iret (v := 0) hx hb hr (fun t ht hW => ⟨⟨_, kn, rfl, ⟨rfl, hC⟩, by rw [ht]; exact hP, hD⟩, hS.F ht⟩) hS.2.2 d_L_at_16
set_option maxHeartbeats 8000000 in
set_option maxRecDepth 100000 in
theorem H_at_1 (l : Launch) (hfl : l.flags = flags0) (x : FX) {k : CK} {e : ES} {k1 : Int32} (ov : Nat → Int64) {e' : ES} (hM : KThr l x y_D_at w_D_at ({ frames := 6, cells := 1, slots := 6, locals := 81 }) [.ref x.h, .int k1] k e 1 6 "java/lang/IndexOutOfBoundsException" e') : HRet l x y_L_at w_L_at [.ref x.h, .int k1, .ref x.ob] k e ov 1 e' ov := by
  obtain ⟨kn, hC, hT⟩ := hM.up ov
  intro sz
  refine th_ofWw (tab := [(0, 9, 12, 23)]) (cc := method_12_code) (maxL := 4) (ret := some .int) (by decide) rfl ?_
  intro p en s m args below meth c s₁ B hml htab hv
  obtain ⟨rfl, hsz, hP, hK, hD0, hZ⟩ := hv
  have hx := B.exec
  have hb := B.bytes
  have hr := B.returns
  have hts := atoms_spec (ws := w_L_at) B.pre
  have hown : s.vm.findClass "DraftTreeLaw" = some m.cls := findClass_of_methodNamed B.named
  subst hsz
  have hD := hD0.self (sz := s.heap.size)
  generalize hAe : va_A (HW x k e ov) s.heap.size = B9 at hD hZ ⊢
  have hA : ∀ q : Nat, s.heap.size ≤ q → B9 q := fun q h => by rw [← hAe]; exact Or.inr h
  clear hAe
  have hS : va_S B9 s.heap s.heap [] := va_S.rf
  have hl := lv_entry ([.ref x.h, .int k1, .ref x.ob]) (n := 4) (Nat.le_of_ble_eq_true rfl)
  rw [lg_entry_eq]
  generalize (lg_sl ([.ref x.h, .int k1, .ref x.ob]) ++ List.replicate (4 - (lg_sl ([.ref x.h, .int k1, .ref x.ob])).length) Slot.unset).toArray = ls at hl ⊢
  have hl : lv_has ls 4 [(0, .ref x.h), (1, .int k1), (2, .ref x.ob)] := hl
  refine lv_aload_n hx hb d_L_at_0 rfl (lv_at hl 2 rfl) ?_
  refine lv_iconst (v := 0) hx hb d_L_at_1 (by decide) ?_
  refine lv_aload_n hx hb d_L_at_2 rfl (lv_at hl 0 rfl) ?_
  refine lv_iload_n hx hb d_L_at_3 rfl (lv_at hl 1 rfl) ?_
  have hFc := va_freeM (wc := HW x k e ov) hD hS hA (fun _ h9 => h9)
  refine th_catch (own := "DraftTreeLaw") (C := "java/lang/IndexOutOfBoundsException") (hpc := 12) (A1 := va_A (HW x k e ov) s.heap.size) (th_runV (As := [.int k1]) (rest := [.int 0, .ref x.ob]) ⟨hx, hb, hml, hown, hts⟩ (hT _) (cwV 1 hts (gd_v lk_543 lk_544 lk_545 lk_444 lk_244) rfl rfl rfl (by decide +kernel) ⟨Nat.le_of_ble_eq_true rfl, Nat.le_of_ble_eq_true rfl⟩) ⟨fun a U g mk q => by obtain ⟨q0, q1, qP, qK, qD, qZ⟩ := q; exact ⟨q0, q1, qP, va_K.moved (u := U) (U := U.calling g mk a) (Vm.Alike.refl U.vm) qK, qD, th_ZA.calling qZ⟩, va_recv (ci := 0) (q0 := 1) hK hP rfl rfl, fun U hU hW => ⟨rfl, by rw [hU], by rw [hU]; exact hP, va_K.moved hW.alike hK, hD.weaken (fun _ _ _ _ => trivial), th_ZA.to hZ hS hU hW hFc⟩⟩ rfl rfl hl.1 rfl (lv_room (Nat.le_of_ble_eq_true rfl)) d_L_at_4 ⟨Nat.le_of_ble_eq_true rfl, Nat.le_of_ble_eq_true rfl⟩) hown htab (by refine ⟨⟨by decide, by decide, by decide⟩, "java/lang/IndexOutOfBoundsException", (hts _ (List.mem_cons_of_mem _ lk_546)), ?_⟩; exact Or.inl ⟨rfl, rfl⟩) (fun _ _ _ h => ⟨h.1, h.2.2⟩) hS (fun q _ h => hFc q h) hFc (fun xx st₀ t H1 locs ht hvm _ hB hz1 hk1 hS => ?_)
  obtain ⟨-, ⟨hP1, hD1⟩, -⟩ := hB
  rw [ht] at hP1
  have hP := hP1
  have hD := hD1.weaken (fun _ q _ h => hFc q.1 h)
  clear hP1 hD1 hFc hk1 hz1
  refine W.cs (cells' := 1) (slots' := 6) rfl rfl ?_
  refine lv_astore_n (lv' := [(3, .ref xx), (0, .ref x.h), (1, .int k1), (2, .ref x.ob)]) hx hb d_L_at_12 rfl hl (by decide) rfl (fun ls hl => ?_)
  refine lv_iconst (v := 1) hx hb d_L_at_13 (by decide) ?_
  refine W.widen (k := 3) (n := 170) (Nat.le_of_ble_eq_true rfl) (Nat.le_of_ble_eq_true rfl) ?_
  exact W.iret (v := 1) hx hb hr (fun t ht hW => ⟨⟨_, kn, rfl, ⟨rfl, hC⟩, by rw [ht]; exact hP, hD⟩, hS.F ht⟩) hS.2.2 d_L_at_14
set_option maxHeartbeats 8000000 in
set_option maxRecDepth 100000 in
theorem H_line_0 (l : Launch) (hfl : l.flags = flags0) (x : FX) {k : CK} {e : ES} {k1 k2 : Int32} (ov : Nat → Int64) {r : Int32} {e' : ES} (hM : KRetI l x y_D_line w_D_line ({ frames := 1, cells := 0, slots := 0, locals := 23 }) [.ref x.h, .int k1, .int k2] k e 0 0 r e') : HRet l x y_L_line w_L_line [.ref x.h, .int k1, .int k2, .ref x.ob] k e ov 0 e' (vp_updL ov 0 r.toInt64) := by
  intro sz
  refine th_ofWw (tab := [(0, 10, 13, 28), (0, 10, 17, 23)]) (cc := method_13_code) (maxL := 5) (ret := some .int) (by decide) rfl ?_
  intro p en s m args below meth c s₁ B hml htab hv
  obtain ⟨rfl, hsz, hP, hK, hD0, hZ⟩ := hv
  have hx := B.exec
  have hb := B.bytes
  have hr := B.returns
  have hts := atoms_spec (ws := w_L_line) B.pre
  have hown : s.vm.findClass "DraftTreeLaw" = some m.cls := findClass_of_methodNamed B.named
  subst hsz
  have hD := hD0.self (sz := s.heap.size)
  generalize hAe : va_A (HW x k e ov) s.heap.size = B9 at hD hZ ⊢
  have hA : ∀ q : Nat, s.heap.size ≤ q → B9 q := fun q h => by rw [← hAe]; exact Or.inr h
  clear hAe
  have hS : va_S B9 s.heap s.heap [] := va_S.rf
  have hl := lv_entry ([.ref x.h, .int k1, .int k2, .ref x.ob]) (n := 5) (Nat.le_of_ble_eq_true rfl)
  rw [lg_entry_eq]
  generalize (lg_sl ([.ref x.h, .int k1, .int k2, .ref x.ob]) ++ List.replicate (5 - (lg_sl ([.ref x.h, .int k1, .int k2, .ref x.ob])).length) Slot.unset).toArray = ls at hl ⊢
  have hl : lv_has ls 5 [(0, .ref x.h), (1, .int k1), (2, .int k2), (3, .ref x.ob)] := hl
  refine lv_aload_n hx hb d_L_line_0 rfl (lv_at hl 3 rfl) ?_
  refine lv_iconst (v := 0) hx hb d_L_line_1 (by decide) ?_
  refine lv_aload_n hx hb d_L_line_2 rfl (lv_at hl 0 rfl) ?_
  refine lv_iload_n hx hb d_L_line_3 rfl (lv_at hl 1 rfl) ?_
  refine lv_iload_n hx hb d_L_line_4 rfl (lv_at hl 2 rfl) ?_
  have hFc := va_freeM (wc := HW x k e ov) hD hS hA (fun _ h9 => h9)
  refine va_calli (va_runV (As := [.int k1, .int k2]) (rest := [.int 0, .ref x.ob]) ⟨hx, hb, hml, hown, hts⟩ (hM.up ov _) (cwV 2 hts (gd_v lk_579 lk_580 lk_581 lk_444 lk_481) rfl rfl rfl (by decide +kernel) ⟨Nat.le_of_ble_eq_true rfl, Nat.le_of_ble_eq_true rfl⟩) ⟨fun a U g mk q => by obtain ⟨q0, q1, qP, qK, qD⟩ := q; exact ⟨q0, q1, qP, va_K.moved (u := U) (U := U.calling g mk a) (Vm.Alike.refl U.vm) qK, qD⟩, va_recv (ci := 0) (q0 := 1) hK hP rfl rfl, fun U hU hW => ⟨rfl, by rw [hU], by rw [hU]; exact hP, va_K.moved hW.alike hK, hD.weaken (fun _ _ _ _ => trivial)⟩⟩ rfl rfl hl.1 rfl (lv_room (Nat.le_of_ble_eq_true rfl)) d_L_line_5 ⟨Nat.le_of_ble_eq_true rfl, Nat.le_of_ble_eq_true rfl⟩) hS (fun q _ h => hFc q h) hFc (fun r9 kn t H1 locs ht hvm hw hB hz1 hk1 hS => ?_)
  obtain ⟨hP1, hD1⟩ := hB
  rw [ht] at hP1
  have hP := hP1
  have hD := hD1.weaken (fun _ q _ h => hFc q.1 h)
  clear hP1 hD1 hFc hk1 hz1
  refine W.cs (cells' := 0) (slots' := 0) rfl rfl ?_
  obtain ⟨hw0, hC⟩ := hw
  subst hw0
  refine lv_i2l hx hb d_L_line_8 rfl ?_
  refine va_last hx hb hK hP hD hS 0 2 rfl rfl (wk_inb_ok (by decide)) d_L_line_9 (fun H locs hP hD hS => ?_)
  have hP : va_P x.D vwCl (HW x kn e' (vp_updL ov 0 r9.toInt64)) H := hP
  have hD : va_D B9 (HW x kn e' (vp_updL ov 0 r9.toInt64)) := hD
  refine lv_goto (tgt := 21) hx hb d_L_line_10 (by decide) ?_
  refine lv_iconst (v := 0) hx hb d_L_line_21 (by decide) ?_
  refine W.widen (k := 3) (n := 170) (Nat.le_of_ble_eq_true rfl) (Nat.le_of_ble_eq_true rfl) ?_
  exact W.iret (v := 0) hx hb hr (fun t ht hW => ⟨⟨_, kn, rfl, ⟨rfl, hC⟩, by rw [ht]; exact hP, hD⟩, hS.F ht⟩) hS.2.2 d_L_line_22
set_option maxHeartbeats 8000000 in
set_option maxRecDepth 100000 in
theorem H_line_1 (l : Launch) (hfl : l.flags = flags0) (x : FX) {k : CK} {e : ES} {k1 k2 : Int32} (ov : Nat → Int64) {e' : ES} (hM : KThr l x y_D_line w_D_line ({ frames := 7, cells := 1, slots := 6, locals := 104 }) [.ref x.h, .int k1, .int k2] k e 1 6 "java/lang/IllegalArgumentException" e') : HRet l x y_L_line w_L_line [.ref x.h, .int k1, .int k2, .ref x.ob] k e ov 1 e' ov := by
  obtain ⟨kn, hC, hT⟩ := hM.up ov
  intro sz
  refine th_ofWw (tab := [(0, 10, 13, 28), (0, 10, 17, 23)]) (cc := method_13_code) (maxL := 5) (ret := some .int) (by decide) rfl ?_
  intro p en s m args below meth c s₁ B hml htab hv
  obtain ⟨rfl, hsz, hP, hK, hD0, hZ⟩ := hv
  have hx := B.exec
  have hb := B.bytes
  have hr := B.returns
  have hts := atoms_spec (ws := w_L_line) B.pre
  have hown : s.vm.findClass "DraftTreeLaw" = some m.cls := findClass_of_methodNamed B.named
  subst hsz
  have hD := hD0.self (sz := s.heap.size)
  generalize hAe : va_A (HW x k e ov) s.heap.size = B9 at hD hZ ⊢
  have hA : ∀ q : Nat, s.heap.size ≤ q → B9 q := fun q h => by rw [← hAe]; exact Or.inr h
  clear hAe
  have hS : va_S B9 s.heap s.heap [] := va_S.rf
  have hl := lv_entry ([.ref x.h, .int k1, .int k2, .ref x.ob]) (n := 5) (Nat.le_of_ble_eq_true rfl)
  rw [lg_entry_eq]
  generalize (lg_sl ([.ref x.h, .int k1, .int k2, .ref x.ob]) ++ List.replicate (5 - (lg_sl ([.ref x.h, .int k1, .int k2, .ref x.ob])).length) Slot.unset).toArray = ls at hl ⊢
  have hl : lv_has ls 5 [(0, .ref x.h), (1, .int k1), (2, .int k2), (3, .ref x.ob)] := hl
  refine lv_aload_n hx hb d_L_line_0 rfl (lv_at hl 3 rfl) ?_
  refine lv_iconst (v := 0) hx hb d_L_line_1 (by decide) ?_
  refine lv_aload_n hx hb d_L_line_2 rfl (lv_at hl 0 rfl) ?_
  refine lv_iload_n hx hb d_L_line_3 rfl (lv_at hl 1 rfl) ?_
  refine lv_iload_n hx hb d_L_line_4 rfl (lv_at hl 2 rfl) ?_
  have hFc := va_freeM (wc := HW x k e ov) hD hS hA (fun _ h9 => h9)
  refine th_catch (own := "DraftTreeLaw") (C := "java/lang/IllegalArgumentException") (hpc := 13) (A1 := va_A (HW x k e ov) s.heap.size) (th_runV (As := [.int k1, .int k2]) (rest := [.int 0, .ref x.ob]) ⟨hx, hb, hml, hown, hts⟩ (hT _) (cwV 2 hts (gd_v lk_579 lk_580 lk_581 lk_444 lk_481) rfl rfl rfl (by decide +kernel) ⟨Nat.le_of_ble_eq_true rfl, Nat.le_of_ble_eq_true rfl⟩) ⟨fun a U g mk q => by obtain ⟨q0, q1, qP, qK, qD, qZ⟩ := q; exact ⟨q0, q1, qP, va_K.moved (u := U) (U := U.calling g mk a) (Vm.Alike.refl U.vm) qK, qD, th_ZA.calling qZ⟩, va_recv (ci := 0) (q0 := 1) hK hP rfl rfl, fun U hU hW => ⟨rfl, by rw [hU], by rw [hU]; exact hP, va_K.moved hW.alike hK, hD.weaken (fun _ _ _ _ => trivial), th_ZA.to hZ hS hU hW hFc⟩⟩ rfl rfl hl.1 rfl (lv_room (Nat.le_of_ble_eq_true rfl)) d_L_line_5 ⟨Nat.le_of_ble_eq_true rfl, Nat.le_of_ble_eq_true rfl⟩) hown htab (by refine ⟨⟨by decide, by decide, by decide⟩, "java/lang/IllegalArgumentException", (hts _ (List.mem_cons_of_mem _ lk_551)), ?_⟩; exact Or.inl ⟨rfl, rfl⟩) (fun _ _ _ h => ⟨h.1, h.2.2⟩) hS (fun q _ h => hFc q h) hFc (fun xx st₀ t H1 locs ht hvm _ hB hz1 hk1 hS => ?_)
  obtain ⟨-, ⟨hP1, hD1⟩, -⟩ := hB
  rw [ht] at hP1
  have hP := hP1
  have hD := hD1.weaken (fun _ q _ h => hFc q.1 h)
  clear hP1 hD1 hFc hk1 hz1
  refine W.cs (cells' := 1) (slots' := 6) rfl rfl ?_
  refine lv_astore (lv' := [(4, .ref xx), (0, .ref x.h), (1, .int k1), (2, .int k2), (3, .ref x.ob)]) hx hb d_L_line_13 hl (by decide) rfl (fun ls hl => ?_)
  refine lv_iconst (v := 1) hx hb d_L_line_15 (by decide) ?_
  refine W.widen (k := 3) (n := 170) (Nat.le_of_ble_eq_true rfl) (Nat.le_of_ble_eq_true rfl) ?_
  exact W.iret (v := 1) hx hb hr (fun t ht hW => ⟨⟨_, kn, rfl, ⟨rfl, hC⟩, by rw [ht]; exact hP, hD⟩, hS.F ht⟩) hS.2.2 d_L_line_16
set_option maxHeartbeats 8000000 in
set_option maxRecDepth 100000 in
theorem H_line_2 (l : Launch) (hfl : l.flags = flags0) (x : FX) {k : CK} {e : ES} {k1 k2 : Int32} (ov : Nat → Int64) {e' : ES} (hM : KThr l x y_D_line w_D_line ({ frames := 7, cells := 1, slots := 6, locals := 104 }) [.ref x.h, .int k1, .int k2] k e 1 6 "java/lang/IndexOutOfBoundsException" e') : HRet l x y_L_line w_L_line [.ref x.h, .int k1, .int k2, .ref x.ob] k e ov 2 e' ov := by
  obtain ⟨kn, hC, hT⟩ := hM.up ov
  intro sz
  refine th_ofWw (tab := [(0, 10, 13, 28), (0, 10, 17, 23)]) (cc := method_13_code) (maxL := 5) (ret := some .int) (by decide) rfl ?_
  intro p en s m args below meth c s₁ B hml htab hv
  obtain ⟨rfl, hsz, hP, hK, hD0, hZ⟩ := hv
  have hx := B.exec
  have hb := B.bytes
  have hr := B.returns
  have hts := atoms_spec (ws := w_L_line) B.pre
  have hown : s.vm.findClass "DraftTreeLaw" = some m.cls := findClass_of_methodNamed B.named
  subst hsz
  have hD := hD0.self (sz := s.heap.size)
  generalize hAe : va_A (HW x k e ov) s.heap.size = B9 at hD hZ ⊢
  have hA : ∀ q : Nat, s.heap.size ≤ q → B9 q := fun q h => by rw [← hAe]; exact Or.inr h
  clear hAe
  have hS : va_S B9 s.heap s.heap [] := va_S.rf
  have hl := lv_entry ([.ref x.h, .int k1, .int k2, .ref x.ob]) (n := 5) (Nat.le_of_ble_eq_true rfl)
  rw [lg_entry_eq]
  generalize (lg_sl ([.ref x.h, .int k1, .int k2, .ref x.ob]) ++ List.replicate (5 - (lg_sl ([.ref x.h, .int k1, .int k2, .ref x.ob])).length) Slot.unset).toArray = ls at hl ⊢
  have hl : lv_has ls 5 [(0, .ref x.h), (1, .int k1), (2, .int k2), (3, .ref x.ob)] := hl
  refine lv_aload_n hx hb d_L_line_0 rfl (lv_at hl 3 rfl) ?_
  refine lv_iconst (v := 0) hx hb d_L_line_1 (by decide) ?_
  refine lv_aload_n hx hb d_L_line_2 rfl (lv_at hl 0 rfl) ?_
  refine lv_iload_n hx hb d_L_line_3 rfl (lv_at hl 1 rfl) ?_
  refine lv_iload_n hx hb d_L_line_4 rfl (lv_at hl 2 rfl) ?_
  have hFc := va_freeM (wc := HW x k e ov) hD hS hA (fun _ h9 => h9)
  refine th_catch (own := "DraftTreeLaw") (C := "java/lang/IndexOutOfBoundsException") (hpc := 17) (A1 := va_A (HW x k e ov) s.heap.size) (th_runV (As := [.int k1, .int k2]) (rest := [.int 0, .ref x.ob]) ⟨hx, hb, hml, hown, hts⟩ (hT _) (cwV 2 hts (gd_v lk_579 lk_580 lk_581 lk_444 lk_481) rfl rfl rfl (by decide +kernel) ⟨Nat.le_of_ble_eq_true rfl, Nat.le_of_ble_eq_true rfl⟩) ⟨fun a U g mk q => by obtain ⟨q0, q1, qP, qK, qD, qZ⟩ := q; exact ⟨q0, q1, qP, va_K.moved (u := U) (U := U.calling g mk a) (Vm.Alike.refl U.vm) qK, qD, th_ZA.calling qZ⟩, va_recv (ci := 0) (q0 := 1) hK hP rfl rfl, fun U hU hW => ⟨rfl, by rw [hU], by rw [hU]; exact hP, va_K.moved hW.alike hK, hD.weaken (fun _ _ _ _ => trivial), th_ZA.to hZ hS hU hW hFc⟩⟩ rfl rfl hl.1 rfl (lv_room (Nat.le_of_ble_eq_true rfl)) d_L_line_5 ⟨Nat.le_of_ble_eq_true rfl, Nat.le_of_ble_eq_true rfl⟩) hown htab (by refine ⟨⟨by decide, by decide, by decide⟩, "java/lang/IllegalArgumentException", (hts _ (List.mem_cons_of_mem _ lk_551)), ?_⟩; refine Or.inr ⟨hZ.2.2.2.2.1, ?_⟩; refine ⟨⟨by decide, by decide, by decide⟩, "java/lang/IndexOutOfBoundsException", (hts _ (List.mem_cons_of_mem _ lk_546)), ?_⟩; exact Or.inl ⟨rfl, rfl⟩) (fun _ _ _ h => ⟨h.1, h.2.2⟩) hS (fun q _ h => hFc q h) hFc (fun xx st₀ t H1 locs ht hvm _ hB hz1 hk1 hS => ?_)
  obtain ⟨-, ⟨hP1, hD1⟩, -⟩ := hB
  rw [ht] at hP1
  have hP := hP1
  have hD := hD1.weaken (fun _ q _ h => hFc q.1 h)
  clear hP1 hD1 hFc hk1 hz1
  refine W.cs (cells' := 1) (slots' := 6) rfl rfl ?_
  refine lv_astore (lv' := [(4, .ref xx), (0, .ref x.h), (1, .int k1), (2, .int k2), (3, .ref x.ob)]) hx hb d_L_line_17 hl (by decide) rfl (fun ls hl => ?_)
  refine lv_iconst (v := 2) hx hb d_L_line_19 (by decide) ?_
  refine W.widen (k := 3) (n := 170) (Nat.le_of_ble_eq_true rfl) (Nat.le_of_ble_eq_true rfl) ?_
  exact W.iret (v := 2) hx hb hr (fun t ht hW => ⟨⟨_, kn, rfl, ⟨rfl, hC⟩, by rw [ht]; exact hP, hD⟩, hS.F ht⟩) hS.2.2 d_L_line_20
set_option maxHeartbeats 8000000 in
set_option maxRecDepth 100000 in
theorem H_figure_0 (l : Launch) (hfl : l.flags = flags0) (x : FX) {k : CK} {e : ES} {k1 : Int32} (ov : Nat → Int64) {r : Int32} {e' : ES} (hM : KRetI l x y_D_figure w_D_figure ({ frames := 0, cells := 0, slots := 0, locals := 0 }) [.ref x.h, .int k1] k e 0 0 r e') : HRet l x y_L_figure w_L_figure [.ref x.h, .int k1, .ref x.ob] k e ov 0 e' (vp_updL ov 0 r.toInt64) := by
  intro sz
  refine th_ofWw (tab := [(0, 9, 12, 28)]) (cc := method_14_code) (maxL := 4) (ret := some .int) (by decide) rfl ?_
  intro p en s m args below meth c s₁ B hml htab hv
  obtain ⟨rfl, hsz, hP, hK, hD0, hZ⟩ := hv
  have hx := B.exec
  have hb := B.bytes
  have hr := B.returns
  have hts := atoms_spec (ws := w_L_figure) B.pre
  have hown : s.vm.findClass "DraftTreeLaw" = some m.cls := findClass_of_methodNamed B.named
  subst hsz
  have hD := hD0.self (sz := s.heap.size)
  generalize hAe : va_A (HW x k e ov) s.heap.size = B9 at hD hZ ⊢
  have hA : ∀ q : Nat, s.heap.size ≤ q → B9 q := fun q h => by rw [← hAe]; exact Or.inr h
  clear hAe
  have hS : va_S B9 s.heap s.heap [] := va_S.rf
  have hl := lv_entry ([.ref x.h, .int k1, .ref x.ob]) (n := 4) (Nat.le_of_ble_eq_true rfl)
  rw [lg_entry_eq]
  generalize (lg_sl ([.ref x.h, .int k1, .ref x.ob]) ++ List.replicate (4 - (lg_sl ([.ref x.h, .int k1, .ref x.ob])).length) Slot.unset).toArray = ls at hl ⊢
  have hl : lv_has ls 4 [(0, .ref x.h), (1, .int k1), (2, .ref x.ob)] := hl
  refine lv_aload_n hx hb d_L_figure_0 rfl (lv_at hl 2 rfl) ?_
  refine lv_iconst (v := 0) hx hb d_L_figure_1 (by decide) ?_
  refine lv_aload_n hx hb d_L_figure_2 rfl (lv_at hl 0 rfl) ?_
  refine lv_iload_n hx hb d_L_figure_3 rfl (lv_at hl 1 rfl) ?_
  have hFc := va_freeM (wc := HW x k e ov) hD hS hA (fun _ h9 => h9)
  refine va_calli (va_runV (As := [.int k1]) (rest := [.int 0, .ref x.ob]) ⟨hx, hb, hml, hown, hts⟩ (hM.up ov _) (cwV 1 hts (gd_v lk_558 lk_559 lk_560 lk_444 lk_439) rfl rfl rfl (by decide +kernel) ⟨Nat.le_of_ble_eq_true rfl, Nat.le_of_ble_eq_true rfl⟩) ⟨fun a U g mk q => by obtain ⟨q0, q1, qP, qK, qD⟩ := q; exact ⟨q0, q1, qP, va_K.moved (u := U) (U := U.calling g mk a) (Vm.Alike.refl U.vm) qK, qD⟩, va_recv (ci := 0) (q0 := 1) hK hP rfl rfl, fun U hU hW => ⟨rfl, by rw [hU], by rw [hU]; exact hP, va_K.moved hW.alike hK, hD.weaken (fun _ _ _ _ => trivial)⟩⟩ rfl rfl hl.1 rfl (lv_room (Nat.le_of_ble_eq_true rfl)) d_L_figure_4 ⟨Nat.le_of_ble_eq_true rfl, Nat.le_of_ble_eq_true rfl⟩) hS (fun q _ h => hFc q h) hFc (fun r9 kn t H1 locs ht hvm hw hB hz1 hk1 hS => ?_)
  obtain ⟨hP1, hD1⟩ := hB
  rw [ht] at hP1
  have hP := hP1
  have hD := hD1.weaken (fun _ q _ h => hFc q.1 h)
  clear hP1 hD1 hFc hk1 hz1
  refine W.cs (cells' := 0) (slots' := 0) rfl rfl ?_
  obtain ⟨hw0, hC⟩ := hw
  subst hw0
  refine lv_i2l hx hb d_L_figure_7 rfl ?_
  refine va_last hx hb hK hP hD hS 0 2 rfl rfl (wk_inb_ok (by decide)) d_L_figure_8 (fun H locs hP hD hS => ?_)
  have hP : va_P x.D vwCl (HW x kn e' (vp_updL ov 0 r9.toInt64)) H := hP
  have hD : va_D B9 (HW x kn e' (vp_updL ov 0 r9.toInt64)) := hD
  refine lv_goto (tgt := 15) hx hb d_L_figure_9 (by decide) ?_
  refine lv_iconst (v := 0) hx hb d_L_figure_15 (by decide) ?_
  refine W.widen (k := 3) (n := 170) (Nat.le_of_ble_eq_true rfl) (Nat.le_of_ble_eq_true rfl) ?_
  exact W.iret (v := 0) hx hb hr (fun t ht hW => ⟨⟨_, kn, rfl, ⟨rfl, hC⟩, by rw [ht]; exact hP, hD⟩, hS.F ht⟩) hS.2.2 d_L_figure_16
set_option maxHeartbeats 8000000 in
set_option maxRecDepth 100000 in
theorem H_figure_1 (l : Launch) (hfl : l.flags = flags0) (x : FX) {k : CK} {e : ES} {k1 : Int32} (ov : Nat → Int64) {e' : ES} (hM : KThr l x y_D_figure w_D_figure ({ frames := 6, cells := 1, slots := 6, locals := 81 }) [.ref x.h, .int k1] k e 1 6 "java/lang/IllegalArgumentException" e') : HRet l x y_L_figure w_L_figure [.ref x.h, .int k1, .ref x.ob] k e ov 1 e' ov := by
  obtain ⟨kn, hC, hT⟩ := hM.up ov
  intro sz
  refine th_ofWw (tab := [(0, 9, 12, 28)]) (cc := method_14_code) (maxL := 4) (ret := some .int) (by decide) rfl ?_
  intro p en s m args below meth c s₁ B hml htab hv
  obtain ⟨rfl, hsz, hP, hK, hD0, hZ⟩ := hv
  have hx := B.exec
  have hb := B.bytes
  have hr := B.returns
  have hts := atoms_spec (ws := w_L_figure) B.pre
  have hown : s.vm.findClass "DraftTreeLaw" = some m.cls := findClass_of_methodNamed B.named
  subst hsz
  have hD := hD0.self (sz := s.heap.size)
  generalize hAe : va_A (HW x k e ov) s.heap.size = B9 at hD hZ ⊢
  have hA : ∀ q : Nat, s.heap.size ≤ q → B9 q := fun q h => by rw [← hAe]; exact Or.inr h
  clear hAe
  have hS : va_S B9 s.heap s.heap [] := va_S.rf
  have hl := lv_entry ([.ref x.h, .int k1, .ref x.ob]) (n := 4) (Nat.le_of_ble_eq_true rfl)
  rw [lg_entry_eq]
  generalize (lg_sl ([.ref x.h, .int k1, .ref x.ob]) ++ List.replicate (4 - (lg_sl ([.ref x.h, .int k1, .ref x.ob])).length) Slot.unset).toArray = ls at hl ⊢
  have hl : lv_has ls 4 [(0, .ref x.h), (1, .int k1), (2, .ref x.ob)] := hl
  refine lv_aload_n hx hb d_L_figure_0 rfl (lv_at hl 2 rfl) ?_
  refine lv_iconst (v := 0) hx hb d_L_figure_1 (by decide) ?_
  refine lv_aload_n hx hb d_L_figure_2 rfl (lv_at hl 0 rfl) ?_
  refine lv_iload_n hx hb d_L_figure_3 rfl (lv_at hl 1 rfl) ?_
  have hFc := va_freeM (wc := HW x k e ov) hD hS hA (fun _ h9 => h9)
  refine th_catch (own := "DraftTreeLaw") (C := "java/lang/IllegalArgumentException") (hpc := 12) (A1 := va_A (HW x k e ov) s.heap.size) (th_runV (As := [.int k1]) (rest := [.int 0, .ref x.ob]) ⟨hx, hb, hml, hown, hts⟩ (hT _) (cwV 1 hts (gd_v lk_558 lk_559 lk_560 lk_444 lk_439) rfl rfl rfl (by decide +kernel) ⟨Nat.le_of_ble_eq_true rfl, Nat.le_of_ble_eq_true rfl⟩) ⟨fun a U g mk q => by obtain ⟨q0, q1, qP, qK, qD, qZ⟩ := q; exact ⟨q0, q1, qP, va_K.moved (u := U) (U := U.calling g mk a) (Vm.Alike.refl U.vm) qK, qD, th_ZA.calling qZ⟩, va_recv (ci := 0) (q0 := 1) hK hP rfl rfl, fun U hU hW => ⟨rfl, by rw [hU], by rw [hU]; exact hP, va_K.moved hW.alike hK, hD.weaken (fun _ _ _ _ => trivial), th_ZA.to hZ hS hU hW hFc⟩⟩ rfl rfl hl.1 rfl (lv_room (Nat.le_of_ble_eq_true rfl)) d_L_figure_4 ⟨Nat.le_of_ble_eq_true rfl, Nat.le_of_ble_eq_true rfl⟩) hown htab (by refine ⟨⟨by decide, by decide, by decide⟩, "java/lang/IllegalArgumentException", (hts _ (List.mem_cons_of_mem _ lk_551)), ?_⟩; exact Or.inl ⟨rfl, rfl⟩) (fun _ _ _ h => ⟨h.1, h.2.2⟩) hS (fun q _ h => hFc q h) hFc (fun xx st₀ t H1 locs ht hvm _ hB hz1 hk1 hS => ?_)
  obtain ⟨-, ⟨hP1, hD1⟩, -⟩ := hB
  rw [ht] at hP1
  have hP := hP1
  have hD := hD1.weaken (fun _ q _ h => hFc q.1 h)
  clear hP1 hD1 hFc hk1 hz1
  refine W.cs (cells' := 1) (slots' := 6) rfl rfl ?_
  refine lv_astore_n (lv' := [(3, .ref xx), (0, .ref x.h), (1, .int k1), (2, .ref x.ob)]) hx hb d_L_figure_12 rfl hl (by decide) rfl (fun ls hl => ?_)
  refine lv_iconst (v := 1) hx hb d_L_figure_13 (by decide) ?_
  refine W.widen (k := 3) (n := 170) (Nat.le_of_ble_eq_true rfl) (Nat.le_of_ble_eq_true rfl) ?_
  exact W.iret (v := 1) hx hb hr (fun t ht hW => ⟨⟨_, kn, rfl, ⟨rfl, hC⟩, by rw [ht]; exact hP, hD⟩, hS.F ht⟩) hS.2.2 d_L_figure_14
set_option maxHeartbeats 8000000 in
set_option maxRecDepth 100000 in
theorem H_parent_0 (l : Launch) (hfl : l.flags = flags0) (x : FX) {k : CK} {e : ES} {k1 : Int32} (ov : Nat → Int64) {r : Int32} {e' : ES} (hM : KRetI l x y_D_parent w_D_parent ({ frames := 1, cells := 0, slots := 0, locals := 21 }) [.ref x.h, .int k1] k e 0 0 r e') : HRet l x y_L_parent w_L_parent [.ref x.h, .int k1, .ref x.ob] k e ov 0 e' (vp_updL ov 0 r.toInt64) := by
  intro sz
  refine th_ofWw (tab := [(0, 9, 12, 28)]) (cc := method_15_code) (maxL := 4) (ret := some .int) (by decide) rfl ?_
  intro p en s m args below meth c s₁ B hml htab hv
  obtain ⟨rfl, hsz, hP, hK, hD0, hZ⟩ := hv
  have hx := B.exec
  have hb := B.bytes
  have hr := B.returns
  have hts := atoms_spec (ws := w_L_parent) B.pre
  have hown : s.vm.findClass "DraftTreeLaw" = some m.cls := findClass_of_methodNamed B.named
  subst hsz
  have hD := hD0.self (sz := s.heap.size)
  generalize hAe : va_A (HW x k e ov) s.heap.size = B9 at hD hZ ⊢
  have hA : ∀ q : Nat, s.heap.size ≤ q → B9 q := fun q h => by rw [← hAe]; exact Or.inr h
  clear hAe
  have hS : va_S B9 s.heap s.heap [] := va_S.rf
  have hl := lv_entry ([.ref x.h, .int k1, .ref x.ob]) (n := 4) (Nat.le_of_ble_eq_true rfl)
  rw [lg_entry_eq]
  generalize (lg_sl ([.ref x.h, .int k1, .ref x.ob]) ++ List.replicate (4 - (lg_sl ([.ref x.h, .int k1, .ref x.ob])).length) Slot.unset).toArray = ls at hl ⊢
  have hl : lv_has ls 4 [(0, .ref x.h), (1, .int k1), (2, .ref x.ob)] := hl
  refine lv_aload_n hx hb d_L_parent_0 rfl (lv_at hl 2 rfl) ?_
  refine lv_iconst (v := 0) hx hb d_L_parent_1 (by decide) ?_
  refine lv_aload_n hx hb d_L_parent_2 rfl (lv_at hl 0 rfl) ?_
  refine lv_iload_n hx hb d_L_parent_3 rfl (lv_at hl 1 rfl) ?_
  have hFc := va_freeM (wc := HW x k e ov) hD hS hA (fun _ h9 => h9)
  refine va_calli (va_runV (As := [.int k1]) (rest := [.int 0, .ref x.ob]) ⟨hx, hb, hml, hown, hts⟩ (hM.up ov _) (cwV 1 hts (gd_v lk_583 lk_584 lk_585 lk_444 lk_482) rfl rfl rfl (by decide +kernel) ⟨Nat.le_of_ble_eq_true rfl, Nat.le_of_ble_eq_true rfl⟩) ⟨fun a U g mk q => by obtain ⟨q0, q1, qP, qK, qD⟩ := q; exact ⟨q0, q1, qP, va_K.moved (u := U) (U := U.calling g mk a) (Vm.Alike.refl U.vm) qK, qD⟩, va_recv (ci := 0) (q0 := 1) hK hP rfl rfl, fun U hU hW => ⟨rfl, by rw [hU], by rw [hU]; exact hP, va_K.moved hW.alike hK, hD.weaken (fun _ _ _ _ => trivial)⟩⟩ rfl rfl hl.1 rfl (lv_room (Nat.le_of_ble_eq_true rfl)) d_L_parent_4 ⟨Nat.le_of_ble_eq_true rfl, Nat.le_of_ble_eq_true rfl⟩) hS (fun q _ h => hFc q h) hFc (fun r9 kn t H1 locs ht hvm hw hB hz1 hk1 hS => ?_)
  obtain ⟨hP1, hD1⟩ := hB
  rw [ht] at hP1
  have hP := hP1
  have hD := hD1.weaken (fun _ q _ h => hFc q.1 h)
  clear hP1 hD1 hFc hk1 hz1
  refine W.cs (cells' := 0) (slots' := 0) rfl rfl ?_
  obtain ⟨hw0, hC⟩ := hw
  subst hw0
  refine lv_i2l hx hb d_L_parent_7 rfl ?_
  refine va_last hx hb hK hP hD hS 0 2 rfl rfl (wk_inb_ok (by decide)) d_L_parent_8 (fun H locs hP hD hS => ?_)
  have hP : va_P x.D vwCl (HW x kn e' (vp_updL ov 0 r9.toInt64)) H := hP
  have hD : va_D B9 (HW x kn e' (vp_updL ov 0 r9.toInt64)) := hD
  refine lv_goto (tgt := 15) hx hb d_L_parent_9 (by decide) ?_
  refine lv_iconst (v := 0) hx hb d_L_parent_15 (by decide) ?_
  refine W.widen (k := 3) (n := 170) (Nat.le_of_ble_eq_true rfl) (Nat.le_of_ble_eq_true rfl) ?_
  exact W.iret (v := 0) hx hb hr (fun t ht hW => ⟨⟨_, kn, rfl, ⟨rfl, hC⟩, by rw [ht]; exact hP, hD⟩, hS.F ht⟩) hS.2.2 d_L_parent_16
set_option maxHeartbeats 8000000 in
set_option maxRecDepth 100000 in
theorem H_parent_1 (l : Launch) (hfl : l.flags = flags0) (x : FX) {k : CK} {e : ES} {k1 : Int32} (ov : Nat → Int64) {e' : ES} (hM : KThr l x y_D_parent w_D_parent ({ frames := 7, cells := 1, slots := 6, locals := 102 }) [.ref x.h, .int k1] k e 1 6 "java/lang/IllegalArgumentException" e') : HRet l x y_L_parent w_L_parent [.ref x.h, .int k1, .ref x.ob] k e ov 1 e' ov := by
  obtain ⟨kn, hC, hT⟩ := hM.up ov
  intro sz
  refine th_ofWw (tab := [(0, 9, 12, 28)]) (cc := method_15_code) (maxL := 4) (ret := some .int) (by decide) rfl ?_
  intro p en s m args below meth c s₁ B hml htab hv
  obtain ⟨rfl, hsz, hP, hK, hD0, hZ⟩ := hv
  have hx := B.exec
  have hb := B.bytes
  have hr := B.returns
  have hts := atoms_spec (ws := w_L_parent) B.pre
  have hown : s.vm.findClass "DraftTreeLaw" = some m.cls := findClass_of_methodNamed B.named
  subst hsz
  have hD := hD0.self (sz := s.heap.size)
  generalize hAe : va_A (HW x k e ov) s.heap.size = B9 at hD hZ ⊢
  have hA : ∀ q : Nat, s.heap.size ≤ q → B9 q := fun q h => by rw [← hAe]; exact Or.inr h
  clear hAe
  have hS : va_S B9 s.heap s.heap [] := va_S.rf
  have hl := lv_entry ([.ref x.h, .int k1, .ref x.ob]) (n := 4) (Nat.le_of_ble_eq_true rfl)
  rw [lg_entry_eq]
  generalize (lg_sl ([.ref x.h, .int k1, .ref x.ob]) ++ List.replicate (4 - (lg_sl ([.ref x.h, .int k1, .ref x.ob])).length) Slot.unset).toArray = ls at hl ⊢
  have hl : lv_has ls 4 [(0, .ref x.h), (1, .int k1), (2, .ref x.ob)] := hl
  refine lv_aload_n hx hb d_L_parent_0 rfl (lv_at hl 2 rfl) ?_
  refine lv_iconst (v := 0) hx hb d_L_parent_1 (by decide) ?_
  refine lv_aload_n hx hb d_L_parent_2 rfl (lv_at hl 0 rfl) ?_
  refine lv_iload_n hx hb d_L_parent_3 rfl (lv_at hl 1 rfl) ?_
  have hFc := va_freeM (wc := HW x k e ov) hD hS hA (fun _ h9 => h9)
  refine th_catch (own := "DraftTreeLaw") (C := "java/lang/IllegalArgumentException") (hpc := 12) (A1 := va_A (HW x k e ov) s.heap.size) (th_runV (As := [.int k1]) (rest := [.int 0, .ref x.ob]) ⟨hx, hb, hml, hown, hts⟩ (hT _) (cwV 1 hts (gd_v lk_583 lk_584 lk_585 lk_444 lk_482) rfl rfl rfl (by decide +kernel) ⟨Nat.le_of_ble_eq_true rfl, Nat.le_of_ble_eq_true rfl⟩) ⟨fun a U g mk q => by obtain ⟨q0, q1, qP, qK, qD, qZ⟩ := q; exact ⟨q0, q1, qP, va_K.moved (u := U) (U := U.calling g mk a) (Vm.Alike.refl U.vm) qK, qD, th_ZA.calling qZ⟩, va_recv (ci := 0) (q0 := 1) hK hP rfl rfl, fun U hU hW => ⟨rfl, by rw [hU], by rw [hU]; exact hP, va_K.moved hW.alike hK, hD.weaken (fun _ _ _ _ => trivial), th_ZA.to hZ hS hU hW hFc⟩⟩ rfl rfl hl.1 rfl (lv_room (Nat.le_of_ble_eq_true rfl)) d_L_parent_4 ⟨Nat.le_of_ble_eq_true rfl, Nat.le_of_ble_eq_true rfl⟩) hown htab (by refine ⟨⟨by decide, by decide, by decide⟩, "java/lang/IllegalArgumentException", (hts _ (List.mem_cons_of_mem _ lk_551)), ?_⟩; exact Or.inl ⟨rfl, rfl⟩) (fun _ _ _ h => ⟨h.1, h.2.2⟩) hS (fun q _ h => hFc q h) hFc (fun xx st₀ t H1 locs ht hvm _ hB hz1 hk1 hS => ?_)
  obtain ⟨-, ⟨hP1, hD1⟩, -⟩ := hB
  rw [ht] at hP1
  have hP := hP1
  have hD := hD1.weaken (fun _ q _ h => hFc q.1 h)
  clear hP1 hD1 hFc hk1 hz1
  refine W.cs (cells' := 1) (slots' := 6) rfl rfl ?_
  refine lv_astore_n (lv' := [(3, .ref xx), (0, .ref x.h), (1, .int k1), (2, .ref x.ob)]) hx hb d_L_parent_12 rfl hl (by decide) rfl (fun ls hl => ?_)
  refine lv_iconst (v := 1) hx hb d_L_parent_13 (by decide) ?_
  refine W.widen (k := 3) (n := 170) (Nat.le_of_ble_eq_true rfl) (Nat.le_of_ble_eq_true rfl) ?_
  exact W.iret (v := 1) hx hb hr (fun t ht hW => ⟨⟨_, kn, rfl, ⟨rfl, hC⟩, by rw [ht]; exact hP, hD⟩, hS.F ht⟩) hS.2.2 d_L_parent_14
