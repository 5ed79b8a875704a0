-- 83b.rf0_type
set_option maxHeartbeats 8000000 in
set_option maxRecDepth 100000 in
theorem lr_type {p : Program} {en : Env} {s : State} {m : MethodId} {below : List Frame} {meth : Method} {c : Code} (l : Launch) (hfl : l.flags = flags0) (x : FX) {b L : Nat} {xs : Nat → Int32} (hx : p.tables.exec = Jvm.exec) (hb : c.code = code) (hml : c.maxLocals = 7) (hown : s.vm.findClass "DraftTreeLaw" = some m.cls) (hts : ∀ w ∈ (Cond.initialized "DraftTreeLaw" :: wk_tbl), w.before #[Value.ref b] s = true) (B9 : Nat → Prop) (hA : ∀ q : Nat, s.heap.size ≤ q → B9 q) (hZ : th_ZA B9 s) (hX : va_X b L xs s s.heap) (hbl : b < s.heap.size) (hbA : ¬ B9 b) (hL : L ≤ 1536) (hK : va_K x.D vwCl (kT x) s) (i : Nat) (hi : i + 3 ≤ L) {k : CK} {e : ES} {t : Nat} {cf : Nat → Nat} {I : MI} {A : MA} {ov : Nat → Int64} (hC : CRel e k) (w : EWf e) (hM : MRel e t cf I A) (ht : t < 100000) {cells slots : Nat} (hcl : cells + 3 ≤ 601024) (hsl : slots + 170 ≤ 7293034) {H : Heap} {locs : List Loc} {ls : Array Slot} (hP : va_P x.D vwCl (WL x k e ov I A) H) (hD : va_D B9 (WL x k e ov I A)) (hS : va_S B9 s.heap H locs) (hl : lv_has ls 7 [(4, .int (Int32.ofNat i)), (3, .ref x.ob), (2, .ref x.hM), (1, .ref x.h), (0, .ref b)]) (cv : Int32) (hcv : ((xs (i + 1)).toUInt32 % 65536).toInt32 = cv) (kk : LKontE p l en s m below meth c x b B9 i t cells slots (e_typ e cv)) : W p l en room_1 s m #[Value.ref b] below meth c H locs cells slots (lw_Z below #[Value.ref b] s) (F0 m 120 ls []) := by
  have zb0 : i < 2147483648 := by clear w hM hC; omega
  have yb0 : i < L := by clear w hM hC; omega
  have zb1 : i + 1 < 2147483648 := by clear w hM hC; omega
  have yb1 : i + 1 < L := by clear w hM hC; omega
  have zb2 : i + 2 < 2147483648 := by clear w hM hC; omega
  have yb2 : i + 2 < L := by clear w hM hC; omega
  refine lv_aload_n hx hb d_L_law_120 rfl (lv_at hl 3 rfl) ?_
  refine lv_aload_n hx hb d_L_law_121 rfl (lv_at hl 4 rfl) ?_
  refine lv_iload hx hb d_L_law_122 (lv_at hl 0 rfl) ?_
  refine lv_iconst (v := 1) hx hb d_L_law_124 (by decide) ?_
  refine lv_iadd hx hb d_L_law_125 ?_
  refine wk_top (w := .int (Int32.ofNat (i + 1))) (congrArg _ (pn_succ i)) ?_
  refine va_sld hx hb hX hbl hbA hS (wk_inb_ok ((pn_inb zb1).mpr yb1)) d_L_law_126 ?_
  refine wk_top (w := .int (xs (i + 1))) (congrArg _ (congrArg xs (pn_nat zb1))) ?_
  refine lv_i2c hx hb d_L_law_127 hcv ?_
  have hFc := va_freeM (wc := WL x k e ov I A) hD hS hA (fun _ h9 => h9)
  obtain ⟨r1, I1, A1, hH, hf1, w1, hM1⟩ := S_typeX l x hC w hM (cv)
  refine va_calli (va_runV (As := [.int cv]) (rest := []) ⟨hx, hb, hml, hown, hts⟩ (hH.up2 ov I A _) (cwV 1 hts (gd_v lk_610 lk_611 lk_612 lk_445 lk_495) rfl rfl rfl (by decide +kernel) ⟨Nat.le_of_ble_eq_true rfl, Nat.le_of_ble_eq_true rfl⟩) ⟨fun a U g mk q => by obtain ⟨q0, q1, qP, qK, qD⟩ := q; exact ⟨q0, q1, qP, va_K.moved (u := U) (U := U.calling g mk a) (Vm.Alike.refl U.vm) qK, qD⟩, va_recv (ci := 0) (q0 := 22) hK hP rfl rfl, fun U hU hW => ⟨rfl, by rw [hU], by rw [hU]; exact hP, va_K.moved hW.alike hK, hD.weaken (fun _ _ _ _ => trivial)⟩⟩ rfl rfl hl.1 rfl (lv_room (Nat.le_of_ble_eq_true rfl)) d_L_law_128 ⟨Nat.le_trans (Nat.le_add_right _ 3) hcl, Nat.le_trans (Nat.le_add_right _ 170) hsl⟩) hS (fun q _ h => hFc q h) hFc (fun r9 kn t9 H1 locs ht9 hvm hw hB hz1 hk1 hS => ?_)
  obtain ⟨hw0, hC1⟩ := hw
  subst hw0
  obtain ⟨hP1, hD1⟩ := hB
  rw [ht9] at hP1
  have hP := hP1
  have hD := hD1.weaken (fun _ q _ h => hFc q.1 h)
  clear hP1 hD1 hFc hk1 hz1
  refine W.cs (cells' := cells) (slots' := slots) rfl rfl ?_
  generalize H1 = H at hP hS ⊢
  refine lv_pop hx hb d_L_law_131 rfl ?_
  refine lv_aload_n hx hb d_L_law_132 rfl (lv_at hl 2 rfl) ?_
  refine lv_aload_n hx hb d_L_law_133 rfl (lv_at hl 4 rfl) ?_
  refine lv_iload hx hb d_L_law_134 (lv_at hl 0 rfl) ?_
  refine lv_iconst (v := 1) hx hb d_L_law_136 (by decide) ?_
  refine lv_iadd hx hb d_L_law_137 ?_
  refine wk_top (w := .int (Int32.ofNat (i + 1))) (congrArg _ (pn_succ i)) ?_
  refine va_sld hx hb hX hbl hbA hS (wk_inb_ok ((pn_inb zb1).mpr yb1)) d_L_law_138 ?_
  refine wk_top (w := .int (xs (i + 1))) (congrArg _ (congrArg xs (pn_nat zb1))) ?_
  refine lv_i2c hx hb d_L_law_139 hcv ?_
  have hFc := va_freeM (wc := WL x kn (e_typ e cv) ov I A) hD hS hA (fun _ h9 => h9)
  refine va_calli (va_runV (As := [.int cv]) (rest := []) ⟨hx, hb, hml, hown, hts⟩ (mUpI kn (e_typ e cv) ov (cm_M_type l x.dC x.dI x.hM x.qM x.gM _ I A (cv) r9 I1 A1 hf1) (fun _ _ z => ⟨z.1, z.2.2⟩)) (cwV 1 hts (gd_v lk_613 lk_614 lk_615 lk_46 lk_225) rfl rfl rfl (by decide +kernel) ⟨Nat.le_of_ble_eq_true rfl, Nat.le_of_ble_eq_true rfl⟩) ⟨fun a U g mk q => by obtain ⟨q0, q1, qP, qK, qD⟩ := q; exact ⟨q0, q1, qP, va_K.moved (u := U) (U := U.calling g mk a) (Vm.Alike.refl U.vm) qK, qD⟩, va_recv (ci := 4) (q0 := 0) hK hP rfl rfl, fun U hU hW => ⟨rfl, by rw [hU], by rw [hU]; exact hP, va_K.moved hW.alike hK, hD.weaken (fun _ _ _ _ => trivial)⟩⟩ rfl rfl hl.1 rfl (lv_room (Nat.le_of_ble_eq_true rfl)) d_L_law_140 ⟨Nat.le_trans (Nat.le_add_right _ 3) hcl, Nat.le_trans (Nat.le_add_right _ 170) hsl⟩) hS (fun q _ h => hFc q h) hFc (fun r8 u t9 H1 locs ht9 hvm hw hB hz1 hk1 hS => ?_)
  have hw2 := hw.symm
  subst hw2
  obtain ⟨hP1, hD1⟩ := hB
  rw [ht9] at hP1
  have hP := hP1
  have hD := hD1.weaken (fun _ q _ h => hFc q.1 h)
  clear hP1 hD1 hFc hk1 hz1
  refine W.cs (cells' := cells) (slots' := slots) rfl rfl ?_
  generalize H1 = H at hP hS ⊢
  refine lv_pop hx hb d_L_law_143 rfl ?_
  refine lv_goto (tgt := 549) hx hb d_L_law_144 (by decide) ?_
  refine W.widen (k := cells + 3) (n := slots + 170) (Nat.le_add_right _ _) (Nat.le_add_right _ _) ?_
  exact kk kn _ _ ov _ _ _ _ _ hC1 w1 hM1 (Nat.le_succ _) hP hD hS hl
-- 83b.rf1_ins
set_option maxHeartbeats 8000000 in
set_option maxRecDepth 100000 in
theorem lr_ins {p : Program} {en : Env} {s : State} {m : MethodId} {below : List Frame} {meth : Method} {c : Code} (l : Launch) (hfl : l.flags = flags0) (x : FX) {b L : Nat} {xs : Nat → Int32} (hx : p.tables.exec = Jvm.exec) (hb : c.code = code) (hml : c.maxLocals = 7) (hown : s.vm.findClass "DraftTreeLaw" = some m.cls) (hts : ∀ w ∈ (Cond.initialized "DraftTreeLaw" :: wk_tbl), w.before #[Value.ref b] s = true) (B9 : Nat → Prop) (hA : ∀ q : Nat, s.heap.size ≤ q → B9 q) (hZ : th_ZA B9 s) (hX : va_X b L xs s s.heap) (hbl : b < s.heap.size) (hbA : ¬ B9 b) (hL : L ≤ 1536) (hK : va_K x.D vwCl (kT x) s) (i : Nat) (hi : i + 3 ≤ L) {k : CK} {e : ES} {t : Nat} {cf : Nat → Nat} {I : MI} {A : MA} {ov : Nat → Int64} (hC : CRel e k) (w : EWf e) (hM : MRel e t cf I A) (ht : t < 100000) {cells slots : Nat} (hcl : cells + 3 ≤ 601024) (hsl : slots + 170 ≤ 7293034) {H : Heap} {locs : List Loc} {ls : Array Slot} (hP : va_P x.D vwCl (WL x k e ov I A) H) (hD : va_D B9 (WL x k e ov I A)) (hS : va_S B9 s.heap H locs) (hl : lv_has ls 7 [(4, .int (Int32.ofNat i)), (3, .ref x.ob), (2, .ref x.hM), (1, .ref x.h), (0, .ref b)]) (hn40 : e.n ≠ 40) (hx160 : e_exl e (e_lo e) (e_hi e) e.sn ≤ 160) (kk : LKontE p l en s m below meth c x b B9 i t cells slots (e_ins e)) : W p l en room_1 s m #[Value.ref b] below meth c H locs cells slots (lw_Z below #[Value.ref b] s) (F0 m 160 ls []) := by
  have zb0 : i < 2147483648 := by clear w hM hC; omega
  have yb0 : i < L := by clear w hM hC; omega
  have zb1 : i + 1 < 2147483648 := by clear w hM hC; omega
  have yb1 : i + 1 < L := by clear w hM hC; omega
  have zb2 : i + 2 < 2147483648 := by clear w hM hC; omega
  have yb2 : i + 2 < L := by clear w hM hC; omega
  refine lv_aload_n hx hb d_L_law_160 rfl (lv_at hl 3 rfl) ?_
  refine lv_aload_n hx hb d_L_law_161 rfl (lv_at hl 1 rfl) ?_
  have hFc := va_freeM (wc := WL x k e ov I A) hD hS hA (fun _ h9 => h9)
  obtain ⟨ov1, r1, I1, A1, t1, cf1, hH, hf1, w1, hM1, htt1, hz1c, hv1⟩ := S_insertX l hfl x hC w hM ov hn40 hx160
  refine va_calli (th_runSw (n := 2) (As := [.ref x.h, .ref x.ob]) (rest := []) ⟨hx, hb, hml, hown, hts⟩ (hH.up I A _) (gd_c lk_571) rfl rfl rfl (hts _ (List.mem_cons_of_mem _ lk_622)) (hts _ (List.mem_cons_of_mem _ lk_623)) (hts _ (List.mem_cons_of_mem _ lk_624)) (by decide +kernel) ⟨Nat.le_of_ble_eq_true rfl, Nat.le_of_ble_eq_true rfl⟩ ⟨fun a U g mk q => by obtain ⟨q0, q1, qP, qK, qD, qZ⟩ := q; exact ⟨q0, q1, qP, va_K.moved (u := U) (U := U.calling g mk a) (Vm.Alike.refl U.vm) qK, qD, th_ZA.calling qZ⟩, fun U hU hW => ⟨rfl, by rw [hU], by rw [hU]; exact hP, va_K.moved hW.alike hK, hD.weaken (fun _ _ _ _ => trivial), th_ZA.to hZ hS hU hW hFc⟩⟩ rfl rfl hl.1 rfl (lv_room (Nat.le_of_ble_eq_true rfl)) d_L_law_162 ⟨hcl, hsl⟩) hS (fun q _ h => hFc q h) hFc (fun r9 kn t9 H1 locs ht9 hvm hw hB hz1 hk1 hS => ?_)
  obtain ⟨hw0, hC1⟩ := hw
  subst hw0
  obtain ⟨hP1, hD1⟩ := hB
  rw [ht9] at hP1
  have hP := hP1
  have hD := hD1.weaken (fun _ q _ h => hFc q.1 h)
  clear hP1 hD1 hFc hk1 hz1
  refine W.cs (cells' := cells + 3) (slots' := slots + 170) rfl rfl ?_
  generalize H1 = H at hP hS ⊢
  refine lv_istore (lv' := [(5, .int 0), (4, .int (Int32.ofNat i)), (3, .ref x.ob), (2, .ref x.hM), (1, .ref x.h), (0, .ref b)]) hx hb d_L_law_165 hl (by decide) rfl (fun ls hl => ?_)
  have hl : lv_has ls 7 [(5, .int 0), (4, .int (Int32.ofNat i)), (3, .ref x.ob), (2, .ref x.hM), (1, .ref x.h), (0, .ref b)] := hl
  refine lv_aload_n hx hb d_L_law_167 rfl (lv_at hl 3 rfl) ?_
  have hFc := va_freeM (wc := WL x kn (e_ins e) ov1 I A) hD hS hA (fun _ h9 => h9)
  refine va_calli (va_runV (As := []) (rest := []) ⟨hx, hb, hml, hown, hts⟩ (mUpI kn (e_ins e) ov1 (cm_M_insert l x.dC x.dI x.hM x.qM x.gM _ I A r1 I1 A1 hf1) (fun _ _ z => ⟨z.1, z.2.2⟩)) (cwV 0 hts (gd_v lk_625 lk_626 lk_627 lk_46 lk_207) rfl rfl rfl (by decide +kernel) ⟨Nat.le_of_ble_eq_true rfl, Nat.le_of_ble_eq_true rfl⟩) ⟨fun a U g mk q => by obtain ⟨q0, q1, qP, qK, qD⟩ := q; exact ⟨q0, q1, qP, va_K.moved (u := U) (U := U.calling g mk a) (Vm.Alike.refl U.vm) qK, qD⟩, va_recv (ci := 4) (q0 := 0) hK hP rfl rfl, fun U hU hW => ⟨rfl, by rw [hU], by rw [hU]; exact hP, va_K.moved hW.alike hK, hD.weaken (fun _ _ _ _ => trivial)⟩⟩ rfl rfl hl.1 rfl (lv_room (Nat.le_of_ble_eq_true rfl)) d_L_law_168 ⟨hcl, hsl⟩) hS (fun q _ h => hFc q h) hFc (fun r8 u t9 H1 locs ht9 hvm hw hB hz1 hk1 hS => ?_)
  have hw2 := hw.symm
  subst hw2
  obtain ⟨hP1, hD1⟩ := hB
  rw [ht9] at hP1
  have hP := hP1
  have hD := hD1.weaken (fun _ q _ h => hFc q.1 h)
  clear hP1 hD1 hFc hk1 hz1
  refine W.cs (cells' := cells + 3) (slots' := slots + 170) rfl rfl ?_
  generalize H1 = H at hP hS ⊢
  refine lv_istore (lv' := [(6, .int r1), (5, .int 0), (4, .int (Int32.ofNat i)), (3, .ref x.ob), (2, .ref x.hM), (1, .ref x.h), (0, .ref b)]) hx hb d_L_law_171 hl (by decide) rfl (fun ls hl => ?_)
  have hl : lv_has ls 7 [(6, .int r1), (5, .int 0), (4, .int (Int32.ofNat i)), (3, .ref x.ob), (2, .ref x.hM), (1, .ref x.h), (0, .ref b)] := hl
  refine lv_aload_n hx hb d_L_law_173 rfl (lv_at hl 4 rfl) ?_
  have hFc := va_freeM (wc := WL x kn (e_ins e) ov1 I1 A1) hD hS hA (fun _ h9 => h9)
  refine va_calli (va_runV (As := []) (rest := []) ⟨hx, hb, hml, hown, hts⟩ (mUpI kn (e_ins e) ov1 (cm_M_thrown l x.dC x.dI x.hM x.qM x.gM _ I1 A1 (I1 0) I1 A1 rfl) (fun _ _ z => ⟨z.1, z.2.2⟩)) (cwV 0 hts (gd_v lk_628 lk_629 lk_630 lk_46 lk_222) rfl rfl rfl (by decide +kernel) ⟨Nat.le_of_ble_eq_true rfl, Nat.le_of_ble_eq_true rfl⟩) ⟨fun a U g mk q => by obtain ⟨q0, q1, qP, qK, qD⟩ := q; exact ⟨q0, q1, qP, va_K.moved (u := U) (U := U.calling g mk a) (Vm.Alike.refl U.vm) qK, qD⟩, va_recv (ci := 4) (q0 := 0) hK hP rfl rfl, fun U hU hW => ⟨rfl, by rw [hU], by rw [hU]; exact hP, va_K.moved hW.alike hK, hD.weaken (fun _ _ _ _ => trivial)⟩⟩ rfl rfl hl.1 rfl (lv_room (Nat.le_of_ble_eq_true rfl)) d_L_law_174 ⟨hcl, hsl⟩) hS (fun q _ h => hFc q h) hFc (fun r8 u t9 H1 locs ht9 hvm hw hB hz1 hk1 hS => ?_)
  subst hw
  obtain ⟨hP1, hD1⟩ := hB
  rw [ht9] at hP1
  have hP := hP1
  have hD := hD1.weaken (fun _ q _ h => hFc q.1 h)
  clear hP1 hD1 hFc hk1 hz1
  refine W.cs (cells' := cells + 3) (slots' := slots + 170) rfl rfl ?_
  generalize H1 = H at hP hS ⊢
  refine wk_top (w := .int 0) (congrArg _ hz1c) ?_
  refine lv_iload hx hb d_L_law_177 (lv_at hl 1 rfl) ?_
  refine lv_icmp_eq (tgt := 184) hx hb d_L_law_179 (by decide) (fun _ => ?_) (fun hc => absurd rfl hc)
  refine lv_iload hx hb d_L_law_184 (lv_at hl 1 rfl) ?_
  refine lv_if_ne (tgt := 201) hx hb d_L_law_186 (by decide) (fun hc9 => absurd rfl hc9) (fun _ => ?_)
  refine lv_aload_n hx hb d_L_law_189 rfl (lv_at hl 3 rfl) ?_
  refine lv_iconst (v := 0) hx hb d_L_law_190 (by decide) ?_
  refine va_lald hx hb hK hP 21 2 rfl rfl (wk_inb_ok (by decide)) d_L_law_191 ?_
  refine wk_top (w := .long (r1.toInt64)) (congrArg _ (hv1 rfl)) ?_
  refine lv_iload hx hb d_L_law_192 (lv_at hl 0 rfl) ?_
  refine lv_i2l hx hb d_L_law_194 rfl ?_
  refine W.lcmp hx hb d_L_law_195 ?_
  refine wk_top (w := .int 0) (congrArg _ (lq_lcmp _)) ?_
  refine lv_if_eq (tgt := 201) hx hb d_L_law_196 (by decide) (fun _ => ?_) (fun hc => absurd rfl hc)
  refine lv_goto (tgt := 549) hx hb d_L_law_201 (by decide) ?_
  have hl := lv_sub hl [2, 3, 4, 5, 6] rfl
  exact kk kn _ _ ov1 _ _ _ _ _ hC1 w1 hM1 htt1 hP hD hS hl
-- 83b.rf2_bad
set_option maxHeartbeats 8000000 in
set_option maxRecDepth 100000 in
theorem lr_bad {p : Program} {en : Env} {s : State} {m : MethodId} {below : List Frame} {meth : Method} {c : Code} (l : Launch) (hfl : l.flags = flags0) (x : FX) {b L : Nat} {xs : Nat → Int32} (hx : p.tables.exec = Jvm.exec) (hb : c.code = code) (hml : c.maxLocals = 7) (hown : s.vm.findClass "DraftTreeLaw" = some m.cls) (hts : ∀ w ∈ (Cond.initialized "DraftTreeLaw" :: wk_tbl), w.before #[Value.ref b] s = true) (B9 : Nat → Prop) (hA : ∀ q : Nat, s.heap.size ≤ q → B9 q) (hZ : th_ZA B9 s) (hX : va_X b L xs s s.heap) (hbl : b < s.heap.size) (hbA : ¬ B9 b) (hL : L ≤ 1536) (hK : va_K x.D vwCl (kT x) s) (i : Nat) (hi : i + 3 ≤ L) {k : CK} {e : ES} {t : Nat} {cf : Nat → Nat} {I : MI} {A : MA} {ov : Nat → Int64} (hC : CRel e k) (w : EWf e) (hM : MRel e t cf I A) (ht : t < 100000) {cells slots : Nat} (hcl : cells + 3 ≤ 601024) (hsl : slots + 170 ≤ 7293034) {H : Heap} {locs : List Loc} {ls : Array Slot} (hP : va_P x.D vwCl (WL x k e ov I A) H) (hD : va_D B9 (WL x k e ov I A)) (hS : va_S B9 s.heap H locs) (hl : lv_has ls 7 [(4, .int (Int32.ofNat i)), (3, .ref x.ob), (2, .ref x.hM), (1, .ref x.h), (0, .ref b)]) (hn40 : e.n = 40) (hned : ¬ e_edits e = true) (hAe : (fun q => s.heap.size ≤ q) = B9) (hret : meth.sig.returnType = ret) (hlocks : meth.locks = false) : W p l en room_1 s m #[Value.ref b] below meth c H locs cells slots (lw_Z below #[Value.ref b] s) (F0 m 160 ls []) := by
  have zb0 : i < 2147483648 := by clear w hM hC; omega
  have yb0 : i < L := by clear w hM hC; omega
  have zb1 : i + 1 < 2147483648 := by clear w hM hC; omega
  have yb1 : i + 1 < L := by clear w hM hC; omega
  have zb2 : i + 2 < 2147483648 := by clear w hM hC; omega
  have yb2 : i + 2 < L := by clear w hM hC; omega
  refine lv_aload_n hx hb d_L_law_160 rfl (lv_at hl 3 rfl) ?_
  refine lv_aload_n hx hb d_L_law_161 rfl (lv_at hl 1 rfl) ?_
  have hFc := va_freeM (wc := WL x k e ov I A) hD hS hA (fun _ h9 => h9)
  obtain ⟨r1, I1, A1, t1, cf1, hH, hf1, w1, hM1, htt1, hz1c⟩ := S_insertB l hfl x hC w hM ov hn40 hned
  refine va_calli (th_runSw (n := 2) (As := [.ref x.h, .ref x.ob]) (rest := []) ⟨hx, hb, hml, hown, hts⟩ (hH.up I A _) (gd_c lk_571) rfl rfl rfl (hts _ (List.mem_cons_of_mem _ lk_622)) (hts _ (List.mem_cons_of_mem _ lk_623)) (hts _ (List.mem_cons_of_mem _ lk_624)) (by decide +kernel) ⟨Nat.le_of_ble_eq_true rfl, Nat.le_of_ble_eq_true rfl⟩ ⟨fun a U g mk q => by obtain ⟨q0, q1, qP, qK, qD, qZ⟩ := q; exact ⟨q0, q1, qP, va_K.moved (u := U) (U := U.calling g mk a) (Vm.Alike.refl U.vm) qK, qD, th_ZA.calling qZ⟩, fun U hU hW => ⟨rfl, by rw [hU], by rw [hU]; exact hP, va_K.moved hW.alike hK, hD.weaken (fun _ _ _ _ => trivial), th_ZA.to hZ hS hU hW hFc⟩⟩ rfl rfl hl.1 rfl (lv_room (Nat.le_of_ble_eq_true rfl)) d_L_law_162 ⟨hcl, hsl⟩) hS (fun q _ h => hFc q h) hFc (fun r9 kn t9 H1 locs ht9 hvm hw hB hz1 hk1 hS => ?_)
  obtain ⟨hw0, hC1⟩ := hw
  subst hw0
  obtain ⟨hP1, hD1⟩ := hB
  rw [ht9] at hP1
  have hP := hP1
  have hD := hD1.weaken (fun _ q _ h => hFc q.1 h)
  clear hP1 hD1 hFc hk1 hz1
  refine W.cs (cells' := cells + 3) (slots' := slots + 170) rfl rfl ?_
  generalize H1 = H at hP hS ⊢
  refine lv_istore (lv' := [(5, .int 1), (4, .int (Int32.ofNat i)), (3, .ref x.ob), (2, .ref x.hM), (1, .ref x.h), (0, .ref b)]) hx hb d_L_law_165 hl (by decide) rfl (fun ls hl => ?_)
  have hl : lv_has ls 7 [(5, .int 1), (4, .int (Int32.ofNat i)), (3, .ref x.ob), (2, .ref x.hM), (1, .ref x.h), (0, .ref b)] := hl
  refine lv_aload_n hx hb d_L_law_167 rfl (lv_at hl 3 rfl) ?_
  have hFc := va_freeM (wc := WL x kn e ov I A) hD hS hA (fun _ h9 => h9)
  refine va_calli (va_runV (As := []) (rest := []) ⟨hx, hb, hml, hown, hts⟩ (mUpI kn e ov (cm_M_insert l x.dC x.dI x.hM x.qM x.gM _ I A r1 I1 A1 hf1) (fun _ _ z => ⟨z.1, z.2.2⟩)) (cwV 0 hts (gd_v lk_625 lk_626 lk_627 lk_46 lk_207) rfl rfl rfl (by decide +kernel) ⟨Nat.le_of_ble_eq_true rfl, Nat.le_of_ble_eq_true rfl⟩) ⟨fun a U g mk q => by obtain ⟨q0, q1, qP, qK, qD⟩ := q; exact ⟨q0, q1, qP, va_K.moved (u := U) (U := U.calling g mk a) (Vm.Alike.refl U.vm) qK, qD⟩, va_recv (ci := 4) (q0 := 0) hK hP rfl rfl, fun U hU hW => ⟨rfl, by rw [hU], by rw [hU]; exact hP, va_K.moved hW.alike hK, hD.weaken (fun _ _ _ _ => trivial)⟩⟩ rfl rfl hl.1 rfl (lv_room (Nat.le_of_ble_eq_true rfl)) d_L_law_168 ⟨hcl, hsl⟩) hS (fun q _ h => hFc q h) hFc (fun r8 u t9 H1 locs ht9 hvm hw hB hz1 hk1 hS => ?_)
  have hw2 := hw.symm
  subst hw2
  obtain ⟨hP1, hD1⟩ := hB
  rw [ht9] at hP1
  have hP := hP1
  have hD := hD1.weaken (fun _ q _ h => hFc q.1 h)
  clear hP1 hD1 hFc hk1 hz1
  refine W.cs (cells' := cells + 3) (slots' := slots + 170) rfl rfl ?_
  generalize H1 = H at hP hS ⊢
  refine lv_istore (lv' := [(6, .int r1), (5, .int 1), (4, .int (Int32.ofNat i)), (3, .ref x.ob), (2, .ref x.hM), (1, .ref x.h), (0, .ref b)]) hx hb d_L_law_171 hl (by decide) rfl (fun ls hl => ?_)
  have hl : lv_has ls 7 [(6, .int r1), (5, .int 1), (4, .int (Int32.ofNat i)), (3, .ref x.ob), (2, .ref x.hM), (1, .ref x.h), (0, .ref b)] := hl
  refine lv_aload_n hx hb d_L_law_173 rfl (lv_at hl 4 rfl) ?_
  have hFc := va_freeM (wc := WL x kn e ov I1 A1) hD hS hA (fun _ h9 => h9)
  refine va_calli (va_runV (As := []) (rest := []) ⟨hx, hb, hml, hown, hts⟩ (mUpI kn e ov (cm_M_thrown l x.dC x.dI x.hM x.qM x.gM _ I1 A1 (I1 0) I1 A1 rfl) (fun _ _ z => ⟨z.1, z.2.2⟩)) (cwV 0 hts (gd_v lk_628 lk_629 lk_630 lk_46 lk_222) rfl rfl rfl (by decide +kernel) ⟨Nat.le_of_ble_eq_true rfl, Nat.le_of_ble_eq_true rfl⟩) ⟨fun a U g mk q => by obtain ⟨q0, q1, qP, qK, qD⟩ := q; exact ⟨q0, q1, qP, va_K.moved (u := U) (U := U.calling g mk a) (Vm.Alike.refl U.vm) qK, qD⟩, va_recv (ci := 4) (q0 := 0) hK hP rfl rfl, fun U hU hW => ⟨rfl, by rw [hU], by rw [hU]; exact hP, va_K.moved hW.alike hK, hD.weaken (fun _ _ _ _ => trivial)⟩⟩ rfl rfl hl.1 rfl (lv_room (Nat.le_of_ble_eq_true rfl)) d_L_law_174 ⟨hcl, hsl⟩) hS (fun q _ h => hFc q h) hFc (fun r8 u t9 H1 locs ht9 hvm hw hB hz1 hk1 hS => ?_)
  subst hw
  obtain ⟨hP1, hD1⟩ := hB
  rw [ht9] at hP1
  have hP := hP1
  have hD := hD1.weaken (fun _ q _ h => hFc q.1 h)
  clear hP1 hD1 hFc hk1 hz1
  refine W.cs (cells' := cells + 3) (slots' := slots + 170) rfl rfl ?_
  generalize H1 = H at hP hS ⊢
  refine wk_top (w := .int 0) (congrArg _ hz1c) ?_
  refine lv_iload hx hb d_L_law_177 (lv_at hl 1 rfl) ?_
  refine lv_icmp_eq (tgt := 184) hx hb d_L_law_179 (by decide) (fun hc => absurd hc (by decide)) (fun _ => ?_)
  refine lv_iconst (v := 0) hx hb d_L_law_182 (by decide) ?_
  refine va_forget (fun q hq => by have h9 := hS.2.2 q hq; rw [← hAe] at h9; exact h9) ?_
  refine W.widen (k := 601024) (n := 7293034) hcl hsl ?_
  exact lw_ret hx hb hret hlocks d_L_law_183
-- 83b.rf3_head
set_option maxHeartbeats 8000000 in
set_option maxRecDepth 100000 in
theorem lr_head0 {p : Program} {en : Env} {s : State} {m : MethodId} {below : List Frame} {meth : Method} {c : Code} (l : Launch) (hfl : l.flags = flags0) {b L : Nat} {xs : Nat → Int32} (hx : p.tables.exec = Jvm.exec) (hb : c.code = code) (hml : c.maxLocals = 7) (hown : s.vm.findClass "DraftTreeLaw" = some m.cls) (hts : ∀ w ∈ (Cond.initialized "DraftTreeLaw" :: wk_tbl), w.before #[Value.ref b] s = true) (B9 : Nat → Prop) (hA : ∀ q : Nat, s.heap.size ≤ q → B9 q) (hZ : th_ZA B9 s) (hX : va_X b L xs s s.heap) (hbl : b < s.heap.size) (hbA : ¬ B9 b) (hL : L ≤ 1536) (i : Nat) (hi : i + 3 ≤ L) (hv : xs i = 0) {cells slots : Nat} {H : Heap} {locs : List Loc} {ls : Array Slot} {x : FX} (hS : va_S B9 s.heap H locs) (hl : lv_has ls 7 [(4, .int (Int32.ofNat i)), (3, .ref x.ob), (2, .ref x.hM), (1, .ref x.h), (0, .ref b)]) (kk : W p l en room_1 s m #[Value.ref b] below meth c H locs cells slots (lw_Z below #[Value.ref b] s) (F0 m 120 ls [])) : W p l en room_1 s m #[Value.ref b] below meth c H locs cells slots (lw_Z below #[Value.ref b] s) (F0 m 23 ls []) := by
  refine lv_iload hx hb d_L_law_23 (lv_at hl 0 rfl) ?_
  refine lv_aload_n hx hb d_L_law_25 rfl (lv_at hl 4 rfl) ?_
  refine va_slen hx hb hX hbl hbA hS d_L_law_26 ?_
  refine lv_iconst (v := 3) hx hb d_L_law_27 (by decide) ?_
  refine lv_isub hx hb d_L_law_28 ?_
  have hcmp := lq_cmp (i := i) (L := L) (by omega) (by omega)
  refine lv_icmp_gt (tgt := 555) hx hb d_L_law_29 (by decide) (fun hc => absurd hi (hcmp.mp hc)) (fun _ => ?_)
  refine lv_aload_n hx hb d_L_law_32 rfl (lv_at hl 4 rfl) ?_
  refine lv_iload hx hb d_L_law_33 (lv_at hl 0 rfl) ?_
  refine va_sld hx hb hX hbl hbA hS (wk_inb_ok ((pn_inb (by omega)).mpr (by omega))) d_L_law_35 ?_
  refine lv_bipush (v := 31) hx hb d_L_law_36 (by decide) ?_
  refine lv_iand hx hb d_L_law_38 ?_
  have hv9 : (xs (Int32.ofNat i).toNatClampNeg &&& 31) = 0 := by
    rw [pn_nat (show i < 2147483648 by omega), hv]
    decide
  refine wk_top (w := .int 0) (congrArg _ hv9) ?_
  refine lv_tableIn (off := 81) (tgt := 120) hx hb d_L_law_39 (by decide) (by decide) (by decide) (by decide) ?_
  exact kk
set_option maxHeartbeats 8000000 in
set_option maxRecDepth 100000 in
theorem lr_head2 {p : Program} {en : Env} {s : State} {m : MethodId} {below : List Frame} {meth : Method} {c : Code} (l : Launch) (hfl : l.flags = flags0) {b L : Nat} {xs : Nat → Int32} (hx : p.tables.exec = Jvm.exec) (hb : c.code = code) (hml : c.maxLocals = 7) (hown : s.vm.findClass "DraftTreeLaw" = some m.cls) (hts : ∀ w ∈ (Cond.initialized "DraftTreeLaw" :: wk_tbl), w.before #[Value.ref b] s = true) (B9 : Nat → Prop) (hA : ∀ q : Nat, s.heap.size ≤ q → B9 q) (hZ : th_ZA B9 s) (hX : va_X b L xs s s.heap) (hbl : b < s.heap.size) (hbA : ¬ B9 b) (hL : L ≤ 1536) (i : Nat) (hi : i + 3 ≤ L) (hv : xs i = 2) {cells slots : Nat} {H : Heap} {locs : List Loc} {ls : Array Slot} {x : FX} (hS : va_S B9 s.heap H locs) (hl : lv_has ls 7 [(4, .int (Int32.ofNat i)), (3, .ref x.ob), (2, .ref x.hM), (1, .ref x.h), (0, .ref b)]) (kk : W p l en room_1 s m #[Value.ref b] below meth c H locs cells slots (lw_Z below #[Value.ref b] s) (F0 m 160 ls [])) : W p l en room_1 s m #[Value.ref b] below meth c H locs cells slots (lw_Z below #[Value.ref b] s) (F0 m 23 ls []) := by
  refine lv_iload hx hb d_L_law_23 (lv_at hl 0 rfl) ?_
  refine lv_aload_n hx hb d_L_law_25 rfl (lv_at hl 4 rfl) ?_
  refine va_slen hx hb hX hbl hbA hS d_L_law_26 ?_
  refine lv_iconst (v := 3) hx hb d_L_law_27 (by decide) ?_
  refine lv_isub hx hb d_L_law_28 ?_
  have hcmp := lq_cmp (i := i) (L := L) (by omega) (by omega)
  refine lv_icmp_gt (tgt := 555) hx hb d_L_law_29 (by decide) (fun hc => absurd hi (hcmp.mp hc)) (fun _ => ?_)
  refine lv_aload_n hx hb d_L_law_32 rfl (lv_at hl 4 rfl) ?_
  refine lv_iload hx hb d_L_law_33 (lv_at hl 0 rfl) ?_
  refine va_sld hx hb hX hbl hbA hS (wk_inb_ok ((pn_inb (by omega)).mpr (by omega))) d_L_law_35 ?_
  refine lv_bipush (v := 31) hx hb d_L_law_36 (by decide) ?_
  refine lv_iand hx hb d_L_law_38 ?_
  have hv9 : (xs (Int32.ofNat i).toNatClampNeg &&& 31) = 2 := by
    rw [pn_nat (show i < 2147483648 by omega), hv]
    decide
  refine wk_top (w := .int 2) (congrArg _ hv9) ?_
  refine lv_tableIn (off := 121) (tgt := 160) hx hb d_L_law_39 (by decide) (by decide) (by decide) (by decide) ?_
  exact kk
-- 84.loop
set_option maxHeartbeats 8000000 in
set_option maxRecDepth 100000 in
theorem law_rf {p : Program} {en : Env} {s : State} {m : MethodId} {below : List Frame} {meth : Method} {c : Code} (l : Launch) (hfl : l.flags = flags0) (x : FX) {b L : Nat} {xs : Nat → Int32} (hx : p.tables.exec = Jvm.exec) (hb : c.code = code) (hml : c.maxLocals = 7) (hown : s.vm.findClass "DraftTreeLaw" = some m.cls) (hts : ∀ w ∈ (Cond.initialized "DraftTreeLaw" :: wk_tbl), w.before #[Value.ref b] s = true) (B9 : Nat → Prop) (hA : ∀ q : Nat, s.heap.size ≤ q → B9 q) (hZ : th_ZA B9 s) (hX : va_X b L xs s s.heap) (hbl : b < s.heap.size) (hbA : ¬ B9 b) (hL : L ≤ 1536) (hK : va_K x.D vwCl (kT x) s) (hAe : (fun q => s.heap.size ≤ q) = B9) (hret : meth.sig.returnType = ret) (hlocks : meth.locks = false) (hLn : L = 237) (hxs : ∀ j, j < 39 → xs (6 * j) = 0 ∧ xs (6 * j + 1) = 97 ∧ xs (6 * j + 3) = 2) (hxe : xs 234 = 2) : ∀ (d j : Nat) (k : CK) (e : ES) (t : Nat) (cf : Nat → Nat) (I : MI) (A : MA) (ov : Nat → Int64) (cells slots : Nat) (H : Heap) (locs : List Loc) (ls : Array Slot), j + d = 39 → CRel e k → EWf e → MRel e t cf I A → RF e j → t ≤ 2 * j → cells ≤ 47 + 6 * j → slots ≤ 13136 + 340 * j → va_P x.D vwCl (WL x k e ov I A) H → va_D B9 (WL x k e ov I A) → va_S B9 s.heap H locs → lv_has ls 7 [(4, .int (Int32.ofNat (6 * j))), (3, .ref x.ob), (2, .ref x.hM), (1, .ref x.h), (0, .ref b)] → W p l en room_1 s m #[Value.ref b] below meth c H locs cells slots (lw_Z below #[Value.ref b] s) (F0 m 23 ls []) := by
  intro d
  induction d with
  | zero =>
    intro j k e t cf I A ov cells slots H locs ls hjd hC w hM hr ht hcl hsl hP hD hS hl
    have hj : j = 39 := by clear hC w hM hr; omega
    subst hj
    obtain ⟨r1, r2⟩ := rf_end hr
    refine lr_head2 l hfl hx hb hml hown hts B9 hA hZ hX hbl hbA hL (6 * 39) (by clear hC w hM hr r1 r2; omega) hxe hS hl ?_
    exact lr_bad l hfl x hx hb hml hown hts B9 hA hZ hX hbl hbA hL hK (6 * 39) (by clear hC w hM hr r1 r2; omega) hC w hM (by clear hC w hM hr r1 r2; omega) (by clear hC w hM hr r1 r2; omega) (by clear hC w hM hr r1 r2; omega) hP hD hS hl r1 r2 hAe hret hlocks
  | succ d ih =>
    intro j k e t cf I A ov cells slots H locs ls hjd hC w hM hr ht hcl hsl hP hD hS hl
    have hj : j < 39 := by clear hC w hM hr; omega
    obtain ⟨x1, x2, x3⟩ := hxs j hj
    obtain ⟨r1, r2, r3⟩ := rf_step hr hj
    have b1 : 6 * j + 3 ≤ L := by clear hC w hM hr r1 r2 r3; omega
    have b2 : 6 * j + 3 + 3 ≤ L := by clear hC w hM hr r1 r2 r3; omega
    have kt1 : t < 100000 := by clear hC w hM hr r1 r2 r3; omega
    have kt2 : t + 1 < 100000 := by clear hC w hM hr r1 r2 r3; omega
    have kc1 : cells + 3 ≤ 601024 := by clear hC w hM hr r1 r2 r3; omega
    have kc2 : slots + 170 ≤ 7293034 := by clear hC w hM hr r1 r2 r3; omega
    have kc3 : cells + 3 + 3 ≤ 601024 := by clear hC w hM hr r1 r2 r3; omega
    have kc4 : slots + 170 + 170 ≤ 7293034 := by clear hC w hM hr r1 r2 r3; omega
    refine lr_head0 l hfl hx hb hml hown hts B9 hA hZ hX hbl hbA hL (6 * j) b1 x1 hS hl ?_
    refine lr_type l hfl x hx hb hml hown hts B9 hA hZ hX hbl hbA hL hK (6 * j) b1 hC w hM kt1 kc1 kc2 hP hD hS hl 97 (by rw [x2]; decide) ?_
    intro k' t' cf' ov' I' A' H' locs' ls' hC' w' hM' htt hP' hD' hS' hl'
    refine lv_iinc (k := 0) (v := Int32.ofNat (6 * j + 3)) (lv' := [(4, .int (Int32.ofNat (6 * j + 3))), (3, .ref x.ob), (2, .ref x.hM), (1, .ref x.h), (0, .ref b)]) hx hb d_L_law_549 hl' rfl (pn_add3 (6 * j)) (by decide) rfl (fun ls hl => ?_)
    refine lv_goto (tgt := 23) hx hb d_L_law_552 (by decide) ?_
    have ht2 : t' < 100000 := Nat.lt_of_le_of_lt htt kt2
    refine lr_head2 l hfl hx hb hml hown hts B9 hA hZ hX hbl hbA hL (6 * j + 3) b2 x3 hS' hl ?_
    refine lr_ins l hfl x hx hb hml hown hts B9 hA hZ hX hbl hbA hL hK (6 * j + 3) b2 hC' w' hM' ht2 kc3 kc4 hP' hD' hS' hl r1 r2 ?_
    intro k2 t2 cf2 ov2 I2 A2 H2 locs2 ls2 hC2 w2 hM2 htt2 hP2 hD2 hS2 hl2
    refine lv_iinc (k := 0) (v := Int32.ofNat (6 * j + 3 + 3)) (lv' := [(4, .int (Int32.ofNat (6 * j + 3 + 3))), (3, .ref x.ob), (2, .ref x.hM), (1, .ref x.h), (0, .ref b)]) hx hb d_L_law_549 hl2 rfl (pn_add3 (6 * j + 3)) (by decide) rfl (fun ls hl => ?_)
    refine lv_goto (tgt := 23) hx hb d_L_law_552 (by decide) ?_
    have e6 : 6 * j + 3 + 3 = 6 * (j + 1) := by omega
    rw [e6] at hl
    exact ih (j + 1) k2 (e_ins (e_typ e 97)) t2 cf2 I2 A2 ov2 (cells + 3 + 3) (slots + 170 + 170) H2 locs2 ls (by clear hC w hM hr r1 r2 r3 hl; omega) hC2 w2 hM2 r3 (by clear hC w hM hr r1 r2 r3 hC' w' hM' hC2 w2 hM2 hP hP' hP2 hD hD' hD2 hS hS' hS2 hl hl' hl2; omega) (by clear hC w hM hr r1 r2 r3 hC' w' hM' hC2 w2 hM2 hP hP' hP2 hD hD' hD2 hS hS' hS2 hl hl' hl2; omega) (by clear hC w hM hr r1 r2 r3 hC' w' hM' hC2 w2 hM2 hP hP' hP2 hD hD' hD2 hS hS' hS2 hl hl' hl2; omega) hP2 hD2 hS2 hl
-- 85.start
def lqE : ES := ES.mk 0 (fun _ => 0) 1 0 0 none (fun _ => 0) (fun _ _ => 0) (fun _ => 0) (fun _ => none) (fun _ => none) false (fun _ _ _ _ => False) none
def lqI : MI := fun j => match j with | 3 => 1 | 7 => -1 | 11 => -1 | _ => 0
def lqM : MI := fun j => match j with | 3 => 1 | 12 => -1 | 14 => -1 | _ => 0
def lqA : MA := fun j => match j with | 8 => upd (fun _ => 0) 0 (-1) | _ => fun _ => 0
def lqX (dC : Nat → ClassId) (dI : Nat → Nat → Nat) (q1 q2 q3 q6 q24 q25 q7 q8 q9 q10 q26 q27 q28 q29 q30 q31 q32 q33 q34 q35 q36 q37 q38 q39 q40 q41 q42 q43 q44 q45 q46 q47 : Nat) (gc gi gl gs gz : ClassId) : FX := FX.mk dC dI q1 (fun j => match j with | 0 => q2 | 2 => q3 | 8 => q6 | 12 => q24 | _ => q25) (fun j => match j with | 0 => q7 | 1 => q8 | 2 => q9 | _ => q10) gc gi gl gs gz q26 (fun j => match j with | 2 => q27 | 5 => q28 | 6 => q29 | 7 => q30 | 8 => q31 | 9 => q32 | 16 => q33 | 18 => q34 | 19 => q35 | 20 => q36 | 21 => q37 | 22 => q38 | 26 => q39 | 27 => q40 | 29 => q41 | 30 => q42 | 31 => q43 | 32 => q44 | 33 => q45 | _ => q46) q47
def lqK (q18 q19 q20 q21 q22 q23 q11 q12 q13 q14 q15 q16 q17 q5 q4 : Nat) : CK := CK.mk q18 (fun j => match j with | 0 => q19 | 1 => q20 | 2 => q21 | 3 => q22 | _ => q23) q11 (fun j => match j with | 0 => q12 | 1 => q13 | 2 => q14 | 3 => q15 | _ => q16) (.ref q17) (fun _ => q5) (fun _ => q4) lqI (fun _ _ => 0) (fun _ => 0) (fun _ _ => 0) (fun _ _ => 0) (fun _ => 0) (fun _ _ => 0) (fun _ => 0) (fun _ _ => 0) (fun _ _ => 0)
theorem lqE_wf : EWf lqE := by
  refine ⟨Nat.zero_le _, fun k hk => absurd hk (Nat.not_lt_zero _), Nat.le_refl _, by decide, Nat.lt_succ_self 0, fun s _ => ⟨Nat.zero_le _, fun k hk => absurd hk (Nat.not_lt_zero _)⟩, Nat.le_refl _, fun m hm => (by cases hm), fun s _ => Nat.le_refl _, rfl, fun s h0 hs => ?_, fun s j _ hj => (by cases hj), fun s _ _ j _ hj => (by cases hj)⟩
  have hs' : s < 1 := hs
  omega
theorem lqE_c (q18 q19 q20 q21 q22 q23 q11 q12 q13 q14 q15 q16 q17 q5 q4 : Nat) : CRel lqE (lqK q18 q19 q20 q21 q22 q23 q11 q12 q13 q14 q15 q16 q17 q5 q4) := ⟨rfl, fun j hj => absurd hj (Nat.not_lt_zero _), rfl, rfl, rfl, rfl, rfl, rfl, fun h => (by cases h)⟩
theorem lqE_m : MRel lqE 0 (fun _ => 0) lqM lqA := by
  have h1 : ∀ s, s < lqE.n → s = 0 := fun s hs => by
    have hs' : s < 1 := hs
    omega
  refine ⟨rfl, fun k hk => absurd hk (Nat.not_lt_zero _), rfl, rfl, fun s _ => rfl, fun s _ i hi => absurd hi (Nat.not_lt_zero _), rfl, rfl, fun s _ => rfl, fun s hs => ?_, rfl, fun s _ => ⟨rfl, Nat.le_refl _⟩, fun s j j' _ hj => (by cases hj), rfl, rfl, fun k _ => ⟨0, by decide, rfl⟩, fun h => (by cases h)⟩
  rw [h1 s hs]
  rfl
theorem lq_tw (q : Nat) : va_up (fun _ => none) 0 (some q) = tw_f 1 (fun _ => q) := by
  funext i
  unfold va_up tw_f
  by_cases h : i = 0
  · rw [if_pos h, if_pos (by omega)]
  · rw [if_neg h, if_neg (by omega)]
set_option maxHeartbeats 8000000 in
set_option maxRecDepth 100000 in
theorem law_go {p : Program} {en : Env} {s : State} {m : MethodId} {below : List Frame} {meth : Method} {c : Code} (l : Launch) (hfl : l.flags = flags0) {b L : Nat} {xs : Nat → Int32} (hx : p.tables.exec = Jvm.exec) (hb : c.code = code) (hml : c.maxLocals = 7) (hown : s.vm.findClass "DraftTreeLaw" = some m.cls) (hts : ∀ w ∈ (Cond.initialized "DraftTreeLaw" :: wk_tbl), w.before #[Value.ref b] s = true) (B9 : Nat → Prop) (hA : ∀ q : Nat, s.heap.size ≤ q → B9 q) (hZ : th_ZA B9 s) (hX : va_X b L xs s s.heap) (hbl : b < s.heap.size) (hbA : ¬ B9 b) (hL : L ≤ 1536) (hAe : (fun q => s.heap.size ≤ q) = B9) (hret : meth.sig.returnType = ret) (hlocks : meth.locks = false) (hLn : L = 237) (hxs : ∀ j, j < 39 → xs (6 * j) = 0 ∧ xs (6 * j + 1) = 97 ∧ xs (6 * j + 3) = 2) (hxe : xs 234 = 2) (dC : Nat → ClassId) (dI : Nat → Nat → Nat) (q1 q2 q3 q4 q5 q6 q7 q8 q9 q10 q11 q12 q13 q14 q15 q16 q17 q18 q19 q20 q21 q22 q23 q24 q25 q26 q27 q28 q29 q30 q31 q32 q33 q34 q35 q36 q37 q38 q39 q40 q41 q42 q43 q44 q45 q46 q47 : Nat) (g2 g3 g4 g7 g8 g9 g10 g12 g13 g14 g15 g16 g17 g19 g20 g21 g22 g23 g24 g25 g27 g28 g29 g30 g31 g32 g33 g34 g35 g36 g37 g38 g39 g40 g41 g42 g43 g44 g45 g46 g47 : ClassId) (H : Heap) (locs : List Loc) (ls : Array Slot) (hP : va_P (dC, dI) vwCl [(q1, .inr (0, [.ref q2, .int 0, .ref q3, .int 1, .int 0, .ref q4, .int 0, .int (-1), .ref q6, .ref q18, .int 0, .int (-1), .ref q24, .ref q25])), (q2, .inl (g2, 24, .inl (fun _ => 0))), (q3, .inl (g3, 40, .inr (.inr (.inr (.inr (va_up (fun _ => none) 0 (some q5))))))), (q4, .inl (g4, 0, .inl (fun _ => 0))), (q5, .inr (1, [.ref q4, .int (-1), .int 0, .int (-1)])), (q6, .inr (2, [.ref q7, .ref q8, .ref q9, .ref q10, .ref q11, .ref q17, .int 0, .int 0, .int 0, .int 0, .int 0, .int 0, .int 0])), (q7, .inl (g7, 9, .inl (fun _ => 0))), (q8, .inl (g8, 9, .inl (fun _ => 0))), (q9, .inl (g9, 9, .inl (fun _ => 0))), (q10, .inl (g10, 9, .inl (fun _ => 0))), (q11, .inr (3, [.ref q12, .ref q13, .ref q14, .ref q15, .ref q16, .int 0, .int 0, .int 0, .int 0, .int 0])), (q12, .inl (g12, 50, .inl (fun _ => 0))), (q13, .inl (g13, 50, .inl (fun _ => 0))), (q14, .inl (g14, 50, .inl (fun _ => 0))), (q15, .inl (g15, 50, .inr (.inl (fun _ => 0)))), (q16, .inl (g16, 50, .inr (.inl (fun _ => 0)))), (q17, .inl (g17, 0, .inl (fun _ => 0))), (q18, .inr (3, [.ref q19, .ref q20, .ref q21, .ref q22, .ref q23, .int 0, .int 0, .int 0, .int 0, .int 0])), (q19, .inl (g19, 50, .inl (fun _ => 0))), (q20, .inl (g20, 50, .inl (fun _ => 0))), (q21, .inl (g21, 50, .inl (fun _ => 0))), (q22, .inl (g22, 50, .inr (.inl (fun _ => 0)))), (q23, .inl (g23, 50, .inr (.inl (fun _ => 0)))), (q24, .inl (g24, 160, .inl (fun _ => 0))), (q25, .inl (g25, 160, .inl (fun _ => 0))), (q26, .inr (4, [.int 0, .int 0, .ref q27, .int 1, .int 0, .ref q28, .ref q29, .ref q30, .ref q31, .ref q32, .int 0, .int 0, .int (-1), .int 0, .int (-1), .int 0, .ref q33, .int 0, .ref q34, .ref q35, .ref q36, .ref q37, .ref q38, .int 0, .int 0, .int 0, .ref q39, .ref q40, .int 0, .ref q41, .ref q42, .ref q43, .ref q44, .ref q45, .int 0, .int 0, .int 0, .ref q46])), (q27, .inl (g27, 24, .inl (fun _ => 0))), (q28, .inl (g28, 6400, .inl (fun _ => 0))), (q29, .inl (g29, 40, .inl (fun _ => 0))), (q30, .inl (g30, 40, .inl (fun _ => 0))), (q31, .inl (g31, 40, .inl (upd (fun _ => 0) 0 (-1)))), (q32, .inl (g32, 40, .inl (fun _ => 0))), (q33, .inl (g33, 24, .inl (fun _ => 0))), (q34, .inl (g34, 160, .inl (fun _ => 0))), (q35, .inl (g35, 160, .inl (fun _ => 0))), (q36, .inl (g36, 160, .inl (fun _ => 0))), (q37, .inl (g37, 160, .inl (fun _ => 0))), (q38, .inl (g38, 160, .inl (fun _ => 0))), (q39, .inl (g39, 160, .inl (fun _ => 0))), (q40, .inl (g40, 160, .inl (fun _ => 0))), (q41, .inl (g41, 26, .inl (fun _ => 0))), (q42, .inl (g42, 26, .inl (fun _ => 0))), (q43, .inl (g43, 26, .inl (fun _ => 0))), (q44, .inl (g44, 160, .inl (fun _ => 0))), (q45, .inl (g45, 160, .inl (fun _ => 0))), (q46, .inl (g46, 4000, .inl (fun _ => 0))), (q47, .inl (g47, 1, .inr (.inl (fun _ => 0))))] H) (hD : va_D B9 [(q1, .inr (0, [.ref q2, .int 0, .ref q3, .int 1, .int 0, .ref q4, .int 0, .int (-1), .ref q6, .ref q18, .int 0, .int (-1), .ref q24, .ref q25])), (q2, .inl (g2, 24, .inl (fun _ => 0))), (q3, .inl (g3, 40, .inr (.inr (.inr (.inr (va_up (fun _ => none) 0 (some q5))))))), (q4, .inl (g4, 0, .inl (fun _ => 0))), (q5, .inr (1, [.ref q4, .int (-1), .int 0, .int (-1)])), (q6, .inr (2, [.ref q7, .ref q8, .ref q9, .ref q10, .ref q11, .ref q17, .int 0, .int 0, .int 0, .int 0, .int 0, .int 0, .int 0])), (q7, .inl (g7, 9, .inl (fun _ => 0))), (q8, .inl (g8, 9, .inl (fun _ => 0))), (q9, .inl (g9, 9, .inl (fun _ => 0))), (q10, .inl (g10, 9, .inl (fun _ => 0))), (q11, .inr (3, [.ref q12, .ref q13, .ref q14, .ref q15, .ref q16, .int 0, .int 0, .int 0, .int 0, .int 0])), (q12, .inl (g12, 50, .inl (fun _ => 0))), (q13, .inl (g13, 50, .inl (fun _ => 0))), (q14, .inl (g14, 50, .inl (fun _ => 0))), (q15, .inl (g15, 50, .inr (.inl (fun _ => 0)))), (q16, .inl (g16, 50, .inr (.inl (fun _ => 0)))), (q17, .inl (g17, 0, .inl (fun _ => 0))), (q18, .inr (3, [.ref q19, .ref q20, .ref q21, .ref q22, .ref q23, .int 0, .int 0, .int 0, .int 0, .int 0])), (q19, .inl (g19, 50, .inl (fun _ => 0))), (q20, .inl (g20, 50, .inl (fun _ => 0))), (q21, .inl (g21, 50, .inl (fun _ => 0))), (q22, .inl (g22, 50, .inr (.inl (fun _ => 0)))), (q23, .inl (g23, 50, .inr (.inl (fun _ => 0)))), (q24, .inl (g24, 160, .inl (fun _ => 0))), (q25, .inl (g25, 160, .inl (fun _ => 0))), (q26, .inr (4, [.int 0, .int 0, .ref q27, .int 1, .int 0, .ref q28, .ref q29, .ref q30, .ref q31, .ref q32, .int 0, .int 0, .int (-1), .int 0, .int (-1), .int 0, .ref q33, .int 0, .ref q34, .ref q35, .ref q36, .ref q37, .ref q38, .int 0, .int 0, .int 0, .ref q39, .ref q40, .int 0, .ref q41, .ref q42, .ref q43, .ref q44, .ref q45, .int 0, .int 0, .int 0, .ref q46])), (q27, .inl (g27, 24, .inl (fun _ => 0))), (q28, .inl (g28, 6400, .inl (fun _ => 0))), (q29, .inl (g29, 40, .inl (fun _ => 0))), (q30, .inl (g30, 40, .inl (fun _ => 0))), (q31, .inl (g31, 40, .inl (upd (fun _ => 0) 0 (-1)))), (q32, .inl (g32, 40, .inl (fun _ => 0))), (q33, .inl (g33, 24, .inl (fun _ => 0))), (q34, .inl (g34, 160, .inl (fun _ => 0))), (q35, .inl (g35, 160, .inl (fun _ => 0))), (q36, .inl (g36, 160, .inl (fun _ => 0))), (q37, .inl (g37, 160, .inl (fun _ => 0))), (q38, .inl (g38, 160, .inl (fun _ => 0))), (q39, .inl (g39, 160, .inl (fun _ => 0))), (q40, .inl (g40, 160, .inl (fun _ => 0))), (q41, .inl (g41, 26, .inl (fun _ => 0))), (q42, .inl (g42, 26, .inl (fun _ => 0))), (q43, .inl (g43, 26, .inl (fun _ => 0))), (q44, .inl (g44, 160, .inl (fun _ => 0))), (q45, .inl (g45, 160, .inl (fun _ => 0))), (q46, .inl (g46, 4000, .inl (fun _ => 0))), (q47, .inl (g47, 1, .inr (.inl (fun _ => 0))))]) (hK : va_K (dC, dI) vwCl [(g2, .char), (g3, (.object "DraftTree$State")), (g4, .char), (g7, .int), (g8, .int), (g9, .int), (g10, .int), (g12, .int), (g13, .int), (g14, .int), (g15, .long), (g16, .long), (g17, .char), (g19, .int), (g20, .int), (g21, .int), (g22, .long), (g23, .long), (g24, .int), (g25, .int), (g27, .char), (g28, .char), (g29, .int), (g30, .int), (g31, .int), (g32, .int), (g33, .char), (g34, .int), (g35, .int), (g36, .int), (g37, .int), (g38, .int), (g39, .int), (g40, .int), (g41, .int), (g42, .int), (g43, .int), (g44, .boolean), (g45, .boolean), (g46, .char), (g47, .long)] s) (hS : va_S B9 s.heap H locs) (hl : lv_has ls 7 [(4, .int 0), (3, .ref q47), (2, .ref q26), (1, .ref q1), (0, .ref b)]) : W p l en room_1 s m #[Value.ref b] below meth c H locs 47 13136 (lw_Z below #[Value.ref b] s) (F0 m 23 ls []) := by
  have e_g4 : g2 = g4 := hK.one (ty := .char) rfl (List.mem_of_getElem? (i := 0) rfl) (List.mem_of_getElem? (i := 2) rfl)
  subst e_g4
  have e_g8 : g7 = g8 := hK.one (ty := .int) rfl (List.mem_of_getElem? (i := 3) rfl) (List.mem_of_getElem? (i := 4) rfl)
  subst e_g8
  have e_g9 : g7 = g9 := hK.one (ty := .int) rfl (List.mem_of_getElem? (i := 3) rfl) (List.mem_of_getElem? (i := 5) rfl)
  subst e_g9
  have e_g10 : g7 = g10 := hK.one (ty := .int) rfl (List.mem_of_getElem? (i := 3) rfl) (List.mem_of_getElem? (i := 6) rfl)
  subst e_g10
  have e_g12 : g7 = g12 := hK.one (ty := .int) rfl (List.mem_of_getElem? (i := 3) rfl) (List.mem_of_getElem? (i := 7) rfl)
  subst e_g12
  have e_g13 : g7 = g13 := hK.one (ty := .int) rfl (List.mem_of_getElem? (i := 3) rfl) (List.mem_of_getElem? (i := 8) rfl)
  subst e_g13
  have e_g14 : g7 = g14 := hK.one (ty := .int) rfl (List.mem_of_getElem? (i := 3) rfl) (List.mem_of_getElem? (i := 9) rfl)
  subst e_g14
  have e_g16 : g15 = g16 := hK.one (ty := .long) rfl (List.mem_of_getElem? (i := 10) rfl) (List.mem_of_getElem? (i := 11) rfl)
  subst e_g16
  have e_g17 : g2 = g17 := hK.one (ty := .char) rfl (List.mem_of_getElem? (i := 0) rfl) (List.mem_of_getElem? (i := 12) rfl)
  subst e_g17
  have e_g19 : g7 = g19 := hK.one (ty := .int) rfl (List.mem_of_getElem? (i := 3) rfl) (List.mem_of_getElem? (i := 13) rfl)
  subst e_g19
  have e_g20 : g7 = g20 := hK.one (ty := .int) rfl (List.mem_of_getElem? (i := 3) rfl) (List.mem_of_getElem? (i := 14) rfl)
  subst e_g20
  have e_g21 : g7 = g21 := hK.one (ty := .int) rfl (List.mem_of_getElem? (i := 3) rfl) (List.mem_of_getElem? (i := 15) rfl)
  subst e_g21
  have e_g22 : g15 = g22 := hK.one (ty := .long) rfl (List.mem_of_getElem? (i := 10) rfl) (List.mem_of_getElem? (i := 16) rfl)
  subst e_g22
  have e_g23 : g15 = g23 := hK.one (ty := .long) rfl (List.mem_of_getElem? (i := 10) rfl) (List.mem_of_getElem? (i := 17) rfl)
  subst e_g23
  have e_g24 : g7 = g24 := hK.one (ty := .int) rfl (List.mem_of_getElem? (i := 3) rfl) (List.mem_of_getElem? (i := 18) rfl)
  subst e_g24
  have e_g25 : g7 = g25 := hK.one (ty := .int) rfl (List.mem_of_getElem? (i := 3) rfl) (List.mem_of_getElem? (i := 19) rfl)
  subst e_g25
  have e_g27 : g2 = g27 := hK.one (ty := .char) rfl (List.mem_of_getElem? (i := 0) rfl) (List.mem_of_getElem? (i := 20) rfl)
  subst e_g27
  have e_g28 : g2 = g28 := hK.one (ty := .char) rfl (List.mem_of_getElem? (i := 0) rfl) (List.mem_of_getElem? (i := 21) rfl)
  subst e_g28
  have e_g29 : g7 = g29 := hK.one (ty := .int) rfl (List.mem_of_getElem? (i := 3) rfl) (List.mem_of_getElem? (i := 22) rfl)
  subst e_g29
  have e_g30 : g7 = g30 := hK.one (ty := .int) rfl (List.mem_of_getElem? (i := 3) rfl) (List.mem_of_getElem? (i := 23) rfl)
  subst e_g30
  have e_g31 : g7 = g31 := hK.one (ty := .int) rfl (List.mem_of_getElem? (i := 3) rfl) (List.mem_of_getElem? (i := 24) rfl)
  subst e_g31
  have e_g32 : g7 = g32 := hK.one (ty := .int) rfl (List.mem_of_getElem? (i := 3) rfl) (List.mem_of_getElem? (i := 25) rfl)
  subst e_g32
  have e_g33 : g2 = g33 := hK.one (ty := .char) rfl (List.mem_of_getElem? (i := 0) rfl) (List.mem_of_getElem? (i := 26) rfl)
  subst e_g33
  have e_g34 : g7 = g34 := hK.one (ty := .int) rfl (List.mem_of_getElem? (i := 3) rfl) (List.mem_of_getElem? (i := 27) rfl)
  subst e_g34
  have e_g35 : g7 = g35 := hK.one (ty := .int) rfl (List.mem_of_getElem? (i := 3) rfl) (List.mem_of_getElem? (i := 28) rfl)
  subst e_g35
  have e_g36 : g7 = g36 := hK.one (ty := .int) rfl (List.mem_of_getElem? (i := 3) rfl) (List.mem_of_getElem? (i := 29) rfl)
  subst e_g36
  have e_g37 : g7 = g37 := hK.one (ty := .int) rfl (List.mem_of_getElem? (i := 3) rfl) (List.mem_of_getElem? (i := 30) rfl)
  subst e_g37
  have e_g38 : g7 = g38 := hK.one (ty := .int) rfl (List.mem_of_getElem? (i := 3) rfl) (List.mem_of_getElem? (i := 31) rfl)
  subst e_g38
  have e_g39 : g7 = g39 := hK.one (ty := .int) rfl (List.mem_of_getElem? (i := 3) rfl) (List.mem_of_getElem? (i := 32) rfl)
  subst e_g39
  have e_g40 : g7 = g40 := hK.one (ty := .int) rfl (List.mem_of_getElem? (i := 3) rfl) (List.mem_of_getElem? (i := 33) rfl)
  subst e_g40
  have e_g41 : g7 = g41 := hK.one (ty := .int) rfl (List.mem_of_getElem? (i := 3) rfl) (List.mem_of_getElem? (i := 34) rfl)
  subst e_g41
  have e_g42 : g7 = g42 := hK.one (ty := .int) rfl (List.mem_of_getElem? (i := 3) rfl) (List.mem_of_getElem? (i := 35) rfl)
  subst e_g42
  have e_g43 : g7 = g43 := hK.one (ty := .int) rfl (List.mem_of_getElem? (i := 3) rfl) (List.mem_of_getElem? (i := 36) rfl)
  subst e_g43
  have e_g45 : g44 = g45 := hK.one (ty := .boolean) rfl (List.mem_of_getElem? (i := 37) rfl) (List.mem_of_getElem? (i := 38) rfl)
  subst e_g45
  have e_g46 : g2 = g46 := hK.one (ty := .char) rfl (List.mem_of_getElem? (i := 0) rfl) (List.mem_of_getElem? (i := 39) rfl)
  subst e_g46
  have e_g47 : g15 = g47 := hK.one (ty := .long) rfl (List.mem_of_getElem? (i := 10) rfl) (List.mem_of_getElem? (i := 40) rfl)
  subst e_g47
  rw [lq_tw q5] at hP hD
  have hK := hK.sub (tys' := kT (lqX dC dI q1 q2 q3 q6 q24 q25 q7 q8 q9 q10 q26 q27 q28 q29 q30 q31 q32 q33 q34 q35 q36 q37 q38 q39 q40 q41 q42 q43 q44 q45 q46 q47 g2 g7 g15 g3 g44)) [0, 3, 10, 1, 37] rfl
  have hP := hP.sub (ws' := WL (lqX dC dI q1 q2 q3 q6 q24 q25 q7 q8 q9 q10 q26 q27 q28 q29 q30 q31 q32 q33 q34 q35 q36 q37 q38 q39 q40 q41 q42 q43 q44 q45 q46 q47 g2 g7 g15 g3 g44) (lqK q18 q19 q20 q21 q22 q23 q11 q12 q13 q14 q15 q16 q17 q5 q4) lqE (fun _ => 0) lqM lqA) [25, 26, 27, 28, 29, 30, 31, 32, 33, 34, 35, 36, 37, 38, 39, 40, 41, 42, 43, 44, 45, 46, 0, 1, 23, 24, 17, 18, 19, 20, 21, 22, 5, 6, 7, 8, 9, 10, 11, 12, 13, 14, 15, 2, 4, 3] rfl
  have hD := hD.sub (ws' := WL (lqX dC dI q1 q2 q3 q6 q24 q25 q7 q8 q9 q10 q26 q27 q28 q29 q30 q31 q32 q33 q34 q35 q36 q37 q38 q39 q40 q41 q42 q43 q44 q45 q46 q47 g2 g7 g15 g3 g44) (lqK q18 q19 q20 q21 q22 q23 q11 q12 q13 q14 q15 q16 q17 q5 q4) lqE (fun _ => 0) lqM lqA) [25, 26, 27, 28, 29, 30, 31, 32, 33, 34, 35, 36, 37, 38, 39, 40, 41, 42, 43, 44, 45, 46, 0, 1, 23, 24, 17, 18, 19, 20, 21, 22, 5, 6, 7, 8, 9, 10, 11, 12, 13, 14, 15, 2, 4, 3] (by decide) rfl
  exact law_rf l hfl (lqX dC dI q1 q2 q3 q6 q24 q25 q7 q8 q9 q10 q26 q27 q28 q29 q30 q31 q32 q33 q34 q35 q36 q37 q38 q39 q40 q41 q42 q43 q44 q45 q46 q47 g2 g7 g15 g3 g44) hx hb hml hown hts B9 hA hZ hX hbl hbA hL hK hAe hret hlocks hLn hxs hxe 39 0 (lqK q18 q19 q20 q21 q22 q23 q11 q12 q13 q14 q15 q16 q17 q5 q4) lqE 0 (fun _ => 0) lqM lqA (fun _ => 0) 47 13136 H locs ls rfl (lqE_c q18 q19 q20 q21 q22 q23 q11 q12 q13 q14 q15 q16 q17 q5 q4) lqE_wf lqE_m ⟨rfl, rfl, rfl, rfl⟩ (Nat.le_refl _) (Nat.le_refl _) (Nat.le_refl _) hP hD hS hl
-- 86.inlw
set_option maxRecDepth 100000 in
theorem wk_l_in : GoodIn lw_tbl wk_l := goodIn_r wk_l [697, 699, 701, 703, 705, 707, 709, 711, 713, 715, 717, 719, 721, 723, 725, 727, 729, 731, 733, 735, 737, 739, 741, 743, 745, 747, 749, 751, 753, 755, 757, 759, 761, 763, 765, 767, 769, 771, 696, 695, 817, 660, 661, 814, 816, 40, 71, 821, 664, 663, 813, 810, 812, 39, 809, 665, 805, 802, 804, 37, 659, 959, 686, 685, 680, 681, 895, 892, 894, 52, 684, 879, 876, 878, 48, 891, 967, 675, 687, 863, 861, 862, 677, 676, 678, 679, 875, 872, 874, 47, 911, 908, 910, 56, 689, 690, 888, 890, 51, 903, 900, 902, 54, 688, 899, 896, 898, 53, 887, 884, 886, 50, 871, 868, 870, 46, 867, 864, 866, 45, 907, 904, 906, 55, 883, 666, 670, 671, 669, 668, 829, 860, 858, 859, 857, 854, 856, 44, 673, 674, 682, 683, 672, 880, 882, 49, 853, 662, 667, 826, 828, 43, 825, 797, 794, 796, 35, 801, 798, 800, 36, 806, 808, 38, 822, 824, 42, 833, 915, 975, 694, 693, 691, 935, 932, 934, 60, 939, 936, 938, 61, 931, 928, 930, 59, 692, 947, 944, 946, 63, 943, 940, 942, 62, 927, 924, 926, 58, 923, 920, 922, 57, 919, 837, 818, 820, 41, 793, 785, 849, 955, 964, 966, 64, 971, 968, 970, 65, 963, 979, 845, 951, 778, 783, 784, 782, 841, 789, 224, 226, 228, 230, 232, 234, 236, 238, 240, 242, 244, 246, 248, 250, 215, 389, 78, 619, 630, 219, 145, 147, 149, 151, 153, 155, 157, 159, 161, 163, 138, 135, 538, 537, 535, 536, 81, 534, 532, 533, 80, 128, 129, 545, 543, 544, 70, 131, 542, 539, 541, 25, 472, 531, 528, 530, 24, 134, 133, 553, 550, 552, 27, 549, 546, 548, 26, 140, 527, 524, 526, 23, 141, 143, 523, 520, 521, 522, 222, 142, 223, 144, 579, 218, 210, 211, 181, 183, 185, 187, 189, 191, 193, 195, 197, 199, 201, 203, 205, 173, 174, 175, 177, 172, 136, 176, 423, 420, 421, 422, 168, 169, 171, 170, 178, 179, 180, 427, 424, 426, 8, 69, 419, 416, 418, 7, 435, 432, 434, 10, 130, 443, 440, 442, 12, 439, 436, 438, 11, 132, 451, 448, 450, 14, 459, 456, 458, 16, 467, 464, 465, 466, 463, 460, 462, 17, 471, 468, 469, 470, 455, 452, 454, 15, 480, 477, 479, 19, 476, 473, 475, 18, 447, 444, 446, 13, 488, 485, 487, 21, 484, 481, 483, 20, 431, 428, 430, 9, 137, 139, 492, 489, 491, 22, 415, 412, 413, 414, 221, 511, 508, 509, 510, 220, 493, 79, 411, 264, 214, 213, 216, 217, 645, 388, 385, 387, 6, 67, 291, 76, 554, 82, 519, 384, 612, 609, 611, 31, 212, 106, 108, 110, 112, 103, 99, 101, 105, 369, 366, 368, 5, 608, 268, 627, 629, 32, 634, 631, 633, 33, 638, 635, 637, 34, 626, 652, 601, 288, 289, 72, 290, 287, 281, 282, 283, 280, 583, 256, 594, 260, 97, 89, 90, 98, 102, 100, 104, 96, 376, 277, 279, 0, 284, 286, 1, 358, 355, 357, 3, 115, 359, 360, 77, 361, 365, 362, 364, 4, 276, 91, 68, 93, 94, 95, 587, 575, 576, 578, 28, 580, 582, 29, 584, 586, 30, 615, 616, 617, 618, 380, 406, 408, 409, 410, 407, 372, 373, 374, 375, 272, 641, 642, 643, 644, 514, 516, 517, 518, 515, 379, 381, 382, 383, 271, 273, 274, 275, 604, 605, 606, 607, 622, 623, 624, 625, 648, 649, 650, 651, 597, 598, 599, 600, 571, 572, 573, 574, 590, 591, 592, 593, 83, 84, 87, 85, 86, 653, 654, 657, 655, 656, 167, 253, 254, 255, 779, 780, 781, 257, 258, 259, 786, 787, 788, 66, 269, 270, 790, 791, 792, 775, 776, 777, 370, 371, 830, 831, 832, 377, 378, 834, 835, 836, 404, 405, 850, 851, 852, 261, 262, 263, 912, 913, 914, 512, 513, 916, 917, 918, 569, 570, 948, 949, 950, 588, 589, 838, 839, 840, 595, 596, 842, 843, 844, 602, 603, 846, 847, 848, 265, 266, 267, 952, 953, 954, 613, 614, 956, 957, 958, 620, 621, 960, 961, 962, 639, 640, 972, 973, 974, 646, 647, 976, 977, 978, 88, 116, 117, 121, 166, 122, 123, 127, 126, 124, 125, 120, 118, 119, 208, 209, 658, 774] (by rfl) wk_good_l
theorem wk_in_oa_0 : ∀ w ∈ wk_at_oa_0, w ∈ lw_tbl := by decide +kernel
theorem wk_in_oa_1 : ∀ w ∈ wk_at_oa_1, w ∈ lw_tbl := by decide +kernel
theorem wk_in_oa_2 : ∀ w ∈ wk_at_oa_2, w ∈ lw_tbl := by decide +kernel
theorem wk_in_oa_3 : ∀ w ∈ wk_at_oa_3, w ∈ lw_tbl := by decide +kernel
theorem wk_in_lw : ∀ w ∈ wk_tbl, w ∈ lw_tbl := fun w h => (List.mem_append.mp h).elim (fun h => (wk_l_in w h).1) (fun h => (List.mem_append.mp h).elim (fun h => wk_in_oa_0 w h) (fun h => (List.mem_append.mp h).elim (fun h => wk_in_oa_1 w h) (fun h => (List.mem_append.mp h).elim (fun h => wk_in_oa_2 w h) (fun h => wk_in_oa_3 w h))))
theorem wk_bad_lw : ∀ w ∈ th_bad, w ∈ lw_tbl := by decide +kernel
theorem wk_u_lw : Cond.laysStatic Bundle.tN "UNASSIGNED_STACK" Bundle.steD ∈ lw_tbl ∧ Cond.laysStatic Bundle.tN "SUPPRESSED_SENTINEL" Bundle.listD ∈ lw_tbl ∧ Cond.initialized Bundle.tN ∈ lw_tbl ∧ Cond.initialized "DraftTreeLaw" ∈ lw_tbl ∧ Cond.arrayOver (.object "DraftTree$State") ∈ lw_tbl := by decide +kernel
-- 87.whole
set_option maxHeartbeats 4000000 in
theorem whole_start {p : Program} {e : Env} {s : State} {m : MethodId} {below : List Frame} {meth : Method} {c : Code} (l : Launch) (hfl : l.flags = flags0) {b L : Nat} {xs : Nat → Int32} (hL : L ≤ 1536) (hLn : L = 237) (hxs : ∀ j, j < 39 → xs (6 * j) = 0 ∧ xs (6 * j + 1) = 97 ∧ xs (6 * j + 3) = 2) (hxe : xs 234 = 2) (C0 : lw_At p s m meth c b L xs) : W p l e room_1 s m #[Value.ref b] below meth c s.heap [] 0 0 (lw_Z below #[Value.ref b] s) (entryFrame m ([Value.ref b] : List Value).toArray 7) := by
  obtain ⟨hx, hb, hret, hml, hown, hlw, hX, hbl, hlocks, hgv⟩ := C0
  have hts : ∀ w ∈ (Cond.initialized "DraftTreeLaw" :: wk_tbl), w.before #[Value.ref b] s = true := List.forall_mem_cons.mpr ⟨hlw _ wk_u_lw.2.2.2.1, fun w h => hlw w (wk_in_lw w h)⟩
  have hg := flat_of_before _ hgv
  have hZ : th_ZA (fun q => s.heap.size ≤ q) s := ⟨vx_Zqof (hlw _ wk_u_lw.1) (hlw _ wk_u_lw.2.2.1) (hg _ (by decide +kernel)) (fun a h => Nat.not_le.mpr h), vx_Zqof (hlw _ wk_u_lw.2.1) (hlw _ wk_u_lw.2.2.1) (hg _ (by decide +kernel)) (fun a h => Nat.not_le.mpr h), fun w h => va_tabs (th_bad_ok w h).1 rfl (hlw w (wk_bad_lw w h)), va_AO.of (hlw _ wk_u_lw.2.2.2.2), va_Nc.of (hg (.not (.castable "java/lang/IndexOutOfBoundsException" "java/lang/IllegalArgumentException")) (by decide +kernel)), va_Nc.of (hg (.not (.castable "java/lang/IndexOutOfBoundsException" "java/lang/IllegalStateException")) (by decide +kernel)), va_Nc.of (hg (.not (.castable "java/util/NoSuchElementException" "java/lang/IllegalStateException")) (by decide +kernel)), va_Nc.of (hg (.not (.castable "java/util/NoSuchElementException" "java/lang/IndexOutOfBoundsException")) (by decide +kernel))⟩
  obtain ⟨c0, i0, hk0⟩ := u_known (n := 14) hts (fun w h => List.mem_cons_of_mem _ (in_D w h)) (hts _ (List.mem_cons_of_mem _ lk_600))
  obtain ⟨c1, i1, hk1⟩ := u_known (n := 4) hts (fun w h => List.mem_cons_of_mem _ (in_S w h)) (hts _ (List.mem_cons_of_mem _ lk_529))
  obtain ⟨c2, i2, hk2⟩ := u_known (n := 13) hts (fun w h => List.mem_cons_of_mem _ (in_P w h)) (hts _ (List.mem_cons_of_mem _ lk_705))
  obtain ⟨c3, i3, hk3⟩ := u_known (n := 10) hts (fun w h => List.mem_cons_of_mem _ (in_A w h)) (hts _ (List.mem_cons_of_mem _ lk_709))
  obtain ⟨c4, i4, hk4⟩ := u_known (n := 38) hts (fun w h => List.mem_cons_of_mem _ (in_M w h)) (hts _ (List.mem_cons_of_mem _ lk_605))
  have hK : va_K ((fun k => match k with | 0 => c0 | 1 => c1 | 2 => c2 | 3 => c3 | _ => c4), (fun k => match k with | 0 => i0 | 1 => i1 | 2 => i2 | 3 => i3 | _ => i4)) vwCl [] s := by
    refine ⟨fun c q hq => ?_, fun k q h => by simp at h⟩
    match c, hq with
    | 0, hq => cases hq; exact hk0
    | 1, hq => cases hq; exact hk1
    | 2, hq => cases hq; exact hk2
    | 3, hq => cases hq; exact hk3
    | 4, hq => cases hq; exact hk4
    | n + 5, hq => simp [vwCl] at hq
  refine law_pre (xs := xs) l hfl _ _ hx hb hml hown hts _ rfl hZ hK (fun q1 q2 q3 q4 q5 q6 q7 q8 q9 q10 q11 q12 q13 q14 q15 q16 q17 q18 q19 q20 q21 q22 q23 q24 q25 q26 q27 q28 q29 q30 q31 q32 q33 q34 q35 q36 q37 q38 q39 q40 q41 q42 q43 q44 q45 q46 q47 g2 g3 g4 g7 g8 g9 g10 g12 g13 g14 g15 g16 g17 g19 g20 g21 g22 g23 g24 g25 g27 g28 g29 g30 g31 g32 g33 g34 g35 g36 g37 g38 g39 g40 g41 g42 g43 g44 g45 g46 g47 H locs ls hP hD hK hS hl => ?_)
  exact law_go l hfl hx hb hml hown hts _ (fun _ h => h) hZ hX hbl (Nat.not_le.mpr hbl) hL rfl hret hlocks hLn hxs hxe _ _ q1 q2 q3 q4 q5 q6 q7 q8 q9 q10 q11 q12 q13 q14 q15 q16 q17 q18 q19 q20 q21 q22 q23 q24 q25 q26 q27 q28 q29 q30 q31 q32 q33 q34 q35 q36 q37 q38 q39 q40 q41 q42 q43 q44 q45 q46 q47 g2 g3 g4 g7 g8 g9 g10 g12 g13 g14 g15 g16 g17 g19 g20 g21 g22 g23 g24 g25 g27 g28 g29 g30 g31 g32 g33 g34 g35 g36 g37 g38 g39 g40 g41 g42 g43 g44 g45 g46 g47 H locs ls hP hD hK hS hl
