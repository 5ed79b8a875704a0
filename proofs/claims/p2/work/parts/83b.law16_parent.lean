set_option maxHeartbeats 8000000 in
set_option maxRecDepth 100000 in
theorem lq_parent {p : Program} {en : Env} {s : State} {m : MethodId} {below : List Frame} {meth : Method} {c : Code} (l : Launch) (hfl : l.flags = flags0) (x : FX) {b L : Nat} {xs : Nat → Int32} (hx : p.tables.exec = Jvm.exec) (hb : c.code = code) (hml : c.maxLocals = 7) (hown : s.vm.findClass "DraftTreeLaw" = some m.cls) (hts : ∀ w ∈ (Cond.initialized "DraftTreeLaw" :: wk_tbl), w.before #[Value.ref b] s = true) (B9 : Nat → Prop) (hA : ∀ q : Nat, s.heap.size ≤ q → B9 q) (hZ : th_ZA B9 s) (hX : va_X b L xs s s.heap) (hbl : b < s.heap.size) (hbA : ¬ B9 b) (hL : L ≤ 1536) (hK : va_K x.D vwCl (kT x) s) (i : Nat) (hi : i + 3 ≤ L) {k : CK} {e : ES} {t : Nat} {cf : Nat → Nat} {I : MI} {A : MA} {ov : Nat → Int64} (hC : CRel e k) (w : EWf e) (hM : MRel e t cf I A) (ht : t < 100000) {cells slots : Nat} (hcl : cells + 3 ≤ 601024) (hsl : slots + 170 ≤ 7293034) {H : Heap} {locs : List Loc} {ls : Array Slot} (hP : va_P x.D vwCl (WL x k e ov I A) H) (hD : va_D B9 (WL x k e ov I A)) (hS : va_S B9 s.heap H locs) (hl : lv_has ls 7 [(4, .int (Int32.ofNat i)), (3, .ref x.ob), (2, .ref x.hM), (1, .ref x.h), (0, .ref b)]) (kk : LKont p l en s m below meth c x b B9 i t cells slots) : W p l en room_1 s m #[Value.ref b] below meth c H locs cells slots (lw_Z below #[Value.ref b] s) (F0 m 493 ls []) := by
  have zb0 : i < 2147483648 := by clear w hM hC; omega
  have yb0 : i < L := by clear w hM hC; omega
  have zb1 : i + 1 < 2147483648 := by clear w hM hC; omega
  have yb1 : i + 1 < L := by clear w hM hC; omega
  have zb2 : i + 2 < 2147483648 := by clear w hM hC; omega
  have yb2 : i + 2 < L := by clear w hM hC; omega
  refine lv_aload_n hx hb d_L_law_493 rfl (lv_at hl 3 rfl) ?_
  refine lv_aload_n hx hb d_L_law_494 rfl (lv_at hl 4 rfl) ?_
  refine lv_iload hx hb d_L_law_495 (lv_at hl 0 rfl) ?_
  refine lv_iconst (v := 1) hx hb d_L_law_497 (by decide) ?_
  refine lv_iadd hx hb d_L_law_498 ?_
  refine wk_top (w := .int (Int32.ofNat (i + 1))) (congrArg _ (pn_succ i)) ?_
  refine va_sld hx hb hX hbl hbA hS (wk_inb_ok ((pn_inb zb1).mpr yb1)) d_L_law_499 ?_
  refine wk_top (w := .int (xs (i + 1))) (congrArg _ (congrArg xs (pn_nat zb1))) ?_
  refine lv_aload_n hx hb d_L_law_500 rfl (lv_at hl 1 rfl) ?_
  have hFc := va_freeM (wc := WL x k e ov I A) hD hS hA (fun _ h9 => h9)
  obtain ⟨c1, e1, ov1, r1, I1, A1, t1, cf1, hH, hf1, w1, hM1, htt1, hz1c, hv1⟩ := S_parent l hfl x hC w hM ov ((xs (i + 1)))
  refine va_calli (th_runSw (n := 3) (As := [.ref x.h, .int (xs (i + 1)), .ref x.ob]) (rest := []) ⟨hx, hb, hml, hown, hts⟩ (hH.up I A _) (gd_c lk_582) rfl rfl rfl (hts _ (List.mem_cons_of_mem _ lk_621)) (hts _ (List.mem_cons_of_mem _ lk_694)) (hts _ (List.mem_cons_of_mem _ lk_695)) (by decide +kernel) ⟨Nat.le_of_ble_eq_true rfl, Nat.le_of_ble_eq_true rfl⟩ ⟨fun a U g mk q => by obtain ⟨q0, q1, qP, qK, qD, qZ⟩ := q; exact ⟨q0, q1, qP, va_K.moved (u := U) (U := U.calling g mk a) (Vm.Alike.refl U.vm) qK, qD, th_ZA.calling qZ⟩, fun U hU hW => ⟨rfl, by rw [hU], by rw [hU]; exact hP, va_K.moved hW.alike hK, hD.weaken (fun _ _ _ _ => trivial), th_ZA.to hZ hS hU hW hFc⟩⟩ rfl rfl hl.1 rfl (lv_room (Nat.le_of_ble_eq_true rfl)) d_L_law_501 ⟨hcl, hsl⟩) hS (fun q _ h => hFc q h) hFc (fun r9 kn t9 H1 locs ht9 hvm hw hB hz1 hk1 hS => ?_)
  obtain ⟨hw0, hC1⟩ := hw
  subst hw0
  obtain ⟨hP1, hD1⟩ := hB
  rw [ht9] at hP1
  have hP := hP1
  have hD := hD1.weaken (fun _ q _ h => hFc q.1 h)
  clear hP1 hD1 hFc hk1 hz1
  refine W.cs (cells' := cells + 3) (slots' := slots + 170) rfl rfl ?_
  generalize H1 = H at hP hS ⊢
  refine lv_istore (lv' := [(5, .int r9), (4, .int (Int32.ofNat i)), (3, .ref x.ob), (2, .ref x.hM), (1, .ref x.h), (0, .ref b)]) hx hb d_L_law_504 hl (by decide) rfl (fun ls hl => ?_)
  have hl : lv_has ls 7 [(5, .int r9), (4, .int (Int32.ofNat i)), (3, .ref x.ob), (2, .ref x.hM), (1, .ref x.h), (0, .ref b)] := hl
  refine lv_aload_n hx hb d_L_law_506 rfl (lv_at hl 3 rfl) ?_
  refine lv_aload_n hx hb d_L_law_507 rfl (lv_at hl 5 rfl) ?_
  refine lv_iload hx hb d_L_law_508 (lv_at hl 1 rfl) ?_
  refine lv_iconst (v := 1) hx hb d_L_law_510 (by decide) ?_
  refine lv_iadd hx hb d_L_law_511 ?_
  refine wk_top (w := .int (Int32.ofNat (i + 1))) (congrArg _ (pn_succ i)) ?_
  refine va_sld hx hb hX hbl hbA hS (wk_inb_ok ((pn_inb zb1).mpr yb1)) d_L_law_512 ?_
  refine wk_top (w := .int (xs (i + 1))) (congrArg _ (congrArg xs (pn_nat zb1))) ?_
  have hFc := va_freeM (wc := WL x kn e1 ov1 I A) hD hS hA (fun _ h9 => h9)
  refine va_calli (va_runV (As := [.int (xs (i + 1))]) (rest := []) ⟨hx, hb, hml, hown, hts⟩ (mUpI kn e1 ov1 (cm_M_parent l x.dC x.dI x.hM x.qM x.gM _ I A ((xs (i + 1))) r1 I1 A1 hf1) (fun _ _ z => ⟨z.1, z.2.2⟩)) (cwV 1 hts (gd_v lk_696 lk_697 lk_698 lk_46 lk_219) rfl rfl rfl (by decide +kernel) ⟨Nat.le_of_ble_eq_true rfl, Nat.le_of_ble_eq_true rfl⟩) ⟨fun a U g mk q => by obtain ⟨q0, q1, qP, qK, qD⟩ := q; exact ⟨q0, q1, qP, va_K.moved (u := U) (U := U.calling g mk a) (Vm.Alike.refl U.vm) qK, qD⟩, va_recv (ci := 4) (q0 := 0) hK hP rfl rfl, fun U hU hW => ⟨rfl, by rw [hU], by rw [hU]; exact hP, va_K.moved hW.alike hK, hD.weaken (fun _ _ _ _ => trivial)⟩⟩ rfl rfl hl.1 rfl (lv_room (Nat.le_of_ble_eq_true rfl)) d_L_law_513 ⟨hcl, hsl⟩) hS (fun q _ h => hFc q h) hFc (fun r8 u t9 H1 locs ht9 hvm hw hB hz1 hk1 hS => ?_)
  have hw2 := hw.symm
  subst hw2
  obtain ⟨hP1, hD1⟩ := hB
  rw [ht9] at hP1
  have hP := hP1
  have hD := hD1.weaken (fun _ q _ h => hFc q.1 h)
  clear hP1 hD1 hFc hk1 hz1
  refine W.cs (cells' := cells + 3) (slots' := slots + 170) rfl rfl ?_
  generalize H1 = H at hP hS ⊢
  refine lv_istore (lv' := [(6, .int r1), (5, .int r9), (4, .int (Int32.ofNat i)), (3, .ref x.ob), (2, .ref x.hM), (1, .ref x.h), (0, .ref b)]) hx hb d_L_law_516 hl (by decide) rfl (fun ls hl => ?_)
  have hl : lv_has ls 7 [(6, .int r1), (5, .int r9), (4, .int (Int32.ofNat i)), (3, .ref x.ob), (2, .ref x.hM), (1, .ref x.h), (0, .ref b)] := hl
  refine lv_goto (tgt := 521) hx hb d_L_law_518 (by decide) ?_
  have hl := lv_sub hl [2, 3, 4, 5, 6] rfl
  exact kk kn _ _ _ ov1 _ _ _ _ _ hC1 w1 hM1 htt1 hP hD hS hl
