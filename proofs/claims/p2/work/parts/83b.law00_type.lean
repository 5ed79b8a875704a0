set_option maxHeartbeats 8000000 in
set_option maxRecDepth 100000 in
theorem lq_type {p : Program} {en : Env} {s : State} {m : MethodId} {below : List Frame} {meth : Method} {c : Code} (l : Launch) (hfl : l.flags = flags0) (x : FX) {b L : Nat} {xs : Nat → Int32} (hx : p.tables.exec = Jvm.exec) (hb : c.code = code) (hml : c.maxLocals = 7) (hown : s.vm.findClass "DraftTreeLaw" = some m.cls) (hts : ∀ w ∈ (Cond.initialized "DraftTreeLaw" :: wk_tbl), w.before #[Value.ref b] s = true) (B9 : Nat → Prop) (hA : ∀ q : Nat, s.heap.size ≤ q → B9 q) (hZ : th_ZA B9 s) (hX : va_X b L xs s s.heap) (hbl : b < s.heap.size) (hbA : ¬ B9 b) (hL : L ≤ 1536) (hK : va_K x.D vwCl (kT x) s) (i : Nat) (hi : i + 3 ≤ L) {k : CK} {e : ES} {t : Nat} {cf : Nat → Nat} {I : MI} {A : MA} {ov : Nat → Int64} (hC : CRel e k) (w : EWf e) (hM : MRel e t cf I A) (ht : t < 100000) {cells slots : Nat} (hcl : cells + 3 ≤ 601024) (hsl : slots + 170 ≤ 7293034) {H : Heap} {locs : List Loc} {ls : Array Slot} (hP : va_P x.D vwCl (WL x k e ov I A) H) (hD : va_D B9 (WL x k e ov I A)) (hS : va_S B9 s.heap H locs) (hl : lv_has ls 7 [(4, .int (Int32.ofNat i)), (3, .ref x.ob), (2, .ref x.hM), (1, .ref x.h), (0, .ref b)]) (kk : LKont p l en s m below meth c x b B9 i t cells slots) : W p l en room_1 s m #[Value.ref b] below meth c H locs cells slots (lw_Z below #[Value.ref b] s) (F0 m 120 ls []) := by
  have zb0 : i < 2147483648 := by clear w hM hC; omega
  have yb0 : i < L := by clear w hM hC; omega
  have zb1 : i + 1 < 2147483648 := by clear w hM hC; omega
  have yb1 : i + 1 < L := by clear w hM hC; omega
  have zb2 : i + 2 < 2147483648 := by clear w hM hC; omega
  have yb2 : i + 2 < L := by clear w hM hC; omega
  refine lv_aload_n hx hb d_L_law_120 rfl (lv_at hl 3 rfl) ?_
  refine lv_aload_n hx hb d_L_law_121 rfl (lv_at hl 4 rfl) ?_
  refine lv_iload hx hb d_L_law_122 (lv_at hl 0 rfl) ?_
  refine lv_iconst (v := 1) hx hb d_L_law_124 (by decide) ?_
  refine lv_iadd hx hb d_L_law_125 ?_
  refine wk_top (w := .int (Int32.ofNat (i + 1))) (congrArg _ (pn_succ i)) ?_
  refine va_sld hx hb hX hbl hbA hS (wk_inb_ok ((pn_inb zb1).mpr yb1)) d_L_law_126 ?_
  refine wk_top (w := .int (xs (i + 1))) (congrArg _ (congrArg xs (pn_nat zb1))) ?_
  obtain ⟨cv, hcv⟩ : ∃ cv, ((xs (i + 1)).toUInt32 % 65536).toInt32 = cv := ⟨_, rfl⟩
  refine lv_i2c hx hb d_L_law_127 hcv ?_
  have hFc := va_freeM (wc := WL x k e ov I A) hD hS hA (fun _ h9 => h9)
  obtain ⟨e1, r1, I1, A1, hH, hf1, w1, hM1⟩ := S_type l x hC w hM (cv)
  refine va_calli (va_runV (As := [.int cv]) (rest := []) ⟨hx, hb, hml, hown, hts⟩ (hH.up2 ov I A _) (cwV 1 hts (gd_v lk_609 lk_610 lk_611 lk_444 lk_494) rfl rfl rfl (by decide +kernel) ⟨Nat.le_of_ble_eq_true rfl, Nat.le_of_ble_eq_true rfl⟩) ⟨fun a U g mk q => by obtain ⟨q0, q1, qP, qK, qD⟩ := q; exact ⟨q0, q1, qP, va_K.moved (u := U) (U := U.calling g mk a) (Vm.Alike.refl U.vm) qK, qD⟩, va_recv (ci := 0) (q0 := 22) hK hP rfl rfl, fun U hU hW => ⟨rfl, by rw [hU], by rw [hU]; exact hP, va_K.moved hW.alike hK, hD.weaken (fun _ _ _ _ => trivial)⟩⟩ rfl rfl hl.1 rfl (lv_room (Nat.le_of_ble_eq_true rfl)) d_L_law_128 ⟨Nat.le_trans (Nat.le_add_right _ 3) hcl, Nat.le_trans (Nat.le_add_right _ 170) hsl⟩) hS (fun q _ h => hFc q h) hFc (fun r9 kn t9 H1 locs ht9 hvm hw hB hz1 hk1 hS => ?_)
  obtain ⟨hw0, hC1⟩ := hw
  subst hw0
  obtain ⟨hP1, hD1⟩ := hB
  rw [ht9] at hP1
  have hP := hP1
  have hD := hD1.weaken (fun _ q _ h => hFc q.1 h)
  clear hP1 hD1 hFc hk1 hz1
  refine W.cs (cells' := cells) (slots' := slots) rfl rfl ?_
  generalize H1 = H at hP hS ⊢
  refine lv_aload_n hx hb d_L_law_131 rfl (lv_at hl 2 rfl) ?_
  refine lv_aload_n hx hb d_L_law_132 rfl (lv_at hl 4 rfl) ?_
  refine lv_iload hx hb d_L_law_133 (lv_at hl 0 rfl) ?_
  refine lv_iconst (v := 1) hx hb d_L_law_135 (by decide) ?_
  refine lv_iadd hx hb d_L_law_136 ?_
  refine wk_top (w := .int (Int32.ofNat (i + 1))) (congrArg _ (pn_succ i)) ?_
  refine va_sld hx hb hX hbl hbA hS (wk_inb_ok ((pn_inb zb1).mpr yb1)) d_L_law_137 ?_
  refine wk_top (w := .int (xs (i + 1))) (congrArg _ (congrArg xs (pn_nat zb1))) ?_
  refine lv_i2c hx hb d_L_law_138 hcv ?_
  have hFc := va_freeM (wc := WL x kn e1 ov I A) hD hS hA (fun _ h9 => h9)
  refine va_calli (va_runV (As := [.int cv]) (rest := [.int r9]) ⟨hx, hb, hml, hown, hts⟩ (mUpI kn e1 ov (cm_M_type l x.dC x.dI x.hM x.qM x.gM _ I A (cv) r9 I1 A1 hf1) (fun _ _ z => ⟨z.1, z.2.2⟩)) (cwV 1 hts (gd_v lk_612 lk_613 lk_614 lk_46 lk_224) rfl rfl rfl (by decide +kernel) ⟨Nat.le_of_ble_eq_true rfl, Nat.le_of_ble_eq_true rfl⟩) ⟨fun a U g mk q => by obtain ⟨q0, q1, qP, qK, qD⟩ := q; exact ⟨q0, q1, qP, va_K.moved (u := U) (U := U.calling g mk a) (Vm.Alike.refl U.vm) qK, qD⟩, va_recv (ci := 4) (q0 := 0) hK hP rfl rfl, fun U hU hW => ⟨rfl, by rw [hU], by rw [hU]; exact hP, va_K.moved hW.alike hK, hD.weaken (fun _ _ _ _ => trivial)⟩⟩ rfl rfl hl.1 rfl (lv_room (Nat.le_of_ble_eq_true rfl)) d_L_law_139 ⟨Nat.le_trans (Nat.le_add_right _ 3) hcl, Nat.le_trans (Nat.le_add_right _ 170) hsl⟩) hS (fun q _ h => hFc q h) hFc (fun r8 u t9 H1 locs ht9 hvm hw hB hz1 hk1 hS => ?_)
  have hw2 := hw.symm
  subst hw2
  obtain ⟨hP1, hD1⟩ := hB
  rw [ht9] at hP1
  have hP := hP1
  have hD := hD1.weaken (fun _ q _ h => hFc q.1 h)
  clear hP1 hD1 hFc hk1 hz1
  refine W.cs (cells' := cells) (slots' := slots) rfl rfl ?_
  generalize H1 = H at hP hS ⊢
  refine lv_icmp_eq (tgt := 521) hx hb d_L_law_142 (by decide) (fun _ => ?_) (fun hc => absurd rfl hc)
  refine W.widen (k := cells + 3) (n := slots + 170) (Nat.le_add_right _ _) (Nat.le_add_right _ _) ?_
  exact kk kn _ _ _ ov _ _ _ _ _ hC1 w1 hM1 (Nat.le_succ _) hP hD hS hl
