-- own rows: copying, and an edit between two places
theorem fits_ch {c : Nat} (hc : c < 128) : fits .char (.int (Int32.ofNat c)) = true := by
  have h : ∀ c : Fin 128, fits .char (.int (Int32.ofNat c.val)) = true := by decide +kernel
  exact h ⟨c, hc⟩
theorem vp_ext {c : ClassId} {n : Nat} {f g : Nat → Int32} (h : ∀ j, j < n → f j = g j) : vp_cell c (n, .inl f) = vp_cell c (n, .inl g) := by
  rw [vp_cell_i, vp_cell_i]
  unfold arrV
  congr 1
  congr 1
  funext j
  show Value.int (f j.val) = Value.int (g j.val)
  rw [h j.val j.isLt]
theorem va_P.ext {D : va_G} {cl : List vw_C} {ws : va_W} {q : Nat} {c : ClassId} {n : Nat} {f g : Nat → Int32} {H : Heap} (h : va_P D cl (ws ++ [(q, .inl (c, n, .inl f))]) H) (hfg : ∀ j, j < n → f j = g j) : va_P D cl (ws ++ [(q, .inl (c, n, .inl g))]) H := by
  refine h.lef.app (fun k y hy => ?_)
  have hz : k < 1 := (List.getElem?_eq_some_iff.mp hy).1
  rw [show k = 0 by omega] at hy
  cases hy
  have h1 : H[q]? = some (vp_cell c (n, .inl f)) := h.inn (q := (q, .inl (c, n, .inl f))) (List.mem_append_right _ (List.mem_singleton.mpr rfl))
  show H[q]? = some (vp_cell c (n, .inl g))
  rw [h1, vp_ext hfg]
section CopyL
variable {p : Program} {l : Launch} {e : Env} {R : Room} {s : State} {m : MethodId} {args : Array Value} {below : List Frame} {meth : Method} {c : Code} {H : Heap} {locs : List Loc} {cells slots : Nat} {Q : State → Prop}
theorem va_copyL {cc : ByteArray} {pc : Nat} {ls : Array Slot} {rest : List Value} (hexec : p.tables.exec = Jvm.exec) (hb : c.code = cc) (hml : c.maxLocals = ls.size) {own : String} {index : Nat} (hown : s.vm.findClass own = some m.cls) (hlink : (Cond.methodLink own index arraycopyName).before args s = true) (hnat : (Cond.native arraycopyName).before args s = true) (hstat : (Cond.static arraycopyName).before args s = true) (hini : (Cond.initialized "java/lang/System").before args s = true)
    {D : va_G} {cl : List vw_C} {tys : List (ClassId × FieldType)} {ws : va_W} {A : Nat → Prop} {H0 : Heap} {tq tl : Nat} {c1 : ClassId} {g : Nat → Int32} (hK : va_K D cl tys s) (hP : va_P D cl (ws ++ [(tq, .inl (c1, tl, .inl g))]) H) (hD : va_D A (ws ++ [(tq, .inl (c1, tl, .inl g))])) (hS : va_S A H0 H locs) (t1 : Nat) {a0 n0 : Nat} {f : Nat → Int32} (ha0 : (a0, .inl (c1, n0, .inl f)) ∈ ws) (ht1 : tys[t1]? = some (c1, .char))
    {sp dp n : Nat} (h4 : sp + n ≤ n0) (h5 : dp + n ≤ tl) (hn0 : n0 < 2147483648) (hn1 : tl < 2147483648) (hfit : ∀ i, i < n → ∃ z, z < 128 ∧ f (sp + i) = Int32.ofNat z)
    (hframes : 1 ≤ R.frames) (hlocals : (rest.map fun v => v.category).sum + (nativeFrameWords "java/lang/System" "arraycopy" 5 + 11) ≤ R.locals) (hdg : decode cc pc = .ok (.invokestatic index, 3))
    (kk : ∀ (H1 : Heap) (locs1 : List Loc), va_P D cl (ws ++ [(tq, .inl (c1, tl, .inl (va_cpy f g sp dp n)))]) H1 → va_D A (ws ++ [(tq, .inl (c1, tl, .inl (va_cpy f g sp dp n)))]) → va_S A H0 H1 locs1 → W p l e R s m args below meth c H1 locs1 cells slots Q (F0 m (pc + 3) ls rest)) : W p l e R s m args below meth c H locs cells slots Q (F0 m pc ls (.int (Int32.ofNat n) :: .int (Int32.ofNat dp) :: .ref tq :: .int (Int32.ofNat sp) :: .ref a0 :: rest)) := by
  obtain ⟨i, hi⟩ := List.getElem?_of_mem ha0
  have hil : i < ws.length := (List.getElem?_eq_some_iff.mp hi).1
  have es : (Int32.ofNat sp).toNatClampNeg = sp := pn_nat (by omega)
  have ed : (Int32.ofNat dp).toNatClampNeg = dp := pn_nat (by omega)
  have en : (Int32.ofNat n).toNatClampNeg = n := pn_nat (by omega)
  refine va_copyi hexec hb hml hown hlink hnat hstat hini hK hP hD hS i ws.length t1 t1 (by rw [List.getElem?_append_left hil]; exact hi) va_getLast ht1 ht1 rfl (pn_nneg (by omega)) (pn_nneg (by omega)) (pn_nneg (by omega)) (by rw [es, en]; exact h4) (by rw [ed, en]; exact h5) (fun j hj => ?_) hframes hlocals hdg (fun H1 locs1 hP hD hS => ?_)
  · rw [en] at hj
    rw [es]
    obtain ⟨z, hz, ez⟩ := hfit j hj
    rw [ez]
    exact fits_ch hz
  · rw [es, ed, en, va_setLast] at hP hD
    exact kk H1 locs1 hP hD hS
end CopyL
theorem kE_in (x : FX) (k : CK) {e : ES} (hp : e.p < e.n) : (k.ta e.p, .inl (x.gc, e.tn e.p, .inl (e.tx e.p))) ∈ KW x k e := by
  refine List.mem_cons_of_mem _ (List.mem_append_right _ (List.mem_append_right _ (List.mem_append_right _ (List.mem_cons_of_mem _ (List.mem_append_right _ ?_)))))
  exact List.mem_map.mpr ⟨e.p, List.mem_range.mpr hp, rfl⟩
theorem kA_in (x : FX) (k : CK) (e : ES) : (x.q 0, .inl (x.gc, 24, .inl (k.A 0))) ∈ KW x k e := List.mem_cons_of_mem _ (List.mem_append_left _ List.mem_cons_self)
theorem ext_cpy {e : ES} {sl : Nat → Int32} {a b u : Nat} (hab : a ≤ b) (hb : b ≤ e.tn e.p) (hsl : ∀ j, j < u → sl j = Int32.ofNat (e.sc j)) : ∀ j, j < e_exl e a b u → va_cpy (e.tx e.p) (va_cpy sl (va_cpy (e.tx e.p) (fun _ => 0) 0 0 a) 0 a u) b (a + u) (e.tn e.p - b) j = e_ext e a b u j := by
  intro j hj
  have hj' : j < e.tn e.p - (b - a) + u := hj
  unfold va_cpy e_ext
  by_cases q1 : j < a
  · rw [if_neg (by omega), if_neg (by omega), if_pos (by omega), if_pos q1]
    congr 1; omega
  · rw [if_neg q1]
    by_cases q2 : j < a + u
    · rw [if_neg (by omega), if_pos (by omega), if_pos q2, hsl _ (by omega)]
      congr 2; omega
    · rw [if_pos (by omega), if_neg q2]
      congr 1; omega
set_option maxHeartbeats 8000000 in
set_option maxRecDepth 100000 in
theorem K_exchange (l : Launch) (x : FX) {k : CK} {e : ES} (h : CRel e k) (w : EWf e) (hn : e.n < 40) {a b u : Nat} (hab : a ≤ b) (hbt : b ≤ e.tn e.p) (hu : u ≤ e.sn) (hx160 : e_exl e a b u ≤ 160) : KRetV l x y_D_exchange w_D_exchange ({ frames := 4, cells := 2, slots := 164, locals := 120 }) [.ref x.h, .int (Int32.ofNat a), .int (Int32.ofNat b), .int (Int32.ofNat u)] k e 2 164 (e_edit e (e_exl e a b u) (e_ext e a b u) (a + u)) := by
  intro sz
  have tt := w.tt _ w.pb
  have ht := tt.nb
  have hsb := w.sb
  have hpb := w.pb
  have hel : e_exl e a b u = e.tn e.p - (b - a) + u := rfl
  refine Met.ofW (cc := prog_1_method_25_code) (maxL := 5) (ret := none) (by decide) rfl ?_
  intro p en s m args below meth c s₁ B hml hv
  obtain ⟨rfl, hsz, hP, hK, hD0⟩ := hv
  have hx := B.exec
  have hb := B.bytes
  have hr := B.returns
  have hts := atoms_spec (ws := w_D_exchange) B.pre
  have hown : s.vm.findClass "DraftTree" = some m.cls := findClass_of_methodNamed B.named
  subst hsz
  have hD := hD0.self (sz := s.heap.size)
  generalize hAe : va_A (KW x k e) s.heap.size = B9 at hD ⊢
  have hA : ∀ q : Nat, s.heap.size ≤ q → B9 q := fun q h => by rw [← hAe]; exact Or.inr h
  clear hAe
  have hS : va_S B9 s.heap s.heap [] := va_S.rf
  have hl := lv_entry ([.ref x.h, .int (Int32.ofNat a), .int (Int32.ofNat b), .int (Int32.ofNat u)]) (n := 5) (Nat.le_of_ble_eq_true rfl)
  rw [lg_entry_eq]
  generalize (lg_sl ([.ref x.h, .int (Int32.ofNat a), .int (Int32.ofNat b), .int (Int32.ofNat u)]) ++ List.replicate (5 - (lg_sl ([.ref x.h, .int (Int32.ofNat a), .int (Int32.ofNat b), .int (Int32.ofNat u)])).length) Slot.unset).toArray = ls at hl ⊢
  have hl : lv_has ls 5 [(0, .ref x.h), (1, .int (Int32.ofNat a)), (2, .int (Int32.ofNat b)), (3, .int (Int32.ofNat u))] := hl
  obtain ⟨it, hit⟩ := List.getElem?_of_mem (kE_in x k w.pb)
  refine lv_aload_n hx hb d_D_exchange_0 rfl (lv_at hl 0 rfl) ?_
  refine va_get (D := x.D) (ci := 0) (v := .ref (k.ta e.p)) (C := R_D) (T := F_D) (N := 14) hx hb hts (fun w h => List.mem_cons_of_mem _ (in_D w h)) hown hK hP 0 rfl rfl 5 (by decide) (hts _ (List.mem_cons_of_mem _ lk_241)) (fun _ h9 => h9) rfl d_D_exchange_1 ?_
  refine va_alen (v := Int32.ofNat (e.tn e.p)) hx hb hK hP it 0 hit rfl rfl d_D_exchange_4 ?_
  refine lv_iload_n hx hb d_D_exchange_5 rfl (lv_at hl 2 rfl) ?_
  refine lv_iload_n hx hb d_D_exchange_6 rfl (lv_at hl 1 rfl) ?_
  refine lv_isub hx hb d_D_exchange_7 ?_
  refine lv_isub hx hb d_D_exchange_8 ?_
  refine lv_iload_n hx hb d_D_exchange_9 rfl (lv_at hl 3 rfl) ?_
  refine lv_iadd hx hb d_D_exchange_10 ?_
  refine wk_top (w := .int (Int32.ofNat (e_exl e a b u))) (congrArg _ (by rw [pn_sub hab, pn_sub (show b - a ≤ e.tn e.p by clear w tt h; omega), pn_add, hel])) ?_
  have hK0 := hK
  refine va_newa (atype := .char) (ty := .char) (a0 := (e_exl e a b u, .inl (fun _ => 0))) (N' := e_exl e a b u) hx hb (hts _ (List.mem_cons_of_mem _ lk_516)) rfl hK hP hD hS hA (fun _ => rfl) (pn_nneg (by clear w tt h; omega)) (pn_nat (by clear w tt h; omega)) (Nat.le_trans (Nat.mul_le_mul_right _ hx160) (by decide)) (Nat.le_of_ble_eq_true rfl) (show 0 + e_exl e a b u ≤ 164 by clear w tt h; omega) d_D_exchange_11 (fun tq g H hK hP hD hS => ?_)
  have hg : g = x.gc := hK.one (ty := .char) rfl (List.mem_append_right _ (List.mem_singleton.mpr rfl)) (List.mem_append_left _ List.mem_cons_self)
  subst hg
  have hK := hK0
  refine lv_astore (lv' := [(4, .ref tq), (0, .ref x.h), (1, .int (Int32.ofNat a)), (2, .int (Int32.ofNat b)), (3, .int (Int32.ofNat u))]) hx hb d_D_exchange_13 hl (by decide) rfl (fun ls hl => ?_)
  have hl : lv_has ls 5 [(4, .ref tq), (0, .ref x.h), (1, .int (Int32.ofNat a)), (2, .int (Int32.ofNat b)), (3, .int (Int32.ofNat u))] := hl
  -- the text before
  refine lv_aload_n hx hb d_D_exchange_15 rfl (lv_at hl 1 rfl) ?_
  refine va_get (D := x.D) (ci := 0) (v := .ref (k.ta e.p)) (C := R_D) (T := F_D) (N := 14) hx hb hts (fun w h => List.mem_cons_of_mem _ (in_D w h)) hown hK hP 0 rfl rfl 5 (by decide) (hts _ (List.mem_cons_of_mem _ lk_241)) (fun _ h9 => h9) rfl d_D_exchange_16 ?_
  refine lv_iconst (v := 0) hx hb d_D_exchange_19 (by decide) ?_
  refine lv_aload hx hb d_D_exchange_20 (lv_at hl 0 rfl) ?_
  refine lv_iconst (v := 0) hx hb d_D_exchange_22 (by decide) ?_
  refine lv_iload_n hx hb d_D_exchange_23 rfl (lv_at hl 2 rfl) ?_
  refine va_copyL (sp := 0) (dp := 0) (n := a) (rest := []) hx hb (hml.trans hl.1.symm) hown (hts _ (List.mem_cons_of_mem _ lk_517)) (hts _ (List.mem_cons_of_mem _ lk_520)) (hts _ (List.mem_cons_of_mem _ lk_518)) (hts _ (List.mem_cons_of_mem _ lk_519)) hK hP hD hS 0 (kE_in x k hpb) rfl (by clear w tt h; omega) (by clear w tt h; omega) (by clear w tt h; omega) (by clear w tt h; omega) (fun i hi => tt.ch _ (by clear w tt h; omega)) (Nat.le_of_ble_eq_true rfl) (Nat.le_of_ble_eq_true rfl) d_D_exchange_24 (fun H locs hP hD hS => ?_)
  -- the slip
  refine lv_aload_n hx hb d_D_exchange_27 rfl (lv_at hl 1 rfl) ?_
  refine va_get (D := x.D) (ci := 0) (v := .ref (x.q 0)) (C := R_D) (T := F_D) (N := 14) hx hb hts (fun w h => List.mem_cons_of_mem _ (in_D w h)) hown hK hP 0 rfl rfl 0 (by decide) (hts _ (List.mem_cons_of_mem _ lk_311)) (fun _ h9 => h9) rfl d_D_exchange_28 ?_
  refine lv_iconst (v := 0) hx hb d_D_exchange_31 (by decide) ?_
  refine lv_aload hx hb d_D_exchange_32 (lv_at hl 0 rfl) ?_
  refine lv_iload_n hx hb d_D_exchange_34 rfl (lv_at hl 2 rfl) ?_
  refine lv_iload_n hx hb d_D_exchange_35 rfl (lv_at hl 4 rfl) ?_
  refine va_copyL (sp := 0) (dp := a) (n := u) (rest := []) hx hb (hml.trans hl.1.symm) hown (hts _ (List.mem_cons_of_mem _ lk_517)) (hts _ (List.mem_cons_of_mem _ lk_520)) (hts _ (List.mem_cons_of_mem _ lk_518)) (hts _ (List.mem_cons_of_mem _ lk_519)) hK hP hD hS 0 (kA_in x k e) rfl (by clear w tt h; omega) (by clear w tt h; omega) (by clear w tt h; omega) (by clear w tt h; omega) (fun i hi => ⟨e.sc i, w.sv i (by clear w tt h; omega), by rw [Nat.zero_add]; exact h.s2 i (by clear w tt h; omega)⟩) (Nat.le_of_ble_eq_true rfl) (Nat.le_of_ble_eq_true rfl) d_D_exchange_36 (fun H locs hP hD hS => ?_)
  -- the text behind
  refine lv_aload_n hx hb d_D_exchange_39 rfl (lv_at hl 1 rfl) ?_
  refine va_get (D := x.D) (ci := 0) (v := .ref (k.ta e.p)) (C := R_D) (T := F_D) (N := 14) hx hb hts (fun w h => List.mem_cons_of_mem _ (in_D w h)) hown hK hP 0 rfl rfl 5 (by decide) (hts _ (List.mem_cons_of_mem _ lk_241)) (fun _ h9 => h9) rfl d_D_exchange_40 ?_
  refine lv_iload_n hx hb d_D_exchange_43 rfl (lv_at hl 3 rfl) ?_
  refine lv_aload hx hb d_D_exchange_44 (lv_at hl 0 rfl) ?_
  refine lv_iload_n hx hb d_D_exchange_46 rfl (lv_at hl 2 rfl) ?_
  refine lv_iload_n hx hb d_D_exchange_47 rfl (lv_at hl 4 rfl) ?_
  refine lv_iadd hx hb d_D_exchange_48 ?_
  refine wk_top (w := .int (Int32.ofNat (a + u))) (congrArg _ (pn_add a u)) ?_
  refine lv_aload_n hx hb d_D_exchange_49 rfl (lv_at hl 1 rfl) ?_
  refine va_get (D := x.D) (ci := 0) (v := .ref (k.ta e.p)) (C := R_D) (T := F_D) (N := 14) hx hb hts (fun w h => List.mem_cons_of_mem _ (in_D w h)) hown hK hP 0 rfl rfl 5 (by decide) (hts _ (List.mem_cons_of_mem _ lk_241)) (fun _ h9 => h9) rfl d_D_exchange_50 ?_
  refine va_alen (v := Int32.ofNat (e.tn e.p)) hx hb hK hP it 0 (by rw [List.getElem?_append_left (List.getElem?_eq_some_iff.mp hit).1]; exact hit) rfl rfl d_D_exchange_53 ?_
  refine lv_iload_n hx hb d_D_exchange_54 rfl (lv_at hl 3 rfl) ?_
  refine lv_isub hx hb d_D_exchange_55 ?_
  refine wk_top (w := .int (Int32.ofNat (e.tn e.p - b))) (congrArg _ (pn_sub hbt)) ?_
  refine va_copyL (sp := b) (dp := a + u) (n := e.tn e.p - b) (rest := []) hx hb (hml.trans hl.1.symm) hown (hts _ (List.mem_cons_of_mem _ lk_517)) (hts _ (List.mem_cons_of_mem _ lk_520)) (hts _ (List.mem_cons_of_mem _ lk_518)) (hts _ (List.mem_cons_of_mem _ lk_519)) hK hP hD hS 0 (kE_in x k hpb) rfl (by clear w tt h; omega) (by clear w tt h; omega) (by clear w tt h; omega) (by clear w tt h; omega) (fun i hi => tt.ch _ (by clear w tt h; omega)) (Nat.le_of_ble_eq_true rfl) (Nat.le_of_ble_eq_true rfl) d_D_exchange_56 (fun H locs hP hD hS => ?_)
  have hP := hP.ext (g := e_ext e a b u) (ext_cpy hab hbt (fun j hj => h.s2 j (by clear w tt h; omega)))
  have hD : va_D B9 (KW x k e ++ [kNT x tq (e_exl e a b u) (e_ext e a b u)]) := hD.adr (by rw [List.map_append, List.map_append]; rfl)
  refine lv_aload_n hx hb d_D_exchange_59 rfl (lv_at hl 1 rfl) ?_
  refine lv_aload hx hb d_D_exchange_60 (lv_at hl 0 rfl) ?_
  refine lv_iload_n hx hb d_D_exchange_62 rfl (lv_at hl 2 rfl) ?_
  refine lv_iload_n hx hb d_D_exchange_63 rfl (lv_at hl 4 rfl) ?_
  refine lv_iadd hx hb d_D_exchange_64 ?_
  refine wk_top (w := .int (Int32.ofNat (a + u))) (congrArg _ (pn_add a u)) ?_
  have hFc := va_freeM (wc := KW x k e ++ [kNT x tq (e_exl e a b u) (e_ext e a b u)]) hD hS hA (fun _ h9 => h9)
  refine W.widen (k := 1) (n := 160) (Nat.le_of_ble_eq_true rfl) (show 0 + e_exl e a b u ≤ 160 by clear w tt h; omega) ?_
  refine va_callv (va_runV (As := [.ref tq, .int (Int32.ofNat (a + u))]) (rest := []) ⟨hx, hb, hml, hown, hts⟩ (km_makeState l x h w hn tq (e_exl e a b u) (e_ext e a b u) (a + u) _) (cwV 2 hts (gd_v lk_522 lk_523 lk_524 lk_444 lk_521) rfl rfl rfl (by decide +kernel) ⟨Nat.le_of_ble_eq_true rfl, Nat.le_of_ble_eq_true rfl⟩) ⟨fun a U g mk q => by obtain ⟨q0, q1, qP, qK, qD⟩ := q; exact ⟨q0, q1, qP, va_K.moved (u := U) (U := U.calling g mk a) (Vm.Alike.refl U.vm) qK, qD⟩, va_recv (ci := 0) (q0 := 0) hK hP rfl rfl, fun U hU hW => ⟨rfl, by rw [hU], by rw [hU]; exact hP, va_K.moved hW.alike hK, hD.weaken (fun _ _ _ _ => trivial)⟩⟩ rfl rfl hl.1 rfl (lv_room (Nat.le_of_ble_eq_true rfl)) d_D_exchange_65 ⟨Nat.le_of_ble_eq_true rfl, Nat.le_of_ble_eq_true rfl⟩) hS (fun q _ h => hFc q h) hFc (fun k' t H1 locs ht hvm hw hB hz1 hk1 hS => ?_)
  obtain ⟨hP1, hD1⟩ := hB
  rw [ht] at hP1
  have hP := hP1
  have hD := hD1.weaken (fun _ q _ h => hFc q.1 h)
  exact W.vret hx hb hr (fun t ht hW => ⟨⟨k', rfl, hw, by rw [ht]; exact hP, hD⟩, hS.F ht⟩) hS.2.2 d_D_exchange_68
