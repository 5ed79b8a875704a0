-- 75.mks
-- own rows: a new state
def e_mk (e : ES) (tl : Nat) (tf : Nat → Int32) (pl : Nat) : ES := (ES.mk e.sn e.sc (e.n + 1) e.p e.c e.mr (sU e.tn e.n tl) (sU e.tx e.n tf) (sU e.pl e.n pl) (sU e.pa e.n (some e.p)) (sU e.lc e.n none) e.has e.pat e.fl)
theorem e_edit_mk (e : ES) (tl : Nat) (tf : Nat → Int32) (pl : Nat) : e_come (e_mk e tl tf pl) e.n = e_edit e tl tf pl := by
  unfold e_edit
  have h1 : (e_mk e tl tf pl).pa e.n = some e.p := sU_self _ _ _
  have h2 : (e_new e tl tf pl).pa e.n = some e.p := sU_self _ _ _
  have hl : (e_come (e_mk e tl tf pl) e.n).lc = (e_come (e_new e tl tf pl) e.n).lc := by
    rw [e_come_lc1 h1, e_come_lc1 h2]
    funext i
    by_cases q : i = e.p
    · rw [q, sU_self, sU_self]
    · rw [sU_ne _ _ q, sU_ne _ _ q]
      show sU e.lc e.n none i = sU (sU e.lc e.n none) e.p (some e.n) i
      rw [sU_ne _ _ q]
  have a : e_come (e_mk e tl tf pl) e.n = ES.mk e.sn e.sc (e.n + 1) e.n (sU (sU e.pl e.n pl) e.p e.c e.n) none (sU e.tn e.n tl) (sU e.tx e.n tf) (sU (sU e.pl e.n pl) e.p e.c) (sU e.pa e.n (some e.p)) (e_come (e_mk e tl tf pl) e.n).lc e.has e.pat e.fl := rfl
  have b : e_come (e_new e tl tf pl) e.n = ES.mk e.sn e.sc (e.n + 1) e.n (sU (sU e.pl e.n pl) e.p e.c e.n) none (sU e.tn e.n tl) (sU e.tx e.n tf) (sU (sU e.pl e.n pl) e.p e.c) (sU e.pa e.n (some e.p)) (e_come (e_new e tl tf pl) e.n).lc e.has e.pat e.fl := rfl
  rw [a, b, hl]
theorem tw_f_succ (n : Nat) (sa : Nat → Nat) (qs : Nat) : tw_f (n + 1) (sU sa n qs) = va_up (tw_f n sa) n (some qs) := by
  funext i
  by_cases q : i = n
  · rw [q, va_up_self]
    unfold tw_f
    rw [if_pos (Nat.lt_succ_self n), sU_self]
  · rw [va_up_ne _ _ q]
    unfold tw_f
    rw [sU_ne _ _ q]
    by_cases z : i < n
    · rw [if_pos z, if_pos (by omega)]
    · rw [if_neg z, if_neg (by omega)]
abbrev kNS (tq : Nat) (e : ES) (pl : Nat) (qs : Nat) : Nat × va_E := (qs, .inr (1, [.ref tq, .int (Int32.ofNat e.p), .int (Int32.ofNat pl), .int (-1)]))
abbrev kNT (x : FX) (tq tl : Nat) (tf : Nat → Int32) : Nat × va_E := (tq, .inl (x.gc, tl, .inl tf))
theorem kS_new (k : CK) (e : ES) (tl : Nat) (tf : Nat → Int32) (pl qs tq : Nat) (I' : MI) : kS (k.nw (sU k.sa e.n qs) (sU k.ta e.n tq) I') (e_mk e tl tf pl) = kS k e ++ [kNS tq e pl qs] := by
  show (List.range (e.n + 1)).map (tw_S (sU k.sa e.n qs) (sU k.ta e.n tq) (kO (e_mk e tl tf pl)) (kL (e_mk e tl tf pl)) (kC (e_mk e tl tf pl))) = _
  rw [List.range_succ, List.map_append]
  congr 1
  · refine List.map_congr_left (fun i hi => ?_)
    have hlt := List.mem_range.mp hi
    have q : i ≠ e.n := by omega
    show (sU k.sa e.n qs i, Sum.inr (1, [Value.ref (sU k.ta e.n tq i), Value.int (mkI (sU e.pa e.n (some e.p) i)), Value.int (Int32.ofNat (sU e.pl e.n pl i)), Value.int (mkI (sU e.lc e.n none i))])) = _
    rw [sU_ne _ _ q, sU_ne _ _ q, sU_ne _ _ q, sU_ne _ _ q, sU_ne _ _ q]
    rfl
  · show [(sU k.sa e.n qs e.n, Sum.inr (1, [Value.ref (sU k.ta e.n tq e.n), Value.int (mkI (sU e.pa e.n (some e.p) e.n)), Value.int (Int32.ofNat (sU e.pl e.n pl e.n)), Value.int (mkI (sU e.lc e.n none e.n))]))] = _
    rw [sU_self, sU_self, sU_self, sU_self, sU_self]
    rfl
theorem kE_new (x : FX) (k : CK) (e : ES) (tl : Nat) (tf : Nat → Int32) (pl qs tq : Nat) (I' : MI) : kE x (k.nw (sU k.sa e.n qs) (sU k.ta e.n tq) I') (e_mk e tl tf pl) = kE x k e ++ [kNT x tq tl tf] := by
  show (List.range (e.n + 1)).map (tw_E (sU k.ta e.n tq) x.gc (sU e.tn e.n tl) (sU e.tx e.n tf)) = _
  rw [List.range_succ, List.map_append]
  congr 1
  · refine List.map_congr_left (fun i hi => ?_)
    have hlt := List.mem_range.mp hi
    have q : i ≠ e.n := by omega
    show (sU k.ta e.n tq i, Sum.inl (x.gc, sU e.tn e.n tl i, Sum.inl (sU e.tx e.n tf i))) = _
    rw [sU_ne _ _ q, sU_ne _ _ q, sU_ne _ _ q]
  · show [(sU k.ta e.n tq e.n, Sum.inl (x.gc, sU e.tn e.n tl e.n, Sum.inl (sU e.tx e.n tf e.n)))] = _
    rw [sU_self, sU_self, sU_self]
theorem perm_new {α : Type} (Y S E : List α) (a b : α) : (Y ++ ((S ++ [a]) ++ (E ++ [b]))).Perm ((Y ++ (S ++ E)) ++ [b] ++ [a]) := by
  simp only [List.append_assoc]
  refine List.Perm.append_left Y (List.Perm.append_left S ?_)
  have h := List.perm_append_comm (l₁ := [a]) (l₂ := E ++ [b])
  rw [List.append_assoc] at h
  exact h
/-- the world before its last move, cell by cell -/
abbrev kWn (x : FX) (k : CK) (e : ES) (tl : Nat) (tf : Nat → Int32) (pl qs tq : Nat) (I' : MI) : va_W := ((kD0 x (k.tw I') e :: (kY9 x k ++ (kYr x k ++ (kYm x k ++ ((x.q 2, .inl (x.gD 2, 40, .inr (.inr (.inr (.inr (va_up (tw_f e.n k.sa) e.n (some qs))))))) :: (kS k e ++ kE x k e)))))) ++ [kNT x tq tl tf]) ++ [kNS tq e pl qs]
theorem KW_new (x : FX) (k : CK) {e : ES} (hp : e.p < e.n) (tl : Nat) (tf : Nat → Int32) (pl qs tq : Nat) (I' : MI) : (KW x (k.nw (sU k.sa e.n qs) (sU k.ta e.n tq) I') (e_mk e tl tf pl)).Perm (kWn x k e tl tf pl qs tq I') := by
  have hta : sU k.ta e.n tq e.p = k.ta e.p := sU_ne _ _ (by omega)
  have e1 : KW x (k.nw (sU k.sa e.n qs) (sU k.ta e.n tq) I') (e_mk e tl tf pl) = kD0 x (k.tw I') e :: (kY9 x k ++ (kYr x k ++ (kYm x k ++ ((x.q 2, .inl (x.gD 2, 40, .inr (.inr (.inr (.inr (va_up (tw_f e.n k.sa) e.n (some qs))))))) :: ((kS k e ++ [kNS tq e pl qs]) ++ (kE x k e ++ [kNT x tq tl tf])))))) := by
    rw [← kS_new k e tl tf pl qs tq I', ← kE_new x k e tl tf pl qs tq I', ← tw_f_succ]
    show kD0 x (k.nw (sU k.sa e.n qs) (sU k.ta e.n tq) I') (e_mk e tl tf pl) :: _ = _
    have e0 : kD0 x (k.nw (sU k.sa e.n qs) (sU k.ta e.n tq) I') (e_mk e tl tf pl) = kD0 x (k.tw I') e := by
      show (x.h, Sum.inr (0, [Value.ref (x.q 0), Value.int (I' 1), Value.ref (x.q 2), Value.int (I' 3), Value.int (I' 4), Value.ref (sU k.ta e.n tq e.p), Value.int (I' 6), Value.int (I' 7), Value.ref (x.q 8), Value.ref k.hp, Value.int (I' 10), Value.int (I' 11), Value.ref (x.q 12), Value.ref (x.q 13)])) = _
      rw [hta]
      rfl
    rw [e0]
    rfl
  rw [e1]
  exact perm_new (kD0 x (k.tw I') e :: (kY9 x k ++ (kYr x k ++ (kYm x k ++ [(x.q 2, .inl (x.gD 2, 40, .inr (.inr (.inr (.inr (va_up (tw_f e.n k.sa) e.n (some qs)))))))])))) (kS k e) (kE x k e) (kNS tq e pl qs) (kNT x tq tl tf)
theorem CRel.mk' {e : ES} {k : CK} (h : CRel e k) (tl : Nat) (tf : Nat → Int32) (pl : Nat) (sa' ta' : Nat → Nat) : CRel (e_mk e tl tf pl) (k.nw sa' ta' (upd k.I 3 (Int32.ofNat (e.n + 1)))) := by
  refine ⟨?_, h.s2, ?_, ?_, ?_, ?_, ?_, ?_, h.pm⟩
  · show upd k.I 3 (Int32.ofNat (e.n + 1)) 1 = _; rw [upd_ne _ _ (by decide)]; exact h.s1
  · show upd k.I 3 (Int32.ofNat (e.n + 1)) 3 = _; rw [upd_self]; rfl
  · show upd k.I 3 (Int32.ofNat (e.n + 1)) 4 = _; rw [upd_ne _ _ (by decide)]; exact h.hp
  · show upd k.I 3 (Int32.ofNat (e.n + 1)) 6 = _; rw [upd_ne _ _ (by decide)]; exact h.hc
  · show upd k.I 3 (Int32.ofNat (e.n + 1)) 7 = _; rw [upd_ne _ _ (by decide)]; exact h.hm
  · show upd k.I 3 (Int32.ofNat (e.n + 1)) 10 = _; rw [upd_ne _ _ (by decide)]; exact h.hh
  · show upd k.I 3 (Int32.ofNat (e.n + 1)) 11 = _; rw [upd_ne _ _ (by decide)]; exact h.hf
set_option maxHeartbeats 8000000 in
set_option maxRecDepth 100000 in
theorem km_makeState (l : Launch) (x : FX) {k : CK} {e : ES} (h : CRel e k) (w : EWf e) (hn : e.n < 40) (tq tl : Nat) (tf : Nat → Int32) (pl : Nat) (sz : Nat) :
    Met l y_D_makeState w_D_makeState ({ frames := 3, cells := 1, slots := 4, locals := 60 }) (va_Pc [.ref x.h, .ref tq, .int (Int32.ofNat pl)] (kPre x.D sz (KW x k e ++ [kNT x tq tl tf]) (kT x))) (va_Qv (fun (k' : CK) => CRel (e_edit e tl tf pl) k') (fun k' t => va_P x.D vwCl (KW x k' (e_edit e tl tf pl)) t.heap ∧ va_D (va_A (KW x k e ++ [kNT x tq tl tf]) sz) (KW x k' (e_edit e tl tf pl))) (va_A (KW x k e ++ [kNT x tq tl tf]) sz)) 1 4 (va_A (KW x k e ++ [kNT x tq tl tf]) sz) := by
  refine Met.ofW (cc := prog_1_method_24_code) (maxL := 4) (ret := none) (by decide) rfl ?_
  intro p en s m args below meth c s₁ B hml hv
  obtain ⟨rfl, hsz, hP, hK, hD0⟩ := hv
  have hx := B.exec
  have hb := B.bytes
  have hr := B.returns
  have hts := atoms_spec (ws := w_D_makeState) B.pre
  have hown : s.vm.findClass "DraftTree" = some m.cls := findClass_of_methodNamed B.named
  subst hsz
  have hD := hD0.self (sz := s.heap.size)
  generalize hAe : va_A (KW x k e ++ [kNT x tq tl tf]) s.heap.size = B9 at hD ⊢
  have hA : ∀ q : Nat, s.heap.size ≤ q → B9 q := fun q h => by rw [← hAe]; exact Or.inr h
  clear hAe
  have hS : va_S B9 s.heap s.heap [] := va_S.rf
  have hl := lv_entry ([.ref x.h, .ref tq, .int (Int32.ofNat pl)]) (n := 4) (Nat.le_of_ble_eq_true rfl)
  rw [lg_entry_eq]
  generalize (lg_sl ([.ref x.h, .ref tq, .int (Int32.ofNat pl)]) ++ List.replicate (4 - (lg_sl ([.ref x.h, .ref tq, .int (Int32.ofNat pl)])).length) Slot.unset).toArray = ls at hl ⊢
  have hl : lv_has ls 4 [(0, .ref x.h), (1, .ref tq), (2, .int (Int32.ofNat pl))] := hl
  refine lv_aload_n hx hb d_D_makeState_0 rfl (lv_at hl 0 rfl) ?_
  refine va_get (D := x.D) (ci := 0) (v := .int (k.I 3)) (C := R_D) (T := F_D) (N := 14) hx hb hts (fun w h => List.mem_cons_of_mem _ (in_D w h)) hown hK hP 0 rfl rfl 3 (by decide) (hts _ (List.mem_cons_of_mem _ lk_437)) (fun _ h9 => h9) rfl d_D_makeState_1 ?_
  refine wk_top (w := .int (Int32.ofNat e.n)) (congrArg _ h.hn) ?_
  refine lv_istore_n (lv' := [(3, .int (Int32.ofNat e.n)), (0, .ref x.h), (1, .ref tq), (2, .int (Int32.ofNat pl))]) hx hb d_D_makeState_4 rfl hl (by decide) rfl (fun ls hl => ?_)
  have hl : lv_has ls 4 [(3, .int (Int32.ofNat e.n)), (0, .ref x.h), (1, .ref tq), (2, .int (Int32.ofNat pl))] := hl
  refine lv_aload_n hx hb d_D_makeState_5 rfl (lv_at hl 1 rfl) ?_
  refine va_get (D := x.D) (ci := 0) (v := .ref (x.q 2)) (C := R_D) (T := F_D) (N := 14) hx hb hts (fun w h => List.mem_cons_of_mem _ (in_D w h)) hown hK hP 0 rfl rfl 2 (by decide) (hts _ (List.mem_cons_of_mem _ lk_456)) (fun _ h9 => h9) rfl d_D_makeState_6 ?_
  refine lv_iload_n hx hb d_D_makeState_9 rfl (lv_at hl 0 rfl) ?_
  refine va_new (ci := 1) (fs := [.null, .int 0, .int 0, .int 0]) (C := R_S) (T := F_S) (N := 4) hx hb hts (fun w h => List.mem_cons_of_mem _ (in_S w h)) t_S tk_S hown (hts _ (List.mem_cons_of_mem _ lk_527)) (hts _ (List.mem_cons_of_mem _ lk_529)) (hts _ (List.mem_cons_of_mem _ lk_528)) hK hP hD hS hA rfl (by decide) (Nat.le_of_ble_eq_true rfl) (Nat.le_of_ble_eq_true rfl) d_D_makeState_10 (fun qs H hP hD hS => ?_)
  refine W.cs (cells' := 1) (slots' := 4) rfl rfl ?_
  refine lv_dup hx hb d_D_makeState_13 rfl ?_
  refine lv_aload_n hx hb d_D_makeState_14 rfl (lv_at hl 2 rfl) ?_
  refine lv_iload_n hx hb d_D_makeState_15 rfl (lv_at hl 3 rfl) ?_
  refine lv_aload_n hx hb d_D_makeState_16 rfl (lv_at hl 1 rfl) ?_
  refine va_get (D := x.D) (ci := 0) (v := .int (k.I 4)) (C := R_D) (T := F_D) (N := 14) hx hb hts (fun w h => List.mem_cons_of_mem _ (in_D w h)) hown hK hP 0 rfl rfl 4 (by decide) (hts _ (List.mem_cons_of_mem _ lk_436)) (fun _ h9 => h9) rfl d_D_makeState_17 ?_
  refine wk_top (w := .int (Int32.ofNat e.p)) (congrArg _ h.hp) ?_
  have hPc : va_P x.D vwCl (sw_W qs .null (fun _ => 0)) H := hP.rig
  have hDc : va_D B9 (sw_W qs .null (fun _ => 0)) := hD.rig
  have hFc := va_freeM (wc := sw_W qs .null (fun _ => 0)) hD hS hA (fun q hq => List.mem_append_right _ hq)
  have hFa := va_freeM hD hS hA (fun _ h9 => h9)
  refine va_callv (va_runI (As := [.ref tq, .int (Int32.ofNat pl), .int (Int32.ofNat e.p)]) (rest := [.ref qs, .int (Int32.ofNat e.n), .ref (x.q 2)]) ⟨hx, hb, hml, hown, hts⟩ (cm_S_init l x.dC x.dI qs .null tq _ (fun _ => 0) (Int32.ofNat pl) (Int32.ofNat e.p) _ _ rfl) (cwI 3 hts (gd_c lk_505) rfl rfl rfl (hts _ (List.mem_cons_of_mem _ lk_528)) (hts _ (List.mem_cons_of_mem _ lk_530)) (hts _ (List.mem_cons_of_mem _ lk_531)) rfl (by decide +kernel) ⟨Nat.le_of_ble_eq_true rfl, Nat.le_of_ble_eq_true rfl⟩) ⟨fun a U g mk q => by obtain ⟨q0, q1, qP, qK, qD⟩ := q; exact ⟨q0, q1, qP, va_K.moved (u := U) (U := U.calling g mk a) (Vm.Alike.refl U.vm) qK, qD⟩, fun U hU hW => ⟨rfl, by rw [hU], by rw [hU]; exact hPc, va_K.moved hW.alike (hK.memb (fun _ h9 => absurd h9 List.not_mem_nil)), hDc.weaken (fun _ _ _ _ => trivial)⟩⟩ rfl rfl hl.1 rfl (lv_room (Nat.le_of_ble_eq_true rfl)) d_D_makeState_20 ⟨Nat.le_of_ble_eq_true rfl, Nat.le_of_ble_eq_true rfl⟩) hS (fun q _ h => hFc q h) hFc (fun u t H1 locs ht hvm hw hB hz1 hk1 hS => ?_)
  obtain ⟨hP1, -, hD1⟩ := hB
  rw [ht] at hP1
  have hj := va_lift (ws' := (KW x k e ++ [kNT x tq tl tf]) ++ [kNS tq e pl qs]) hP rfl hD List.perm_append_comm List.perm_append_comm hk1 hP1 hD1
  have hP := hj.1
  have hD := hj.2.weaken (fun _ q _ h9 => hFa q.1 h9)
  clear hj hFc hFa hPc hDc hP1 hD1
  generalize H1 = H at hP hS ⊢
  obtain ⟨iq, hiq⟩ := List.getElem?_of_mem (show kNS tq e pl qs ∈ (KW x k e ++ [kNT x tq tl tf]) ++ [kNS tq e pl qs] from List.mem_append_right _ (List.mem_singleton.mpr rfl))
  refine va_astq hx hb hK hP hD hS 21 3 iq 1 rfl rfl hiq rfl (wk_inb_ok ((pn_inb (by omega)).mpr hn)) d_D_makeState_23 (fun H locs hP hD hS => ?_)
  refine lv_aload_n hx hb d_D_makeState_24 rfl (lv_at hl 1 rfl) ?_
  refine lv_dup hx hb d_D_makeState_25 rfl ?_
  refine va_get (D := x.D) (ci := 0) (v := .int (k.I 3)) (C := R_D) (T := F_D) (N := 14) hx hb hts (fun w h => List.mem_cons_of_mem _ (in_D w h)) hown hK hP 0 rfl rfl 3 (by decide) (hts _ (List.mem_cons_of_mem _ lk_437)) (fun _ h9 => h9) rfl d_D_makeState_26 ?_
  refine wk_top (w := .int (Int32.ofNat e.n)) (congrArg _ h.hn) ?_
  refine lv_iconst (v := 1) hx hb d_D_makeState_29 (by decide) ?_
  refine lv_iadd hx hb d_D_makeState_30 ?_
  refine wk_top (w := .int (Int32.ofNat (e.n + 1))) (congrArg _ (pn_succ e.n)) ?_
  refine va_put (D := x.D) (ci := 0) (v := .int (Int32.ofNat (e.n + 1))) (ty := .int) (C := R_D) (T := F_D) (N := 14) hx hb hts (fun w h => List.mem_cons_of_mem _ (in_D w h)) t_D tk_D n_D hown hK hP hD hS 0 rfl rfl 3 (by decide) (hts _ (List.mem_cons_of_mem _ lk_437)) (fun _ h9 => h9) rfl (by decide +kernel) rfl rfl (Nat.le_of_ble_eq_true rfl) d_D_makeState_31 (fun H locs hP hD hS => ?_)
  rw [pn_nat (show e.n < 2147483648 by omega)] at hP hD
  have hP : va_P x.D vwCl (kWn x k e tl tf pl qs tq (upd k.I 3 (Int32.ofNat (e.n + 1)))) H := hP
  have hD : va_D B9 (kWn x k e tl tf pl qs tq (upd k.I 3 (Int32.ofNat (e.n + 1)))) := hD
  have hP := hP.perm (KW_new x k w.pb tl tf pl qs tq (upd k.I 3 (Int32.ofNat (e.n + 1))))
  have hD := hD.perm (KW_new x k w.pb tl tf pl qs tq (upd k.I 3 (Int32.ofNat (e.n + 1))))
  have hC1 := h.mk' tl tf pl (sU k.sa e.n qs) (sU k.ta e.n tq)
  generalize k.nw (sU k.sa e.n qs) (sU k.ta e.n tq) (upd k.I 3 (Int32.ofNat (e.n + 1))) = k1 at hP hD hC1
  refine lv_aload_n hx hb d_D_makeState_34 rfl (lv_at hl 1 rfl) ?_
  refine lv_iload_n hx hb d_D_makeState_35 rfl (lv_at hl 0 rfl) ?_
  have hFc := va_freeM (wc := KW x k1 (e_mk e tl tf pl)) hD hS hA (fun _ h9 => h9)
  have hpb := w.pb
  refine va_callv (va_runV (As := [.int (Int32.ofNat e.n)]) (rest := []) ⟨hx, hb, hml, hown, hts⟩ (K_moveTo l x hC1 (show e.p < e.n + 1 by clear w; omega) (show e.n + 1 ≤ 40 by clear w; omega) (s := e.n) (Nat.lt_succ_self e.n) (fun q hq => by
      have : sU e.pa e.n (some e.p) e.n = some q := hq
      rw [sU_self] at this
      cases this
      show e.p < e.n + 1
      clear w; omega) _) (cwV 1 hts (gd_v lk_466 lk_467 lk_468 lk_445 lk_465) rfl rfl rfl (by decide +kernel) ⟨Nat.le_of_ble_eq_true rfl, Nat.le_of_ble_eq_true rfl⟩) ⟨fun a U g mk q => by obtain ⟨q0, q1, qP, qK, qD⟩ := q; exact ⟨q0, q1, qP, va_K.moved (u := U) (U := U.calling g mk a) (Vm.Alike.refl U.vm) qK, qD⟩, va_recv (ci := 0) (q0 := 0) hK hP rfl rfl, fun U hU hW => ⟨rfl, by rw [hU], by rw [hU]; exact hP, va_K.moved hW.alike hK, hD.weaken (fun _ _ _ _ => trivial)⟩⟩ rfl rfl hl.1 rfl (lv_room (Nat.le_of_ble_eq_true rfl)) d_D_makeState_36 ⟨Nat.le_of_ble_eq_true rfl, Nat.le_of_ble_eq_true rfl⟩) hS (fun q _ h => hFc q h) hFc (fun k' t H1 locs ht hvm hw hB hz1 hk1 hS => ?_)
  obtain ⟨hP1, hD1⟩ := hB
  rw [ht] at hP1
  have hP := hP1
  have hD := hD1.weaken (fun _ q _ h => hFc q.1 h)
  rw [e_edit_mk e tl tf pl] at hP hD hw
  exact W.vret hx hb hr (fun t ht hW => ⟨⟨k', rfl, hw, by rw [ht]; exact hP, hD⟩, hS.F ht⟩) hS.2.2 d_D_makeState_39
-- 76.exc
-- own rows: copying, and an edit between two places
theorem fits_ch {c : Nat} (hc : c < 128) : fits .char (.int (Int32.ofNat c)) = true := by
  have h : ∀ c : Fin 128, fits .char (.int (Int32.ofNat c.val)) = true := by decide +kernel
  exact h ⟨c, hc⟩
theorem vp_ext {c : ClassId} {n : Nat} {f g : Nat → Int32} (h : ∀ j, j < n → f j = g j) : vp_cell c (n, .inl f) = vp_cell c (n, .inl g) := by
  rw [vp_cell_i, vp_cell_i]
  unfold arrV
  congr 1
  congr 1
  funext j
  show Value.int (f j.val) = Value.int (g j.val)
  rw [h j.val j.isLt]
theorem va_P.ext {D : va_G} {cl : List vw_C} {ws : va_W} {q : Nat} {c : ClassId} {n : Nat} {f g : Nat → Int32} {H : Heap} (h : va_P D cl (ws ++ [(q, .inl (c, n, .inl f))]) H) (hfg : ∀ j, j < n → f j = g j) : va_P D cl (ws ++ [(q, .inl (c, n, .inl g))]) H := by
  refine h.lef.app (fun k y hy => ?_)
  have hz : k < 1 := (List.getElem?_eq_some_iff.mp hy).1
  rw [show k = 0 by omega] at hy
  cases hy
  have h1 : H[q]? = some (vp_cell c (n, .inl f)) := h.inn (q := (q, .inl (c, n, .inl f))) (List.mem_append_right _ (List.mem_singleton.mpr rfl))
  show H[q]? = some (vp_cell c (n, .inl g))
  rw [h1, vp_ext hfg]
section CopyL
variable {p : Program} {l : Launch} {e : Env} {R : Room} {s : State} {m : MethodId} {args : Array Value} {below : List Frame} {meth : Method} {c : Code} {H : Heap} {locs : List Loc} {cells slots : Nat} {Q : State → Prop}
theorem va_copyL {cc : ByteArray} {pc : Nat} {ls : Array Slot} {rest : List Value} (hexec : p.tables.exec = Jvm.exec) (hb : c.code = cc) (hml : c.maxLocals = ls.size) {own : String} {index : Nat} (hown : s.vm.findClass own = some m.cls) (hlink : (Cond.methodLink own index arraycopyName).before args s = true) (hnat : (Cond.native arraycopyName).before args s = true) (hstat : (Cond.static arraycopyName).before args s = true) (hini : (Cond.initialized "java/lang/System").before args s = true)
    {D : va_G} {cl : List vw_C} {tys : List (ClassId × FieldType)} {ws : va_W} {A : Nat → Prop} {H0 : Heap} {tq tl : Nat} {c1 : ClassId} {g : Nat → Int32} (hK : va_K D cl tys s) (hP : va_P D cl (ws ++ [(tq, .inl (c1, tl, .inl g))]) H) (hD : va_D A (ws ++ [(tq, .inl (c1, tl, .inl g))])) (hS : va_S A H0 H locs) (t1 : Nat) {a0 n0 : Nat} {f : Nat → Int32} (ha0 : (a0, .inl (c1, n0, .inl f)) ∈ ws) (ht1 : tys[t1]? = some (c1, .char))
    {sp dp n : Nat} (h4 : sp + n ≤ n0) (h5 : dp + n ≤ tl) (hn0 : n0 < 2147483648) (hn1 : tl < 2147483648) (hfit : ∀ i, i < n → ∃ z, z < 128 ∧ f (sp + i) = Int32.ofNat z)
    (hframes : 1 ≤ R.frames) (hlocals : (rest.map fun v => v.category).sum + (nativeFrameWords "java/lang/System" "arraycopy" 5 + 11) ≤ R.locals) (hdg : decode cc pc = .ok (.invokestatic index, 3))
    (kk : ∀ (H1 : Heap) (locs1 : List Loc), va_P D cl (ws ++ [(tq, .inl (c1, tl, .inl (va_cpy f g sp dp n)))]) H1 → va_D A (ws ++ [(tq, .inl (c1, tl, .inl (va_cpy f g sp dp n)))]) → va_S A H0 H1 locs1 → W p l e R s m args below meth c H1 locs1 cells slots Q (F0 m (pc + 3) ls rest)) : W p l e R s m args below meth c H locs cells slots Q (F0 m pc ls (.int (Int32.ofNat n) :: .int (Int32.ofNat dp) :: .ref tq :: .int (Int32.ofNat sp) :: .ref a0 :: rest)) := by
  obtain ⟨i, hi⟩ := List.getElem?_of_mem ha0
  have hil : i < ws.length := (List.getElem?_eq_some_iff.mp hi).1
  have es : (Int32.ofNat sp).toNatClampNeg = sp := pn_nat (by omega)
  have ed : (Int32.ofNat dp).toNatClampNeg = dp := pn_nat (by omega)
  have en : (Int32.ofNat n).toNatClampNeg = n := pn_nat (by omega)
  refine va_copyi hexec hb hml hown hlink hnat hstat hini hK hP hD hS i ws.length t1 t1 (by rw [List.getElem?_append_left hil]; exact hi) va_getLast ht1 ht1 rfl (pn_nneg (by omega)) (pn_nneg (by omega)) (pn_nneg (by omega)) (by rw [es, en]; exact h4) (by rw [ed, en]; exact h5) (fun j hj => ?_) hframes hlocals hdg (fun H1 locs1 hP hD hS => ?_)
  · rw [en] at hj
    rw [es]
    obtain ⟨z, hz, ez⟩ := hfit j hj
    rw [ez]
    exact fits_ch hz
  · rw [es, ed, en, va_setLast] at hP hD
    exact kk H1 locs1 hP hD hS
end CopyL
theorem kE_in (x : FX) (k : CK) {e : ES} (hp : e.p < e.n) : (k.ta e.p, .inl (x.gc, e.tn e.p, .inl (e.tx e.p))) ∈ KW x k e := by
  refine List.mem_cons_of_mem _ (List.mem_append_right _ (List.mem_append_right _ (List.mem_append_right _ (List.mem_cons_of_mem _ (List.mem_append_right _ ?_)))))
  exact List.mem_map.mpr ⟨e.p, List.mem_range.mpr hp, rfl⟩
theorem kA_in (x : FX) (k : CK) (e : ES) : (x.q 0, .inl (x.gc, 24, .inl (k.A 0))) ∈ KW x k e := List.mem_cons_of_mem _ (List.mem_append_left _ List.mem_cons_self)
theorem ext_cpy {e : ES} {sl : Nat → Int32} {a b u : Nat} (hab : a ≤ b) (hb : b ≤ e.tn e.p) (hsl : ∀ j, j < u → sl j = Int32.ofNat (e.sc j)) : ∀ j, j < e_exl e a b u → va_cpy (e.tx e.p) (va_cpy sl (va_cpy (e.tx e.p) (fun _ => 0) 0 0 a) 0 a u) b (a + u) (e.tn e.p - b) j = e_ext e a b u j := by
  intro j hj
  have hj' : j < e.tn e.p - (b - a) + u := hj
  unfold va_cpy e_ext
  by_cases q1 : j < a
  · rw [if_neg (by omega), if_neg (by omega), if_pos (by omega), if_pos q1]
    congr 1; omega
  · rw [if_neg q1]
    by_cases q2 : j < a + u
    · rw [if_neg (by omega), if_pos (by omega), if_pos q2, hsl _ (by omega)]
      congr 2; omega
    · rw [if_pos (by omega), if_neg q2]
      congr 1; omega
set_option maxHeartbeats 8000000 in
set_option maxRecDepth 100000 in
theorem K_exchange (l : Launch) (x : FX) {k : CK} {e : ES} (h : CRel e k) (w : EWf e) (hn : e.n < 40) {a b u : Nat} (hab : a ≤ b) (hbt : b ≤ e.tn e.p) (hu : u ≤ e.sn) (hx160 : e_exl e a b u ≤ 160) : KRetV l x y_D_exchange w_D_exchange ({ frames := 4, cells := 2, slots := 164, locals := 120 }) [.ref x.h, .int (Int32.ofNat a), .int (Int32.ofNat b), .int (Int32.ofNat u)] k e 2 164 (e_edit e (e_exl e a b u) (e_ext e a b u) (a + u)) := by
  intro sz
  have tt := w.tt _ w.pb
  have ht := tt.nb
  have hsb := w.sb
  have hpb := w.pb
  have hel : e_exl e a b u = e.tn e.p - (b - a) + u := rfl
  refine Met.ofW (cc := prog_1_method_25_code) (maxL := 5) (ret := none) (by decide) rfl ?_
  intro p en s m args below meth c s₁ B hml hv
  obtain ⟨rfl, hsz, hP, hK, hD0⟩ := hv
  have hx := B.exec
  have hb := B.bytes
  have hr := B.returns
  have hts := atoms_spec (ws := w_D_exchange) B.pre
  have hown : s.vm.findClass "DraftTree" = some m.cls := findClass_of_methodNamed B.named
  subst hsz
  have hD := hD0.self (sz := s.heap.size)
  generalize hAe : va_A (KW x k e) s.heap.size = B9 at hD ⊢
  have hA : ∀ q : Nat, s.heap.size ≤ q → B9 q := fun q h => by rw [← hAe]; exact Or.inr h
  clear hAe
  have hS : va_S B9 s.heap s.heap [] := va_S.rf
  have hl := lv_entry ([.ref x.h, .int (Int32.ofNat a), .int (Int32.ofNat b), .int (Int32.ofNat u)]) (n := 5) (Nat.le_of_ble_eq_true rfl)
  rw [lg_entry_eq]
  generalize (lg_sl ([.ref x.h, .int (Int32.ofNat a), .int (Int32.ofNat b), .int (Int32.ofNat u)]) ++ List.replicate (5 - (lg_sl ([.ref x.h, .int (Int32.ofNat a), .int (Int32.ofNat b), .int (Int32.ofNat u)])).length) Slot.unset).toArray = ls at hl ⊢
  have hl : lv_has ls 5 [(0, .ref x.h), (1, .int (Int32.ofNat a)), (2, .int (Int32.ofNat b)), (3, .int (Int32.ofNat u))] := hl
  obtain ⟨it, hit⟩ := List.getElem?_of_mem (kE_in x k w.pb)
  refine lv_aload_n hx hb d_D_exchange_0 rfl (lv_at hl 0 rfl) ?_
  refine va_get (D := x.D) (ci := 0) (v := .ref (k.ta e.p)) (C := R_D) (T := F_D) (N := 14) hx hb hts (fun w h => List.mem_cons_of_mem _ (in_D w h)) hown hK hP 0 rfl rfl 5 (by decide) (hts _ (List.mem_cons_of_mem _ lk_242)) (fun _ h9 => h9) rfl d_D_exchange_1 ?_
  refine va_alen (v := Int32.ofNat (e.tn e.p)) hx hb hK hP it 0 hit rfl rfl d_D_exchange_4 ?_
  refine lv_iload_n hx hb d_D_exchange_5 rfl (lv_at hl 2 rfl) ?_
  refine lv_iload_n hx hb d_D_exchange_6 rfl (lv_at hl 1 rfl) ?_
  refine lv_isub hx hb d_D_exchange_7 ?_
  refine lv_isub hx hb d_D_exchange_8 ?_
  refine lv_iload_n hx hb d_D_exchange_9 rfl (lv_at hl 3 rfl) ?_
  refine lv_iadd hx hb d_D_exchange_10 ?_
  refine wk_top (w := .int (Int32.ofNat (e_exl e a b u))) (congrArg _ (by rw [pn_sub hab, pn_sub (show b - a ≤ e.tn e.p by clear w tt h; omega), pn_add, hel])) ?_
  have hK0 := hK
  refine va_newa (atype := .char) (ty := .char) (a0 := (e_exl e a b u, .inl (fun _ => 0))) (N' := e_exl e a b u) hx hb (hts _ (List.mem_cons_of_mem _ lk_517)) rfl hK hP hD hS hA (fun _ => rfl) (pn_nneg (by clear w tt h; omega)) (pn_nat (by clear w tt h; omega)) (Nat.le_trans (Nat.mul_le_mul_right _ hx160) (by decide)) (Nat.le_of_ble_eq_true rfl) (show 0 + e_exl e a b u ≤ 164 by clear w tt h; omega) d_D_exchange_11 (fun tq g H hK hP hD hS => ?_)
  have hg : g = x.gc := hK.one (ty := .char) rfl (List.mem_append_right _ (List.mem_singleton.mpr rfl)) (List.mem_append_left _ List.mem_cons_self)
  subst hg
  have hK := hK0
  refine lv_astore (lv' := [(4, .ref tq), (0, .ref x.h), (1, .int (Int32.ofNat a)), (2, .int (Int32.ofNat b)), (3, .int (Int32.ofNat u))]) hx hb d_D_exchange_13 hl (by decide) rfl (fun ls hl => ?_)
  have hl : lv_has ls 5 [(4, .ref tq), (0, .ref x.h), (1, .int (Int32.ofNat a)), (2, .int (Int32.ofNat b)), (3, .int (Int32.ofNat u))] := hl
  -- the text before
  refine lv_aload_n hx hb d_D_exchange_15 rfl (lv_at hl 1 rfl) ?_
  refine va_get (D := x.D) (ci := 0) (v := .ref (k.ta e.p)) (C := R_D) (T := F_D) (N := 14) hx hb hts (fun w h => List.mem_cons_of_mem _ (in_D w h)) hown hK hP 0 rfl rfl 5 (by decide) (hts _ (List.mem_cons_of_mem _ lk_242)) (fun _ h9 => h9) rfl d_D_exchange_16 ?_
  refine lv_iconst (v := 0) hx hb d_D_exchange_19 (by decide) ?_
  refine lv_aload hx hb d_D_exchange_20 (lv_at hl 0 rfl) ?_
  refine lv_iconst (v := 0) hx hb d_D_exchange_22 (by decide) ?_
  refine lv_iload_n hx hb d_D_exchange_23 rfl (lv_at hl 2 rfl) ?_
  refine va_copyL (sp := 0) (dp := 0) (n := a) (rest := []) hx hb (hml.trans hl.1.symm) hown (hts _ (List.mem_cons_of_mem _ lk_518)) (hts _ (List.mem_cons_of_mem _ lk_521)) (hts _ (List.mem_cons_of_mem _ lk_519)) (hts _ (List.mem_cons_of_mem _ lk_520)) hK hP hD hS 0 (kE_in x k hpb) rfl (by clear w tt h; omega) (by clear w tt h; omega) (by clear w tt h; omega) (by clear w tt h; omega) (fun i hi => tt.ch _ (by clear w tt h; omega)) (Nat.le_of_ble_eq_true rfl) (Nat.le_of_ble_eq_true rfl) d_D_exchange_24 (fun H locs hP hD hS => ?_)
  -- the slip
  refine lv_aload_n hx hb d_D_exchange_27 rfl (lv_at hl 1 rfl) ?_
  refine va_get (D := x.D) (ci := 0) (v := .ref (x.q 0)) (C := R_D) (T := F_D) (N := 14) hx hb hts (fun w h => List.mem_cons_of_mem _ (in_D w h)) hown hK hP 0 rfl rfl 0 (by decide) (hts _ (List.mem_cons_of_mem _ lk_312)) (fun _ h9 => h9) rfl d_D_exchange_28 ?_
  refine lv_iconst (v := 0) hx hb d_D_exchange_31 (by decide) ?_
  refine lv_aload hx hb d_D_exchange_32 (lv_at hl 0 rfl) ?_
  refine lv_iload_n hx hb d_D_exchange_34 rfl (lv_at hl 2 rfl) ?_
  refine lv_iload_n hx hb d_D_exchange_35 rfl (lv_at hl 4 rfl) ?_
  refine va_copyL (sp := 0) (dp := a) (n := u) (rest := []) hx hb (hml.trans hl.1.symm) hown (hts _ (List.mem_cons_of_mem _ lk_518)) (hts _ (List.mem_cons_of_mem _ lk_521)) (hts _ (List.mem_cons_of_mem _ lk_519)) (hts _ (List.mem_cons_of_mem _ lk_520)) hK hP hD hS 0 (kA_in x k e) rfl (by clear w tt h; omega) (by clear w tt h; omega) (by clear w tt h; omega) (by clear w tt h; omega) (fun i hi => ⟨e.sc i, w.sv i (by clear w tt h; omega), by rw [Nat.zero_add]; exact h.s2 i (by clear w tt h; omega)⟩) (Nat.le_of_ble_eq_true rfl) (Nat.le_of_ble_eq_true rfl) d_D_exchange_36 (fun H locs hP hD hS => ?_)
  -- the text behind
  refine lv_aload_n hx hb d_D_exchange_39 rfl (lv_at hl 1 rfl) ?_
  refine va_get (D := x.D) (ci := 0) (v := .ref (k.ta e.p)) (C := R_D) (T := F_D) (N := 14) hx hb hts (fun w h => List.mem_cons_of_mem _ (in_D w h)) hown hK hP 0 rfl rfl 5 (by decide) (hts _ (List.mem_cons_of_mem _ lk_242)) (fun _ h9 => h9) rfl d_D_exchange_40 ?_
  refine lv_iload_n hx hb d_D_exchange_43 rfl (lv_at hl 3 rfl) ?_
  refine lv_aload hx hb d_D_exchange_44 (lv_at hl 0 rfl) ?_
  refine lv_iload_n hx hb d_D_exchange_46 rfl (lv_at hl 2 rfl) ?_
  refine lv_iload_n hx hb d_D_exchange_47 rfl (lv_at hl 4 rfl) ?_
  refine lv_iadd hx hb d_D_exchange_48 ?_
  refine wk_top (w := .int (Int32.ofNat (a + u))) (congrArg _ (pn_add a u)) ?_
  refine lv_aload_n hx hb d_D_exchange_49 rfl (lv_at hl 1 rfl) ?_
  refine va_get (D := x.D) (ci := 0) (v := .ref (k.ta e.p)) (C := R_D) (T := F_D) (N := 14) hx hb hts (fun w h => List.mem_cons_of_mem _ (in_D w h)) hown hK hP 0 rfl rfl 5 (by decide) (hts _ (List.mem_cons_of_mem _ lk_242)) (fun _ h9 => h9) rfl d_D_exchange_50 ?_
  refine va_alen (v := Int32.ofNat (e.tn e.p)) hx hb hK hP it 0 (by rw [List.getElem?_append_left (List.getElem?_eq_some_iff.mp hit).1]; exact hit) rfl rfl d_D_exchange_53 ?_
  refine lv_iload_n hx hb d_D_exchange_54 rfl (lv_at hl 3 rfl) ?_
  refine lv_isub hx hb d_D_exchange_55 ?_
  refine wk_top (w := .int (Int32.ofNat (e.tn e.p - b))) (congrArg _ (pn_sub hbt)) ?_
  refine va_copyL (sp := b) (dp := a + u) (n := e.tn e.p - b) (rest := []) hx hb (hml.trans hl.1.symm) hown (hts _ (List.mem_cons_of_mem _ lk_518)) (hts _ (List.mem_cons_of_mem _ lk_521)) (hts _ (List.mem_cons_of_mem _ lk_519)) (hts _ (List.mem_cons_of_mem _ lk_520)) hK hP hD hS 0 (kE_in x k hpb) rfl (by clear w tt h; omega) (by clear w tt h; omega) (by clear w tt h; omega) (by clear w tt h; omega) (fun i hi => tt.ch _ (by clear w tt h; omega)) (Nat.le_of_ble_eq_true rfl) (Nat.le_of_ble_eq_true rfl) d_D_exchange_56 (fun H locs hP hD hS => ?_)
  have hP := hP.ext (g := e_ext e a b u) (ext_cpy hab hbt (fun j hj => h.s2 j (by clear w tt h; omega)))
  have hD : va_D B9 (KW x k e ++ [kNT x tq (e_exl e a b u) (e_ext e a b u)]) := hD.adr (by rw [List.map_append, List.map_append]; rfl)
  refine lv_aload_n hx hb d_D_exchange_59 rfl (lv_at hl 1 rfl) ?_
  refine lv_aload hx hb d_D_exchange_60 (lv_at hl 0 rfl) ?_
  refine lv_iload_n hx hb d_D_exchange_62 rfl (lv_at hl 2 rfl) ?_
  refine lv_iload_n hx hb d_D_exchange_63 rfl (lv_at hl 4 rfl) ?_
  refine lv_iadd hx hb d_D_exchange_64 ?_
  refine wk_top (w := .int (Int32.ofNat (a + u))) (congrArg _ (pn_add a u)) ?_
  have hFc := va_freeM (wc := KW x k e ++ [kNT x tq (e_exl e a b u) (e_ext e a b u)]) hD hS hA (fun _ h9 => h9)
  refine W.widen (k := 1) (n := 160) (Nat.le_of_ble_eq_true rfl) (show 0 + e_exl e a b u ≤ 160 by clear w tt h; omega) ?_
  refine va_callv (va_runV (As := [.ref tq, .int (Int32.ofNat (a + u))]) (rest := []) ⟨hx, hb, hml, hown, hts⟩ (km_makeState l x h w hn tq (e_exl e a b u) (e_ext e a b u) (a + u) _) (cwV 2 hts (gd_v lk_523 lk_524 lk_525 lk_445 lk_522) rfl rfl rfl (by decide +kernel) ⟨Nat.le_of_ble_eq_true rfl, Nat.le_of_ble_eq_true rfl⟩) ⟨fun a U g mk q => by obtain ⟨q0, q1, qP, qK, qD⟩ := q; exact ⟨q0, q1, qP, va_K.moved (u := U) (U := U.calling g mk a) (Vm.Alike.refl U.vm) qK, qD⟩, va_recv (ci := 0) (q0 := 0) hK hP rfl rfl, fun U hU hW => ⟨rfl, by rw [hU], by rw [hU]; exact hP, va_K.moved hW.alike hK, hD.weaken (fun _ _ _ _ => trivial)⟩⟩ rfl rfl hl.1 rfl (lv_room (Nat.le_of_ble_eq_true rfl)) d_D_exchange_65 ⟨Nat.le_of_ble_eq_true rfl, Nat.le_of_ble_eq_true rfl⟩) hS (fun q _ h => hFc q h) hFc (fun k' t H1 locs ht hvm hw hB hz1 hk1 hS => ?_)
  obtain ⟨hP1, hD1⟩ := hB
  rw [ht] at hP1
  have hP := hP1
  have hD := hD1.weaken (fun _ q _ h => hFc q.1 h)
  exact W.vret hx hb hr (fun t ht hW => ⟨⟨k', rfl, hw, by rw [ht]; exact hP, hD⟩, hS.F ht⟩) hS.2.2 d_D_exchange_68
-- 77.put
-- own rows: the slip in the place of all matches
abbrev pRm : Room := { frames := 4, cells := 2, slots := 164, locals := 120 }
abbrev pE (e : ES) (ms : List (Nat × Nat)) : ES := e_edit e (rp_len e.sn (e.tn e.p) 0 ms) (rp_tx e.sn e.sc (e.tx e.p) 0 ms) (rp_pl e.sn 0 ms)
abbrev pQ (x : FX) (e : ES) (ms : List (Nat × Nat)) (B9 : Nat → Prop) : Array Value → State → Outcome → State → Prop := va_Qv (fun (k' : CK) => CRel (pE e ms) k') (fun k' t => va_P x.D vwCl (KW x k' (pE e ms)) t.heap ∧ va_D B9 (KW x k' (pE e ms))) B9
theorem rp_end {sn : Nat} {sc : Nat → Nat} {tx g F : Nat → Int32} {p t tn : Nat} (hg : ∀ j, j < t → g j = F j) (hF : ∀ j, j < tn - p → F (t + j) = tx (p + j)) : ∀ j, j < t + (tn - p) → va_cpy tx g p t (tn - p) j = F j := by
  intro j hj
  unfold va_cpy
  by_cases q : t ≤ j ∧ j < t + (tn - p)
  · rw [if_pos q]
    have := hF (j - t) (by omega)
    rw [show t + (j - t) = j by omega] at this
    exact this.symm
  · rw [if_neg q]; exact hg j (by omega)
theorem rp_stp {sn : Nat} {sc : Nat → Nat} {sl tx g F : Nat → Int32} {p t a : Nat} {G : Nat → Int32} (hg : ∀ j, j < t → g j = F j) (hsl : ∀ j, j < sn → sl j = Int32.ofNat (sc j)) (hF : ∀ j, j < a - p + sn → F (t + j) = if j < a - p then tx (p + j) else if j < a - p + sn then Int32.ofNat (sc (j - (a - p))) else G j) :
    ∀ j, j < t + ((a - p) + sn) → va_cpy sl (va_cpy tx g p t (a - p)) 0 (t + (a - p)) sn j = F j := by
  intro j hj
  unfold va_cpy
  by_cases q1 : t + (a - p) ≤ j ∧ j < t + (a - p) + sn
  · rw [if_pos q1]
    have := hF (j - t) (by omega)
    rw [show t + (j - t) = j by omega, if_neg (by omega), if_pos (by omega)] at this
    rw [this, hsl _ (by omega)]
    congr 2; omega
  · rw [if_neg q1]
    by_cases q2 : t ≤ j ∧ j < t + (a - p)
    · rw [if_pos q2]
      have := hF (j - t) (by omega)
      rw [show t + (j - t) = j by omega, if_pos (by omega)] at this
      exact this.symm
    · rw [if_neg q2]; exact hg j (by omega)
set_option maxHeartbeats 8000000 in
set_option maxRecDepth 100000 in
theorem K_put (l : Launch) (x : FX) {k : CK} {e : ES} (h : CRel e k) (w : EWf e) (hn : e.n < 40) {ms : List (Nat × Nat)} (hms : Ms (e_R e) (e.tn e.p) 0 ms) (hmA : msA k.A 0 ms) (hx160 : rp_len e.sn (e.tn e.p) 0 ms ≤ 160) : KRetV l x y_D_putSlipIntoMatches w_D_putSlipIntoMatches pRm [.ref x.h, .int (Int32.ofNat ms.length), .int (Int32.ofNat (rp_len e.sn (e.tn e.p) 0 ms))] k e 2 164 (pE e ms) := by
  intro sz
  have tt := w.tt _ w.pb
  have ht := tt.nb
  have hsb := w.sb
  have hpb := w.pb
  have hlen := Ms.len ms 0 (Nat.zero_le _) hms
  obtain ⟨F, hFe⟩ : ∃ F, F = rp_tx e.sn e.sc (e.tx e.p) 0 ms := ⟨_, rfl⟩
  obtain ⟨tl, htl⟩ : ∃ tl, tl = rp_len e.sn (e.tn e.p) 0 ms := ⟨_, rfl⟩
  rw [← htl] at hx160 ⊢
  refine Met.ofW (cc := prog_1_method_28_code) (maxL := 8) (ret := none) (by decide) rfl ?_
  intro p en s m args below meth c s₁ B hml hv
  obtain ⟨rfl, hsz, hP, hK, hD0⟩ := hv
  have hx := B.exec
  have hb := B.bytes
  have hr := B.returns
  have hts := atoms_spec (ws := w_D_putSlipIntoMatches) B.pre
  have hown : s.vm.findClass "DraftTree" = some m.cls := findClass_of_methodNamed B.named
  subst hsz
  have hD := hD0.self (sz := s.heap.size)
  generalize hAe : va_A (KW x k e) s.heap.size = B9 at hD ⊢
  have hA : ∀ q : Nat, s.heap.size ≤ q → B9 q := fun q h => by rw [← hAe]; exact Or.inr h
  clear hAe
  have hS : va_S B9 s.heap s.heap [] := va_S.rf
  have hl := lv_entry ([.ref x.h, .int (Int32.ofNat ms.length), .int (Int32.ofNat tl)]) (n := 8) (Nat.le_of_ble_eq_true rfl)
  rw [lg_entry_eq]
  generalize (lg_sl ([.ref x.h, .int (Int32.ofNat ms.length), .int (Int32.ofNat tl)]) ++ List.replicate (8 - (lg_sl ([.ref x.h, .int (Int32.ofNat ms.length), .int (Int32.ofNat tl)])).length) Slot.unset).toArray = ls at hl ⊢
  have hl : lv_has ls 8 [(0, .ref x.h), (1, .int (Int32.ofNat ms.length)), (2, .int (Int32.ofNat tl))] := hl
  obtain ⟨it, hit⟩ := List.getElem?_of_mem (kE_in x k w.pb)
  refine lv_iload_n hx hb d_D_putSlipIntoMatches_0 rfl (lv_at hl 2 rfl) ?_
  have hK0 := hK
  refine va_newa (atype := .char) (ty := .char) (a0 := (tl, .inl (fun _ => 0))) (N' := tl) hx hb (hts _ (List.mem_cons_of_mem _ lk_517)) rfl hK hP hD hS hA (fun _ => rfl) (pn_nneg (by clear w tt h hms; omega)) (pn_nat (by clear w tt h hms; omega)) (Nat.le_trans (Nat.mul_le_mul_right _ hx160) (by decide)) (Nat.le_of_ble_eq_true rfl) (show 0 + tl ≤ 164 by clear w tt h hms; omega) d_D_putSlipIntoMatches_1 (fun tq g H hK hP hD hS => ?_)
  have hg : g = x.gc := hK.one (ty := .char) rfl (List.mem_append_right _ (List.mem_singleton.mpr rfl)) (List.mem_append_left _ List.mem_cons_self)
  subst hg
  have hK := hK0
  refine W.widen (k := 1) (n := 160) (Nat.le_of_ble_eq_true rfl) (show 0 + tl ≤ 160 by clear w tt h hms; omega) ?_
  refine lv_astore_n (lv' := [(3, .ref tq), (0, .ref x.h), (1, .int (Int32.ofNat ms.length)), (2, .int (Int32.ofNat tl))]) hx hb d_D_putSlipIntoMatches_3 rfl hl (by decide) rfl (fun ls hl => ?_)
  have hl : lv_has ls 8 [(3, .ref tq), (0, .ref x.h), (1, .int (Int32.ofNat ms.length)), (2, .int (Int32.ofNat tl))] := hl
  refine lv_iconst (v := 0) hx hb d_D_putSlipIntoMatches_4 (by decide) ?_
  refine lv_istore (lv' := [(4, .int 0), (3, .ref tq), (0, .ref x.h), (1, .int (Int32.ofNat ms.length)), (2, .int (Int32.ofNat tl))]) hx hb d_D_putSlipIntoMatches_5 hl (by decide) rfl (fun ls hl => ?_)
  have hl : lv_has ls 8 [(4, .int 0), (3, .ref tq), (0, .ref x.h), (1, .int (Int32.ofNat ms.length)), (2, .int (Int32.ofNat tl))] := hl
  refine lv_iconst (v := 0) hx hb d_D_putSlipIntoMatches_7 (by decide) ?_
  refine lv_istore (lv' := [(5, .int 0), (4, .int 0), (3, .ref tq), (0, .ref x.h), (1, .int (Int32.ofNat ms.length)), (2, .int (Int32.ofNat tl))]) hx hb d_D_putSlipIntoMatches_8 hl (by decide) rfl (fun ls hl => ?_)
  have hl : lv_has ls 8 [(5, .int 0), (4, .int 0), (3, .ref tq), (0, .ref x.h), (1, .int (Int32.ofNat ms.length)), (2, .int (Int32.ofNat tl))] := hl
  refine lv_iconst (v := 0) hx hb d_D_putSlipIntoMatches_10 (by decide) ?_
  refine lv_istore (lv' := [(6, .int 0), (5, .int 0), (4, .int 0), (3, .ref tq), (0, .ref x.h), (1, .int (Int32.ofNat ms.length)), (2, .int (Int32.ofNat tl))]) hx hb d_D_putSlipIntoMatches_11 hl (by decide) rfl (fun ls hl => ?_)
  have hl : lv_has ls 8 [(6, .int 0), (5, .int 0), (4, .int 0), (3, .ref tq), (0, .ref x.h), (1, .int (Int32.ofNat ms.length)), (2, .int (Int32.ofNat tl))] := hl
  have key : ∀ (mm : List (Nat × Nat)) (i q t : Nat) (g : Nat → Int32) (ls : Array Slot) (H : Heap) (locs : List Loc), Ms (e_R e) (e.tn e.p) q mm → msA k.A i mm → i + mm.length = ms.length → q ≤ e.tn e.p → t + rp_len e.sn (e.tn e.p) q mm = tl → t + rp_pl e.sn q mm = rp_pl e.sn 0 ms → (∀ j, j < t → g j = F j) → (∀ j, j < rp_len e.sn (e.tn e.p) q mm → F (t + j) = rp_tx e.sn e.sc (e.tx e.p) q mm j) →
      lv_has ls 8 [(0, .ref x.h), (1, .int (Int32.ofNat ms.length)), (3, .ref tq), (4, .int (Int32.ofNat q)), (5, .int (Int32.ofNat t)), (6, .int (Int32.ofNat i))] → va_P x.D vwCl (KW x k e ++ [(tq, .inl (x.gc, tl, .inl g))]) H → va_D B9 (KW x k e ++ [(tq, .inl (x.gc, tl, .inl g))]) → va_S B9 s.heap H locs →
      W p l en (headSpec w_D_putSlipIntoMatches pRm).room s m ([.ref x.h, .int (Int32.ofNat ms.length), .int (Int32.ofNat tl)] : List Value).toArray below meth c H locs 1 160 (MQ below (pQ x e ms B9) ([.ref x.h, .int (Int32.ofNat ms.length), .int (Int32.ofNat tl)] : List Value).toArray s 2 164 B9) (F0 m 13 ls []) := by
    intro mm
    induction mm with
    | nil =>
      intro i q t g ls H locs hmm hmA hlen2 hqt htl2 hpl hg hF hl hP hD hS
      have hi : i = ms.length := hlen2
      have htl3 : t + (e.tn e.p - q) = tl := htl2
      have hpl2 : t = rp_pl e.sn 0 ms := hpl
      refine lv_iload hx hb d_D_putSlipIntoMatches_13 (lv_at hl 5 rfl) ?_
      refine lv_iload_n hx hb d_D_putSlipIntoMatches_15 rfl (lv_at hl 1 rfl) ?_
      refine lv_icmp_ge (tgt := 90) hx hb d_D_putSlipIntoMatches_16 (by decide) (fun _ => ?_) (fun hc => absurd ((pn_le (by clear w tt h hms hmm; omega) (by clear w tt h hms hmm; omega)).mpr (Nat.le_of_eq hi.symm)) hc)
      refine lv_aload_n hx hb d_D_putSlipIntoMatches_90 rfl (lv_at hl 0 rfl) ?_
      refine va_get (D := x.D) (ci := 0) (v := .ref (k.ta e.p)) (C := R_D) (T := F_D) (N := 14) hx hb hts (fun w h => List.mem_cons_of_mem _ (in_D w h)) hown hK hP 0 rfl rfl 5 (by decide) (hts _ (List.mem_cons_of_mem _ lk_242)) (fun _ h9 => h9) rfl d_D_putSlipIntoMatches_91 ?_
      refine lv_iload hx hb d_D_putSlipIntoMatches_94 (lv_at hl 3 rfl) ?_
      refine lv_aload_n hx hb d_D_putSlipIntoMatches_96 rfl (lv_at hl 2 rfl) ?_
      refine lv_iload hx hb d_D_putSlipIntoMatches_97 (lv_at hl 4 rfl) ?_
      refine lv_aload_n hx hb d_D_putSlipIntoMatches_99 rfl (lv_at hl 0 rfl) ?_
      refine va_get (D := x.D) (ci := 0) (v := .ref (k.ta e.p)) (C := R_D) (T := F_D) (N := 14) hx hb hts (fun w h => List.mem_cons_of_mem _ (in_D w h)) hown hK hP 0 rfl rfl 5 (by decide) (hts _ (List.mem_cons_of_mem _ lk_242)) (fun _ h9 => h9) rfl d_D_putSlipIntoMatches_100 ?_
      refine va_alen (v := Int32.ofNat (e.tn e.p)) hx hb hK hP it 0 (by rw [List.getElem?_append_left (List.getElem?_eq_some_iff.mp hit).1]; exact hit) rfl rfl d_D_putSlipIntoMatches_103 ?_
      refine lv_iload hx hb d_D_putSlipIntoMatches_104 (lv_at hl 3 rfl) ?_
      refine lv_isub hx hb d_D_putSlipIntoMatches_106 ?_
      refine wk_top (w := .int (Int32.ofNat (e.tn e.p - q))) (congrArg _ (pn_sub hqt)) ?_
      refine va_copyL (sp := q) (dp := t) (n := e.tn e.p - q) (rest := []) hx hb (hml.trans hl.1.symm) hown (hts _ (List.mem_cons_of_mem _ lk_518)) (hts _ (List.mem_cons_of_mem _ lk_521)) (hts _ (List.mem_cons_of_mem _ lk_519)) (hts _ (List.mem_cons_of_mem _ lk_520)) hK hP hD hS 0 (kE_in x k hpb) rfl (by clear w tt h hms hmm; omega) (by clear w tt h hms hmm; omega) (by clear w tt h hms hmm; omega) (by clear w tt h hms hmm; omega) (fun i hi => tt.ch _ (by clear w tt h hms hmm; omega)) (Nat.le_of_ble_eq_true rfl) (Nat.le_of_ble_eq_true rfl) d_D_putSlipIntoMatches_107 (fun H locs hP hD hS => ?_)
      have hP := hP.ext (g := rp_tx e.sn e.sc (e.tx e.p) 0 ms) (fun j hj => by
        rw [← hFe]
        exact rp_end (sn := e.sn) (sc := e.sc) hg hF j (by clear w tt h hms hmm; omega))
      have hD : va_D B9 (KW x k e ++ [kNT x tq tl (rp_tx e.sn e.sc (e.tx e.p) 0 ms)]) := hD.adr (by rw [List.map_append, List.map_append]; rfl)
      refine lv_aload_n hx hb d_D_putSlipIntoMatches_110 rfl (lv_at hl 0 rfl) ?_
      refine lv_aload_n hx hb d_D_putSlipIntoMatches_111 rfl (lv_at hl 2 rfl) ?_
      refine lv_iload hx hb d_D_putSlipIntoMatches_112 (lv_at hl 4 rfl) ?_
      have hFc := va_freeM (wc := KW x k e ++ [kNT x tq tl (rp_tx e.sn e.sc (e.tx e.p) 0 ms)]) hD hS hA (fun _ h9 => h9)
      refine va_callv (va_runV (As := [.ref tq, .int (Int32.ofNat t)]) (rest := []) ⟨hx, hb, hml, hown, hts⟩ (km_makeState l x h w hn tq tl (rp_tx e.sn e.sc (e.tx e.p) 0 ms) t _) (cwV 2 hts (gd_v lk_523 lk_524 lk_525 lk_445 lk_522) rfl rfl rfl (by decide +kernel) ⟨Nat.le_of_ble_eq_true rfl, Nat.le_of_ble_eq_true rfl⟩) ⟨fun a U g mk q => by obtain ⟨q0, q1, qP, qK, qD⟩ := q; exact ⟨q0, q1, qP, va_K.moved (u := U) (U := U.calling g mk a) (Vm.Alike.refl U.vm) qK, qD⟩, va_recv (ci := 0) (q0 := 0) hK hP rfl rfl, fun U hU hW => ⟨rfl, by rw [hU], by rw [hU]; exact hP, va_K.moved hW.alike hK, hD.weaken (fun _ _ _ _ => trivial)⟩⟩ rfl rfl hl.1 rfl (lv_room (Nat.le_of_ble_eq_true rfl)) d_D_putSlipIntoMatches_114 ⟨Nat.le_of_ble_eq_true rfl, Nat.le_of_ble_eq_true rfl⟩) hS (fun q _ h => hFc q h) hFc (fun k' t' H1 locs ht hvm hw hB hz1 hk1 hS => ?_)
      obtain ⟨hP1, hD1⟩ := hB
      rw [ht] at hP1
      have hP := hP1
      have hD := hD1.weaken (fun _ q _ h => hFc q.1 h)
      rw [htl, hpl2] at hP hD hw
      exact W.vret hx hb hr (fun t ht hW => ⟨⟨k', rfl, hw, by rw [ht]; exact hP, hD⟩, hS.F ht⟩) hS.2.2 d_D_putSlipIntoMatches_117
    | cons ab mm ih =>
      obtain ⟨a, b⟩ := ab
      intro i q t g ls H locs hmm hmA hlen2 hqt htl2 hpl hg hF hl hP hD hS
      obtain ⟨hfo, hrest⟩ := hmm
      obtain ⟨g12, g13, hmA2⟩ := hmA
      have f1 := hfo.1
      have f2 := hfo.2.1
      have f3 := hfo.2.2.1
      have f4 := hfo.2.2.2.1.1
      simp only [List.length_cons] at hlen2
      have htl3 : t + ((a - q) + e.sn + rp_len e.sn (e.tn e.p) b mm) = tl := htl2
      have hpl3 : t + ((a - q) + e.sn + rp_pl e.sn b mm) = rp_pl e.sn 0 ms := hpl
      have hi0 : i < 2147483648 := by clear w tt h hms hrest; omega
      refine lv_iload hx hb d_D_putSlipIntoMatches_13 (lv_at hl 5 rfl) ?_
      refine lv_iload_n hx hb d_D_putSlipIntoMatches_15 rfl (lv_at hl 1 rfl) ?_
      refine lv_icmp_ge (tgt := 90) hx hb d_D_putSlipIntoMatches_16 (by decide) (fun hc => absurd ((pn_le (by clear w tt h hms hrest; omega) hi0).mp hc) (by clear w tt h hms hrest; omega)) (fun _ => ?_)
      refine lv_aload_n hx hb d_D_putSlipIntoMatches_19 rfl (lv_at hl 0 rfl) ?_
      refine va_get (D := x.D) (ci := 0) (v := .ref (x.q 12)) (C := R_D) (T := F_D) (N := 14) hx hb hts (fun w h => List.mem_cons_of_mem _ (in_D w h)) hown hK hP 0 rfl rfl 12 (by decide) (hts _ (List.mem_cons_of_mem _ lk_306)) (fun _ h9 => h9) rfl d_D_putSlipIntoMatches_20 ?_
      refine lv_iload hx hb d_D_putSlipIntoMatches_23 (lv_at hl 5 rfl) ?_
      refine va_iald hx hb hK hP 2 1 rfl rfl (wk_inb_ok ((pn_inb hi0).mpr (by clear w tt h hms hrest; omega))) d_D_putSlipIntoMatches_25 ?_
      refine wk_top (w := .int (Int32.ofNat a)) (congrArg _ (by rw [pn_nat hi0]; exact g12)) ?_
      refine lv_iload hx hb d_D_putSlipIntoMatches_26 (lv_at hl 3 rfl) ?_
      refine lv_isub hx hb d_D_putSlipIntoMatches_28 ?_
      refine wk_top (w := .int (Int32.ofNat (a - q))) (congrArg _ (pn_sub f1)) ?_
      refine lv_istore (lv' := [(7, .int (Int32.ofNat (a - q))), (0, .ref x.h), (1, .int (Int32.ofNat ms.length)), (3, .ref tq), (4, .int (Int32.ofNat q)), (5, .int (Int32.ofNat t)), (6, .int (Int32.ofNat i))]) hx hb d_D_putSlipIntoMatches_29 hl (by decide) rfl (fun ls hl => ?_)
      have hl : lv_has ls 8 [(7, .int (Int32.ofNat (a - q))), (0, .ref x.h), (1, .int (Int32.ofNat ms.length)), (3, .ref tq), (4, .int (Int32.ofNat q)), (5, .int (Int32.ofNat t)), (6, .int (Int32.ofNat i))] := hl
      refine lv_aload_n hx hb d_D_putSlipIntoMatches_31 rfl (lv_at hl 1 rfl) ?_
      refine va_get (D := x.D) (ci := 0) (v := .ref (k.ta e.p)) (C := R_D) (T := F_D) (N := 14) hx hb hts (fun w h => List.mem_cons_of_mem _ (in_D w h)) hown hK hP 0 rfl rfl 5 (by decide) (hts _ (List.mem_cons_of_mem _ lk_242)) (fun _ h9 => h9) rfl d_D_putSlipIntoMatches_32 ?_
      refine lv_iload hx hb d_D_putSlipIntoMatches_35 (lv_at hl 4 rfl) ?_
      refine lv_aload_n hx hb d_D_putSlipIntoMatches_37 rfl (lv_at hl 3 rfl) ?_
      refine lv_iload hx hb d_D_putSlipIntoMatches_38 (lv_at hl 5 rfl) ?_
      refine lv_iload hx hb d_D_putSlipIntoMatches_40 (lv_at hl 0 rfl) ?_
      refine va_copyL (sp := q) (dp := t) (n := a - q) (rest := []) hx hb (hml.trans hl.1.symm) hown (hts _ (List.mem_cons_of_mem _ lk_518)) (hts _ (List.mem_cons_of_mem _ lk_521)) (hts _ (List.mem_cons_of_mem _ lk_519)) (hts _ (List.mem_cons_of_mem _ lk_520)) hK hP hD hS 0 (kE_in x k hpb) rfl (by clear w tt h hms hrest; omega) (by clear w tt h hms hrest; omega) (by clear w tt h hms hrest; omega) (by clear w tt h hms hrest; omega) (fun i hi => tt.ch _ (by clear w tt h hms hrest; omega)) (Nat.le_of_ble_eq_true rfl) (Nat.le_of_ble_eq_true rfl) d_D_putSlipIntoMatches_42 (fun H locs hP hD hS => ?_)
      refine lv_aload_n hx hb d_D_putSlipIntoMatches_45 rfl (lv_at hl 1 rfl) ?_
      refine va_get (D := x.D) (ci := 0) (v := .ref (x.q 0)) (C := R_D) (T := F_D) (N := 14) hx hb hts (fun w h => List.mem_cons_of_mem _ (in_D w h)) hown hK hP 0 rfl rfl 0 (by decide) (hts _ (List.mem_cons_of_mem _ lk_312)) (fun _ h9 => h9) rfl d_D_putSlipIntoMatches_46 ?_
      refine lv_iconst (v := 0) hx hb d_D_putSlipIntoMatches_49 (by decide) ?_
      refine lv_aload_n hx hb d_D_putSlipIntoMatches_50 rfl (lv_at hl 3 rfl) ?_
      refine lv_iload hx hb d_D_putSlipIntoMatches_51 (lv_at hl 5 rfl) ?_
      refine lv_iload hx hb d_D_putSlipIntoMatches_53 (lv_at hl 0 rfl) ?_
      refine lv_iadd hx hb d_D_putSlipIntoMatches_55 ?_
      refine wk_top (w := .int (Int32.ofNat (t + (a - q)))) (congrArg _ (pn_add _ _)) ?_
      refine lv_aload_n hx hb d_D_putSlipIntoMatches_56 rfl (lv_at hl 1 rfl) ?_
      refine va_get (D := x.D) (ci := 0) (v := .int (k.I 1)) (C := R_D) (T := F_D) (N := 14) hx hb hts (fun w h => List.mem_cons_of_mem _ (in_D w h)) hown hK hP 0 rfl rfl 1 (by decide) (hts _ (List.mem_cons_of_mem _ lk_313)) (fun _ h9 => h9) rfl d_D_putSlipIntoMatches_57 ?_
      refine wk_top (w := .int (Int32.ofNat e.sn)) (congrArg _ h.s1) ?_
      refine va_copyL (sp := 0) (dp := t + (a - q)) (n := e.sn) (rest := []) hx hb (hml.trans hl.1.symm) hown (hts _ (List.mem_cons_of_mem _ lk_518)) (hts _ (List.mem_cons_of_mem _ lk_521)) (hts _ (List.mem_cons_of_mem _ lk_519)) (hts _ (List.mem_cons_of_mem _ lk_520)) hK hP hD hS 0 (kA_in x k e) rfl (by clear w tt h hms hrest; omega) (by clear w tt h hms hrest; omega) (by clear w tt h hms hrest; omega) (by clear w tt h hms hrest; omega) (fun i hi => ⟨e.sc i, w.sv i hi, by rw [Nat.zero_add]; exact h.s2 i hi⟩) (Nat.le_of_ble_eq_true rfl) (Nat.le_of_ble_eq_true rfl) d_D_putSlipIntoMatches_60 (fun H locs hP hD hS => ?_)
      refine lv_iload hx hb d_D_putSlipIntoMatches_63 (lv_at hl 5 rfl) ?_
      refine lv_iload hx hb d_D_putSlipIntoMatches_65 (lv_at hl 0 rfl) ?_
      refine lv_aload_n hx hb d_D_putSlipIntoMatches_67 rfl (lv_at hl 1 rfl) ?_
      refine va_get (D := x.D) (ci := 0) (v := .int (k.I 1)) (C := R_D) (T := F_D) (N := 14) hx hb hts (fun w h => List.mem_cons_of_mem _ (in_D w h)) hown hK hP 0 rfl rfl 1 (by decide) (hts _ (List.mem_cons_of_mem _ lk_313)) (fun _ h9 => h9) rfl d_D_putSlipIntoMatches_68 ?_
      refine wk_top (w := .int (Int32.ofNat e.sn)) (congrArg _ h.s1) ?_
      refine lv_iadd hx hb d_D_putSlipIntoMatches_71 ?_
      refine lv_iadd hx hb d_D_putSlipIntoMatches_72 ?_
      refine wk_top (w := .int (Int32.ofNat (t + ((a - q) + e.sn)))) (congrArg _ (by rw [pn_add, pn_add])) ?_
      refine lv_istore (lv' := [(5, .int (Int32.ofNat (t + ((a - q) + e.sn)))), (7, .int (Int32.ofNat (a - q))), (0, .ref x.h), (1, .int (Int32.ofNat ms.length)), (3, .ref tq), (4, .int (Int32.ofNat q)), (6, .int (Int32.ofNat i))]) hx hb d_D_putSlipIntoMatches_73 hl (by decide) rfl (fun ls hl => ?_)
      have hl : lv_has ls 8 [(5, .int (Int32.ofNat (t + ((a - q) + e.sn)))), (7, .int (Int32.ofNat (a - q))), (0, .ref x.h), (1, .int (Int32.ofNat ms.length)), (3, .ref tq), (4, .int (Int32.ofNat q)), (6, .int (Int32.ofNat i))] := hl
      refine lv_aload_n hx hb d_D_putSlipIntoMatches_75 rfl (lv_at hl 2 rfl) ?_
      refine va_get (D := x.D) (ci := 0) (v := .ref (x.q 13)) (C := R_D) (T := F_D) (N := 14) hx hb hts (fun w h => List.mem_cons_of_mem _ (in_D w h)) hown hK hP 0 rfl rfl 13 (by decide) (hts _ (List.mem_cons_of_mem _ lk_308)) (fun _ h9 => h9) rfl d_D_putSlipIntoMatches_76 ?_
      refine lv_iload hx hb d_D_putSlipIntoMatches_79 (lv_at hl 6 rfl) ?_
      refine va_iald hx hb hK hP 3 1 rfl rfl (wk_inb_ok ((pn_inb hi0).mpr (by clear w tt h hms hrest; omega))) d_D_putSlipIntoMatches_81 ?_
      refine wk_top (w := .int (Int32.ofNat b)) (congrArg _ (by rw [pn_nat hi0]; exact g13)) ?_
      refine lv_istore (lv' := [(4, .int (Int32.ofNat b)), (5, .int (Int32.ofNat (t + ((a - q) + e.sn)))), (7, .int (Int32.ofNat (a - q))), (0, .ref x.h), (1, .int (Int32.ofNat ms.length)), (3, .ref tq), (6, .int (Int32.ofNat i))]) hx hb d_D_putSlipIntoMatches_82 hl (by decide) rfl (fun ls hl => ?_)
      have hl : lv_has ls 8 [(4, .int (Int32.ofNat b)), (5, .int (Int32.ofNat (t + ((a - q) + e.sn)))), (7, .int (Int32.ofNat (a - q))), (0, .ref x.h), (1, .int (Int32.ofNat ms.length)), (3, .ref tq), (6, .int (Int32.ofNat i))] := hl
      refine lv_iinc (k := 6) (v := (Int32.ofNat (i + 1))) (lv' := [(6, .int (Int32.ofNat (i + 1))), (4, .int (Int32.ofNat b)), (5, .int (Int32.ofNat (t + ((a - q) + e.sn)))), (7, .int (Int32.ofNat (a - q))), (0, .ref x.h), (1, .int (Int32.ofNat ms.length)), (3, .ref tq)]) hx hb d_D_putSlipIntoMatches_84 hl rfl (pn_succ i) (by decide) rfl (fun ls hl => ?_)
      have hl : lv_has ls 8 [(6, .int (Int32.ofNat (i + 1))), (4, .int (Int32.ofNat b)), (5, .int (Int32.ofNat (t + ((a - q) + e.sn)))), (7, .int (Int32.ofNat (a - q))), (0, .ref x.h), (1, .int (Int32.ofNat ms.length)), (3, .ref tq)] := hl
      refine lv_goto (tgt := 13) hx hb d_D_putSlipIntoMatches_87 (by decide) ?_
      refine ih (i + 1) b (t + ((a - q) + e.sn)) _ _ _ _ hrest hmA2 (by clear w tt h hms hrest; omega) f3 (by clear w tt h hms hrest; omega) (by clear w tt h hms hrest; omega) ?_ ?_ (lv_sub hl [4, 5, 6, 1, 2, 0] rfl) hP hD hS
      · exact rp_stp (sn := e.sn) (sc := e.sc) (G := fun j => rp_tx e.sn e.sc (e.tx e.p) b mm (j - (a - q + e.sn))) hg (fun j hj => h.s2 j hj) (fun j hj => hF j (show j < (a - q) + e.sn + rp_len e.sn (e.tn e.p) b mm by clear w tt h hms hrest; omega))
      · intro j hj
        have z := hF ((a - q) + e.sn + j) (show (a - q) + e.sn + j < (a - q) + e.sn + rp_len e.sn (e.tn e.p) b mm by clear w tt h hms hrest; omega)
        have y : rp_tx e.sn e.sc (e.tx e.p) q ((a, b) :: mm) ((a - q) + e.sn + j) = rp_tx e.sn e.sc (e.tx e.p) b mm j := by
          show (if (a - q) + e.sn + j < a - q then _ else if (a - q) + e.sn + j < a - q + e.sn then _ else rp_tx e.sn e.sc (e.tx e.p) b mm ((a - q) + e.sn + j - (a - q + e.sn))) = _
          rw [if_neg (by clear w tt h hms hrest; omega), if_neg (by clear w tt h hms hrest; omega), show (a - q) + e.sn + j - (a - q + e.sn) = j by clear w tt h hms hrest; omega]
        rw [← y, ← z, show t + ((a - q) + e.sn) + j = t + ((a - q) + e.sn + j) by clear w tt h hms hrest; omega]
  exact key ms 0 0 0 _ _ _ _ hms hmA (Nat.zero_add _) (Nat.zero_le _) (by rw [Nat.zero_add, ← htl]) (Nat.zero_add _) (fun j hj => absurd hj (Nat.not_lt_zero _)) (fun j _ => by rw [Nat.zero_add, hFe]) (lv_sub hl [4, 5, 3, 2, 1, 0] rfl) hP hD hS
-- 78.ier
-- own rows: insert, erase, replace
theorem pn_eqN {a b : Nat} (ha : a < 2147483648) (hb : b < 2147483648) : Int32.ofNat a = Int32.ofNat b ↔ a = b := by
  refine ⟨fun h => ?_, fun h => by rw [h]⟩
  have := congrArg Int32.toNatClampNeg h
  rw [pn_nat ha, pn_nat hb] at this
  exact this
theorem er_neg {k : Int32} (h : ¬ 0 ≤ k) : k < 0 := by
  rw [Int32.le_iff_toInt_le, Int32.toInt_zero] at h
  rw [Int32.lt_iff_toInt_lt, Int32.toInt_zero]
  omega
theorem er_nneg {k : Int32} (h : 0 ≤ k) : ¬ k < 0 := by
  rw [Int32.le_iff_toInt_le, Int32.toInt_zero] at h
  rw [Int32.lt_iff_toInt_lt, Int32.toInt_zero]
  omega
theorem er_nat {k : Int32} (h : 0 ≤ k) : k = Int32.ofNat k.toNatClampNeg ∧ k.toNatClampNeg < 2147483648 := by
  rw [Int32.le_iff_toInt_le, Int32.toInt_zero] at h
  have h2 := Int32.toInt_lt k
  have h3 : k.toNatClampNeg = k.toInt.toNat := rfl
  refine ⟨?_, by omega⟩
  rw [← Int32.toInt_inj, pn_toInt (by omega), h3]
  omega
theorem er_ea {e : ES} {k : Int32} (h : 0 ≤ k) (hq : ¬ e_lo e < e_hi e) : e_ea e k = e_lo e := by
  unfold e_ea
  rw [if_neg hq, if_neg (er_nneg h), (e_eq_c hq).1]
theorem er_eb {e : ES} {k : Int32} (hc : e.c ≤ e.tn e.p) (ht : e.tn e.p ≤ 160) (h : 0 ≤ k) (hq : ¬ e_lo e < e_hi e) : Int32.ofNat e.c + (if Int32.ofNat (e.tn e.p - e.c) < k then Int32.ofNat (e.tn e.p - e.c) else k) = Int32.ofNat (e_eb e k) := by
  obtain ⟨k1, k2⟩ := er_nat h
  unfold e_eb
  rw [if_neg hq, if_neg (er_nneg h)]
  generalize k.toNatClampNeg = n at k1 k2 ⊢
  subst k1
  by_cases q : e.c + n ≤ e.tn e.p
  · rw [if_pos q, if_neg (fun z => by have := (pn_lt (by omega) (by omega)).mp z; omega), pn_add]
  · rw [if_neg q, if_pos ((pn_lt (by omega) (by omega)).mpr (by omega)), pn_add]
    congr 1; omega
theorem er_eb2 {e : ES} {k : Int32} (h : k < 0) (hq : ¬ e_lo e < e_hi e) : e_eb e k = e_hi e := by
  unfold e_eb
  rw [if_neg hq, if_pos h, (e_eq_c hq).2]
theorem er_ea2 {e : ES} {k : Int32} (hc : e.c ≤ e.tn e.p) (ht : e.tn e.p ≤ 160) (h : k < 0) (hq : ¬ e_lo e < e_hi e) : (if (0 : Int32) < Int32.ofNat e.c + k then Int32.ofNat e.c + k else 0) = Int32.ofNat (e_ea e k) := by
  unfold e_ea
  rw [if_neg hq, if_pos h]
  have h0 := h
  rw [Int32.lt_iff_toInt_lt, Int32.toInt_zero] at h0
  have h2 := Int32.le_toInt k
  have hs : (Int32.ofNat e.c + k).toInt = (e.c : Int) + k.toInt := by
    rw [pn_addI (by rw [pn_toInt (by omega)]; omega) (by rw [pn_toInt (by omega)]; omega), pn_toInt (by omega)]
  by_cases q : (0 : Int32) < Int32.ofNat e.c + k
  · rw [if_pos q]
    rw [Int32.lt_iff_toInt_lt, Int32.toInt_zero, hs] at q
    exact pn_addneg h (by omega) (by omega)
  · rw [if_neg q]
    rw [Int32.lt_iff_toInt_lt, Int32.toInt_zero, hs] at q
    rw [show ((e.c : Int) + k.toInt).toNat = 0 by omega]
    rfl
theorem rp_small {R : Rl} {sn tn : Nat} (hs : sn ≤ 24) (ht : tn ≤ 160) : ∀ (ms : List (Nat × Nat)) (q : Nat), q ≤ tn → Ms R tn q ms → rp_len sn tn q ms < 2147483648 := by
  have key : ∀ (ms : List (Nat × Nat)) (q : Nat), q ≤ tn → Ms R tn q ms → rp_len sn tn q ms + 25 * q ≤ 25 * tn := by
    intro ms
    induction ms with
    | nil =>
      intro q hq _
      have e0 : rp_len sn tn q [] = tn - q := rfl
      omega
    | cons ab mm ih =>
      obtain ⟨a, b⟩ := ab
      intro q hq hm
      obtain ⟨hfo, hrest⟩ := hm
      have f1 := hfo.1
      have f2 := hfo.2.1
      have f3 := hfo.2.2.1
      have f4 := hfo.2.2.2.1.1
      have e0 : rp_len sn tn q ((a, b) :: mm) = (a - q) + sn + rp_len sn tn b mm := rfl
      have := ih b (by omega) hrest
      omega
  intro ms q hq hm
  have := key ms q hq hm
  omega
set_option maxHeartbeats 8000000 in
set_option maxRecDepth 100000 in
theorem K_insert (l : Launch) (x : FX) {k : CK} {e : ES} (h : CRel e k) (w : EWf e) (hn : e.n ≠ 40) (hx160 : e_exl e (e_lo e) (e_hi e) e.sn ≤ 160) : KRetI l x y_D_insert w_D_insert ({ frames := 5, cells := 2, slots := 164, locals := 150 }) [.ref x.h] k e 2 164 (Int32.ofNat (e_ins e).p) (e_ins e) := by
  intro sz
  have tt := w.tt _ w.pb
  have htn := tt.nb
  have hsb := w.sb
  have hpb := w.pb
  have hn2 := w.n2
  have hcb := w.cb
  obtain ⟨l1, l2⟩ := e_lo_le w
  have hel : e_exl e (e_lo e) (e_hi e) e.sn = e.tn e.p - (e_hi e - e_lo e) + e.sn := rfl
  refine Met.ofW (cc := prog_1_method_4_code) (maxL := 3) (ret := some .int) (by decide) rfl ?_
  intro p en s m args below meth c s₁ B hml hv
  obtain ⟨rfl, hsz, hP, hK, hD0⟩ := hv
  have hx := B.exec
  have hb := B.bytes
  have hr := B.returns
  have hts := atoms_spec (ws := w_D_insert) B.pre
  have hown : s.vm.findClass "DraftTree" = some m.cls := findClass_of_methodNamed B.named
  have hlocks := B.notSynchronized
  subst hsz
  have hD := hD0.self (sz := s.heap.size)
  generalize hAe : va_A (KW x k e) s.heap.size = B9 at hD ⊢
  have hA : ∀ q : Nat, s.heap.size ≤ q → B9 q := fun q h => by rw [← hAe]; exact Or.inr h
  clear hAe
  have hS : va_S B9 s.heap s.heap [] := va_S.rf
  have hl := lv_entry ([.ref x.h]) (n := 3) (Nat.le_of_ble_eq_true rfl)
  rw [lg_entry_eq]
  generalize (lg_sl ([.ref x.h]) ++ List.replicate (3 - (lg_sl ([.ref x.h])).length) Slot.unset).toArray = ls at hl ⊢
  have hl : lv_has ls 3 [(0, .ref x.h)] := hl
  obtain ⟨it, hit⟩ := List.getElem?_of_mem (kE_in x k w.pb)
  refine lv_aload_n hx hb d_D_insert_0 rfl (lv_at hl 0 rfl) ?_
  have hFc := va_freeM (wc := KW x k e) hD hS hA (fun _ h9 => h9)
  refine va_calli (va_runV (As := []) (rest := []) ⟨hx, hb, hml, hown, hts⟩ (K_selS l x h w _) (cwV 0 hts (gd_v lk_507 lk_508 lk_509 lk_445 lk_493) rfl rfl rfl (by decide +kernel) ⟨Nat.le_of_ble_eq_true rfl, Nat.le_of_ble_eq_true rfl⟩) ⟨fun a U g mk q => by obtain ⟨q0, q1, qP, qK, qD⟩ := q; exact ⟨q0, q1, qP, va_K.moved (u := U) (U := U.calling g mk a) (Vm.Alike.refl U.vm) qK, qD⟩, va_recv (ci := 0) (q0 := 0) hK hP rfl rfl, fun U hU hW => ⟨rfl, by rw [hU], by rw [hU]; exact hP, va_K.moved hW.alike hK, hD.weaken (fun _ _ _ _ => trivial)⟩⟩ rfl rfl hl.1 rfl (lv_room (Nat.le_of_ble_eq_true rfl)) d_D_insert_1 ⟨Nat.le_of_ble_eq_true rfl, Nat.le_of_ble_eq_true rfl⟩) hS (fun q _ h => hFc q h) hFc (fun r9 kn t H1 locs ht hvm hw hB hz1 hk1 hS => ?_)
  obtain ⟨hP1, hD1⟩ := hB
  rw [ht] at hP1
  have hP := hP1
  have hD := hD1.weaken (fun _ q _ h => hFc q.1 h)
  clear hP1 hD1 hFc hk1 hz1
  subst hw
  refine lv_istore_n (lv' := [(1, .int (Int32.ofNat (e_lo e))), (0, .ref x.h)]) hx hb d_D_insert_4 rfl hl (by decide) rfl (fun ls hl => ?_)
  have hl : lv_has ls 3 [(1, .int (Int32.ofNat (e_lo e))), (0, .ref x.h)] := hl
  refine lv_aload_n hx hb d_D_insert_5 rfl (lv_at hl 1 rfl) ?_
  have hFc := va_freeM (wc := KW x k e) hD hS hA (fun _ h9 => h9)
  refine va_calli (va_runV (As := []) (rest := []) ⟨hx, hb, hml, hown, hts⟩ (K_selE l x h w _) (cwV 0 hts (gd_v lk_510 lk_511 lk_512 lk_445 lk_489) rfl rfl rfl (by decide +kernel) ⟨Nat.le_of_ble_eq_true rfl, Nat.le_of_ble_eq_true rfl⟩) ⟨fun a U g mk q => by obtain ⟨q0, q1, qP, qK, qD⟩ := q; exact ⟨q0, q1, qP, va_K.moved (u := U) (U := U.calling g mk a) (Vm.Alike.refl U.vm) qK, qD⟩, va_recv (ci := 0) (q0 := 0) hK hP rfl rfl, fun U hU hW => ⟨rfl, by rw [hU], by rw [hU]; exact hP, va_K.moved hW.alike hK, hD.weaken (fun _ _ _ _ => trivial)⟩⟩ rfl rfl hl.1 rfl (lv_room (Nat.le_of_ble_eq_true rfl)) d_D_insert_6 ⟨Nat.le_of_ble_eq_true rfl, Nat.le_of_ble_eq_true rfl⟩) hS (fun q _ h => hFc q h) hFc (fun r9 kn t H1 locs ht hvm hw hB hz1 hk1 hS => ?_)
  obtain ⟨hP1, hD1⟩ := hB
  rw [ht] at hP1
  have hP := hP1
  have hD := hD1.weaken (fun _ q _ h => hFc q.1 h)
  clear hP1 hD1 hFc hk1 hz1
  subst hw
  refine lv_istore_n (lv' := [(2, .int (Int32.ofNat (e_hi e))), (1, .int (Int32.ofNat (e_lo e))), (0, .ref x.h)]) hx hb d_D_insert_9 rfl hl (by decide) rfl (fun ls hl => ?_)
  have hl : lv_has ls 3 [(2, .int (Int32.ofNat (e_hi e))), (1, .int (Int32.ofNat (e_lo e))), (0, .ref x.h)] := hl
  refine lv_aload_n hx hb d_D_insert_10 rfl (lv_at hl 2 rfl) ?_
  refine va_get (D := x.D) (ci := 0) (v := .int (k.I 3)) (C := R_D) (T := F_D) (N := 14) hx hb hts (fun w h => List.mem_cons_of_mem _ (in_D w h)) hown hK hP 0 rfl rfl 3 (by decide) (hts _ (List.mem_cons_of_mem _ lk_437)) (fun _ h9 => h9) rfl d_D_insert_11 ?_
  refine wk_top (w := .int (Int32.ofNat e.n)) (congrArg _ h.hn) ?_
  refine lv_bipush (v := 40) hx hb d_D_insert_14 (by decide) ?_
  refine lv_icmp_eq (tgt := 39) hx hb d_D_insert_16 (by decide) (fun hc => ?_) (fun hc => ?_)
  ·
    exact absurd ((pn_eqN (b := 40) (by clear w tt h; omega) (by decide)).mp hc) hn
  ·
    refine lv_aload_n hx hb d_D_insert_19 rfl (lv_at hl 2 rfl) ?_
    refine va_get (D := x.D) (ci := 0) (v := .ref (k.ta e.p)) (C := R_D) (T := F_D) (N := 14) hx hb hts (fun w h => List.mem_cons_of_mem _ (in_D w h)) hown hK hP 0 rfl rfl 5 (by decide) (hts _ (List.mem_cons_of_mem _ lk_242)) (fun _ h9 => h9) rfl d_D_insert_20 ?_
    refine va_alen (v := Int32.ofNat (e.tn e.p)) hx hb hK hP it 0 hit rfl rfl d_D_insert_23 ?_
    refine lv_iload_n hx hb d_D_insert_24 rfl (lv_at hl 0 rfl) ?_
    refine lv_iload_n hx hb d_D_insert_25 rfl (lv_at hl 1 rfl) ?_
    refine lv_isub hx hb d_D_insert_26 ?_
    refine lv_isub hx hb d_D_insert_27 ?_
    refine lv_aload_n hx hb d_D_insert_28 rfl (lv_at hl 2 rfl) ?_
    refine va_get (D := x.D) (ci := 0) (v := .int (k.I 1)) (C := R_D) (T := F_D) (N := 14) hx hb hts (fun w h => List.mem_cons_of_mem _ (in_D w h)) hown hK hP 0 rfl rfl 1 (by decide) (hts _ (List.mem_cons_of_mem _ lk_313)) (fun _ h9 => h9) rfl d_D_insert_29 ?_
    refine wk_top (w := .int (Int32.ofNat e.sn)) (congrArg _ h.s1) ?_
    refine lv_iadd hx hb d_D_insert_32 ?_
    refine wk_top (w := .int (Int32.ofNat (e_exl e (e_lo e) (e_hi e) e.sn))) (congrArg _ (by rw [pn_sub l1, pn_sub (show e_hi e - e_lo e ≤ e.tn e.p by clear w tt h; omega), pn_add, hel])) ?_
    refine lv_sipush (v := 160) hx hb d_D_insert_33 (by decide) ?_
    refine lv_icmp_le (tgt := 47) hx hb d_D_insert_36 (by decide) (fun hc => ?_) (fun hc => ?_)
    ·
      refine lv_iload_n hx hb d_D_insert_47 rfl (lv_at hl 1 rfl) ?_
      refine lv_iload_n hx hb d_D_insert_48 rfl (lv_at hl 0 rfl) ?_
      refine lv_icmp_lt (tgt := 59) hx hb d_D_insert_49 (by decide) (fun hc => ?_) (fun hc => ?_)
      ·
        have hlt := (pn_lt (by clear w tt h; omega) (by clear w tt h; omega)).mp hc
        refine lv_aload_n hx hb d_D_insert_59 rfl (lv_at hl 2 rfl) ?_
        refine lv_iload_n hx hb d_D_insert_60 rfl (lv_at hl 1 rfl) ?_
        refine lv_iload_n hx hb d_D_insert_61 rfl (lv_at hl 0 rfl) ?_
        refine lv_aload_n hx hb d_D_insert_62 rfl (lv_at hl 2 rfl) ?_
        refine va_get (D := x.D) (ci := 0) (v := .int (k.I 1)) (C := R_D) (T := F_D) (N := 14) hx hb hts (fun w h => List.mem_cons_of_mem _ (in_D w h)) hown hK hP 0 rfl rfl 1 (by decide) (hts _ (List.mem_cons_of_mem _ lk_313)) (fun _ h9 => h9) rfl d_D_insert_63 ?_
        refine wk_top (w := .int (Int32.ofNat e.sn)) (congrArg _ h.s1) ?_
        have hFc := va_freeM (wc := KW x k e) hD hS hA (fun _ h9 => h9)
        refine va_callv (va_runV (As := [.int (Int32.ofNat (e_lo e)), .int (Int32.ofNat (e_hi e)), .int (Int32.ofNat e.sn)]) (rest := []) ⟨hx, hb, hml, hown, hts⟩ (K_exchange l x h w (show e.n < 40 by clear w tt h; omega) l1 l2 (Nat.le_refl _) hx160 _) (cwV 3 hts (gd_v lk_514 lk_515 lk_516 lk_445 lk_513) rfl rfl rfl (by decide +kernel) ⟨Nat.le_of_ble_eq_true rfl, Nat.le_of_ble_eq_true rfl⟩) ⟨fun a U g mk q => by obtain ⟨q0, q1, qP, qK, qD⟩ := q; exact ⟨q0, q1, qP, va_K.moved (u := U) (U := U.calling g mk a) (Vm.Alike.refl U.vm) qK, qD⟩, va_recv (ci := 0) (q0 := 0) hK hP rfl rfl, fun U hU hW => ⟨rfl, by rw [hU], by rw [hU]; exact hP, va_K.moved hW.alike hK, hD.weaken (fun _ _ _ _ => trivial)⟩⟩ rfl rfl hl.1 rfl (lv_room (Nat.le_of_ble_eq_true rfl)) d_D_insert_66 ⟨Nat.le_of_ble_eq_true rfl, Nat.le_of_ble_eq_true rfl⟩) hS (fun q _ h => hFc q h) hFc (fun kn t H1 locs ht hvm hw hB hz1 hk1 hS => ?_)
        obtain ⟨hP1, hD1⟩ := hB
        rw [ht] at hP1
        have hP := hP1
        have hD := hD1.weaken (fun _ q _ h => hFc q.1 h)
        clear hP1 hD1 hFc hk1 hz1
        refine W.cs (cells' := 2) (slots' := 164) rfl rfl ?_
        have he : e_ins e = e_sn (e_edit e (e_exl e (e_lo e) (e_hi e) e.sn) (e_ext e (e_lo e) (e_hi e) e.sn) (e_lo e + e.sn)) 0 := by
          unfold e_ins
          rw [if_pos (show e_edits e = true from decide_eq_true (Or.inl hlt)), if_neg (show ¬ e_full e = true from fun z => by have := of_decide_eq_true z; clear w tt h; omega)]
        generalize e_edit e (e_exl e (e_lo e) (e_hi e) e.sn) (e_ext e (e_lo e) (e_hi e) e.sn) (e_lo e + e.sn) = e1 at hP hD hw he
        refine lv_aload_n hx hb d_D_insert_69 rfl (lv_at hl 2 rfl) ?_
        refine lv_iconst (v := 0) hx hb d_D_insert_70 (by decide) ?_
        refine va_put (D := x.D) (ci := 0) (v := .int 0) (ty := .int) (C := R_D) (T := F_D) (N := 14) hx hb hts (fun w h => List.mem_cons_of_mem _ (in_D w h)) t_D tk_D n_D hown hK hP hD hS 0 rfl rfl 1 (by decide) (hts _ (List.mem_cons_of_mem _ lk_313)) (fun _ h9 => h9) rfl (by decide +kernel) rfl rfl (Nat.le_of_ble_eq_true rfl) d_D_insert_71 (fun H locs hP hD hS => ?_)
        have hP : va_P x.D vwCl (KW x (kn.dw (upd kn.I 1 0) kn.A kn.M kn.MB kn.L) e1) H := hP
        have hD : va_D B9 (KW x (kn.dw (upd kn.I 1 0) kn.A kn.M kn.MB kn.L) e1) := hD
        rw [← KW_same x _ (show SameT (e_sn e1 0) e1 from ⟨rfl, rfl, rfl, rfl, rfl, rfl, rfl⟩), ← he] at hP hD
        have hC := (C_wipe hw 0 (fun _ => 0)).2
        rw [← he] at hC
        generalize kn.dw (upd kn.I 1 0) kn.A kn.M kn.MB kn.L = k2 at hP hD hC
        refine lv_aload_n hx hb d_D_insert_74 rfl (lv_at hl 2 rfl) ?_
        refine va_get (D := x.D) (ci := 0) (v := .int (k2.I 4)) (C := R_D) (T := F_D) (N := 14) hx hb hts (fun w h => List.mem_cons_of_mem _ (in_D w h)) hown hK hP 0 rfl rfl 4 (by decide) (hts _ (List.mem_cons_of_mem _ lk_436)) (fun _ h9 => h9) rfl d_D_insert_75 ?_
        refine wk_top (w := .int (Int32.ofNat (e_ins e).p)) (congrArg _ hC.hp) ?_
        exact W.iret (v := Int32.ofNat (e_ins e).p) hx hb hr (fun t ht hW => ⟨⟨_, k2, rfl, ⟨rfl, hC⟩, by rw [ht]; exact hP, hD⟩, hS.F ht⟩) hS.2.2 d_D_insert_78
      ·
        have hlt := fun z => hc ((pn_lt (by clear w tt h; omega) (by clear w tt h; omega)).mpr z)
        refine lv_aload_n hx hb d_D_insert_52 rfl (lv_at hl 2 rfl) ?_
        refine va_get (D := x.D) (ci := 0) (v := .int (k.I 1)) (C := R_D) (T := F_D) (N := 14) hx hb hts (fun w h => List.mem_cons_of_mem _ (in_D w h)) hown hK hP 0 rfl rfl 1 (by decide) (hts _ (List.mem_cons_of_mem _ lk_313)) (fun _ h9 => h9) rfl d_D_insert_53 ?_
        refine wk_top (w := .int (Int32.ofNat e.sn)) (congrArg _ h.s1) ?_
        refine lv_if_le (tgt := 74) hx hb d_D_insert_56 (by decide) (fun hc => ?_) (fun hc => ?_)
        ·
          have h0 : e.sn ≤ 0 := (pn_le (b := 0) (by clear w tt h; omega) (by decide)).mp hc
          have he : e_ins e = e := by
            unfold e_ins
            rw [if_neg (show ¬ e_edits e = true from fun z => by have := of_decide_eq_true z; exact this.elim hlt (fun z => absurd h0 (Nat.not_le_of_lt z)))]
          rw [he]
          refine lv_aload_n hx hb d_D_insert_74 rfl (lv_at hl 2 rfl) ?_
          refine va_get (D := x.D) (ci := 0) (v := .int (k.I 4)) (C := R_D) (T := F_D) (N := 14) hx hb hts (fun w h => List.mem_cons_of_mem _ (in_D w h)) hown hK hP 0 rfl rfl 4 (by decide) (hts _ (List.mem_cons_of_mem _ lk_436)) (fun _ h9 => h9) rfl d_D_insert_75 ?_
          refine wk_top (w := .int (Int32.ofNat e.p)) (congrArg _ h.hp) ?_
          refine W.widen (k := 2) (n := 164) (Nat.le_of_ble_eq_true rfl) (Nat.le_of_ble_eq_true rfl) ?_
          exact W.iret (v := Int32.ofNat e.p) hx hb hr (fun t ht hW => ⟨⟨_, k, rfl, ⟨rfl, h⟩, by rw [ht]; exact hP, hD⟩, hS.F ht⟩) hS.2.2 d_D_insert_78
        ·
          have h0 : 0 < e.sn := Nat.lt_of_not_le (fun z => hc ((pn_le (b := 0) (by clear w tt h; omega) (by decide)).mpr z))
          refine lv_aload_n hx hb d_D_insert_59 rfl (lv_at hl 2 rfl) ?_
          refine lv_iload_n hx hb d_D_insert_60 rfl (lv_at hl 1 rfl) ?_
          refine lv_iload_n hx hb d_D_insert_61 rfl (lv_at hl 0 rfl) ?_
          refine lv_aload_n hx hb d_D_insert_62 rfl (lv_at hl 2 rfl) ?_
          refine va_get (D := x.D) (ci := 0) (v := .int (k.I 1)) (C := R_D) (T := F_D) (N := 14) hx hb hts (fun w h => List.mem_cons_of_mem _ (in_D w h)) hown hK hP 0 rfl rfl 1 (by decide) (hts _ (List.mem_cons_of_mem _ lk_313)) (fun _ h9 => h9) rfl d_D_insert_63 ?_
          refine wk_top (w := .int (Int32.ofNat e.sn)) (congrArg _ h.s1) ?_
          have hFc := va_freeM (wc := KW x k e) hD hS hA (fun _ h9 => h9)
          refine va_callv (va_runV (As := [.int (Int32.ofNat (e_lo e)), .int (Int32.ofNat (e_hi e)), .int (Int32.ofNat e.sn)]) (rest := []) ⟨hx, hb, hml, hown, hts⟩ (K_exchange l x h w (show e.n < 40 by clear w tt h; omega) l1 l2 (Nat.le_refl _) hx160 _) (cwV 3 hts (gd_v lk_514 lk_515 lk_516 lk_445 lk_513) rfl rfl rfl (by decide +kernel) ⟨Nat.le_of_ble_eq_true rfl, Nat.le_of_ble_eq_true rfl⟩) ⟨fun a U g mk q => by obtain ⟨q0, q1, qP, qK, qD⟩ := q; exact ⟨q0, q1, qP, va_K.moved (u := U) (U := U.calling g mk a) (Vm.Alike.refl U.vm) qK, qD⟩, va_recv (ci := 0) (q0 := 0) hK hP rfl rfl, fun U hU hW => ⟨rfl, by rw [hU], by rw [hU]; exact hP, va_K.moved hW.alike hK, hD.weaken (fun _ _ _ _ => trivial)⟩⟩ rfl rfl hl.1 rfl (lv_room (Nat.le_of_ble_eq_true rfl)) d_D_insert_66 ⟨Nat.le_of_ble_eq_true rfl, Nat.le_of_ble_eq_true rfl⟩) hS (fun q _ h => hFc q h) hFc (fun kn t H1 locs ht hvm hw hB hz1 hk1 hS => ?_)
          obtain ⟨hP1, hD1⟩ := hB
          rw [ht] at hP1
          have hP := hP1
          have hD := hD1.weaken (fun _ q _ h => hFc q.1 h)
          clear hP1 hD1 hFc hk1 hz1
          refine W.cs (cells' := 2) (slots' := 164) rfl rfl ?_
          have he : e_ins e = e_sn (e_edit e (e_exl e (e_lo e) (e_hi e) e.sn) (e_ext e (e_lo e) (e_hi e) e.sn) (e_lo e + e.sn)) 0 := by
            unfold e_ins
            rw [if_pos (show e_edits e = true from decide_eq_true (Or.inr h0)), if_neg (show ¬ e_full e = true from fun z => by have := of_decide_eq_true z; clear w tt h; omega)]
          generalize e_edit e (e_exl e (e_lo e) (e_hi e) e.sn) (e_ext e (e_lo e) (e_hi e) e.sn) (e_lo e + e.sn) = e1 at hP hD hw he
          refine lv_aload_n hx hb d_D_insert_69 rfl (lv_at hl 2 rfl) ?_
          refine lv_iconst (v := 0) hx hb d_D_insert_70 (by decide) ?_
          refine va_put (D := x.D) (ci := 0) (v := .int 0) (ty := .int) (C := R_D) (T := F_D) (N := 14) hx hb hts (fun w h => List.mem_cons_of_mem _ (in_D w h)) t_D tk_D n_D hown hK hP hD hS 0 rfl rfl 1 (by decide) (hts _ (List.mem_cons_of_mem _ lk_313)) (fun _ h9 => h9) rfl (by decide +kernel) rfl rfl (Nat.le_of_ble_eq_true rfl) d_D_insert_71 (fun H locs hP hD hS => ?_)
          have hP : va_P x.D vwCl (KW x (kn.dw (upd kn.I 1 0) kn.A kn.M kn.MB kn.L) e1) H := hP
          have hD : va_D B9 (KW x (kn.dw (upd kn.I 1 0) kn.A kn.M kn.MB kn.L) e1) := hD
          rw [← KW_same x _ (show SameT (e_sn e1 0) e1 from ⟨rfl, rfl, rfl, rfl, rfl, rfl, rfl⟩), ← he] at hP hD
          have hC := (C_wipe hw 0 (fun _ => 0)).2
          rw [← he] at hC
          generalize kn.dw (upd kn.I 1 0) kn.A kn.M kn.MB kn.L = k2 at hP hD hC
          refine lv_aload_n hx hb d_D_insert_74 rfl (lv_at hl 2 rfl) ?_
          refine va_get (D := x.D) (ci := 0) (v := .int (k2.I 4)) (C := R_D) (T := F_D) (N := 14) hx hb hts (fun w h => List.mem_cons_of_mem _ (in_D w h)) hown hK hP 0 rfl rfl 4 (by decide) (hts _ (List.mem_cons_of_mem _ lk_436)) (fun _ h9 => h9) rfl d_D_insert_75 ?_
          refine wk_top (w := .int (Int32.ofNat (e_ins e).p)) (congrArg _ hC.hp) ?_
          exact W.iret (v := Int32.ofNat (e_ins e).p) hx hb hr (fun t ht hW => ⟨⟨_, k2, rfl, ⟨rfl, hC⟩, by rw [ht]; exact hP, hD⟩, hS.F ht⟩) hS.2.2 d_D_insert_78
    ·
      exact absurd ((pn_le (b := 160) (by clear w tt h; omega) (by decide)).mpr hx160) hc
set_option maxHeartbeats 8000000 in
set_option maxRecDepth 100000 in
theorem Kt_insert (l : Launch) (hfl : l.flags = flags0) (x : FX) {k : CK} {e : ES} (h : CRel e k) (w : EWf e) (hbad : e.n = 40 ∨ 160 < e_exl e (e_lo e) (e_hi e) e.sn) : KThr l x y_D_insert w_D_insert ({ frames := 6, cells := 1, slots := 6, locals := 120 }) [.ref x.h] k e 1 6 "java/lang/IllegalStateException" e := by
  refine ⟨k, h, fun sz => ?_⟩
  have tt := w.tt _ w.pb
  have htn := tt.nb
  have hsb := w.sb
  have hpb := w.pb
  have hn2 := w.n2
  have hcb := w.cb
  obtain ⟨l1, l2⟩ := e_lo_le w
  have hel : e_exl e (e_lo e) (e_hi e) e.sn = e.tn e.p - (e_hi e - e_lo e) + e.sn := rfl
  refine th_Met.ofW (cc := prog_1_method_4_code) (maxL := 3) (ret := some .int) (by decide) rfl ?_
  intro p en s m args below meth c s₁ B hml hnh hv
  obtain ⟨rfl, hsz, hP, hK, hD0, hZ⟩ := hv
  have hx := B.exec
  have hb := B.bytes
  have hr := B.returns
  have hts := atoms_spec (ws := w_D_insert) B.pre
  have hown : s.vm.findClass "DraftTree" = some m.cls := findClass_of_methodNamed B.named
  have hlocks := B.notSynchronized
  have htr := Launch.traces_off hfl B.admits
  subst hsz
  have hD := hD0.self (sz := s.heap.size)
  generalize hAe : va_A (KW x k e) s.heap.size = B9 at hD hZ ⊢
  have hA : ∀ q : Nat, s.heap.size ≤ q → B9 q := fun q h => by rw [← hAe]; exact Or.inr h
  clear hAe
  have hS : va_S B9 s.heap s.heap [] := va_S.rf
  have hl := lv_entry ([.ref x.h]) (n := 3) (Nat.le_of_ble_eq_true rfl)
  rw [lg_entry_eq]
  generalize (lg_sl ([.ref x.h]) ++ List.replicate (3 - (lg_sl ([.ref x.h])).length) Slot.unset).toArray = ls at hl ⊢
  have hl : lv_has ls 3 [(0, .ref x.h)] := hl
  obtain ⟨it, hit⟩ := List.getElem?_of_mem (kE_in x k w.pb)
  refine lv_aload_n hx hb d_D_insert_0 rfl (lv_at hl 0 rfl) ?_
  have hFc := va_freeM (wc := KW x k e) hD hS hA (fun _ h9 => h9)
  refine va_calli (va_runV (As := []) (rest := []) ⟨hx, hb, hml, hown, hts⟩ (K_selS l x h w _) (cwV 0 hts (gd_v lk_507 lk_508 lk_509 lk_445 lk_493) rfl rfl rfl (by decide +kernel) ⟨Nat.le_of_ble_eq_true rfl, Nat.le_of_ble_eq_true rfl⟩) ⟨fun a U g mk q => by obtain ⟨q0, q1, qP, qK, qD⟩ := q; exact ⟨q0, q1, qP, va_K.moved (u := U) (U := U.calling g mk a) (Vm.Alike.refl U.vm) qK, qD⟩, va_recv (ci := 0) (q0 := 0) hK hP rfl rfl, fun U hU hW => ⟨rfl, by rw [hU], by rw [hU]; exact hP, va_K.moved hW.alike hK, hD.weaken (fun _ _ _ _ => trivial)⟩⟩ rfl rfl hl.1 rfl (lv_room (Nat.le_of_ble_eq_true rfl)) d_D_insert_1 ⟨Nat.le_of_ble_eq_true rfl, Nat.le_of_ble_eq_true rfl⟩) hS (fun q _ h => hFc q h) hFc (fun r9 kn t H1 locs ht hvm hw hB hz1 hk1 hS => ?_)
  obtain ⟨hP1, hD1⟩ := hB
  rw [ht] at hP1
  have hP := hP1
  have hD := hD1.weaken (fun _ q _ h => hFc q.1 h)
  clear hP1 hD1 hFc hk1 hz1
  subst hw
  refine lv_istore_n (lv' := [(1, .int (Int32.ofNat (e_lo e))), (0, .ref x.h)]) hx hb d_D_insert_4 rfl hl (by decide) rfl (fun ls hl => ?_)
  have hl : lv_has ls 3 [(1, .int (Int32.ofNat (e_lo e))), (0, .ref x.h)] := hl
  refine lv_aload_n hx hb d_D_insert_5 rfl (lv_at hl 1 rfl) ?_
  have hFc := va_freeM (wc := KW x k e) hD hS hA (fun _ h9 => h9)
  refine va_calli (va_runV (As := []) (rest := []) ⟨hx, hb, hml, hown, hts⟩ (K_selE l x h w _) (cwV 0 hts (gd_v lk_510 lk_511 lk_512 lk_445 lk_489) rfl rfl rfl (by decide +kernel) ⟨Nat.le_of_ble_eq_true rfl, Nat.le_of_ble_eq_true rfl⟩) ⟨fun a U g mk q => by obtain ⟨q0, q1, qP, qK, qD⟩ := q; exact ⟨q0, q1, qP, va_K.moved (u := U) (U := U.calling g mk a) (Vm.Alike.refl U.vm) qK, qD⟩, va_recv (ci := 0) (q0 := 0) hK hP rfl rfl, fun U hU hW => ⟨rfl, by rw [hU], by rw [hU]; exact hP, va_K.moved hW.alike hK, hD.weaken (fun _ _ _ _ => trivial)⟩⟩ rfl rfl hl.1 rfl (lv_room (Nat.le_of_ble_eq_true rfl)) d_D_insert_6 ⟨Nat.le_of_ble_eq_true rfl, Nat.le_of_ble_eq_true rfl⟩) hS (fun q _ h => hFc q h) hFc (fun r9 kn t H1 locs ht hvm hw hB hz1 hk1 hS => ?_)
  obtain ⟨hP1, hD1⟩ := hB
  rw [ht] at hP1
  have hP := hP1
  have hD := hD1.weaken (fun _ q _ h => hFc q.1 h)
  clear hP1 hD1 hFc hk1 hz1
  subst hw
  refine lv_istore_n (lv' := [(2, .int (Int32.ofNat (e_hi e))), (1, .int (Int32.ofNat (e_lo e))), (0, .ref x.h)]) hx hb d_D_insert_9 rfl hl (by decide) rfl (fun ls hl => ?_)
  have hl : lv_has ls 3 [(2, .int (Int32.ofNat (e_hi e))), (1, .int (Int32.ofNat (e_lo e))), (0, .ref x.h)] := hl
  refine lv_aload_n hx hb d_D_insert_10 rfl (lv_at hl 2 rfl) ?_
  refine va_get (D := x.D) (ci := 0) (v := .int (k.I 3)) (C := R_D) (T := F_D) (N := 14) hx hb hts (fun w h => List.mem_cons_of_mem _ (in_D w h)) hown hK hP 0 rfl rfl 3 (by decide) (hts _ (List.mem_cons_of_mem _ lk_437)) (fun _ h9 => h9) rfl d_D_insert_11 ?_
  refine wk_top (w := .int (Int32.ofNat e.n)) (congrArg _ h.hn) ?_
  refine lv_bipush (v := 40) hx hb d_D_insert_14 (by decide) ?_
  refine lv_icmp_eq (tgt := 39) hx hb d_D_insert_16 (by decide) (fun hc => ?_) (fun hc => ?_)
  ·
    exact th_newG hx hb htr hown (by decide) (by decide) (wk_thr hts hZ hS lk_446 lk_447 (fun _ a9 b9 => oa_2 a9 b9)) hnh (by rw [hl.1, hml]) hS (Nat.le_of_ble_eq_true rfl) (Nat.le_of_ble_eq_true rfl) (Nat.le_of_ble_eq_true rfl) (Nat.le_of_ble_eq_true rfl) (Nat.le_of_ble_eq_true rfl) (Nat.le_of_ble_eq_true rfl) hlocks (fun t hal hk => ⟨hP.kept (fun k q hq => hk _ (hP k q hq).lt), hD⟩) d_D_insert_39 d_D_insert_42 d_D_insert_43 d_D_insert_46
  ·
    refine lv_aload_n hx hb d_D_insert_19 rfl (lv_at hl 2 rfl) ?_
    refine va_get (D := x.D) (ci := 0) (v := .ref (k.ta e.p)) (C := R_D) (T := F_D) (N := 14) hx hb hts (fun w h => List.mem_cons_of_mem _ (in_D w h)) hown hK hP 0 rfl rfl 5 (by decide) (hts _ (List.mem_cons_of_mem _ lk_242)) (fun _ h9 => h9) rfl d_D_insert_20 ?_
    refine va_alen (v := Int32.ofNat (e.tn e.p)) hx hb hK hP it 0 hit rfl rfl d_D_insert_23 ?_
    refine lv_iload_n hx hb d_D_insert_24 rfl (lv_at hl 0 rfl) ?_
    refine lv_iload_n hx hb d_D_insert_25 rfl (lv_at hl 1 rfl) ?_
    refine lv_isub hx hb d_D_insert_26 ?_
    refine lv_isub hx hb d_D_insert_27 ?_
    refine lv_aload_n hx hb d_D_insert_28 rfl (lv_at hl 2 rfl) ?_
    refine va_get (D := x.D) (ci := 0) (v := .int (k.I 1)) (C := R_D) (T := F_D) (N := 14) hx hb hts (fun w h => List.mem_cons_of_mem _ (in_D w h)) hown hK hP 0 rfl rfl 1 (by decide) (hts _ (List.mem_cons_of_mem _ lk_313)) (fun _ h9 => h9) rfl d_D_insert_29 ?_
    refine wk_top (w := .int (Int32.ofNat e.sn)) (congrArg _ h.s1) ?_
    refine lv_iadd hx hb d_D_insert_32 ?_
    refine wk_top (w := .int (Int32.ofNat (e_exl e (e_lo e) (e_hi e) e.sn))) (congrArg _ (by rw [pn_sub l1, pn_sub (show e_hi e - e_lo e ≤ e.tn e.p by clear w tt h; omega), pn_add, hel])) ?_
    refine lv_sipush (v := 160) hx hb d_D_insert_33 (by decide) ?_
    refine lv_icmp_le (tgt := 47) hx hb d_D_insert_36 (by decide) (fun hc => ?_) (fun hc => ?_)
    ·
      have a1 : e_exl e (e_lo e) (e_hi e) e.sn ≤ 160 := (pn_le (b := 160) (by clear w tt h; omega) (by decide)).mp hc
      rename_i hc0
      rcases hbad with z | z
      · exact absurd (show Int32.ofNat e.n = 40 by rw [z]; rfl) hc0
      · exact absurd a1 (by clear w tt h; omega)
    ·
      exact th_newG hx hb htr hown (by decide) (by decide) (wk_thr hts hZ hS lk_446 lk_447 (fun _ a9 b9 => oa_2 a9 b9)) hnh (by rw [hl.1, hml]) hS (Nat.le_of_ble_eq_true rfl) (Nat.le_of_ble_eq_true rfl) (Nat.le_of_ble_eq_true rfl) (Nat.le_of_ble_eq_true rfl) (Nat.le_of_ble_eq_true rfl) (Nat.le_of_ble_eq_true rfl) hlocks (fun t hal hk => ⟨hP.kept (fun k q hq => hk _ (hP k q hq).lt), hD⟩) d_D_insert_39 d_D_insert_42 d_D_insert_43 d_D_insert_46
set_option maxHeartbeats 8000000 in
set_option maxRecDepth 100000 in
theorem K_erase (l : Launch) (x : FX) {k : CK} {e : ES} (h : CRel e k) (w : EWf e) {k1 : Int32} (hok : e_ea e k1 < e_eb e k1 → e.n ≠ 40) : KRetI l x y_D_erase w_D_erase ({ frames := 5, cells := 2, slots := 164, locals := 150 }) [.ref x.h, .int k1] k e 2 164 (Int32.ofNat (e_eb e k1 - e_ea e k1)) (e_era e k1) := by
  intro sz
  have tt := w.tt _ w.pb
  have htn := tt.nb
  have hsb := w.sb
  have hpb := w.pb
  have hn2 := w.n2
  have hcb := w.cb
  obtain ⟨l1, l2⟩ := e_lo_le w
  obtain ⟨a1, a2⟩ := e_ea_le w k1
  have hel : e_exl e (e_ea e k1) (e_eb e k1) 0 = e.tn e.p - (e_eb e k1 - e_ea e k1) + 0 := rfl
  refine Met.ofW (cc := prog_1_method_5_code) (maxL := 4) (ret := some .int) (by decide) rfl ?_
  intro p en s m args below meth c s₁ B hml hv
  obtain ⟨rfl, hsz, hP, hK, hD0⟩ := hv
  have hx := B.exec
  have hb := B.bytes
  have hr := B.returns
  have hts := atoms_spec (ws := w_D_erase) B.pre
  have hown : s.vm.findClass "DraftTree" = some m.cls := findClass_of_methodNamed B.named
  have hlocks := B.notSynchronized
  subst hsz
  have hD := hD0.self (sz := s.heap.size)
  generalize hAe : va_A (KW x k e) s.heap.size = B9 at hD ⊢
  have hA : ∀ q : Nat, s.heap.size ≤ q → B9 q := fun q h => by rw [← hAe]; exact Or.inr h
  clear hAe
  have hS : va_S B9 s.heap s.heap [] := va_S.rf
  have hl := lv_entry ([.ref x.h, .int k1]) (n := 4) (Nat.le_of_ble_eq_true rfl)
  rw [lg_entry_eq]
  generalize (lg_sl ([.ref x.h, .int k1]) ++ List.replicate (4 - (lg_sl ([.ref x.h, .int k1])).length) Slot.unset).toArray = ls at hl ⊢
  have hl : lv_has ls 4 [(0, .ref x.h), (1, .int k1)] := hl
  obtain ⟨it, hit⟩ := List.getElem?_of_mem (kE_in x k w.pb)
  refine lv_aload_n hx hb d_D_erase_0 rfl (lv_at hl 0 rfl) ?_
  have hFc := va_freeM (wc := KW x k e) hD hS hA (fun _ h9 => h9)
  refine va_calli (va_runV (As := []) (rest := []) ⟨hx, hb, hml, hown, hts⟩ (K_selS l x h w _) (cwV 0 hts (gd_v lk_507 lk_508 lk_509 lk_445 lk_493) rfl rfl rfl (by decide +kernel) ⟨Nat.le_of_ble_eq_true rfl, Nat.le_of_ble_eq_true rfl⟩) ⟨fun a U g mk q => by obtain ⟨q0, q1, qP, qK, qD⟩ := q; exact ⟨q0, q1, qP, va_K.moved (u := U) (U := U.calling g mk a) (Vm.Alike.refl U.vm) qK, qD⟩, va_recv (ci := 0) (q0 := 0) hK hP rfl rfl, fun U hU hW => ⟨rfl, by rw [hU], by rw [hU]; exact hP, va_K.moved hW.alike hK, hD.weaken (fun _ _ _ _ => trivial)⟩⟩ rfl rfl hl.1 rfl (lv_room (Nat.le_of_ble_eq_true rfl)) d_D_erase_1 ⟨Nat.le_of_ble_eq_true rfl, Nat.le_of_ble_eq_true rfl⟩) hS (fun q _ h => hFc q h) hFc (fun r9 kn t H1 locs ht hvm hw hB hz1 hk1 hS => ?_)
  obtain ⟨hP1, hD1⟩ := hB
  rw [ht] at hP1
  have hP := hP1
  have hD := hD1.weaken (fun _ q _ h => hFc q.1 h)
  clear hP1 hD1 hFc hk1 hz1
  subst hw
  refine lv_istore_n (lv' := [(2, .int (Int32.ofNat (e_lo e))), (0, .ref x.h), (1, .int k1)]) hx hb d_D_erase_4 rfl hl (by decide) rfl (fun ls hl => ?_)
  have hl : lv_has ls 4 [(2, .int (Int32.ofNat (e_lo e))), (0, .ref x.h), (1, .int k1)] := hl
  refine lv_aload_n hx hb d_D_erase_5 rfl (lv_at hl 1 rfl) ?_
  have hFc := va_freeM (wc := KW x k e) hD hS hA (fun _ h9 => h9)
  refine va_calli (va_runV (As := []) (rest := []) ⟨hx, hb, hml, hown, hts⟩ (K_selE l x h w _) (cwV 0 hts (gd_v lk_510 lk_511 lk_512 lk_445 lk_489) rfl rfl rfl (by decide +kernel) ⟨Nat.le_of_ble_eq_true rfl, Nat.le_of_ble_eq_true rfl⟩) ⟨fun a U g mk q => by obtain ⟨q0, q1, qP, qK, qD⟩ := q; exact ⟨q0, q1, qP, va_K.moved (u := U) (U := U.calling g mk a) (Vm.Alike.refl U.vm) qK, qD⟩, va_recv (ci := 0) (q0 := 0) hK hP rfl rfl, fun U hU hW => ⟨rfl, by rw [hU], by rw [hU]; exact hP, va_K.moved hW.alike hK, hD.weaken (fun _ _ _ _ => trivial)⟩⟩ rfl rfl hl.1 rfl (lv_room (Nat.le_of_ble_eq_true rfl)) d_D_erase_6 ⟨Nat.le_of_ble_eq_true rfl, Nat.le_of_ble_eq_true rfl⟩) hS (fun q _ h => hFc q h) hFc (fun r9 kn t H1 locs ht hvm hw hB hz1 hk1 hS => ?_)
  obtain ⟨hP1, hD1⟩ := hB
  rw [ht] at hP1
  have hP := hP1
  have hD := hD1.weaken (fun _ q _ h => hFc q.1 h)
  clear hP1 hD1 hFc hk1 hz1
  subst hw
  refine lv_istore_n (lv' := [(3, .int (Int32.ofNat (e_hi e))), (2, .int (Int32.ofNat (e_lo e))), (0, .ref x.h), (1, .int k1)]) hx hb d_D_erase_9 rfl hl (by decide) rfl (fun ls hl => ?_)
  have hl : lv_has ls 4 [(3, .int (Int32.ofNat (e_hi e))), (2, .int (Int32.ofNat (e_lo e))), (0, .ref x.h), (1, .int k1)] := hl
  refine lv_iload_n hx hb d_D_erase_10 rfl (lv_at hl 1 rfl) ?_
  refine lv_iload_n hx hb d_D_erase_11 rfl (lv_at hl 0 rfl) ?_
  refine lv_icmp_ne (tgt := 33) hx hb d_D_erase_12 (by decide) (fun hc => ?_) (fun hc => ?_)
  ·
    have hne : e_lo e < e_hi e := Nat.lt_of_le_of_ne l1 (fun z => hc (congrArg Int32.ofNat z))
    refine lv_iload_n hx hb d_D_erase_33 rfl (lv_at hl 1 rfl) ?_
    refine lv_iload_n hx hb d_D_erase_34 rfl (lv_at hl 0 rfl) ?_
    refine lv_icmp_ne (tgt := 58) hx hb d_D_erase_35 (by decide) (fun _ => ?_) (fun hc2 => absurd hc2 hc)
    have ha : e_ea e k1 = e_lo e := if_pos hne
    have hb9 : e_eb e k1 = e_hi e := if_pos hne
    have hl := lv_sub hl [2, 1, 0] rfl
    rw [← ha, ← hb9] at hl
    have hl : lv_has ls 4 [(0, .ref x.h), (2, .int (Int32.ofNat (e_ea e k1))), (3, .int (Int32.ofNat (e_eb e k1)))] := hl
    refine lv_iload_n hx hb d_D_erase_58 rfl (lv_at hl 1 rfl) ?_
    refine lv_iload_n hx hb d_D_erase_59 rfl (lv_at hl 2 rfl) ?_
    refine lv_icmp_ge (tgt := 87) hx hb d_D_erase_60 (by decide) (fun hc => ?_) (fun hc => ?_)
    ·
      have hge := (pn_le (by clear w tt h; omega) (by clear w tt h; omega)).mp hc
      have he : e_era e k1 = e := if_neg (fun z => absurd hge (Nat.not_le_of_lt z.1))
      rw [he]
      refine lv_iload_n hx hb d_D_erase_87 rfl (lv_at hl 2 rfl) ?_
      refine lv_iload_n hx hb d_D_erase_88 rfl (lv_at hl 1 rfl) ?_
      refine lv_isub hx hb d_D_erase_89 ?_
      refine wk_top (w := .int (Int32.ofNat (e_eb e k1 - e_ea e k1))) (congrArg _ (pn_sub a1)) ?_
      refine W.widen (k := 2) (n := 164) (Nat.le_of_ble_eq_true rfl) (Nat.le_of_ble_eq_true rfl) ?_
      exact W.iret (v := Int32.ofNat (e_eb e k1 - e_ea e k1)) hx hb hr (fun t ht hW => ⟨⟨_, k, rfl, ⟨rfl, h⟩, by rw [ht]; exact hP, hD⟩, hS.F ht⟩) hS.2.2 d_D_erase_90
    ·
      have hlt2 : e_ea e k1 < e_eb e k1 := Nat.lt_of_not_le (fun z => hc ((pn_le (by clear w tt h; omega) (by clear w tt h; omega)).mpr z))
      refine lv_aload_n hx hb d_D_erase_63 rfl (lv_at hl 0 rfl) ?_
      refine va_get (D := x.D) (ci := 0) (v := .int (k.I 3)) (C := R_D) (T := F_D) (N := 14) hx hb hts (fun w h => List.mem_cons_of_mem _ (in_D w h)) hown hK hP 0 rfl rfl 3 (by decide) (hts _ (List.mem_cons_of_mem _ lk_437)) (fun _ h9 => h9) rfl d_D_erase_64 ?_
      refine wk_top (w := .int (Int32.ofNat e.n)) (congrArg _ h.hn) ?_
      refine lv_bipush (v := 40) hx hb d_D_erase_67 (by decide) ?_
      refine lv_icmp_ne (tgt := 80) hx hb d_D_erase_69 (by decide) (fun hc => ?_) (fun hc => ?_)
      ·
        have hn := hok hlt2
        have he : e_era e k1 = e_edit e (e_exl e (e_ea e k1) (e_eb e k1) 0) (e_ext e (e_ea e k1) (e_eb e k1) 0) (e_ea e k1 + 0) := if_pos ⟨hlt2, hn⟩
        rw [he]
        refine lv_aload_n hx hb d_D_erase_80 rfl (lv_at hl 0 rfl) ?_
        refine lv_iload_n hx hb d_D_erase_81 rfl (lv_at hl 1 rfl) ?_
        refine lv_iload_n hx hb d_D_erase_82 rfl (lv_at hl 2 rfl) ?_
        refine lv_iconst (v := 0) hx hb d_D_erase_83 (by decide) ?_
        have hFc := va_freeM (wc := KW x k e) hD hS hA (fun _ h9 => h9)
        refine va_callv (va_runV (As := [.int (Int32.ofNat (e_ea e k1)), .int (Int32.ofNat (e_eb e k1)), .int 0]) (rest := []) ⟨hx, hb, hml, hown, hts⟩ (K_exchange l x h w (show e.n < 40 by clear w tt h; omega) a1 a2 (Nat.zero_le e.sn) (show e_exl e (e_ea e k1) (e_eb e k1) 0 ≤ 160 by clear w tt h; omega) _) (cwV 3 hts (gd_v lk_514 lk_515 lk_516 lk_445 lk_513) rfl rfl rfl (by decide +kernel) ⟨Nat.le_of_ble_eq_true rfl, Nat.le_of_ble_eq_true rfl⟩) ⟨fun a U g mk q => by obtain ⟨q0, q1, qP, qK, qD⟩ := q; exact ⟨q0, q1, qP, va_K.moved (u := U) (U := U.calling g mk a) (Vm.Alike.refl U.vm) qK, qD⟩, va_recv (ci := 0) (q0 := 0) hK hP rfl rfl, fun U hU hW => ⟨rfl, by rw [hU], by rw [hU]; exact hP, va_K.moved hW.alike hK, hD.weaken (fun _ _ _ _ => trivial)⟩⟩ rfl rfl hl.1 rfl (lv_room (Nat.le_of_ble_eq_true rfl)) d_D_erase_84 ⟨Nat.le_of_ble_eq_true rfl, Nat.le_of_ble_eq_true rfl⟩) hS (fun q _ h => hFc q h) hFc (fun kn t H1 locs ht hvm hw hB hz1 hk1 hS => ?_)
        obtain ⟨hP1, hD1⟩ := hB
        rw [ht] at hP1
        have hP := hP1
        have hD := hD1.weaken (fun _ q _ h => hFc q.1 h)
        clear hP1 hD1 hFc hk1 hz1
        refine W.cs (cells' := 2) (slots' := 164) rfl rfl ?_
        refine lv_iload_n hx hb d_D_erase_87 rfl (lv_at hl 2 rfl) ?_
        refine lv_iload_n hx hb d_D_erase_88 rfl (lv_at hl 1 rfl) ?_
        refine lv_isub hx hb d_D_erase_89 ?_
        refine wk_top (w := .int (Int32.ofNat (e_eb e k1 - e_ea e k1))) (congrArg _ (pn_sub a1)) ?_
        exact W.iret (v := Int32.ofNat (e_eb e k1 - e_ea e k1)) hx hb hr (fun t ht hW => ⟨⟨_, _, rfl, ⟨rfl, hw⟩, by rw [ht]; exact hP, hD⟩, hS.F ht⟩) hS.2.2 d_D_erase_90
      ·
        exact absurd ((pn_eqN (b := 40) (by clear w tt h; omega) (by decide)).mp hc) (hok hlt2)
  ·
    have heq : ¬ e_lo e < e_hi e := fun z => absurd ((pn_eqN (by clear w tt h; omega) (by clear w tt h; omega)).mp hc) (Nat.ne_of_lt z)
    obtain ⟨c1, c2⟩ := e_eq_c heq
    refine lv_iload_n hx hb d_D_erase_15 rfl (lv_at hl 3 rfl) ?_
    refine lv_if_ge (tgt := 33) hx hb d_D_erase_16 (by decide) (fun hc3 => ?_) (fun hc3 => ?_)
    ·
      refine lv_iload_n hx hb d_D_erase_33 rfl (lv_at hl 1 rfl) ?_
      refine lv_iload_n hx hb d_D_erase_34 rfl (lv_at hl 0 rfl) ?_
      refine lv_icmp_ne (tgt := 58) hx hb d_D_erase_35 (by decide) (fun hc2 => absurd hc hc2) (fun _ => ?_)
      refine lv_aload_n hx hb d_D_erase_38 rfl (lv_at hl 2 rfl) ?_
      refine va_get (D := x.D) (ci := 0) (v := .int (k.I 6)) (C := R_D) (T := F_D) (N := 14) hx hb hts (fun w h => List.mem_cons_of_mem _ (in_D w h)) hown hK hP 0 rfl rfl 6 (by decide) (hts _ (List.mem_cons_of_mem _ lk_438)) (fun _ h9 => h9) rfl d_D_erase_39 ?_
      refine wk_top (w := .int (Int32.ofNat e.c)) (congrArg _ h.hc) ?_
      refine lv_iload_n hx hb d_D_erase_42 rfl (lv_at hl 3 rfl) ?_
      refine lv_aload_n hx hb d_D_erase_43 rfl (lv_at hl 2 rfl) ?_
      refine va_get (D := x.D) (ci := 0) (v := .ref (k.ta e.p)) (C := R_D) (T := F_D) (N := 14) hx hb hts (fun w h => List.mem_cons_of_mem _ (in_D w h)) hown hK hP 0 rfl rfl 5 (by decide) (hts _ (List.mem_cons_of_mem _ lk_242)) (fun _ h9 => h9) rfl d_D_erase_44 ?_
      refine va_alen (v := Int32.ofNat (e.tn e.p)) hx hb hK hP it 0 hit rfl rfl d_D_erase_47 ?_
      refine lv_aload_n hx hb d_D_erase_48 rfl (lv_at hl 2 rfl) ?_
      refine va_get (D := x.D) (ci := 0) (v := .int (k.I 6)) (C := R_D) (T := F_D) (N := 14) hx hb hts (fun w h => List.mem_cons_of_mem _ (in_D w h)) hown hK hP 0 rfl rfl 6 (by decide) (hts _ (List.mem_cons_of_mem _ lk_438)) (fun _ h9 => h9) rfl d_D_erase_49 ?_
      refine wk_top (w := .int (Int32.ofNat e.c)) (congrArg _ h.hc) ?_
      refine lv_isub hx hb d_D_erase_52 ?_
      refine wk_top (w := .int (Int32.ofNat (e.tn e.p - e.c))) (congrArg _ (pn_sub hcb)) ?_
      refine va_mmin hx hb (by rw [hml, hl.1]) hown (hts _ (List.mem_cons_of_mem _ lk_490)) (hts _ (List.mem_cons_of_mem _ lk_491)) (hts _ (List.mem_cons_of_mem _ lk_487)) (hts _ (List.mem_cons_of_mem _ lk_492)) (Nat.le_of_ble_eq_true rfl) (Nat.le_of_ble_eq_true rfl) (Nat.le_of_ble_eq_true rfl) (Nat.le_of_ble_eq_true rfl) d_D_erase_53 ?_
      refine lv_iadd hx hb d_D_erase_56 ?_
      refine wk_top (w := .int (Int32.ofNat (e_eb e k1))) (congrArg _ (er_eb hcb htn hc3 heq)) ?_
      refine lv_istore_n (lv' := [(3, .int (Int32.ofNat (e_eb e k1))), (2, .int (Int32.ofNat (e_lo e))), (0, .ref x.h), (1, .int k1)]) hx hb d_D_erase_57 rfl hl (by decide) rfl (fun ls hl => ?_)
      have hl : lv_has ls 4 [(3, .int (Int32.ofNat (e_eb e k1))), (2, .int (Int32.ofNat (e_lo e))), (0, .ref x.h), (1, .int k1)] := hl
      have ha : e_ea e k1 = e_lo e := er_ea hc3 heq
      have hl := lv_sub hl [2, 1, 0] rfl
      rw [← ha] at hl
      have hl : lv_has ls 4 [(0, .ref x.h), (2, .int (Int32.ofNat (e_ea e k1))), (3, .int (Int32.ofNat (e_eb e k1)))] := hl
      refine lv_iload_n hx hb d_D_erase_58 rfl (lv_at hl 1 rfl) ?_
      refine lv_iload_n hx hb d_D_erase_59 rfl (lv_at hl 2 rfl) ?_
      refine lv_icmp_ge (tgt := 87) hx hb d_D_erase_60 (by decide) (fun hc => ?_) (fun hc => ?_)
      ·
        have hge := (pn_le (by clear w tt h; omega) (by clear w tt h; omega)).mp hc
        have he : e_era e k1 = e := if_neg (fun z => absurd hge (Nat.not_le_of_lt z.1))
        rw [he]
        refine lv_iload_n hx hb d_D_erase_87 rfl (lv_at hl 2 rfl) ?_
        refine lv_iload_n hx hb d_D_erase_88 rfl (lv_at hl 1 rfl) ?_
        refine lv_isub hx hb d_D_erase_89 ?_
        refine wk_top (w := .int (Int32.ofNat (e_eb e k1 - e_ea e k1))) (congrArg _ (pn_sub a1)) ?_
        refine W.widen (k := 2) (n := 164) (Nat.le_of_ble_eq_true rfl) (Nat.le_of_ble_eq_true rfl) ?_
        exact W.iret (v := Int32.ofNat (e_eb e k1 - e_ea e k1)) hx hb hr (fun t ht hW => ⟨⟨_, k, rfl, ⟨rfl, h⟩, by rw [ht]; exact hP, hD⟩, hS.F ht⟩) hS.2.2 d_D_erase_90
      ·
        have hlt2 : e_ea e k1 < e_eb e k1 := Nat.lt_of_not_le (fun z => hc ((pn_le (by clear w tt h; omega) (by clear w tt h; omega)).mpr z))
        refine lv_aload_n hx hb d_D_erase_63 rfl (lv_at hl 0 rfl) ?_
        refine va_get (D := x.D) (ci := 0) (v := .int (k.I 3)) (C := R_D) (T := F_D) (N := 14) hx hb hts (fun w h => List.mem_cons_of_mem _ (in_D w h)) hown hK hP 0 rfl rfl 3 (by decide) (hts _ (List.mem_cons_of_mem _ lk_437)) (fun _ h9 => h9) rfl d_D_erase_64 ?_
        refine wk_top (w := .int (Int32.ofNat e.n)) (congrArg _ h.hn) ?_
        refine lv_bipush (v := 40) hx hb d_D_erase_67 (by decide) ?_
        refine lv_icmp_ne (tgt := 80) hx hb d_D_erase_69 (by decide) (fun hc => ?_) (fun hc => ?_)
        ·
          have hn := hok hlt2
          have he : e_era e k1 = e_edit e (e_exl e (e_ea e k1) (e_eb e k1) 0) (e_ext e (e_ea e k1) (e_eb e k1) 0) (e_ea e k1 + 0) := if_pos ⟨hlt2, hn⟩
          rw [he]
          refine lv_aload_n hx hb d_D_erase_80 rfl (lv_at hl 0 rfl) ?_
          refine lv_iload_n hx hb d_D_erase_81 rfl (lv_at hl 1 rfl) ?_
          refine lv_iload_n hx hb d_D_erase_82 rfl (lv_at hl 2 rfl) ?_
          refine lv_iconst (v := 0) hx hb d_D_erase_83 (by decide) ?_
          have hFc := va_freeM (wc := KW x k e) hD hS hA (fun _ h9 => h9)
          refine va_callv (va_runV (As := [.int (Int32.ofNat (e_ea e k1)), .int (Int32.ofNat (e_eb e k1)), .int 0]) (rest := []) ⟨hx, hb, hml, hown, hts⟩ (K_exchange l x h w (show e.n < 40 by clear w tt h; omega) a1 a2 (Nat.zero_le e.sn) (show e_exl e (e_ea e k1) (e_eb e k1) 0 ≤ 160 by clear w tt h; omega) _) (cwV 3 hts (gd_v lk_514 lk_515 lk_516 lk_445 lk_513) rfl rfl rfl (by decide +kernel) ⟨Nat.le_of_ble_eq_true rfl, Nat.le_of_ble_eq_true rfl⟩) ⟨fun a U g mk q => by obtain ⟨q0, q1, qP, qK, qD⟩ := q; exact ⟨q0, q1, qP, va_K.moved (u := U) (U := U.calling g mk a) (Vm.Alike.refl U.vm) qK, qD⟩, va_recv (ci := 0) (q0 := 0) hK hP rfl rfl, fun U hU hW => ⟨rfl, by rw [hU], by rw [hU]; exact hP, va_K.moved hW.alike hK, hD.weaken (fun _ _ _ _ => trivial)⟩⟩ rfl rfl hl.1 rfl (lv_room (Nat.le_of_ble_eq_true rfl)) d_D_erase_84 ⟨Nat.le_of_ble_eq_true rfl, Nat.le_of_ble_eq_true rfl⟩) hS (fun q _ h => hFc q h) hFc (fun kn t H1 locs ht hvm hw hB hz1 hk1 hS => ?_)
          obtain ⟨hP1, hD1⟩ := hB
          rw [ht] at hP1
          have hP := hP1
          have hD := hD1.weaken (fun _ q _ h => hFc q.1 h)
          clear hP1 hD1 hFc hk1 hz1
          refine W.cs (cells' := 2) (slots' := 164) rfl rfl ?_
          refine lv_iload_n hx hb d_D_erase_87 rfl (lv_at hl 2 rfl) ?_
          refine lv_iload_n hx hb d_D_erase_88 rfl (lv_at hl 1 rfl) ?_
          refine lv_isub hx hb d_D_erase_89 ?_
          refine wk_top (w := .int (Int32.ofNat (e_eb e k1 - e_ea e k1))) (congrArg _ (pn_sub a1)) ?_
          exact W.iret (v := Int32.ofNat (e_eb e k1 - e_ea e k1)) hx hb hr (fun t ht hW => ⟨⟨_, _, rfl, ⟨rfl, hw⟩, by rw [ht]; exact hP, hD⟩, hS.F ht⟩) hS.2.2 d_D_erase_90
        ·
          exact absurd ((pn_eqN (b := 40) (by clear w tt h; omega) (by decide)).mp hc) (hok hlt2)
    ·
      have hk0 : k1 < 0 := er_neg hc3
      refine lv_iconst (v := 0) hx hb d_D_erase_19 (by decide) ?_
      refine lv_aload_n hx hb d_D_erase_20 rfl (lv_at hl 2 rfl) ?_
      refine va_get (D := x.D) (ci := 0) (v := .int (k.I 6)) (C := R_D) (T := F_D) (N := 14) hx hb hts (fun w h => List.mem_cons_of_mem _ (in_D w h)) hown hK hP 0 rfl rfl 6 (by decide) (hts _ (List.mem_cons_of_mem _ lk_438)) (fun _ h9 => h9) rfl d_D_erase_21 ?_
      refine wk_top (w := .int (Int32.ofNat e.c)) (congrArg _ h.hc) ?_
      refine lv_iload_n hx hb d_D_erase_24 rfl (lv_at hl 3 rfl) ?_
      refine lv_iadd hx hb d_D_erase_25 ?_
      refine va_mmax hx hb (by rw [hml, hl.1]) hown (hts _ (List.mem_cons_of_mem _ lk_485)) (hts _ (List.mem_cons_of_mem _ lk_486)) (hts _ (List.mem_cons_of_mem _ lk_487)) (hts _ (List.mem_cons_of_mem _ lk_488)) (Nat.le_of_ble_eq_true rfl) (Nat.le_of_ble_eq_true rfl) (Nat.le_of_ble_eq_true rfl) (Nat.le_of_ble_eq_true rfl) d_D_erase_26 ?_
      refine wk_top (w := .int (Int32.ofNat (e_ea e k1))) (congrArg _ (er_ea2 hcb htn hk0 heq)) ?_
      refine lv_istore_n (lv' := [(2, .int (Int32.ofNat (e_ea e k1))), (3, .int (Int32.ofNat (e_hi e))), (0, .ref x.h), (1, .int k1)]) hx hb d_D_erase_29 rfl hl (by decide) rfl (fun ls hl => ?_)
      have hl : lv_has ls 4 [(2, .int (Int32.ofNat (e_ea e k1))), (3, .int (Int32.ofNat (e_hi e))), (0, .ref x.h), (1, .int k1)] := hl
      refine lv_goto (tgt := 58) hx hb d_D_erase_30 (by decide) ?_
      have hb9 : e_eb e k1 = e_hi e := er_eb2 hk0 heq
      have hl := lv_sub hl [2, 0, 1] rfl
      rw [← hb9] at hl
      have hl : lv_has ls 4 [(0, .ref x.h), (2, .int (Int32.ofNat (e_ea e k1))), (3, .int (Int32.ofNat (e_eb e k1)))] := hl
      refine lv_iload_n hx hb d_D_erase_58 rfl (lv_at hl 1 rfl) ?_
      refine lv_iload_n hx hb d_D_erase_59 rfl (lv_at hl 2 rfl) ?_
      refine lv_icmp_ge (tgt := 87) hx hb d_D_erase_60 (by decide) (fun hc => ?_) (fun hc => ?_)
      ·
        have hge := (pn_le (by clear w tt h; omega) (by clear w tt h; omega)).mp hc
        have he : e_era e k1 = e := if_neg (fun z => absurd hge (Nat.not_le_of_lt z.1))
        rw [he]
        refine lv_iload_n hx hb d_D_erase_87 rfl (lv_at hl 2 rfl) ?_
        refine lv_iload_n hx hb d_D_erase_88 rfl (lv_at hl 1 rfl) ?_
        refine lv_isub hx hb d_D_erase_89 ?_
        refine wk_top (w := .int (Int32.ofNat (e_eb e k1 - e_ea e k1))) (congrArg _ (pn_sub a1)) ?_
        refine W.widen (k := 2) (n := 164) (Nat.le_of_ble_eq_true rfl) (Nat.le_of_ble_eq_true rfl) ?_
        exact W.iret (v := Int32.ofNat (e_eb e k1 - e_ea e k1)) hx hb hr (fun t ht hW => ⟨⟨_, k, rfl, ⟨rfl, h⟩, by rw [ht]; exact hP, hD⟩, hS.F ht⟩) hS.2.2 d_D_erase_90
      ·
        have hlt2 : e_ea e k1 < e_eb e k1 := Nat.lt_of_not_le (fun z => hc ((pn_le (by clear w tt h; omega) (by clear w tt h; omega)).mpr z))
        refine lv_aload_n hx hb d_D_erase_63 rfl (lv_at hl 0 rfl) ?_
        refine va_get (D := x.D) (ci := 0) (v := .int (k.I 3)) (C := R_D) (T := F_D) (N := 14) hx hb hts (fun w h => List.mem_cons_of_mem _ (in_D w h)) hown hK hP 0 rfl rfl 3 (by decide) (hts _ (List.mem_cons_of_mem _ lk_437)) (fun _ h9 => h9) rfl d_D_erase_64 ?_
        refine wk_top (w := .int (Int32.ofNat e.n)) (congrArg _ h.hn) ?_
        refine lv_bipush (v := 40) hx hb d_D_erase_67 (by decide) ?_
        refine lv_icmp_ne (tgt := 80) hx hb d_D_erase_69 (by decide) (fun hc => ?_) (fun hc => ?_)
        ·
          have hn := hok hlt2
          have he : e_era e k1 = e_edit e (e_exl e (e_ea e k1) (e_eb e k1) 0) (e_ext e (e_ea e k1) (e_eb e k1) 0) (e_ea e k1 + 0) := if_pos ⟨hlt2, hn⟩
          rw [he]
          refine lv_aload_n hx hb d_D_erase_80 rfl (lv_at hl 0 rfl) ?_
          refine lv_iload_n hx hb d_D_erase_81 rfl (lv_at hl 1 rfl) ?_
          refine lv_iload_n hx hb d_D_erase_82 rfl (lv_at hl 2 rfl) ?_
          refine lv_iconst (v := 0) hx hb d_D_erase_83 (by decide) ?_
          have hFc := va_freeM (wc := KW x k e) hD hS hA (fun _ h9 => h9)
          refine va_callv (va_runV (As := [.int (Int32.ofNat (e_ea e k1)), .int (Int32.ofNat (e_eb e k1)), .int 0]) (rest := []) ⟨hx, hb, hml, hown, hts⟩ (K_exchange l x h w (show e.n < 40 by clear w tt h; omega) a1 a2 (Nat.zero_le e.sn) (show e_exl e (e_ea e k1) (e_eb e k1) 0 ≤ 160 by clear w tt h; omega) _) (cwV 3 hts (gd_v lk_514 lk_515 lk_516 lk_445 lk_513) rfl rfl rfl (by decide +kernel) ⟨Nat.le_of_ble_eq_true rfl, Nat.le_of_ble_eq_true rfl⟩) ⟨fun a U g mk q => by obtain ⟨q0, q1, qP, qK, qD⟩ := q; exact ⟨q0, q1, qP, va_K.moved (u := U) (U := U.calling g mk a) (Vm.Alike.refl U.vm) qK, qD⟩, va_recv (ci := 0) (q0 := 0) hK hP rfl rfl, fun U hU hW => ⟨rfl, by rw [hU], by rw [hU]; exact hP, va_K.moved hW.alike hK, hD.weaken (fun _ _ _ _ => trivial)⟩⟩ rfl rfl hl.1 rfl (lv_room (Nat.le_of_ble_eq_true rfl)) d_D_erase_84 ⟨Nat.le_of_ble_eq_true rfl, Nat.le_of_ble_eq_true rfl⟩) hS (fun q _ h => hFc q h) hFc (fun kn t H1 locs ht hvm hw hB hz1 hk1 hS => ?_)
          obtain ⟨hP1, hD1⟩ := hB
          rw [ht] at hP1
          have hP := hP1
          have hD := hD1.weaken (fun _ q _ h => hFc q.1 h)
          clear hP1 hD1 hFc hk1 hz1
          refine W.cs (cells' := 2) (slots' := 164) rfl rfl ?_
          refine lv_iload_n hx hb d_D_erase_87 rfl (lv_at hl 2 rfl) ?_
          refine lv_iload_n hx hb d_D_erase_88 rfl (lv_at hl 1 rfl) ?_
          refine lv_isub hx hb d_D_erase_89 ?_
          refine wk_top (w := .int (Int32.ofNat (e_eb e k1 - e_ea e k1))) (congrArg _ (pn_sub a1)) ?_
          exact W.iret (v := Int32.ofNat (e_eb e k1 - e_ea e k1)) hx hb hr (fun t ht hW => ⟨⟨_, _, rfl, ⟨rfl, hw⟩, by rw [ht]; exact hP, hD⟩, hS.F ht⟩) hS.2.2 d_D_erase_90
        ·
          exact absurd ((pn_eqN (b := 40) (by clear w tt h; omega) (by decide)).mp hc) (hok hlt2)
set_option maxHeartbeats 8000000 in
set_option maxRecDepth 100000 in
theorem Kt_erase (l : Launch) (hfl : l.flags = flags0) (x : FX) {k : CK} {e : ES} (h : CRel e k) (w : EWf e) {k1 : Int32} (hlt : e_ea e k1 < e_eb e k1) (hn : e.n = 40) : KThr l x y_D_erase w_D_erase ({ frames := 6, cells := 1, slots := 6, locals := 120 }) [.ref x.h, .int k1] k e 1 6 "java/lang/IllegalStateException" e := by
  refine ⟨k, h, fun sz => ?_⟩
  have tt := w.tt _ w.pb
  have htn := tt.nb
  have hsb := w.sb
  have hpb := w.pb
  have hn2 := w.n2
  have hcb := w.cb
  obtain ⟨l1, l2⟩ := e_lo_le w
  obtain ⟨a1, a2⟩ := e_ea_le w k1
  have hel : e_exl e (e_ea e k1) (e_eb e k1) 0 = e.tn e.p - (e_eb e k1 - e_ea e k1) + 0 := rfl
  refine th_Met.ofW (cc := prog_1_method_5_code) (maxL := 4) (ret := some .int) (by decide) rfl ?_
  intro p en s m args below meth c s₁ B hml hnh hv
  obtain ⟨rfl, hsz, hP, hK, hD0, hZ⟩ := hv
  have hx := B.exec
  have hb := B.bytes
  have hr := B.returns
  have hts := atoms_spec (ws := w_D_erase) B.pre
  have hown : s.vm.findClass "DraftTree" = some m.cls := findClass_of_methodNamed B.named
  have hlocks := B.notSynchronized
  have htr := Launch.traces_off hfl B.admits
  subst hsz
  have hD := hD0.self (sz := s.heap.size)
  generalize hAe : va_A (KW x k e) s.heap.size = B9 at hD hZ ⊢
  have hA : ∀ q : Nat, s.heap.size ≤ q → B9 q := fun q h => by rw [← hAe]; exact Or.inr h
  clear hAe
  have hS : va_S B9 s.heap s.heap [] := va_S.rf
  have hl := lv_entry ([.ref x.h, .int k1]) (n := 4) (Nat.le_of_ble_eq_true rfl)
  rw [lg_entry_eq]
  generalize (lg_sl ([.ref x.h, .int k1]) ++ List.replicate (4 - (lg_sl ([.ref x.h, .int k1])).length) Slot.unset).toArray = ls at hl ⊢
  have hl : lv_has ls 4 [(0, .ref x.h), (1, .int k1)] := hl
  obtain ⟨it, hit⟩ := List.getElem?_of_mem (kE_in x k w.pb)
  refine lv_aload_n hx hb d_D_erase_0 rfl (lv_at hl 0 rfl) ?_
  have hFc := va_freeM (wc := KW x k e) hD hS hA (fun _ h9 => h9)
  refine va_calli (va_runV (As := []) (rest := []) ⟨hx, hb, hml, hown, hts⟩ (K_selS l x h w _) (cwV 0 hts (gd_v lk_507 lk_508 lk_509 lk_445 lk_493) rfl rfl rfl (by decide +kernel) ⟨Nat.le_of_ble_eq_true rfl, Nat.le_of_ble_eq_true rfl⟩) ⟨fun a U g mk q => by obtain ⟨q0, q1, qP, qK, qD⟩ := q; exact ⟨q0, q1, qP, va_K.moved (u := U) (U := U.calling g mk a) (Vm.Alike.refl U.vm) qK, qD⟩, va_recv (ci := 0) (q0 := 0) hK hP rfl rfl, fun U hU hW => ⟨rfl, by rw [hU], by rw [hU]; exact hP, va_K.moved hW.alike hK, hD.weaken (fun _ _ _ _ => trivial)⟩⟩ rfl rfl hl.1 rfl (lv_room (Nat.le_of_ble_eq_true rfl)) d_D_erase_1 ⟨Nat.le_of_ble_eq_true rfl, Nat.le_of_ble_eq_true rfl⟩) hS (fun q _ h => hFc q h) hFc (fun r9 kn t H1 locs ht hvm hw hB hz1 hk1 hS => ?_)
  obtain ⟨hP1, hD1⟩ := hB
  rw [ht] at hP1
  have hP := hP1
  have hD := hD1.weaken (fun _ q _ h => hFc q.1 h)
  clear hP1 hD1 hFc hk1 hz1
  subst hw
  refine lv_istore_n (lv' := [(2, .int (Int32.ofNat (e_lo e))), (0, .ref x.h), (1, .int k1)]) hx hb d_D_erase_4 rfl hl (by decide) rfl (fun ls hl => ?_)
  have hl : lv_has ls 4 [(2, .int (Int32.ofNat (e_lo e))), (0, .ref x.h), (1, .int k1)] := hl
  refine lv_aload_n hx hb d_D_erase_5 rfl (lv_at hl 1 rfl) ?_
  have hFc := va_freeM (wc := KW x k e) hD hS hA (fun _ h9 => h9)
  refine va_calli (va_runV (As := []) (rest := []) ⟨hx, hb, hml, hown, hts⟩ (K_selE l x h w _) (cwV 0 hts (gd_v lk_510 lk_511 lk_512 lk_445 lk_489) rfl rfl rfl (by decide +kernel) ⟨Nat.le_of_ble_eq_true rfl, Nat.le_of_ble_eq_true rfl⟩) ⟨fun a U g mk q => by obtain ⟨q0, q1, qP, qK, qD⟩ := q; exact ⟨q0, q1, qP, va_K.moved (u := U) (U := U.calling g mk a) (Vm.Alike.refl U.vm) qK, qD⟩, va_recv (ci := 0) (q0 := 0) hK hP rfl rfl, fun U hU hW => ⟨rfl, by rw [hU], by rw [hU]; exact hP, va_K.moved hW.alike hK, hD.weaken (fun _ _ _ _ => trivial)⟩⟩ rfl rfl hl.1 rfl (lv_room (Nat.le_of_ble_eq_true rfl)) d_D_erase_6 ⟨Nat.le_of_ble_eq_true rfl, Nat.le_of_ble_eq_true rfl⟩) hS (fun q _ h => hFc q h) hFc (fun r9 kn t H1 locs ht hvm hw hB hz1 hk1 hS => ?_)
  obtain ⟨hP1, hD1⟩ := hB
  rw [ht] at hP1
  have hP := hP1
  have hD := hD1.weaken (fun _ q _ h => hFc q.1 h)
  clear hP1 hD1 hFc hk1 hz1
  subst hw
  refine lv_istore_n (lv' := [(3, .int (Int32.ofNat (e_hi e))), (2, .int (Int32.ofNat (e_lo e))), (0, .ref x.h), (1, .int k1)]) hx hb d_D_erase_9 rfl hl (by decide) rfl (fun ls hl => ?_)
  have hl : lv_has ls 4 [(3, .int (Int32.ofNat (e_hi e))), (2, .int (Int32.ofNat (e_lo e))), (0, .ref x.h), (1, .int k1)] := hl
  refine lv_iload_n hx hb d_D_erase_10 rfl (lv_at hl 1 rfl) ?_
  refine lv_iload_n hx hb d_D_erase_11 rfl (lv_at hl 0 rfl) ?_
  refine lv_icmp_ne (tgt := 33) hx hb d_D_erase_12 (by decide) (fun hc => ?_) (fun hc => ?_)
  ·
    have hne : e_lo e < e_hi e := Nat.lt_of_le_of_ne l1 (fun z => hc (congrArg Int32.ofNat z))
    refine lv_iload_n hx hb d_D_erase_33 rfl (lv_at hl 1 rfl) ?_
    refine lv_iload_n hx hb d_D_erase_34 rfl (lv_at hl 0 rfl) ?_
    refine lv_icmp_ne (tgt := 58) hx hb d_D_erase_35 (by decide) (fun _ => ?_) (fun hc2 => absurd hc2 hc)
    have ha : e_ea e k1 = e_lo e := if_pos hne
    have hb9 : e_eb e k1 = e_hi e := if_pos hne
    have hl := lv_sub hl [2, 1, 0] rfl
    rw [← ha, ← hb9] at hl
    have hl : lv_has ls 4 [(0, .ref x.h), (2, .int (Int32.ofNat (e_ea e k1))), (3, .int (Int32.ofNat (e_eb e k1)))] := hl
    refine lv_iload_n hx hb d_D_erase_58 rfl (lv_at hl 1 rfl) ?_
    refine lv_iload_n hx hb d_D_erase_59 rfl (lv_at hl 2 rfl) ?_
    refine lv_icmp_ge (tgt := 87) hx hb d_D_erase_60 (by decide) (fun hc => ?_) (fun hc => ?_)
    ·
      have hge := (pn_le (by clear w tt h; omega) (by clear w tt h; omega)).mp hc
      exact absurd hge (by clear w tt h; omega)
    ·
      have hlt2 : e_ea e k1 < e_eb e k1 := Nat.lt_of_not_le (fun z => hc ((pn_le (by clear w tt h; omega) (by clear w tt h; omega)).mpr z))
      refine lv_aload_n hx hb d_D_erase_63 rfl (lv_at hl 0 rfl) ?_
      refine va_get (D := x.D) (ci := 0) (v := .int (k.I 3)) (C := R_D) (T := F_D) (N := 14) hx hb hts (fun w h => List.mem_cons_of_mem _ (in_D w h)) hown hK hP 0 rfl rfl 3 (by decide) (hts _ (List.mem_cons_of_mem _ lk_437)) (fun _ h9 => h9) rfl d_D_erase_64 ?_
      refine wk_top (w := .int (Int32.ofNat e.n)) (congrArg _ h.hn) ?_
      refine lv_bipush (v := 40) hx hb d_D_erase_67 (by decide) ?_
      refine lv_icmp_ne (tgt := 80) hx hb d_D_erase_69 (by decide) (fun hc => ?_) (fun hc => ?_)
      ·
        exact absurd (show Int32.ofNat e.n = 40 by rw [hn]; rfl) hc
      ·
        exact th_newG hx hb htr hown (by decide) (by decide) (wk_thr hts hZ hS lk_446 lk_447 (fun _ a9 b9 => oa_2 a9 b9)) hnh (by rw [hl.1, hml]) hS (Nat.le_of_ble_eq_true rfl) (Nat.le_of_ble_eq_true rfl) (Nat.le_of_ble_eq_true rfl) (Nat.le_of_ble_eq_true rfl) (Nat.le_of_ble_eq_true rfl) (Nat.le_of_ble_eq_true rfl) hlocks (fun t hal hk => ⟨hP.kept (fun k q hq => hk _ (hP k q hq).lt), hD⟩) d_D_erase_72 d_D_erase_75 d_D_erase_76 d_D_erase_79
  ·
    have heq : ¬ e_lo e < e_hi e := fun z => absurd ((pn_eqN (by clear w tt h; omega) (by clear w tt h; omega)).mp hc) (Nat.ne_of_lt z)
    obtain ⟨c1, c2⟩ := e_eq_c heq
    refine lv_iload_n hx hb d_D_erase_15 rfl (lv_at hl 3 rfl) ?_
    refine lv_if_ge (tgt := 33) hx hb d_D_erase_16 (by decide) (fun hc3 => ?_) (fun hc3 => ?_)
    ·
      refine lv_iload_n hx hb d_D_erase_33 rfl (lv_at hl 1 rfl) ?_
      refine lv_iload_n hx hb d_D_erase_34 rfl (lv_at hl 0 rfl) ?_
      refine lv_icmp_ne (tgt := 58) hx hb d_D_erase_35 (by decide) (fun hc2 => absurd hc hc2) (fun _ => ?_)
      refine lv_aload_n hx hb d_D_erase_38 rfl (lv_at hl 2 rfl) ?_
      refine va_get (D := x.D) (ci := 0) (v := .int (k.I 6)) (C := R_D) (T := F_D) (N := 14) hx hb hts (fun w h => List.mem_cons_of_mem _ (in_D w h)) hown hK hP 0 rfl rfl 6 (by decide) (hts _ (List.mem_cons_of_mem _ lk_438)) (fun _ h9 => h9) rfl d_D_erase_39 ?_
      refine wk_top (w := .int (Int32.ofNat e.c)) (congrArg _ h.hc) ?_
      refine lv_iload_n hx hb d_D_erase_42 rfl (lv_at hl 3 rfl) ?_
      refine lv_aload_n hx hb d_D_erase_43 rfl (lv_at hl 2 rfl) ?_
      refine va_get (D := x.D) (ci := 0) (v := .ref (k.ta e.p)) (C := R_D) (T := F_D) (N := 14) hx hb hts (fun w h => List.mem_cons_of_mem _ (in_D w h)) hown hK hP 0 rfl rfl 5 (by decide) (hts _ (List.mem_cons_of_mem _ lk_242)) (fun _ h9 => h9) rfl d_D_erase_44 ?_
      refine va_alen (v := Int32.ofNat (e.tn e.p)) hx hb hK hP it 0 hit rfl rfl d_D_erase_47 ?_
      refine lv_aload_n hx hb d_D_erase_48 rfl (lv_at hl 2 rfl) ?_
      refine va_get (D := x.D) (ci := 0) (v := .int (k.I 6)) (C := R_D) (T := F_D) (N := 14) hx hb hts (fun w h => List.mem_cons_of_mem _ (in_D w h)) hown hK hP 0 rfl rfl 6 (by decide) (hts _ (List.mem_cons_of_mem _ lk_438)) (fun _ h9 => h9) rfl d_D_erase_49 ?_
      refine wk_top (w := .int (Int32.ofNat e.c)) (congrArg _ h.hc) ?_
      refine lv_isub hx hb d_D_erase_52 ?_
      refine wk_top (w := .int (Int32.ofNat (e.tn e.p - e.c))) (congrArg _ (pn_sub hcb)) ?_
      refine va_mmin hx hb (by rw [hml, hl.1]) hown (hts _ (List.mem_cons_of_mem _ lk_490)) (hts _ (List.mem_cons_of_mem _ lk_491)) (hts _ (List.mem_cons_of_mem _ lk_487)) (hts _ (List.mem_cons_of_mem _ lk_492)) (Nat.le_of_ble_eq_true rfl) (Nat.le_of_ble_eq_true rfl) (Nat.le_of_ble_eq_true rfl) (Nat.le_of_ble_eq_true rfl) d_D_erase_53 ?_
      refine lv_iadd hx hb d_D_erase_56 ?_
      refine wk_top (w := .int (Int32.ofNat (e_eb e k1))) (congrArg _ (er_eb hcb htn hc3 heq)) ?_
      refine lv_istore_n (lv' := [(3, .int (Int32.ofNat (e_eb e k1))), (2, .int (Int32.ofNat (e_lo e))), (0, .ref x.h), (1, .int k1)]) hx hb d_D_erase_57 rfl hl (by decide) rfl (fun ls hl => ?_)
      have hl : lv_has ls 4 [(3, .int (Int32.ofNat (e_eb e k1))), (2, .int (Int32.ofNat (e_lo e))), (0, .ref x.h), (1, .int k1)] := hl
      have ha : e_ea e k1 = e_lo e := er_ea hc3 heq
      have hl := lv_sub hl [2, 1, 0] rfl
      rw [← ha] at hl
      have hl : lv_has ls 4 [(0, .ref x.h), (2, .int (Int32.ofNat (e_ea e k1))), (3, .int (Int32.ofNat (e_eb e k1)))] := hl
      refine lv_iload_n hx hb d_D_erase_58 rfl (lv_at hl 1 rfl) ?_
      refine lv_iload_n hx hb d_D_erase_59 rfl (lv_at hl 2 rfl) ?_
      refine lv_icmp_ge (tgt := 87) hx hb d_D_erase_60 (by decide) (fun hc => ?_) (fun hc => ?_)
      ·
        have hge := (pn_le (by clear w tt h; omega) (by clear w tt h; omega)).mp hc
        exact absurd hge (by clear w tt h; omega)
      ·
        have hlt2 : e_ea e k1 < e_eb e k1 := Nat.lt_of_not_le (fun z => hc ((pn_le (by clear w tt h; omega) (by clear w tt h; omega)).mpr z))
        refine lv_aload_n hx hb d_D_erase_63 rfl (lv_at hl 0 rfl) ?_
        refine va_get (D := x.D) (ci := 0) (v := .int (k.I 3)) (C := R_D) (T := F_D) (N := 14) hx hb hts (fun w h => List.mem_cons_of_mem _ (in_D w h)) hown hK hP 0 rfl rfl 3 (by decide) (hts _ (List.mem_cons_of_mem _ lk_437)) (fun _ h9 => h9) rfl d_D_erase_64 ?_
        refine wk_top (w := .int (Int32.ofNat e.n)) (congrArg _ h.hn) ?_
        refine lv_bipush (v := 40) hx hb d_D_erase_67 (by decide) ?_
        refine lv_icmp_ne (tgt := 80) hx hb d_D_erase_69 (by decide) (fun hc => ?_) (fun hc => ?_)
        ·
          exact absurd (show Int32.ofNat e.n = 40 by rw [hn]; rfl) hc
        ·
          exact th_newG hx hb htr hown (by decide) (by decide) (wk_thr hts hZ hS lk_446 lk_447 (fun _ a9 b9 => oa_2 a9 b9)) hnh (by rw [hl.1, hml]) hS (Nat.le_of_ble_eq_true rfl) (Nat.le_of_ble_eq_true rfl) (Nat.le_of_ble_eq_true rfl) (Nat.le_of_ble_eq_true rfl) (Nat.le_of_ble_eq_true rfl) (Nat.le_of_ble_eq_true rfl) hlocks (fun t hal hk => ⟨hP.kept (fun k q hq => hk _ (hP k q hq).lt), hD⟩) d_D_erase_72 d_D_erase_75 d_D_erase_76 d_D_erase_79
    ·
      have hk0 : k1 < 0 := er_neg hc3
      refine lv_iconst (v := 0) hx hb d_D_erase_19 (by decide) ?_
      refine lv_aload_n hx hb d_D_erase_20 rfl (lv_at hl 2 rfl) ?_
      refine va_get (D := x.D) (ci := 0) (v := .int (k.I 6)) (C := R_D) (T := F_D) (N := 14) hx hb hts (fun w h => List.mem_cons_of_mem _ (in_D w h)) hown hK hP 0 rfl rfl 6 (by decide) (hts _ (List.mem_cons_of_mem _ lk_438)) (fun _ h9 => h9) rfl d_D_erase_21 ?_
      refine wk_top (w := .int (Int32.ofNat e.c)) (congrArg _ h.hc) ?_
      refine lv_iload_n hx hb d_D_erase_24 rfl (lv_at hl 3 rfl) ?_
      refine lv_iadd hx hb d_D_erase_25 ?_
      refine va_mmax hx hb (by rw [hml, hl.1]) hown (hts _ (List.mem_cons_of_mem _ lk_485)) (hts _ (List.mem_cons_of_mem _ lk_486)) (hts _ (List.mem_cons_of_mem _ lk_487)) (hts _ (List.mem_cons_of_mem _ lk_488)) (Nat.le_of_ble_eq_true rfl) (Nat.le_of_ble_eq_true rfl) (Nat.le_of_ble_eq_true rfl) (Nat.le_of_ble_eq_true rfl) d_D_erase_26 ?_
      refine wk_top (w := .int (Int32.ofNat (e_ea e k1))) (congrArg _ (er_ea2 hcb htn hk0 heq)) ?_
      refine lv_istore_n (lv' := [(2, .int (Int32.ofNat (e_ea e k1))), (3, .int (Int32.ofNat (e_hi e))), (0, .ref x.h), (1, .int k1)]) hx hb d_D_erase_29 rfl hl (by decide) rfl (fun ls hl => ?_)
      have hl : lv_has ls 4 [(2, .int (Int32.ofNat (e_ea e k1))), (3, .int (Int32.ofNat (e_hi e))), (0, .ref x.h), (1, .int k1)] := hl
      refine lv_goto (tgt := 58) hx hb d_D_erase_30 (by decide) ?_
      have hb9 : e_eb e k1 = e_hi e := er_eb2 hk0 heq
      have hl := lv_sub hl [2, 0, 1] rfl
      rw [← hb9] at hl
      have hl : lv_has ls 4 [(0, .ref x.h), (2, .int (Int32.ofNat (e_ea e k1))), (3, .int (Int32.ofNat (e_eb e k1)))] := hl
      refine lv_iload_n hx hb d_D_erase_58 rfl (lv_at hl 1 rfl) ?_
      refine lv_iload_n hx hb d_D_erase_59 rfl (lv_at hl 2 rfl) ?_
      refine lv_icmp_ge (tgt := 87) hx hb d_D_erase_60 (by decide) (fun hc => ?_) (fun hc => ?_)
      ·
        have hge := (pn_le (by clear w tt h; omega) (by clear w tt h; omega)).mp hc
        exact absurd hge (by clear w tt h; omega)
      ·
        have hlt2 : e_ea e k1 < e_eb e k1 := Nat.lt_of_not_le (fun z => hc ((pn_le (by clear w tt h; omega) (by clear w tt h; omega)).mpr z))
        refine lv_aload_n hx hb d_D_erase_63 rfl (lv_at hl 0 rfl) ?_
        refine va_get (D := x.D) (ci := 0) (v := .int (k.I 3)) (C := R_D) (T := F_D) (N := 14) hx hb hts (fun w h => List.mem_cons_of_mem _ (in_D w h)) hown hK hP 0 rfl rfl 3 (by decide) (hts _ (List.mem_cons_of_mem _ lk_437)) (fun _ h9 => h9) rfl d_D_erase_64 ?_
        refine wk_top (w := .int (Int32.ofNat e.n)) (congrArg _ h.hn) ?_
        refine lv_bipush (v := 40) hx hb d_D_erase_67 (by decide) ?_
        refine lv_icmp_ne (tgt := 80) hx hb d_D_erase_69 (by decide) (fun hc => ?_) (fun hc => ?_)
        ·
          exact absurd (show Int32.ofNat e.n = 40 by rw [hn]; rfl) hc
        ·
          exact th_newG hx hb htr hown (by decide) (by decide) (wk_thr hts hZ hS lk_446 lk_447 (fun _ a9 b9 => oa_2 a9 b9)) hnh (by rw [hl.1, hml]) hS (Nat.le_of_ble_eq_true rfl) (Nat.le_of_ble_eq_true rfl) (Nat.le_of_ble_eq_true rfl) (Nat.le_of_ble_eq_true rfl) (Nat.le_of_ble_eq_true rfl) (Nat.le_of_ble_eq_true rfl) hlocks (fun t hal hk => ⟨hP.kept (fun k q hq => hk _ (hP k q hq).lt), hD⟩) d_D_erase_72 d_D_erase_75 d_D_erase_76 d_D_erase_79
set_option maxHeartbeats 8000000 in
set_option maxRecDepth 100000 in
theorem K_replace (l : Launch) (x : FX) {k : CK} {e : ES} (h : CRel e k) (w : EWf e) (hh : e.has = true) {ms : List (Nat × Nat)} (hms : Ms (e_R e) (e.tn e.p) 0 ms) (hrok : e_rok e ms = true) : KRetI l x y_D_replace w_D_replace ({ frames := 7, cells := 2, slots := 164, locals := 160 }) [.ref x.h] k e 2 164 (Int32.ofNat ms.length) (e_rep e ms) := by
  obtain ⟨A', M', hC2, hmA, hcoll⟩ := K_coll l x h w hh hms
  obtain ⟨k2, hk2⟩ : ∃ k2, k2 = k.dw k.I A' M' k.MB k.L := ⟨_, rfl⟩
  have hmA : msA k2.A 0 ms := by rw [hk2]; exact hmA
  rw [← hk2] at hC2 hcoll
  intro sz
  have tt := w.tt _ w.pb
  have htn := tt.nb
  have hsb := w.sb
  have hpb := w.pb
  have hn2 := w.n2
  have hcb := w.cb
  obtain ⟨l1, l2⟩ := e_lo_le w
  have hlen := Ms.len ms 0 (Nat.zero_le _) hms
  have hrl : rp_len e.sn (e.tn e.p) 0 ms < 2147483648 := rp_small (by clear w tt h hC2 hms hmA; omega) (by clear w tt h hC2 hms hmA; omega) ms 0 (Nat.zero_le _) hms
  refine Met.ofW (cc := prog_1_method_10_code) (maxL := 3) (ret := some .int) (by decide) rfl ?_
  intro p en s m args below meth c s₁ B hml hv
  obtain ⟨rfl, hsz, hP, hK, hD0⟩ := hv
  have hx := B.exec
  have hb := B.bytes
  have hr := B.returns
  have hts := atoms_spec (ws := w_D_replace) B.pre
  have hown : s.vm.findClass "DraftTree" = some m.cls := findClass_of_methodNamed B.named
  have hlocks := B.notSynchronized
  subst hsz
  have hD := hD0.self (sz := s.heap.size)
  generalize hAe : va_A (KW x k e) s.heap.size = B9 at hD ⊢
  have hA : ∀ q : Nat, s.heap.size ≤ q → B9 q := fun q h => by rw [← hAe]; exact Or.inr h
  clear hAe
  have hS : va_S B9 s.heap s.heap [] := va_S.rf
  have hl := lv_entry ([.ref x.h]) (n := 3) (Nat.le_of_ble_eq_true rfl)
  rw [lg_entry_eq]
  generalize (lg_sl ([.ref x.h]) ++ List.replicate (3 - (lg_sl ([.ref x.h])).length) Slot.unset).toArray = ls at hl ⊢
  have hl : lv_has ls 3 [(0, .ref x.h)] := hl
  obtain ⟨it, hit⟩ := List.getElem?_of_mem (kE_in x k w.pb)
  refine lv_aload_n hx hb d_D_replace_0 rfl (lv_at hl 0 rfl) ?_
  refine va_get (D := x.D) (ci := 0) (v := .int (k.I 10)) (C := R_D) (T := F_D) (N := 14) hx hb hts (fun w h => List.mem_cons_of_mem _ (in_D w h)) hown hK hP 0 rfl rfl 10 (by decide) (hts _ (List.mem_cons_of_mem _ lk_431)) (fun _ h9 => h9) rfl d_D_replace_1 ?_
  refine wk_top (w := .int (g_flag e.has)) (congrArg _ h.hh) ?_
  refine lv_if_ne (tgt := 15) hx hb d_D_replace_4 (by decide) (fun _ => ?_) (fun hc => absurd hc (by rw [hh]; decide))
  refine lv_aload_n hx hb d_D_replace_15 rfl (lv_at hl 0 rfl) ?_
  have hFc := va_freeM (wc := KW x k e) hD hS hA (fun _ h9 => h9)
  refine va_calli (va_runV (As := []) (rest := []) ⟨hx, hb, hml, hown, hts⟩ (hcoll _) (cwV 0 hts (gd_v lk_534 lk_535 lk_536 lk_445 lk_310) rfl rfl rfl (by decide +kernel) ⟨Nat.le_of_ble_eq_true rfl, Nat.le_of_ble_eq_true rfl⟩) ⟨fun a U g mk q => by obtain ⟨q0, q1, qP, qK, qD⟩ := q; exact ⟨q0, q1, qP, va_K.moved (u := U) (U := U.calling g mk a) (Vm.Alike.refl U.vm) qK, qD⟩, va_recv (ci := 0) (q0 := 0) hK hP rfl rfl, fun U hU hW => ⟨rfl, by rw [hU], by rw [hU]; exact hP, va_K.moved hW.alike hK, hD.weaken (fun _ _ _ _ => trivial)⟩⟩ rfl rfl hl.1 rfl (lv_room (Nat.le_of_ble_eq_true rfl)) d_D_replace_16 ⟨Nat.le_of_ble_eq_true rfl, Nat.le_of_ble_eq_true rfl⟩) hS (fun q _ h => hFc q h) hFc (fun r9 kn t H1 locs ht hvm hw hB hz1 hk1 hS => ?_)
  obtain ⟨hP1, hD1⟩ := hB
  rw [ht] at hP1
  have hP := hP1
  have hD := hD1.weaken (fun _ q _ h => hFc q.1 h)
  clear hP1 hD1 hFc hk1 hz1
  subst hw
  refine lv_istore_n (lv' := [(1, .int (Int32.ofNat ms.length)), (0, .ref x.h)]) hx hb d_D_replace_19 rfl hl (by decide) rfl (fun ls hl => ?_)
  have hl : lv_has ls 3 [(1, .int (Int32.ofNat ms.length)), (0, .ref x.h)] := hl
  obtain ⟨it, hit⟩ := List.getElem?_of_mem (kE_in x k2 w.pb)
  refine lv_iload_n hx hb d_D_replace_20 rfl (lv_at hl 0 rfl) ?_
  refine lv_if_le (tgt := 60) hx hb d_D_replace_21 (by decide) (fun hc => ?_) (fun hc => ?_)
  ·
    have h0 : ms.length ≤ 0 := (pn_le (b := 0) (by clear w tt h hC2 hms hmA; omega) (by decide)).mp hc
    have hnil : ms = [] := List.eq_nil_of_length_eq_zero (Nat.le_zero.mp h0)
    have he : e_rep e ms = e_sn e 0 := if_pos hnil
    refine lv_aload_n hx hb d_D_replace_60 rfl (lv_at hl 1 rfl) ?_
    refine lv_iconst (v := 0) hx hb d_D_replace_61 (by decide) ?_
    refine va_put (D := x.D) (ci := 0) (v := .int 0) (ty := .int) (C := R_D) (T := F_D) (N := 14) hx hb hts (fun w h => List.mem_cons_of_mem _ (in_D w h)) t_D tk_D n_D hown hK hP hD hS 0 rfl rfl 1 (by decide) (hts _ (List.mem_cons_of_mem _ lk_313)) (fun _ h9 => h9) rfl (by decide +kernel) rfl rfl (Nat.le_of_ble_eq_true rfl) d_D_replace_62 (fun H locs hP hD hS => ?_)
    have hP : va_P x.D vwCl (KW x (k2.dw (upd k2.I 1 0) k2.A k2.M k2.MB k2.L) e) H := hP
    have hD : va_D B9 (KW x (k2.dw (upd k2.I 1 0) k2.A k2.M k2.MB k2.L) e) := hD
    rw [← KW_same x _ (show SameT (e_sn e 0) e from ⟨rfl, rfl, rfl, rfl, rfl, rfl, rfl⟩), ← he] at hP hD
    have hC := (C_wipe hC2 0 (fun _ => 0)).2
    rw [← he] at hC
    generalize k2.dw (upd k2.I 1 0) k2.A k2.M k2.MB k2.L = k3 at hP hD hC
    refine lv_iload_n hx hb d_D_replace_65 rfl (lv_at hl 0 rfl) ?_
    refine W.widen (k := 2) (n := 164) (Nat.le_of_ble_eq_true rfl) (Nat.le_of_ble_eq_true rfl) ?_
    exact W.iret (v := Int32.ofNat ms.length) hx hb hr (fun t ht hW => ⟨⟨_, k3, rfl, ⟨rfl, hC⟩, by rw [ht]; exact hP, hD⟩, hS.F ht⟩) hS.2.2 d_D_replace_66
  ·
    have hnn : ms ≠ [] := fun z => hc (by rw [z]; decide)
    refine lv_aload_n hx hb d_D_replace_24 rfl (lv_at hl 1 rfl) ?_
    refine lv_iload_n hx hb d_D_replace_25 rfl (lv_at hl 0 rfl) ?_
    have hFc := va_freeM (wc := KW x k2 e) hD hS hA (fun _ h9 => h9)
    refine va_calli (va_runV (As := [.int (Int32.ofNat ms.length)]) (rest := []) ⟨hx, hb, hml, hown, hts⟩ (K_size l x hC2 w hms hmA _) (cwV 1 hts (gd_v lk_537 lk_538 lk_539 lk_445 lk_494) rfl rfl rfl (by decide +kernel) ⟨Nat.le_of_ble_eq_true rfl, Nat.le_of_ble_eq_true rfl⟩) ⟨fun a U g mk q => by obtain ⟨q0, q1, qP, qK, qD⟩ := q; exact ⟨q0, q1, qP, va_K.moved (u := U) (U := U.calling g mk a) (Vm.Alike.refl U.vm) qK, qD⟩, va_recv (ci := 0) (q0 := 0) hK hP rfl rfl, fun U hU hW => ⟨rfl, by rw [hU], by rw [hU]; exact hP, va_K.moved hW.alike hK, hD.weaken (fun _ _ _ _ => trivial)⟩⟩ rfl rfl hl.1 rfl (lv_room (Nat.le_of_ble_eq_true rfl)) d_D_replace_26 ⟨Nat.le_of_ble_eq_true rfl, Nat.le_of_ble_eq_true rfl⟩) hS (fun q _ h => hFc q h) hFc (fun r9 kn t H1 locs ht hvm hw hB hz1 hk1 hS => ?_)
    obtain ⟨hP1, hD1⟩ := hB
    rw [ht] at hP1
    have hP := hP1
    have hD := hD1.weaken (fun _ q _ h => hFc q.1 h)
    clear hP1 hD1 hFc hk1 hz1
    subst hw
    refine lv_istore_n (lv' := [(2, .int (Int32.ofNat (rp_len e.sn (e.tn e.p) 0 ms))), (1, .int (Int32.ofNat ms.length)), (0, .ref x.h)]) hx hb d_D_replace_29 rfl hl (by decide) rfl (fun ls hl => ?_)
    have hl : lv_has ls 3 [(2, .int (Int32.ofNat (rp_len e.sn (e.tn e.p) 0 ms))), (1, .int (Int32.ofNat ms.length)), (0, .ref x.h)] := hl
    refine lv_iload_n hx hb d_D_replace_30 rfl (lv_at hl 0 rfl) ?_
    refine lv_sipush (v := 160) hx hb d_D_replace_31 (by decide) ?_
    refine lv_icmp_gt (tgt := 46) hx hb d_D_replace_34 (by decide) (fun hc2 => ?_) (fun hc2 => ?_)
    ·
      have hbig : 160 < rp_len e.sn (e.tn e.p) 0 ms := (pn_lt (a := 160) (by decide) hrl).mp hc2
      exact absurd hrok (by rw [show e_rok e ms = false from decide_eq_false (fun z => z.elim hnn (fun y => y (Or.inl hbig)))]; decide)
    ·
      have hsm : rp_len e.sn (e.tn e.p) 0 ms ≤ 160 := Nat.le_of_not_lt (fun z => hc2 ((pn_lt (a := 160) (by decide) hrl).mpr z))
      refine lv_aload_n hx hb d_D_replace_37 rfl (lv_at hl 2 rfl) ?_
      refine va_get (D := x.D) (ci := 0) (v := .int (k2.I 3)) (C := R_D) (T := F_D) (N := 14) hx hb hts (fun w h => List.mem_cons_of_mem _ (in_D w h)) hown hK hP 0 rfl rfl 3 (by decide) (hts _ (List.mem_cons_of_mem _ lk_437)) (fun _ h9 => h9) rfl d_D_replace_38 ?_
      refine wk_top (w := .int (Int32.ofNat e.n)) (congrArg _ hC2.hn) ?_
      refine lv_bipush (v := 40) hx hb d_D_replace_41 (by decide) ?_
      refine lv_icmp_ne (tgt := 54) hx hb d_D_replace_43 (by decide) (fun hc3 => ?_) (fun hc3 => ?_)
      ·
        have hn : e.n ≠ 40 := fun z => hc3 (by rw [z]; rfl)
        refine lv_aload_n hx hb d_D_replace_54 rfl (lv_at hl 2 rfl) ?_
        refine lv_iload_n hx hb d_D_replace_55 rfl (lv_at hl 1 rfl) ?_
        refine lv_iload_n hx hb d_D_replace_56 rfl (lv_at hl 0 rfl) ?_
        have hFc := va_freeM (wc := KW x k2 e) hD hS hA (fun _ h9 => h9)
        refine va_callv (va_runV (As := [.int (Int32.ofNat ms.length), .int (Int32.ofNat (rp_len e.sn (e.tn e.p) 0 ms))]) (rest := []) ⟨hx, hb, hml, hown, hts⟩ (K_put l x hC2 w (show e.n < 40 by clear w tt h hC2 hms hmA; omega) hms hmA hsm _) (cwV 2 hts (gd_v lk_540 lk_541 lk_542 lk_445 lk_532) rfl rfl rfl (by decide +kernel) ⟨Nat.le_of_ble_eq_true rfl, Nat.le_of_ble_eq_true rfl⟩) ⟨fun a U g mk q => by obtain ⟨q0, q1, qP, qK, qD⟩ := q; exact ⟨q0, q1, qP, va_K.moved (u := U) (U := U.calling g mk a) (Vm.Alike.refl U.vm) qK, qD⟩, va_recv (ci := 0) (q0 := 0) hK hP rfl rfl, fun U hU hW => ⟨rfl, by rw [hU], by rw [hU]; exact hP, va_K.moved hW.alike hK, hD.weaken (fun _ _ _ _ => trivial)⟩⟩ rfl rfl hl.1 rfl (lv_room (Nat.le_of_ble_eq_true rfl)) d_D_replace_57 ⟨Nat.le_of_ble_eq_true rfl, Nat.le_of_ble_eq_true rfl⟩) hS (fun q _ h => hFc q h) hFc (fun kn t H1 locs ht hvm hw hB hz1 hk1 hS => ?_)
        obtain ⟨hP1, hD1⟩ := hB
        rw [ht] at hP1
        have hP := hP1
        have hD := hD1.weaken (fun _ q _ h => hFc q.1 h)
        clear hP1 hD1 hFc hk1 hz1
        refine W.cs (cells' := 2) (slots' := 164) rfl rfl ?_
        have he : e_rep e ms = e_sn (pE e ms) 0 := (if_neg hnn).trans (if_neg (fun z => z.elim (fun y => absurd hsm (Nat.not_le_of_lt y)) hn))
        generalize pE e ms = e1 at hP hD hw he
        refine lv_aload_n hx hb d_D_replace_60 rfl (lv_at hl 2 rfl) ?_
        refine lv_iconst (v := 0) hx hb d_D_replace_61 (by decide) ?_
        refine va_put (D := x.D) (ci := 0) (v := .int 0) (ty := .int) (C := R_D) (T := F_D) (N := 14) hx hb hts (fun w h => List.mem_cons_of_mem _ (in_D w h)) t_D tk_D n_D hown hK hP hD hS 0 rfl rfl 1 (by decide) (hts _ (List.mem_cons_of_mem _ lk_313)) (fun _ h9 => h9) rfl (by decide +kernel) rfl rfl (Nat.le_of_ble_eq_true rfl) d_D_replace_62 (fun H locs hP hD hS => ?_)
        have hP : va_P x.D vwCl (KW x (kn.dw (upd kn.I 1 0) kn.A kn.M kn.MB kn.L) e1) H := hP
        have hD : va_D B9 (KW x (kn.dw (upd kn.I 1 0) kn.A kn.M kn.MB kn.L) e1) := hD
        rw [← KW_same x _ (show SameT (e_sn e1 0) e1 from ⟨rfl, rfl, rfl, rfl, rfl, rfl, rfl⟩), ← he] at hP hD
        have hC := (C_wipe hw 0 (fun _ => 0)).2
        rw [← he] at hC
        generalize kn.dw (upd kn.I 1 0) kn.A kn.M kn.MB kn.L = k3 at hP hD hC
        refine lv_iload_n hx hb d_D_replace_65 rfl (lv_at hl 1 rfl) ?_
        exact W.iret (v := Int32.ofNat ms.length) hx hb hr (fun t ht hW => ⟨⟨_, k3, rfl, ⟨rfl, hC⟩, by rw [ht]; exact hP, hD⟩, hS.F ht⟩) hS.2.2 d_D_replace_66
      ·
        have hn : e.n = 40 := (pn_eqN (b := 40) (by clear w tt h hC2 hms hmA; omega) (by decide)).mp hc3
        exact absurd hrok (by rw [show e_rok e ms = false from decide_eq_false (fun z => z.elim hnn (fun y => y (Or.inr hn)))]; decide)
set_option maxHeartbeats 8000000 in
set_option maxRecDepth 100000 in
theorem Kt_replace1 (l : Launch) (hfl : l.flags = flags0) (x : FX) {k : CK} {e : ES} (h : CRel e k) (w : EWf e) (hh : e.has = false) : KThr l x y_D_replace w_D_replace ({ frames := 8, cells := 1, slots := 6, locals := 160 }) [.ref x.h] k e 1 6 "java/lang/IllegalStateException" e := by
  refine ⟨k, h, fun sz => ?_⟩
  have tt := w.tt _ w.pb
  have htn := tt.nb
  have hsb := w.sb
  have hpb := w.pb
  have hn2 := w.n2
  have hcb := w.cb
  obtain ⟨l1, l2⟩ := e_lo_le w
  refine th_Met.ofW (cc := prog_1_method_10_code) (maxL := 3) (ret := some .int) (by decide) rfl ?_
  intro p en s m args below meth c s₁ B hml hnh hv
  obtain ⟨rfl, hsz, hP, hK, hD0, hZ⟩ := hv
  have hx := B.exec
  have hb := B.bytes
  have hr := B.returns
  have hts := atoms_spec (ws := w_D_replace) B.pre
  have hown : s.vm.findClass "DraftTree" = some m.cls := findClass_of_methodNamed B.named
  have hlocks := B.notSynchronized
  have htr := Launch.traces_off hfl B.admits
  subst hsz
  have hD := hD0.self (sz := s.heap.size)
  generalize hAe : va_A (KW x k e) s.heap.size = B9 at hD hZ ⊢
  have hA : ∀ q : Nat, s.heap.size ≤ q → B9 q := fun q h => by rw [← hAe]; exact Or.inr h
  clear hAe
  have hS : va_S B9 s.heap s.heap [] := va_S.rf
  have hl := lv_entry ([.ref x.h]) (n := 3) (Nat.le_of_ble_eq_true rfl)
  rw [lg_entry_eq]
  generalize (lg_sl ([.ref x.h]) ++ List.replicate (3 - (lg_sl ([.ref x.h])).length) Slot.unset).toArray = ls at hl ⊢
  have hl : lv_has ls 3 [(0, .ref x.h)] := hl
  obtain ⟨it, hit⟩ := List.getElem?_of_mem (kE_in x k w.pb)
  refine lv_aload_n hx hb d_D_replace_0 rfl (lv_at hl 0 rfl) ?_
  refine va_get (D := x.D) (ci := 0) (v := .int (k.I 10)) (C := R_D) (T := F_D) (N := 14) hx hb hts (fun w h => List.mem_cons_of_mem _ (in_D w h)) hown hK hP 0 rfl rfl 10 (by decide) (hts _ (List.mem_cons_of_mem _ lk_431)) (fun _ h9 => h9) rfl d_D_replace_1 ?_
  refine wk_top (w := .int (g_flag e.has)) (congrArg _ h.hh) ?_
  refine lv_if_ne (tgt := 15) hx hb d_D_replace_4 (by decide) (fun hc => absurd (by rw [hh]; rfl) hc) (fun _ => ?_)
  exact th_newG hx hb htr hown (by decide) (by decide) (wk_thr hts hZ hS lk_446 lk_447 (fun _ a9 b9 => oa_2 a9 b9)) hnh (by rw [hl.1, hml]) hS (Nat.le_of_ble_eq_true rfl) (Nat.le_of_ble_eq_true rfl) (Nat.le_of_ble_eq_true rfl) (Nat.le_of_ble_eq_true rfl) (Nat.le_of_ble_eq_true rfl) (Nat.le_of_ble_eq_true rfl) hlocks (fun t hal hk => ⟨hP.kept (fun k q hq => hk _ (hP k q hq).lt), hD⟩) d_D_replace_7 d_D_replace_10 d_D_replace_11 d_D_replace_14
set_option maxHeartbeats 8000000 in
set_option maxRecDepth 100000 in
theorem Kt_replace2 (l : Launch) (hfl : l.flags = flags0) (x : FX) {k : CK} {e : ES} (h : CRel e k) (w : EWf e) (hh : e.has = true) {ms : List (Nat × Nat)} (hms : Ms (e_R e) (e.tn e.p) 0 ms) (hrok : e_rok e ms = false) : KThr l x y_D_replace w_D_replace ({ frames := 8, cells := 1, slots := 6, locals := 160 }) [.ref x.h] k e 1 6 "java/lang/IllegalStateException" e := by
  obtain ⟨A', M', hC2, hmA, hcoll⟩ := K_coll l x h w hh hms
  obtain ⟨k2, hk2⟩ : ∃ k2, k2 = k.dw k.I A' M' k.MB k.L := ⟨_, rfl⟩
  have hmA : msA k2.A 0 ms := by rw [hk2]; exact hmA
  rw [← hk2] at hC2 hcoll
  refine ⟨k2, hC2, fun sz => ?_⟩
  have tt := w.tt _ w.pb
  have htn := tt.nb
  have hsb := w.sb
  have hpb := w.pb
  have hn2 := w.n2
  have hcb := w.cb
  obtain ⟨l1, l2⟩ := e_lo_le w
  have hlen := Ms.len ms 0 (Nat.zero_le _) hms
  have hrl : rp_len e.sn (e.tn e.p) 0 ms < 2147483648 := rp_small (by clear w tt h hC2 hms hmA; omega) (by clear w tt h hC2 hms hmA; omega) ms 0 (Nat.zero_le _) hms
  refine th_Met.ofW (cc := prog_1_method_10_code) (maxL := 3) (ret := some .int) (by decide) rfl ?_
  intro p en s m args below meth c s₁ B hml hnh hv
  obtain ⟨rfl, hsz, hP, hK, hD0, hZ⟩ := hv
  have hx := B.exec
  have hb := B.bytes
  have hr := B.returns
  have hts := atoms_spec (ws := w_D_replace) B.pre
  have hown : s.vm.findClass "DraftTree" = some m.cls := findClass_of_methodNamed B.named
  have hlocks := B.notSynchronized
  have htr := Launch.traces_off hfl B.admits
  subst hsz
  have hD := hD0.self (sz := s.heap.size)
  generalize hAe : va_A (KW x k e) s.heap.size = B9 at hD hZ ⊢
  have hA : ∀ q : Nat, s.heap.size ≤ q → B9 q := fun q h => by rw [← hAe]; exact Or.inr h
  clear hAe
  have hS : va_S B9 s.heap s.heap [] := va_S.rf
  have hl := lv_entry ([.ref x.h]) (n := 3) (Nat.le_of_ble_eq_true rfl)
  rw [lg_entry_eq]
  generalize (lg_sl ([.ref x.h]) ++ List.replicate (3 - (lg_sl ([.ref x.h])).length) Slot.unset).toArray = ls at hl ⊢
  have hl : lv_has ls 3 [(0, .ref x.h)] := hl
  obtain ⟨it, hit⟩ := List.getElem?_of_mem (kE_in x k w.pb)
  refine lv_aload_n hx hb d_D_replace_0 rfl (lv_at hl 0 rfl) ?_
  refine va_get (D := x.D) (ci := 0) (v := .int (k.I 10)) (C := R_D) (T := F_D) (N := 14) hx hb hts (fun w h => List.mem_cons_of_mem _ (in_D w h)) hown hK hP 0 rfl rfl 10 (by decide) (hts _ (List.mem_cons_of_mem _ lk_431)) (fun _ h9 => h9) rfl d_D_replace_1 ?_
  refine wk_top (w := .int (g_flag e.has)) (congrArg _ h.hh) ?_
  refine lv_if_ne (tgt := 15) hx hb d_D_replace_4 (by decide) (fun _ => ?_) (fun hc => absurd hc (by rw [hh]; decide))
  refine lv_aload_n hx hb d_D_replace_15 rfl (lv_at hl 0 rfl) ?_
  have hFc := va_freeM (wc := KW x k e) hD hS hA (fun _ h9 => h9)
  refine va_calli (va_runV (As := []) (rest := []) ⟨hx, hb, hml, hown, hts⟩ (hcoll _) (cwV 0 hts (gd_v lk_534 lk_535 lk_536 lk_445 lk_310) rfl rfl rfl (by decide +kernel) ⟨Nat.le_of_ble_eq_true rfl, Nat.le_of_ble_eq_true rfl⟩) ⟨fun a U g mk q => by obtain ⟨q0, q1, qP, qK, qD⟩ := q; exact ⟨q0, q1, qP, va_K.moved (u := U) (U := U.calling g mk a) (Vm.Alike.refl U.vm) qK, qD⟩, va_recv (ci := 0) (q0 := 0) hK hP rfl rfl, fun U hU hW => ⟨rfl, by rw [hU], by rw [hU]; exact hP, va_K.moved hW.alike hK, hD.weaken (fun _ _ _ _ => trivial)⟩⟩ rfl rfl hl.1 rfl (lv_room (Nat.le_of_ble_eq_true rfl)) d_D_replace_16 ⟨Nat.le_of_ble_eq_true rfl, Nat.le_of_ble_eq_true rfl⟩) hS (fun q _ h => hFc q h) hFc (fun r9 kn t H1 locs ht hvm hw hB hz1 hk1 hS => ?_)
  obtain ⟨hP1, hD1⟩ := hB
  rw [ht] at hP1
  have hP := hP1
  have hD := hD1.weaken (fun _ q _ h => hFc q.1 h)
  clear hP1 hD1 hFc hk1 hz1
  subst hw
  refine lv_istore_n (lv' := [(1, .int (Int32.ofNat ms.length)), (0, .ref x.h)]) hx hb d_D_replace_19 rfl hl (by decide) rfl (fun ls hl => ?_)
  have hl : lv_has ls 3 [(1, .int (Int32.ofNat ms.length)), (0, .ref x.h)] := hl
  obtain ⟨it, hit⟩ := List.getElem?_of_mem (kE_in x k2 w.pb)
  refine lv_iload_n hx hb d_D_replace_20 rfl (lv_at hl 0 rfl) ?_
  refine lv_if_le (tgt := 60) hx hb d_D_replace_21 (by decide) (fun hc => ?_) (fun hc => ?_)
  ·
    have h0 : ms.length ≤ 0 := (pn_le (b := 0) (by clear w tt h hC2 hms hmA; omega) (by decide)).mp hc
    have hnil : ms = [] := List.eq_nil_of_length_eq_zero (Nat.le_zero.mp h0)
    exact absurd hrok (by rw [show e_rok e ms = true from decide_eq_true (Or.inl hnil)]; decide)
  ·
    have hnn : ms ≠ [] := fun z => hc (by rw [z]; decide)
    refine lv_aload_n hx hb d_D_replace_24 rfl (lv_at hl 1 rfl) ?_
    refine lv_iload_n hx hb d_D_replace_25 rfl (lv_at hl 0 rfl) ?_
    have hFc := va_freeM (wc := KW x k2 e) hD hS hA (fun _ h9 => h9)
    refine va_calli (va_runV (As := [.int (Int32.ofNat ms.length)]) (rest := []) ⟨hx, hb, hml, hown, hts⟩ (K_size l x hC2 w hms hmA _) (cwV 1 hts (gd_v lk_537 lk_538 lk_539 lk_445 lk_494) rfl rfl rfl (by decide +kernel) ⟨Nat.le_of_ble_eq_true rfl, Nat.le_of_ble_eq_true rfl⟩) ⟨fun a U g mk q => by obtain ⟨q0, q1, qP, qK, qD⟩ := q; exact ⟨q0, q1, qP, va_K.moved (u := U) (U := U.calling g mk a) (Vm.Alike.refl U.vm) qK, qD⟩, va_recv (ci := 0) (q0 := 0) hK hP rfl rfl, fun U hU hW => ⟨rfl, by rw [hU], by rw [hU]; exact hP, va_K.moved hW.alike hK, hD.weaken (fun _ _ _ _ => trivial)⟩⟩ rfl rfl hl.1 rfl (lv_room (Nat.le_of_ble_eq_true rfl)) d_D_replace_26 ⟨Nat.le_of_ble_eq_true rfl, Nat.le_of_ble_eq_true rfl⟩) hS (fun q _ h => hFc q h) hFc (fun r9 kn t H1 locs ht hvm hw hB hz1 hk1 hS => ?_)
    obtain ⟨hP1, hD1⟩ := hB
    rw [ht] at hP1
    have hP := hP1
    have hD := hD1.weaken (fun _ q _ h => hFc q.1 h)
    clear hP1 hD1 hFc hk1 hz1
    subst hw
    refine lv_istore_n (lv' := [(2, .int (Int32.ofNat (rp_len e.sn (e.tn e.p) 0 ms))), (1, .int (Int32.ofNat ms.length)), (0, .ref x.h)]) hx hb d_D_replace_29 rfl hl (by decide) rfl (fun ls hl => ?_)
    have hl : lv_has ls 3 [(2, .int (Int32.ofNat (rp_len e.sn (e.tn e.p) 0 ms))), (1, .int (Int32.ofNat ms.length)), (0, .ref x.h)] := hl
    refine lv_iload_n hx hb d_D_replace_30 rfl (lv_at hl 0 rfl) ?_
    refine lv_sipush (v := 160) hx hb d_D_replace_31 (by decide) ?_
    refine lv_icmp_gt (tgt := 46) hx hb d_D_replace_34 (by decide) (fun hc2 => ?_) (fun hc2 => ?_)
    ·
      have hbig : 160 < rp_len e.sn (e.tn e.p) 0 ms := (pn_lt (a := 160) (by decide) hrl).mp hc2
      exact th_newG hx hb htr hown (by decide) (by decide) (wk_thr hts hZ hS lk_446 lk_447 (fun _ a9 b9 => oa_2 a9 b9)) hnh (by rw [hl.1, hml]) hS (Nat.le_of_ble_eq_true rfl) (Nat.le_of_ble_eq_true rfl) (Nat.le_of_ble_eq_true rfl) (Nat.le_of_ble_eq_true rfl) (Nat.le_of_ble_eq_true rfl) (Nat.le_of_ble_eq_true rfl) hlocks (fun t hal hk => ⟨hP.kept (fun k q hq => hk _ (hP k q hq).lt), hD⟩) d_D_replace_46 d_D_replace_49 d_D_replace_50 d_D_replace_53
    ·
      have hsm : rp_len e.sn (e.tn e.p) 0 ms ≤ 160 := Nat.le_of_not_lt (fun z => hc2 ((pn_lt (a := 160) (by decide) hrl).mpr z))
      refine lv_aload_n hx hb d_D_replace_37 rfl (lv_at hl 2 rfl) ?_
      refine va_get (D := x.D) (ci := 0) (v := .int (k2.I 3)) (C := R_D) (T := F_D) (N := 14) hx hb hts (fun w h => List.mem_cons_of_mem _ (in_D w h)) hown hK hP 0 rfl rfl 3 (by decide) (hts _ (List.mem_cons_of_mem _ lk_437)) (fun _ h9 => h9) rfl d_D_replace_38 ?_
      refine wk_top (w := .int (Int32.ofNat e.n)) (congrArg _ hC2.hn) ?_
      refine lv_bipush (v := 40) hx hb d_D_replace_41 (by decide) ?_
      refine lv_icmp_ne (tgt := 54) hx hb d_D_replace_43 (by decide) (fun hc3 => ?_) (fun hc3 => ?_)
      ·
        have hn : e.n ≠ 40 := fun z => hc3 (by rw [z]; rfl)
        exact absurd hrok (by rw [show e_rok e ms = true from decide_eq_true (Or.inr (fun z => z.elim (fun y => absurd hsm (Nat.not_le_of_lt y)) hn))]; decide)
      ·
        exact th_newG hx hb htr hown (by decide) (by decide) (wk_thr hts hZ hS lk_446 lk_447 (fun _ a9 b9 => oa_2 a9 b9)) hnh (by rw [hl.1, hml]) hS (Nat.le_of_ble_eq_true rfl) (Nat.le_of_ble_eq_true rfl) (Nat.le_of_ble_eq_true rfl) (Nat.le_of_ble_eq_true rfl) (Nat.le_of_ble_eq_true rfl) (Nat.le_of_ble_eq_true rfl) hlocks (fun t hal hk => ⟨hP.kept (fun k q hq => hk _ (hP k q hq).lt), hD⟩) d_D_replace_46 d_D_replace_49 d_D_replace_50 d_D_replace_53
-- 79.hlp
-- own rows: the law's helpers
abbrev oC (x : FX) (ov : Nat → Int64) : Nat × va_E := (x.ob, .inl (x.gl, 1, .inr (.inl ov)))
abbrev HW (x : FX) (k : CK) (e : ES) (ov : Nat → Int64) : va_W := oC x ov :: KW x k e
abbrev hRm : Room := { frames := 9, cells := 3, slots := 170, locals := 300 }
theorem perm_o (x : FX) (k : CK) (e : ES) (ov : Nat → Int64) : (HW x k e ov).Perm (KW x k e ++ [oC x ov]) := List.perm_append_comm (l₁ := [oC x ov]) (l₂ := KW x k e)
/-- a helper returns the code c -/
def HRet (l : Launch) (x : FX) (y : MethodName) (wl : List Cond) (av : List Value) (k : CK) (e : ES) (ov : Nat → Int64) (c : Int32) (e' : ES) (ov' : Nat → Int64) : Prop := ∀ sz : Nat, Met l y wl hRm (va_Pc av (kPreT x.D sz (HW x k e ov) (kT x))) (va_Qi (fun (r9 : Int32) (k' : CK) => r9 = c ∧ CRel e' k') (fun k' t => va_P x.D vwCl (HW x k' e' ov') t.heap ∧ va_D (va_A (HW x k e ov) sz) (HW x k' e' ov')) (va_A (HW x k e ov) sz)) 3 170 (va_A (HW x k e ov) sz)
theorem KRetI.up {l : Launch} {x : FX} {y : MethodName} {wl : List Cond} {rm : Room} {av : List Value} {k : CK} {e : ES} {mc ms : Nat} {r : Int32} {e' : ES} (h : KRetI l x y wl rm av k e mc ms r e') (ov : Nat → Int64) (sz : Nat) : Met l y wl rm (va_Pc av (kPre x.D sz (HW x k e ov) (kT x))) (va_Qi (fun (r9 : Int32) (k' : CK) => r9 = r ∧ CRel e' k') (fun k' t => va_P x.D vwCl (HW x k' e' ov) t.heap ∧ va_D (va_A (HW x k e ov) sz) (HW x k' e' ov)) (va_A (HW x k e ov) sz)) mc ms (va_A (HW x k e ov) sz) :=
  Met.liftI (rs := [oC x ov]) (fun k' => HW x k' e' ov) (h sz) (fun _ _ z => z) (perm_o x k e ov) (fun k' => perm_o x k' e' ov) (fun _ z => z)
theorem KRetV.up {l : Launch} {x : FX} {y : MethodName} {wl : List Cond} {rm : Room} {av : List Value} {k : CK} {e : ES} {mc ms : Nat} {e' : ES} (h : KRetV l x y wl rm av k e mc ms e') (ov : Nat → Int64) (sz : Nat) : Met l y wl rm (va_Pc av (kPre x.D sz (HW x k e ov) (kT x))) (va_Qv (fun (k' : CK) => CRel e' k') (fun k' t => va_P x.D vwCl (HW x k' e' ov) t.heap ∧ va_D (va_A (HW x k e ov) sz) (HW x k' e' ov)) (va_A (HW x k e ov) sz)) mc ms (va_A (HW x k e ov) sz) :=
  Met.liftV (rs := [oC x ov]) (fun k' => HW x k' e' ov) (h sz) (fun _ _ z => z) (perm_o x k e ov) (fun k' => perm_o x k' e' ov) (fun _ z => z)
theorem KThr.up {l : Launch} {x : FX} {y : MethodName} {wl : List Cond} {rm : Room} {av : List Value} {k : CK} {e : ES} {mc ms : Nat} {E : String} {e' : ES} (h : KThr l x y wl rm av k e mc ms E e') (ov : Nat → Int64) : ∃ k' : CK, CRel e' k' ∧ ∀ sz : Nat, th_Met l y wl rm (va_Pc av (kPreT x.D sz (HW x k e ov) (kT x))) (th_Qw E (fun t => va_P x.D vwCl (HW x k' e' ov) t.heap ∧ va_D (va_A (HW x k e ov) sz) (HW x k' e' ov)) (va_A (HW x k e ov) sz)) mc ms (va_A (HW x k e ov) sz) := by
  obtain ⟨k', hr, hM⟩ := h
  exact ⟨k', hr, fun sz => th_Met.lift (rs := [oC x ov]) (hM sz) (fun _ z => z) (perm_o x k e ov) (perm_o x k' e' ov) (fun _ z => z)⟩
set_option maxHeartbeats 8000000 in
set_option maxRecDepth 100000 in
theorem H_insert_0 (l : Launch) (hfl : l.flags = flags0) (x : FX) {k : CK} {e : ES} (ov : Nat → Int64) {r : Int32} {e' : ES} (hM : KRetI l x y_D_insert w_D_insert ({ frames := 5, cells := 2, slots := 164, locals := 150 }) [.ref x.h] k e 2 164 r e') : HRet l x y_L_insert w_L_insert [.ref x.h, .ref x.ob] k e ov 0 e' (vp_updL ov 0 r.toInt64) := by
  intro sz
  refine th_ofWw (tab := [(0, 8, 11, 13)]) (cc := method_3_code) (maxL := 3) (ret := some .int) (by decide) rfl ?_
  intro p en s m args below meth c s₁ B hml htab hv
  obtain ⟨rfl, hsz, hP, hK, hD0, hZ⟩ := hv
  have hx := B.exec
  have hb := B.bytes
  have hr := B.returns
  have hts := atoms_spec (ws := w_L_insert) B.pre
  have hown : s.vm.findClass "DraftTreeLaw" = some m.cls := findClass_of_methodNamed B.named
  subst hsz
  have hD := hD0.self (sz := s.heap.size)
  generalize hAe : va_A (HW x k e ov) s.heap.size = B9 at hD hZ ⊢
  have hA : ∀ q : Nat, s.heap.size ≤ q → B9 q := fun q h => by rw [← hAe]; exact Or.inr h
  clear hAe
  have hS : va_S B9 s.heap s.heap [] := va_S.rf
  have hl := lv_entry ([.ref x.h, .ref x.ob]) (n := 3) (Nat.le_of_ble_eq_true rfl)
  rw [lg_entry_eq]
  generalize (lg_sl ([.ref x.h, .ref x.ob]) ++ List.replicate (3 - (lg_sl ([.ref x.h, .ref x.ob])).length) Slot.unset).toArray = ls at hl ⊢
  have hl : lv_has ls 3 [(0, .ref x.h), (1, .ref x.ob)] := hl
  refine lv_aload_n hx hb d_L_insert_0 rfl (lv_at hl 1 rfl) ?_
  refine lv_iconst (v := 0) hx hb d_L_insert_1 (by decide) ?_
  refine lv_aload_n hx hb d_L_insert_2 rfl (lv_at hl 0 rfl) ?_
  have hFc := va_freeM (wc := HW x k e ov) hD hS hA (fun _ h9 => h9)
  refine va_calli (va_runV (As := []) (rest := [.int 0, .ref x.ob]) ⟨hx, hb, hml, hown, hts⟩ (hM.up ov _) (cwV 0 hts (gd_v lk_572 lk_573 lk_574 lk_445 lk_526) rfl rfl rfl (by decide +kernel) ⟨Nat.le_of_ble_eq_true rfl, Nat.le_of_ble_eq_true rfl⟩) ⟨fun a U g mk q => by obtain ⟨q0, q1, qP, qK, qD⟩ := q; exact ⟨q0, q1, qP, va_K.moved (u := U) (U := U.calling g mk a) (Vm.Alike.refl U.vm) qK, qD⟩, va_recv (ci := 0) (q0 := 1) hK hP rfl rfl, fun U hU hW => ⟨rfl, by rw [hU], by rw [hU]; exact hP, va_K.moved hW.alike hK, hD.weaken (fun _ _ _ _ => trivial)⟩⟩ rfl rfl hl.1 rfl (lv_room (Nat.le_of_ble_eq_true rfl)) d_L_insert_3 ⟨Nat.le_of_ble_eq_true rfl, Nat.le_of_ble_eq_true rfl⟩) hS (fun q _ h => hFc q h) hFc (fun r9 kn t H1 locs ht hvm hw hB hz1 hk1 hS => ?_)
  obtain ⟨hP1, hD1⟩ := hB
  rw [ht] at hP1
  have hP := hP1
  have hD := hD1.weaken (fun _ q _ h => hFc q.1 h)
  clear hP1 hD1 hFc hk1 hz1
  refine W.cs (cells' := 2) (slots' := 164) rfl rfl ?_
  obtain ⟨hw0, hC⟩ := hw
  subst hw0
  refine lv_i2l hx hb d_L_insert_6 rfl ?_
  refine va_last hx hb hK hP hD hS 0 2 rfl rfl (wk_inb_ok (by decide)) d_L_insert_7 (fun H locs hP hD hS => ?_)
  have hP : va_P x.D vwCl (HW x kn e' (vp_updL ov 0 r9.toInt64)) H := hP
  have hD : va_D B9 (HW x kn e' (vp_updL ov 0 r9.toInt64)) := hD
  refine lv_goto (tgt := 14) hx hb d_L_insert_8 (by decide) ?_
  refine lv_iconst (v := 0) hx hb d_L_insert_14 (by decide) ?_
  refine W.widen (k := 3) (n := 170) (Nat.le_of_ble_eq_true rfl) (Nat.le_of_ble_eq_true rfl) ?_
  exact W.iret (v := 0) hx hb hr (fun t ht hW => ⟨⟨_, kn, rfl, ⟨rfl, hC⟩, by rw [ht]; exact hP, hD⟩, hS.F ht⟩) hS.2.2 d_L_insert_15
set_option maxHeartbeats 8000000 in
set_option maxRecDepth 100000 in
theorem H_insert_1 (l : Launch) (hfl : l.flags = flags0) (x : FX) {k : CK} {e : ES} (ov : Nat → Int64) {e' : ES} (hM : KThr l x y_D_insert w_D_insert ({ frames := 6, cells := 1, slots := 6, locals := 120 }) [.ref x.h] k e 1 6 "java/lang/IllegalStateException" e') : HRet l x y_L_insert w_L_insert [.ref x.h, .ref x.ob] k e ov 1 e' ov := by
  obtain ⟨kn, hC, hT⟩ := hM.up ov
  intro sz
  refine th_ofWw (tab := [(0, 8, 11, 13)]) (cc := method_3_code) (maxL := 3) (ret := some .int) (by decide) rfl ?_
  intro p en s m args below meth c s₁ B hml htab hv
  obtain ⟨rfl, hsz, hP, hK, hD0, hZ⟩ := hv
  have hx := B.exec
  have hb := B.bytes
  have hr := B.returns
  have hts := atoms_spec (ws := w_L_insert) B.pre
  have hown : s.vm.findClass "DraftTreeLaw" = some m.cls := findClass_of_methodNamed B.named
  subst hsz
  have hD := hD0.self (sz := s.heap.size)
  generalize hAe : va_A (HW x k e ov) s.heap.size = B9 at hD hZ ⊢
  have hA : ∀ q : Nat, s.heap.size ≤ q → B9 q := fun q h => by rw [← hAe]; exact Or.inr h
  clear hAe
  have hS : va_S B9 s.heap s.heap [] := va_S.rf
  have hl := lv_entry ([.ref x.h, .ref x.ob]) (n := 3) (Nat.le_of_ble_eq_true rfl)
  rw [lg_entry_eq]
  generalize (lg_sl ([.ref x.h, .ref x.ob]) ++ List.replicate (3 - (lg_sl ([.ref x.h, .ref x.ob])).length) Slot.unset).toArray = ls at hl ⊢
  have hl : lv_has ls 3 [(0, .ref x.h), (1, .ref x.ob)] := hl
  refine lv_aload_n hx hb d_L_insert_0 rfl (lv_at hl 1 rfl) ?_
  refine lv_iconst (v := 0) hx hb d_L_insert_1 (by decide) ?_
  refine lv_aload_n hx hb d_L_insert_2 rfl (lv_at hl 0 rfl) ?_
  have hFc := va_freeM (wc := HW x k e ov) hD hS hA (fun _ h9 => h9)
  refine th_catch (own := "DraftTreeLaw") (C := "java/lang/IllegalStateException") (hpc := 11) (A1 := va_A (HW x k e ov) s.heap.size) (th_runV (As := []) (rest := [.int 0, .ref x.ob]) ⟨hx, hb, hml, hown, hts⟩ (hT _) (cwV 0 hts (gd_v lk_572 lk_573 lk_574 lk_445 lk_526) rfl rfl rfl (by decide +kernel) ⟨Nat.le_of_ble_eq_true rfl, Nat.le_of_ble_eq_true rfl⟩) ⟨fun a U g mk q => by obtain ⟨q0, q1, qP, qK, qD, qZ⟩ := q; exact ⟨q0, q1, qP, va_K.moved (u := U) (U := U.calling g mk a) (Vm.Alike.refl U.vm) qK, qD, th_ZA.calling qZ⟩, va_recv (ci := 0) (q0 := 1) hK hP rfl rfl, fun U hU hW => ⟨rfl, by rw [hU], by rw [hU]; exact hP, va_K.moved hW.alike hK, hD.weaken (fun _ _ _ _ => trivial), th_ZA.to hZ hS hU hW hFc⟩⟩ rfl rfl hl.1 rfl (lv_room (Nat.le_of_ble_eq_true rfl)) d_L_insert_3 ⟨Nat.le_of_ble_eq_true rfl, Nat.le_of_ble_eq_true rfl⟩) hown htab (by refine ⟨⟨by decide, by decide, by decide⟩, "java/lang/IllegalStateException", (hts _ (List.mem_cons_of_mem _ lk_557)), ?_⟩; exact Or.inl ⟨rfl, rfl⟩) (fun _ _ _ h => ⟨h.1, h.2.2⟩) hS (fun q _ h => hFc q h) hFc (fun xx st₀ t H1 locs ht hvm _ hB hz1 hk1 hS => ?_)
  obtain ⟨-, ⟨hP1, hD1⟩, -⟩ := hB
  rw [ht] at hP1
  have hP := hP1
  have hD := hD1.weaken (fun _ q _ h => hFc q.1 h)
  clear hP1 hD1 hFc hk1 hz1
  refine W.cs (cells' := 1) (slots' := 6) rfl rfl ?_
  refine lv_astore_n (lv' := [(2, .ref xx), (0, .ref x.h), (1, .ref x.ob)]) hx hb d_L_insert_11 rfl hl (by decide) rfl (fun ls hl => ?_)
  refine lv_iconst (v := 1) hx hb d_L_insert_12 (by decide) ?_
  refine W.widen (k := 3) (n := 170) (Nat.le_of_ble_eq_true rfl) (Nat.le_of_ble_eq_true rfl) ?_
  exact W.iret (v := 1) hx hb hr (fun t ht hW => ⟨⟨_, kn, rfl, ⟨rfl, hC⟩, by rw [ht]; exact hP, hD⟩, hS.F ht⟩) hS.2.2 d_L_insert_13
set_option maxHeartbeats 8000000 in
set_option maxRecDepth 100000 in
theorem H_erase_0 (l : Launch) (hfl : l.flags = flags0) (x : FX) {k : CK} {e : ES} {k1 : Int32} (ov : Nat → Int64) {r : Int32} {e' : ES} (hM : KRetI l x y_D_erase w_D_erase ({ frames := 5, cells := 2, slots := 164, locals := 150 }) [.ref x.h, .int k1] k e 2 164 r e') : HRet l x y_L_erase w_L_erase [.ref x.h, .int k1, .ref x.ob] k e ov 0 e' (vp_updL ov 0 r.toInt64) := by
  intro sz
  refine th_ofWw (tab := [(0, 9, 12, 13)]) (cc := method_4_code) (maxL := 4) (ret := some .int) (by decide) rfl ?_
  intro p en s m args below meth c s₁ B hml htab hv
  obtain ⟨rfl, hsz, hP, hK, hD0, hZ⟩ := hv
  have hx := B.exec
  have hb := B.bytes
  have hr := B.returns
  have hts := atoms_spec (ws := w_L_erase) B.pre
  have hown : s.vm.findClass "DraftTreeLaw" = some m.cls := findClass_of_methodNamed B.named
  subst hsz
  have hD := hD0.self (sz := s.heap.size)
  generalize hAe : va_A (HW x k e ov) s.heap.size = B9 at hD hZ ⊢
  have hA : ∀ q : Nat, s.heap.size ≤ q → B9 q := fun q h => by rw [← hAe]; exact Or.inr h
  clear hAe
  have hS : va_S B9 s.heap s.heap [] := va_S.rf
  have hl := lv_entry ([.ref x.h, .int k1, .ref x.ob]) (n := 4) (Nat.le_of_ble_eq_true rfl)
  rw [lg_entry_eq]
  generalize (lg_sl ([.ref x.h, .int k1, .ref x.ob]) ++ List.replicate (4 - (lg_sl ([.ref x.h, .int k1, .ref x.ob])).length) Slot.unset).toArray = ls at hl ⊢
  have hl : lv_has ls 4 [(0, .ref x.h), (1, .int k1), (2, .ref x.ob)] := hl
  refine lv_aload_n hx hb d_L_erase_0 rfl (lv_at hl 2 rfl) ?_
  refine lv_iconst (v := 0) hx hb d_L_erase_1 (by decide) ?_
  refine lv_aload_n hx hb d_L_erase_2 rfl (lv_at hl 0 rfl) ?_
  refine lv_iload_n hx hb d_L_erase_3 rfl (lv_at hl 1 rfl) ?_
  have hFc := va_freeM (wc := HW x k e ov) hD hS hA (fun _ h9 => h9)
  refine va_calli (va_runV (As := [.int k1]) (rest := [.int 0, .ref x.ob]) ⟨hx, hb, hml, hown, hts⟩ (hM.up ov _) (cwV 1 hts (gd_v lk_554 lk_555 lk_556 lk_445 lk_506) rfl rfl rfl (by decide +kernel) ⟨Nat.le_of_ble_eq_true rfl, Nat.le_of_ble_eq_true rfl⟩) ⟨fun a U g mk q => by obtain ⟨q0, q1, qP, qK, qD⟩ := q; exact ⟨q0, q1, qP, va_K.moved (u := U) (U := U.calling g mk a) (Vm.Alike.refl U.vm) qK, qD⟩, va_recv (ci := 0) (q0 := 1) hK hP rfl rfl, fun U hU hW => ⟨rfl, by rw [hU], by rw [hU]; exact hP, va_K.moved hW.alike hK, hD.weaken (fun _ _ _ _ => trivial)⟩⟩ rfl rfl hl.1 rfl (lv_room (Nat.le_of_ble_eq_true rfl)) d_L_erase_4 ⟨Nat.le_of_ble_eq_true rfl, Nat.le_of_ble_eq_true rfl⟩) hS (fun q _ h => hFc q h) hFc (fun r9 kn t H1 locs ht hvm hw hB hz1 hk1 hS => ?_)
  obtain ⟨hP1, hD1⟩ := hB
  rw [ht] at hP1
  have hP := hP1
  have hD := hD1.weaken (fun _ q _ h => hFc q.1 h)
  clear hP1 hD1 hFc hk1 hz1
  refine W.cs (cells' := 2) (slots' := 164) rfl rfl ?_
  obtain ⟨hw0, hC⟩ := hw
  subst hw0
  refine lv_i2l hx hb d_L_erase_7 rfl ?_
  refine va_last hx hb hK hP hD hS 0 2 rfl rfl (wk_inb_ok (by decide)) d_L_erase_8 (fun H locs hP hD hS => ?_)
  have hP : va_P x.D vwCl (HW x kn e' (vp_updL ov 0 r9.toInt64)) H := hP
  have hD : va_D B9 (HW x kn e' (vp_updL ov 0 r9.toInt64)) := hD
  refine lv_goto (tgt := 15) hx hb d_L_erase_9 (by decide) ?_
  refine lv_iconst (v := 0) hx hb d_L_erase_15 (by decide) ?_
  refine W.widen (k := 3) (n := 170) (Nat.le_of_ble_eq_true rfl) (Nat.le_of_ble_eq_true rfl) ?_
  exact W.iret (v := 0) hx hb hr (fun t ht hW => ⟨⟨_, kn, rfl, ⟨rfl, hC⟩, by rw [ht]; exact hP, hD⟩, hS.F ht⟩) hS.2.2 d_L_erase_16
set_option maxHeartbeats 8000000 in
set_option maxRecDepth 100000 in
theorem H_erase_1 (l : Launch) (hfl : l.flags = flags0) (x : FX) {k : CK} {e : ES} {k1 : Int32} (ov : Nat → Int64) {e' : ES} (hM : KThr l x y_D_erase w_D_erase ({ frames := 6, cells := 1, slots := 6, locals := 120 }) [.ref x.h, .int k1] k e 1 6 "java/lang/IllegalStateException" e') : HRet l x y_L_erase w_L_erase [.ref x.h, .int k1, .ref x.ob] k e ov 1 e' ov := by
  obtain ⟨kn, hC, hT⟩ := hM.up ov
  intro sz
  refine th_ofWw (tab := [(0, 9, 12, 13)]) (cc := method_4_code) (maxL := 4) (ret := some .int) (by decide) rfl ?_
  intro p en s m args below meth c s₁ B hml htab hv
  obtain ⟨rfl, hsz, hP, hK, hD0, hZ⟩ := hv
  have hx := B.exec
  have hb := B.bytes
  have hr := B.returns
  have hts := atoms_spec (ws := w_L_erase) B.pre
  have hown : s.vm.findClass "DraftTreeLaw" = some m.cls := findClass_of_methodNamed B.named
  subst hsz
  have hD := hD0.self (sz := s.heap.size)
  generalize hAe : va_A (HW x k e ov) s.heap.size = B9 at hD hZ ⊢
  have hA : ∀ q : Nat, s.heap.size ≤ q → B9 q := fun q h => by rw [← hAe]; exact Or.inr h
  clear hAe
  have hS : va_S B9 s.heap s.heap [] := va_S.rf
  have hl := lv_entry ([.ref x.h, .int k1, .ref x.ob]) (n := 4) (Nat.le_of_ble_eq_true rfl)
  rw [lg_entry_eq]
  generalize (lg_sl ([.ref x.h, .int k1, .ref x.ob]) ++ List.replicate (4 - (lg_sl ([.ref x.h, .int k1, .ref x.ob])).length) Slot.unset).toArray = ls at hl ⊢
  have hl : lv_has ls 4 [(0, .ref x.h), (1, .int k1), (2, .ref x.ob)] := hl
  refine lv_aload_n hx hb d_L_erase_0 rfl (lv_at hl 2 rfl) ?_
  refine lv_iconst (v := 0) hx hb d_L_erase_1 (by decide) ?_
  refine lv_aload_n hx hb d_L_erase_2 rfl (lv_at hl 0 rfl) ?_
  refine lv_iload_n hx hb d_L_erase_3 rfl (lv_at hl 1 rfl) ?_
  have hFc := va_freeM (wc := HW x k e ov) hD hS hA (fun _ h9 => h9)
  refine th_catch (own := "DraftTreeLaw") (C := "java/lang/IllegalStateException") (hpc := 12) (A1 := va_A (HW x k e ov) s.heap.size) (th_runV (As := [.int k1]) (rest := [.int 0, .ref x.ob]) ⟨hx, hb, hml, hown, hts⟩ (hT _) (cwV 1 hts (gd_v lk_554 lk_555 lk_556 lk_445 lk_506) rfl rfl rfl (by decide +kernel) ⟨Nat.le_of_ble_eq_true rfl, Nat.le_of_ble_eq_true rfl⟩) ⟨fun a U g mk q => by obtain ⟨q0, q1, qP, qK, qD, qZ⟩ := q; exact ⟨q0, q1, qP, va_K.moved (u := U) (U := U.calling g mk a) (Vm.Alike.refl U.vm) qK, qD, th_ZA.calling qZ⟩, va_recv (ci := 0) (q0 := 1) hK hP rfl rfl, fun U hU hW => ⟨rfl, by rw [hU], by rw [hU]; exact hP, va_K.moved hW.alike hK, hD.weaken (fun _ _ _ _ => trivial), th_ZA.to hZ hS hU hW hFc⟩⟩ rfl rfl hl.1 rfl (lv_room (Nat.le_of_ble_eq_true rfl)) d_L_erase_4 ⟨Nat.le_of_ble_eq_true rfl, Nat.le_of_ble_eq_true rfl⟩) hown htab (by refine ⟨⟨by decide, by decide, by decide⟩, "java/lang/IllegalStateException", (hts _ (List.mem_cons_of_mem _ lk_557)), ?_⟩; exact Or.inl ⟨rfl, rfl⟩) (fun _ _ _ h => ⟨h.1, h.2.2⟩) hS (fun q _ h => hFc q h) hFc (fun xx st₀ t H1 locs ht hvm _ hB hz1 hk1 hS => ?_)
  obtain ⟨-, ⟨hP1, hD1⟩, -⟩ := hB
  rw [ht] at hP1
  have hP := hP1
  have hD := hD1.weaken (fun _ q _ h => hFc q.1 h)
  clear hP1 hD1 hFc hk1 hz1
  refine W.cs (cells' := 1) (slots' := 6) rfl rfl ?_
  refine lv_astore_n (lv' := [(3, .ref xx), (0, .ref x.h), (1, .int k1), (2, .ref x.ob)]) hx hb d_L_erase_12 rfl hl (by decide) rfl (fun ls hl => ?_)
  refine lv_iconst (v := 1) hx hb d_L_erase_13 (by decide) ?_
  refine W.widen (k := 3) (n := 170) (Nat.le_of_ble_eq_true rfl) (Nat.le_of_ble_eq_true rfl) ?_
  exact W.iret (v := 1) hx hb hr (fun t ht hW => ⟨⟨_, kn, rfl, ⟨rfl, hC⟩, by rw [ht]; exact hP, hD⟩, hS.F ht⟩) hS.2.2 d_L_erase_14
set_option maxHeartbeats 8000000 in
set_option maxRecDepth 100000 in
theorem H_go_0 (l : Launch) (hfl : l.flags = flags0) (x : FX) {k : CK} {e : ES} {k1 k2 : Int32} (ov : Nat → Int64) {e' : ES} (hM : KRetV l x y_D_go w_D_go ({ frames := 1, cells := 0, slots := 0, locals := 21 }) [.ref x.h, .int k1, .int k2] k e 0 0 e') : HRet l x y_L_go w_L_go [.ref x.h, .int k1, .int k2] k e ov 0 e' ov := by
  intro sz
  refine th_ofWw (tab := [(0, 6, 9, 23)]) (cc := method_5_code) (maxL := 4) (ret := some .int) (by decide) rfl ?_
  intro p en s m args below meth c s₁ B hml htab hv
  obtain ⟨rfl, hsz, hP, hK, hD0, hZ⟩ := hv
  have hx := B.exec
  have hb := B.bytes
  have hr := B.returns
  have hts := atoms_spec (ws := w_L_go) B.pre
  have hown : s.vm.findClass "DraftTreeLaw" = some m.cls := findClass_of_methodNamed B.named
  subst hsz
  have hD := hD0.self (sz := s.heap.size)
  generalize hAe : va_A (HW x k e ov) s.heap.size = B9 at hD hZ ⊢
  have hA : ∀ q : Nat, s.heap.size ≤ q → B9 q := fun q h => by rw [← hAe]; exact Or.inr h
  clear hAe
  have hS : va_S B9 s.heap s.heap [] := va_S.rf
  have hl := lv_entry ([.ref x.h, .int k1, .int k2]) (n := 4) (Nat.le_of_ble_eq_true rfl)
  rw [lg_entry_eq]
  generalize (lg_sl ([.ref x.h, .int k1, .int k2]) ++ List.replicate (4 - (lg_sl ([.ref x.h, .int k1, .int k2])).length) Slot.unset).toArray = ls at hl ⊢
  have hl : lv_has ls 4 [(0, .ref x.h), (1, .int k1), (2, .int k2)] := hl
  refine lv_aload_n hx hb d_L_go_0 rfl (lv_at hl 0 rfl) ?_
  refine lv_iload_n hx hb d_L_go_1 rfl (lv_at hl 1 rfl) ?_
  refine lv_iload_n hx hb d_L_go_2 rfl (lv_at hl 2 rfl) ?_
  have hFc := va_freeM (wc := HW x k e ov) hD hS hA (fun _ h9 => h9)
  refine va_callv (va_runV (As := [.int k1, .int k2]) (rest := []) ⟨hx, hb, hml, hown, hts⟩ (hM.up ov _) (cwV 2 hts (gd_v lk_568 lk_569 lk_570 lk_445 lk_451) rfl rfl rfl (by decide +kernel) ⟨Nat.le_of_ble_eq_true rfl, Nat.le_of_ble_eq_true rfl⟩) ⟨fun a U g mk q => by obtain ⟨q0, q1, qP, qK, qD⟩ := q; exact ⟨q0, q1, qP, va_K.moved (u := U) (U := U.calling g mk a) (Vm.Alike.refl U.vm) qK, qD⟩, va_recv (ci := 0) (q0 := 1) hK hP rfl rfl, fun U hU hW => ⟨rfl, by rw [hU], by rw [hU]; exact hP, va_K.moved hW.alike hK, hD.weaken (fun _ _ _ _ => trivial)⟩⟩ rfl rfl hl.1 rfl (lv_room (Nat.le_of_ble_eq_true rfl)) d_L_go_3 ⟨Nat.le_of_ble_eq_true rfl, Nat.le_of_ble_eq_true rfl⟩) hS (fun q _ h => hFc q h) hFc (fun kn t H1 locs ht hvm hw hB hz1 hk1 hS => ?_)
  obtain ⟨hP1, hD1⟩ := hB
  rw [ht] at hP1
  have hP := hP1
  have hD := hD1.weaken (fun _ q _ h => hFc q.1 h)
  clear hP1 hD1 hFc hk1 hz1
  refine W.cs (cells' := 0) (slots' := 0) rfl rfl ?_
  have hC := hw
  refine lv_goto (tgt := 12) hx hb d_L_go_6 (by decide) ?_
  refine lv_iconst (v := 0) hx hb d_L_go_12 (by decide) ?_
  refine W.widen (k := 3) (n := 170) (Nat.le_of_ble_eq_true rfl) (Nat.le_of_ble_eq_true rfl) ?_
  exact W.iret (v := 0) hx hb hr (fun t ht hW => ⟨⟨_, kn, rfl, ⟨rfl, hC⟩, by rw [ht]; exact hP, hD⟩, hS.F ht⟩) hS.2.2 d_L_go_13
set_option maxHeartbeats 8000000 in
set_option maxRecDepth 100000 in
theorem H_go_1 (l : Launch) (hfl : l.flags = flags0) (x : FX) {k : CK} {e : ES} {k1 k2 : Int32} (ov : Nat → Int64) {e' : ES} (hM : KThr l x y_D_go w_D_go ({ frames := 7, cells := 1, slots := 6, locals := 102 }) [.ref x.h, .int k1, .int k2] k e 1 6 "java/lang/IndexOutOfBoundsException" e') : HRet l x y_L_go w_L_go [.ref x.h, .int k1, .int k2] k e ov 1 e' ov := by
  obtain ⟨kn, hC, hT⟩ := hM.up ov
  intro sz
  refine th_ofWw (tab := [(0, 6, 9, 23)]) (cc := method_5_code) (maxL := 4) (ret := some .int) (by decide) rfl ?_
  intro p en s m args below meth c s₁ B hml htab hv
  obtain ⟨rfl, hsz, hP, hK, hD0, hZ⟩ := hv
  have hx := B.exec
  have hb := B.bytes
  have hr := B.returns
  have hts := atoms_spec (ws := w_L_go) B.pre
  have hown : s.vm.findClass "DraftTreeLaw" = some m.cls := findClass_of_methodNamed B.named
  subst hsz
  have hD := hD0.self (sz := s.heap.size)
  generalize hAe : va_A (HW x k e ov) s.heap.size = B9 at hD hZ ⊢
  have hA : ∀ q : Nat, s.heap.size ≤ q → B9 q := fun q h => by rw [← hAe]; exact Or.inr h
  clear hAe
  have hS : va_S B9 s.heap s.heap [] := va_S.rf
  have hl := lv_entry ([.ref x.h, .int k1, .int k2]) (n := 4) (Nat.le_of_ble_eq_true rfl)
  rw [lg_entry_eq]
  generalize (lg_sl ([.ref x.h, .int k1, .int k2]) ++ List.replicate (4 - (lg_sl ([.ref x.h, .int k1, .int k2])).length) Slot.unset).toArray = ls at hl ⊢
  have hl : lv_has ls 4 [(0, .ref x.h), (1, .int k1), (2, .int k2)] := hl
  refine lv_aload_n hx hb d_L_go_0 rfl (lv_at hl 0 rfl) ?_
  refine lv_iload_n hx hb d_L_go_1 rfl (lv_at hl 1 rfl) ?_
  refine lv_iload_n hx hb d_L_go_2 rfl (lv_at hl 2 rfl) ?_
  have hFc := va_freeM (wc := HW x k e ov) hD hS hA (fun _ h9 => h9)
  refine th_catch (own := "DraftTreeLaw") (C := "java/lang/IndexOutOfBoundsException") (hpc := 9) (A1 := va_A (HW x k e ov) s.heap.size) (th_runV (As := [.int k1, .int k2]) (rest := []) ⟨hx, hb, hml, hown, hts⟩ (hT _) (cwV 2 hts (gd_v lk_568 lk_569 lk_570 lk_445 lk_451) rfl rfl rfl (by decide +kernel) ⟨Nat.le_of_ble_eq_true rfl, Nat.le_of_ble_eq_true rfl⟩) ⟨fun a U g mk q => by obtain ⟨q0, q1, qP, qK, qD, qZ⟩ := q; exact ⟨q0, q1, qP, va_K.moved (u := U) (U := U.calling g mk a) (Vm.Alike.refl U.vm) qK, qD, th_ZA.calling qZ⟩, va_recv (ci := 0) (q0 := 1) hK hP rfl rfl, fun U hU hW => ⟨rfl, by rw [hU], by rw [hU]; exact hP, va_K.moved hW.alike hK, hD.weaken (fun _ _ _ _ => trivial), th_ZA.to hZ hS hU hW hFc⟩⟩ rfl rfl hl.1 rfl (lv_room (Nat.le_of_ble_eq_true rfl)) d_L_go_3 ⟨Nat.le_of_ble_eq_true rfl, Nat.le_of_ble_eq_true rfl⟩) hown htab (by refine ⟨⟨by decide, by decide, by decide⟩, "java/lang/IndexOutOfBoundsException", (hts _ (List.mem_cons_of_mem _ lk_547)), ?_⟩; exact Or.inl ⟨rfl, rfl⟩) (fun _ _ _ h => ⟨h.1, h.2.2⟩) hS (fun q _ h => hFc q h) hFc (fun xx st₀ t H1 locs ht hvm _ hB hz1 hk1 hS => ?_)
  obtain ⟨-, ⟨hP1, hD1⟩, -⟩ := hB
  rw [ht] at hP1
  have hP := hP1
  have hD := hD1.weaken (fun _ q _ h => hFc q.1 h)
  clear hP1 hD1 hFc hk1 hz1
  refine W.cs (cells' := 1) (slots' := 6) rfl rfl ?_
  refine lv_astore_n (lv' := [(3, .ref xx), (0, .ref x.h), (1, .int k1), (2, .int k2)]) hx hb d_L_go_9 rfl hl (by decide) rfl (fun ls hl => ?_)
  refine lv_iconst (v := 1) hx hb d_L_go_10 (by decide) ?_
  refine W.widen (k := 3) (n := 170) (Nat.le_of_ble_eq_true rfl) (Nat.le_of_ble_eq_true rfl) ?_
  exact W.iret (v := 1) hx hb hr (fun t ht hW => ⟨⟨_, kn, rfl, ⟨rfl, hC⟩, by rw [ht]; exact hP, hD⟩, hS.F ht⟩) hS.2.2 d_L_go_11
set_option maxHeartbeats 8000000 in
set_option maxRecDepth 100000 in
theorem H_compile_0 (l : Launch) (hfl : l.flags = flags0) (x : FX) {k : CK} {e : ES} (ov : Nat → Int64) {e' : ES} (hM : KRetV l x y_D_compile w_D_compile ({ frames := 6, cells := 0, slots := 0, locals := 131 }) [.ref x.h] k e 0 0 e') : HRet l x y_L_compile w_L_compile [.ref x.h] k e ov 0 e' ov := by
  intro sz
  refine th_ofWw (tab := [(0, 4, 7, 28)]) (cc := method_6_code) (maxL := 2) (ret := some .int) (by decide) rfl ?_
  intro p en s m args below meth c s₁ B hml htab hv
  obtain ⟨rfl, hsz, hP, hK, hD0, hZ⟩ := hv
  have hx := B.exec
  have hb := B.bytes
  have hr := B.returns
  have hts := atoms_spec (ws := w_L_compile) B.pre
  have hown : s.vm.findClass "DraftTreeLaw" = some m.cls := findClass_of_methodNamed B.named
  subst hsz
  have hD := hD0.self (sz := s.heap.size)
  generalize hAe : va_A (HW x k e ov) s.heap.size = B9 at hD hZ ⊢
  have hA : ∀ q : Nat, s.heap.size ≤ q → B9 q := fun q h => by rw [← hAe]; exact Or.inr h
  clear hAe
  have hS : va_S B9 s.heap s.heap [] := va_S.rf
  have hl := lv_entry ([.ref x.h]) (n := 2) (Nat.le_of_ble_eq_true rfl)
  rw [lg_entry_eq]
  generalize (lg_sl ([.ref x.h]) ++ List.replicate (2 - (lg_sl ([.ref x.h])).length) Slot.unset).toArray = ls at hl ⊢
  have hl : lv_has ls 2 [(0, .ref x.h)] := hl
  refine lv_aload_n hx hb d_L_compile_0 rfl (lv_at hl 0 rfl) ?_
  have hFc := va_freeM (wc := HW x k e ov) hD hS hA (fun _ h9 => h9)
  refine va_callv (va_runV (As := []) (rest := []) ⟨hx, hb, hml, hown, hts⟩ (hM.up ov _) (cwV 0 hts (gd_v lk_549 lk_550 lk_551 lk_445 lk_434) rfl rfl rfl (by decide +kernel) ⟨Nat.le_of_ble_eq_true rfl, Nat.le_of_ble_eq_true rfl⟩) ⟨fun a U g mk q => by obtain ⟨q0, q1, qP, qK, qD⟩ := q; exact ⟨q0, q1, qP, va_K.moved (u := U) (U := U.calling g mk a) (Vm.Alike.refl U.vm) qK, qD⟩, va_recv (ci := 0) (q0 := 1) hK hP rfl rfl, fun U hU hW => ⟨rfl, by rw [hU], by rw [hU]; exact hP, va_K.moved hW.alike hK, hD.weaken (fun _ _ _ _ => trivial)⟩⟩ rfl rfl hl.1 rfl (lv_room (Nat.le_of_ble_eq_true rfl)) d_L_compile_1 ⟨Nat.le_of_ble_eq_true rfl, Nat.le_of_ble_eq_true rfl⟩) hS (fun q _ h => hFc q h) hFc (fun kn t H1 locs ht hvm hw hB hz1 hk1 hS => ?_)
  obtain ⟨hP1, hD1⟩ := hB
  rw [ht] at hP1
  have hP := hP1
  have hD := hD1.weaken (fun _ q _ h => hFc q.1 h)
  clear hP1 hD1 hFc hk1 hz1
  refine W.cs (cells' := 0) (slots' := 0) rfl rfl ?_
  have hC := hw
  refine lv_goto (tgt := 10) hx hb d_L_compile_4 (by decide) ?_
  refine lv_iconst (v := 0) hx hb d_L_compile_10 (by decide) ?_
  refine W.widen (k := 3) (n := 170) (Nat.le_of_ble_eq_true rfl) (Nat.le_of_ble_eq_true rfl) ?_
  exact W.iret (v := 0) hx hb hr (fun t ht hW => ⟨⟨_, kn, rfl, ⟨rfl, hC⟩, by rw [ht]; exact hP, hD⟩, hS.F ht⟩) hS.2.2 d_L_compile_11
set_option maxHeartbeats 8000000 in
set_option maxRecDepth 100000 in
theorem H_compile_1 (l : Launch) (hfl : l.flags = flags0) (x : FX) {k : CK} {e : ES} (ov : Nat → Int64) {e' : ES} (hM : KThr l x y_D_compile w_D_compile ({ frames := 6, cells := 1, slots := 6, locals := 131 }) [.ref x.h] k e 1 6 "java/lang/IllegalArgumentException" e') : HRet l x y_L_compile w_L_compile [.ref x.h] k e ov 1 e' ov := by
  obtain ⟨kn, hC, hT⟩ := hM.up ov
  intro sz
  refine th_ofWw (tab := [(0, 4, 7, 28)]) (cc := method_6_code) (maxL := 2) (ret := some .int) (by decide) rfl ?_
  intro p en s m args below meth c s₁ B hml htab hv
  obtain ⟨rfl, hsz, hP, hK, hD0, hZ⟩ := hv
  have hx := B.exec
  have hb := B.bytes
  have hr := B.returns
  have hts := atoms_spec (ws := w_L_compile) B.pre
  have hown : s.vm.findClass "DraftTreeLaw" = some m.cls := findClass_of_methodNamed B.named
  subst hsz
  have hD := hD0.self (sz := s.heap.size)
  generalize hAe : va_A (HW x k e ov) s.heap.size = B9 at hD hZ ⊢
  have hA : ∀ q : Nat, s.heap.size ≤ q → B9 q := fun q h => by rw [← hAe]; exact Or.inr h
  clear hAe
  have hS : va_S B9 s.heap s.heap [] := va_S.rf
  have hl := lv_entry ([.ref x.h]) (n := 2) (Nat.le_of_ble_eq_true rfl)
  rw [lg_entry_eq]
  generalize (lg_sl ([.ref x.h]) ++ List.replicate (2 - (lg_sl ([.ref x.h])).length) Slot.unset).toArray = ls at hl ⊢
  have hl : lv_has ls 2 [(0, .ref x.h)] := hl
  refine lv_aload_n hx hb d_L_compile_0 rfl (lv_at hl 0 rfl) ?_
  have hFc := va_freeM (wc := HW x k e ov) hD hS hA (fun _ h9 => h9)
  refine th_catch (own := "DraftTreeLaw") (C := "java/lang/IllegalArgumentException") (hpc := 7) (A1 := va_A (HW x k e ov) s.heap.size) (th_runV (As := []) (rest := []) ⟨hx, hb, hml, hown, hts⟩ (hT _) (cwV 0 hts (gd_v lk_549 lk_550 lk_551 lk_445 lk_434) rfl rfl rfl (by decide +kernel) ⟨Nat.le_of_ble_eq_true rfl, Nat.le_of_ble_eq_true rfl⟩) ⟨fun a U g mk q => by obtain ⟨q0, q1, qP, qK, qD, qZ⟩ := q; exact ⟨q0, q1, qP, va_K.moved (u := U) (U := U.calling g mk a) (Vm.Alike.refl U.vm) qK, qD, th_ZA.calling qZ⟩, va_recv (ci := 0) (q0 := 1) hK hP rfl rfl, fun U hU hW => ⟨rfl, by rw [hU], by rw [hU]; exact hP, va_K.moved hW.alike hK, hD.weaken (fun _ _ _ _ => trivial), th_ZA.to hZ hS hU hW hFc⟩⟩ rfl rfl hl.1 rfl (lv_room (Nat.le_of_ble_eq_true rfl)) d_L_compile_1 ⟨Nat.le_of_ble_eq_true rfl, Nat.le_of_ble_eq_true rfl⟩) hown htab (by refine ⟨⟨by decide, by decide, by decide⟩, "java/lang/IllegalArgumentException", (hts _ (List.mem_cons_of_mem _ lk_552)), ?_⟩; exact Or.inl ⟨rfl, rfl⟩) (fun _ _ _ h => ⟨h.1, h.2.2⟩) hS (fun q _ h => hFc q h) hFc (fun xx st₀ t H1 locs ht hvm _ hB hz1 hk1 hS => ?_)
  obtain ⟨-, ⟨hP1, hD1⟩, -⟩ := hB
  rw [ht] at hP1
  have hP := hP1
  have hD := hD1.weaken (fun _ q _ h => hFc q.1 h)
  clear hP1 hD1 hFc hk1 hz1
  refine W.cs (cells' := 1) (slots' := 6) rfl rfl ?_
  refine lv_astore_n (lv' := [(1, .ref xx), (0, .ref x.h)]) hx hb d_L_compile_7 rfl hl (by decide) rfl (fun ls hl => ?_)
  refine lv_iconst (v := 1) hx hb d_L_compile_8 (by decide) ?_
  refine W.widen (k := 3) (n := 170) (Nat.le_of_ble_eq_true rfl) (Nat.le_of_ble_eq_true rfl) ?_
  exact W.iret (v := 1) hx hb hr (fun t ht hW => ⟨⟨_, kn, rfl, ⟨rfl, hC⟩, by rw [ht]; exact hP, hD⟩, hS.F ht⟩) hS.2.2 d_L_compile_9
set_option maxHeartbeats 8000000 in
set_option maxRecDepth 100000 in
theorem H_find_0 (l : Launch) (hfl : l.flags = flags0) (x : FX) {k : CK} {e : ES} {k1 : Int32} (ov : Nat → Int64) {r : Int32} {e' : ES} (hM : KRetI l x y_D_find w_D_find ({ frames := 5, cells := 0, slots := 0, locals := 127 }) [.ref x.h, .int k1] k e 0 0 r e') : HRet l x y_L_find w_L_find [.ref x.h, .int k1, .ref x.ob] k e ov 0 e' (vp_updL ov 0 r.toInt64) := by
  intro sz
  refine th_ofWw (tab := [(0, 9, 12, 13), (0, 9, 15, 23), (0, 9, 18, 33)]) (cc := method_7_code) (maxL := 4) (ret := some .int) (by decide) rfl ?_
  intro p en s m args below meth c s₁ B hml htab hv
  obtain ⟨rfl, hsz, hP, hK, hD0, hZ⟩ := hv
  have hx := B.exec
  have hb := B.bytes
  have hr := B.returns
  have hts := atoms_spec (ws := w_L_find) B.pre
  have hown : s.vm.findClass "DraftTreeLaw" = some m.cls := findClass_of_methodNamed B.named
  subst hsz
  have hD := hD0.self (sz := s.heap.size)
  generalize hAe : va_A (HW x k e ov) s.heap.size = B9 at hD hZ ⊢
  have hA : ∀ q : Nat, s.heap.size ≤ q → B9 q := fun q h => by rw [← hAe]; exact Or.inr h
  clear hAe
  have hS : va_S B9 s.heap s.heap [] := va_S.rf
  have hl := lv_entry ([.ref x.h, .int k1, .ref x.ob]) (n := 4) (Nat.le_of_ble_eq_true rfl)
  rw [lg_entry_eq]
  generalize (lg_sl ([.ref x.h, .int k1, .ref x.ob]) ++ List.replicate (4 - (lg_sl ([.ref x.h, .int k1, .ref x.ob])).length) Slot.unset).toArray = ls at hl ⊢
  have hl : lv_has ls 4 [(0, .ref x.h), (1, .int k1), (2, .ref x.ob)] := hl
  refine lv_aload_n hx hb d_L_find_0 rfl (lv_at hl 2 rfl) ?_
  refine lv_iconst (v := 0) hx hb d_L_find_1 (by decide) ?_
  refine lv_aload_n hx hb d_L_find_2 rfl (lv_at hl 0 rfl) ?_
  refine lv_iload_n hx hb d_L_find_3 rfl (lv_at hl 1 rfl) ?_
  have hFc := va_freeM (wc := HW x k e ov) hD hS hA (fun _ h9 => h9)
  refine va_calli (va_runV (As := [.int k1]) (rest := [.int 0, .ref x.ob]) ⟨hx, hb, hml, hown, hts⟩ (hM.up ov _) (cwV 1 hts (gd_v lk_563 lk_564 lk_565 lk_445 lk_450) rfl rfl rfl (by decide +kernel) ⟨Nat.le_of_ble_eq_true rfl, Nat.le_of_ble_eq_true rfl⟩) ⟨fun a U g mk q => by obtain ⟨q0, q1, qP, qK, qD⟩ := q; exact ⟨q0, q1, qP, va_K.moved (u := U) (U := U.calling g mk a) (Vm.Alike.refl U.vm) qK, qD⟩, va_recv (ci := 0) (q0 := 1) hK hP rfl rfl, fun U hU hW => ⟨rfl, by rw [hU], by rw [hU]; exact hP, va_K.moved hW.alike hK, hD.weaken (fun _ _ _ _ => trivial)⟩⟩ rfl rfl hl.1 rfl (lv_room (Nat.le_of_ble_eq_true rfl)) d_L_find_4 ⟨Nat.le_of_ble_eq_true rfl, Nat.le_of_ble_eq_true rfl⟩) hS (fun q _ h => hFc q h) hFc (fun r9 kn t H1 locs ht hvm hw hB hz1 hk1 hS => ?_)
  obtain ⟨hP1, hD1⟩ := hB
  rw [ht] at hP1
  have hP := hP1
  have hD := hD1.weaken (fun _ q _ h => hFc q.1 h)
  clear hP1 hD1 hFc hk1 hz1
  refine W.cs (cells' := 0) (slots' := 0) rfl rfl ?_
  obtain ⟨hw0, hC⟩ := hw
  subst hw0
  refine lv_i2l hx hb d_L_find_7 rfl ?_
  refine va_last hx hb hK hP hD hS 0 2 rfl rfl (wk_inb_ok (by decide)) d_L_find_8 (fun H locs hP hD hS => ?_)
  have hP : va_P x.D vwCl (HW x kn e' (vp_updL ov 0 r9.toInt64)) H := hP
  have hD : va_D B9 (HW x kn e' (vp_updL ov 0 r9.toInt64)) := hD
  refine lv_goto (tgt := 21) hx hb d_L_find_9 (by decide) ?_
  refine lv_iconst (v := 0) hx hb d_L_find_21 (by decide) ?_
  refine W.widen (k := 3) (n := 170) (Nat.le_of_ble_eq_true rfl) (Nat.le_of_ble_eq_true rfl) ?_
  exact W.iret (v := 0) hx hb hr (fun t ht hW => ⟨⟨_, kn, rfl, ⟨rfl, hC⟩, by rw [ht]; exact hP, hD⟩, hS.F ht⟩) hS.2.2 d_L_find_22
set_option maxHeartbeats 8000000 in
set_option maxRecDepth 100000 in
theorem H_find_1 (l : Launch) (hfl : l.flags = flags0) (x : FX) {k : CK} {e : ES} {k1 : Int32} (ov : Nat → Int64) {e' : ES} (hM : KThr l x y_D_find w_D_find ({ frames := 7, cells := 1, slots := 6, locals := 127 }) [.ref x.h, .int k1] k e 1 6 "java/lang/IllegalStateException" e') : HRet l x y_L_find w_L_find [.ref x.h, .int k1, .ref x.ob] k e ov 1 e' ov := by
  obtain ⟨kn, hC, hT⟩ := hM.up ov
  intro sz
  refine th_ofWw (tab := [(0, 9, 12, 13), (0, 9, 15, 23), (0, 9, 18, 33)]) (cc := method_7_code) (maxL := 4) (ret := some .int) (by decide) rfl ?_
  intro p en s m args below meth c s₁ B hml htab hv
  obtain ⟨rfl, hsz, hP, hK, hD0, hZ⟩ := hv
  have hx := B.exec
  have hb := B.bytes
  have hr := B.returns
  have hts := atoms_spec (ws := w_L_find) B.pre
  have hown : s.vm.findClass "DraftTreeLaw" = some m.cls := findClass_of_methodNamed B.named
  subst hsz
  have hD := hD0.self (sz := s.heap.size)
  generalize hAe : va_A (HW x k e ov) s.heap.size = B9 at hD hZ ⊢
  have hA : ∀ q : Nat, s.heap.size ≤ q → B9 q := fun q h => by rw [← hAe]; exact Or.inr h
  clear hAe
  have hS : va_S B9 s.heap s.heap [] := va_S.rf
  have hl := lv_entry ([.ref x.h, .int k1, .ref x.ob]) (n := 4) (Nat.le_of_ble_eq_true rfl)
  rw [lg_entry_eq]
  generalize (lg_sl ([.ref x.h, .int k1, .ref x.ob]) ++ List.replicate (4 - (lg_sl ([.ref x.h, .int k1, .ref x.ob])).length) Slot.unset).toArray = ls at hl ⊢
  have hl : lv_has ls 4 [(0, .ref x.h), (1, .int k1), (2, .ref x.ob)] := hl
  refine lv_aload_n hx hb d_L_find_0 rfl (lv_at hl 2 rfl) ?_
  refine lv_iconst (v := 0) hx hb d_L_find_1 (by decide) ?_
  refine lv_aload_n hx hb d_L_find_2 rfl (lv_at hl 0 rfl) ?_
  refine lv_iload_n hx hb d_L_find_3 rfl (lv_at hl 1 rfl) ?_
  have hFc := va_freeM (wc := HW x k e ov) hD hS hA (fun _ h9 => h9)
  refine th_catch (own := "DraftTreeLaw") (C := "java/lang/IllegalStateException") (hpc := 12) (A1 := va_A (HW x k e ov) s.heap.size) (th_runV (As := [.int k1]) (rest := [.int 0, .ref x.ob]) ⟨hx, hb, hml, hown, hts⟩ (hT _) (cwV 1 hts (gd_v lk_563 lk_564 lk_565 lk_445 lk_450) rfl rfl rfl (by decide +kernel) ⟨Nat.le_of_ble_eq_true rfl, Nat.le_of_ble_eq_true rfl⟩) ⟨fun a U g mk q => by obtain ⟨q0, q1, qP, qK, qD, qZ⟩ := q; exact ⟨q0, q1, qP, va_K.moved (u := U) (U := U.calling g mk a) (Vm.Alike.refl U.vm) qK, qD, th_ZA.calling qZ⟩, va_recv (ci := 0) (q0 := 1) hK hP rfl rfl, fun U hU hW => ⟨rfl, by rw [hU], by rw [hU]; exact hP, va_K.moved hW.alike hK, hD.weaken (fun _ _ _ _ => trivial), th_ZA.to hZ hS hU hW hFc⟩⟩ rfl rfl hl.1 rfl (lv_room (Nat.le_of_ble_eq_true rfl)) d_L_find_4 ⟨Nat.le_of_ble_eq_true rfl, Nat.le_of_ble_eq_true rfl⟩) hown htab (by refine ⟨⟨by decide, by decide, by decide⟩, "java/lang/IllegalStateException", (hts _ (List.mem_cons_of_mem _ lk_557)), ?_⟩; exact Or.inl ⟨rfl, rfl⟩) (fun _ _ _ h => ⟨h.1, h.2.2⟩) hS (fun q _ h => hFc q h) hFc (fun xx st₀ t H1 locs ht hvm _ hB hz1 hk1 hS => ?_)
  obtain ⟨-, ⟨hP1, hD1⟩, -⟩ := hB
  rw [ht] at hP1
  have hP := hP1
  have hD := hD1.weaken (fun _ q _ h => hFc q.1 h)
  clear hP1 hD1 hFc hk1 hz1
  refine W.cs (cells' := 1) (slots' := 6) rfl rfl ?_
  refine lv_astore_n (lv' := [(3, .ref xx), (0, .ref x.h), (1, .int k1), (2, .ref x.ob)]) hx hb d_L_find_12 rfl hl (by decide) rfl (fun ls hl => ?_)
  refine lv_iconst (v := 1) hx hb d_L_find_13 (by decide) ?_
  refine W.widen (k := 3) (n := 170) (Nat.le_of_ble_eq_true rfl) (Nat.le_of_ble_eq_true rfl) ?_
  exact W.iret (v := 1) hx hb hr (fun t ht hW => ⟨⟨_, kn, rfl, ⟨rfl, hC⟩, by rw [ht]; exact hP, hD⟩, hS.F ht⟩) hS.2.2 d_L_find_14
set_option maxHeartbeats 8000000 in
set_option maxRecDepth 100000 in
theorem H_find_2 (l : Launch) (hfl : l.flags = flags0) (x : FX) {k : CK} {e : ES} {k1 : Int32} (ov : Nat → Int64) {e' : ES} (hM : KThr l x y_D_find w_D_find ({ frames := 7, cells := 1, slots := 6, locals := 127 }) [.ref x.h, .int k1] k e 1 6 "java/lang/IndexOutOfBoundsException" e') : HRet l x y_L_find w_L_find [.ref x.h, .int k1, .ref x.ob] k e ov 2 e' ov := by
  obtain ⟨kn, hC, hT⟩ := hM.up ov
  intro sz
  refine th_ofWw (tab := [(0, 9, 12, 13), (0, 9, 15, 23), (0, 9, 18, 33)]) (cc := method_7_code) (maxL := 4) (ret := some .int) (by decide) rfl ?_
  intro p en s m args below meth c s₁ B hml htab hv
  obtain ⟨rfl, hsz, hP, hK, hD0, hZ⟩ := hv
  have hx := B.exec
  have hb := B.bytes
  have hr := B.returns
  have hts := atoms_spec (ws := w_L_find) B.pre
  have hown : s.vm.findClass "DraftTreeLaw" = some m.cls := findClass_of_methodNamed B.named
  subst hsz
  have hD := hD0.self (sz := s.heap.size)
  generalize hAe : va_A (HW x k e ov) s.heap.size = B9 at hD hZ ⊢
  have hA : ∀ q : Nat, s.heap.size ≤ q → B9 q := fun q h => by rw [← hAe]; exact Or.inr h
  clear hAe
  have hS : va_S B9 s.heap s.heap [] := va_S.rf
  have hl := lv_entry ([.ref x.h, .int k1, .ref x.ob]) (n := 4) (Nat.le_of_ble_eq_true rfl)
  rw [lg_entry_eq]
  generalize (lg_sl ([.ref x.h, .int k1, .ref x.ob]) ++ List.replicate (4 - (lg_sl ([.ref x.h, .int k1, .ref x.ob])).length) Slot.unset).toArray = ls at hl ⊢
  have hl : lv_has ls 4 [(0, .ref x.h), (1, .int k1), (2, .ref x.ob)] := hl
  refine lv_aload_n hx hb d_L_find_0 rfl (lv_at hl 2 rfl) ?_
  refine lv_iconst (v := 0) hx hb d_L_find_1 (by decide) ?_
  refine lv_aload_n hx hb d_L_find_2 rfl (lv_at hl 0 rfl) ?_
  refine lv_iload_n hx hb d_L_find_3 rfl (lv_at hl 1 rfl) ?_
  have hFc := va_freeM (wc := HW x k e ov) hD hS hA (fun _ h9 => h9)
  refine th_catch (own := "DraftTreeLaw") (C := "java/lang/IndexOutOfBoundsException") (hpc := 15) (A1 := va_A (HW x k e ov) s.heap.size) (th_runV (As := [.int k1]) (rest := [.int 0, .ref x.ob]) ⟨hx, hb, hml, hown, hts⟩ (hT _) (cwV 1 hts (gd_v lk_563 lk_564 lk_565 lk_445 lk_450) rfl rfl rfl (by decide +kernel) ⟨Nat.le_of_ble_eq_true rfl, Nat.le_of_ble_eq_true rfl⟩) ⟨fun a U g mk q => by obtain ⟨q0, q1, qP, qK, qD, qZ⟩ := q; exact ⟨q0, q1, qP, va_K.moved (u := U) (U := U.calling g mk a) (Vm.Alike.refl U.vm) qK, qD, th_ZA.calling qZ⟩, va_recv (ci := 0) (q0 := 1) hK hP rfl rfl, fun U hU hW => ⟨rfl, by rw [hU], by rw [hU]; exact hP, va_K.moved hW.alike hK, hD.weaken (fun _ _ _ _ => trivial), th_ZA.to hZ hS hU hW hFc⟩⟩ rfl rfl hl.1 rfl (lv_room (Nat.le_of_ble_eq_true rfl)) d_L_find_4 ⟨Nat.le_of_ble_eq_true rfl, Nat.le_of_ble_eq_true rfl⟩) hown htab (by refine ⟨⟨by decide, by decide, by decide⟩, "java/lang/IllegalStateException", (hts _ (List.mem_cons_of_mem _ lk_557)), ?_⟩; refine Or.inr ⟨hZ.2.2.2.2.2.1, ?_⟩; refine ⟨⟨by decide, by decide, by decide⟩, "java/lang/IndexOutOfBoundsException", (hts _ (List.mem_cons_of_mem _ lk_547)), ?_⟩; exact Or.inl ⟨rfl, rfl⟩) (fun _ _ _ h => ⟨h.1, h.2.2⟩) hS (fun q _ h => hFc q h) hFc (fun xx st₀ t H1 locs ht hvm _ hB hz1 hk1 hS => ?_)
  obtain ⟨-, ⟨hP1, hD1⟩, -⟩ := hB
  rw [ht] at hP1
  have hP := hP1
  have hD := hD1.weaken (fun _ q _ h => hFc q.1 h)
  clear hP1 hD1 hFc hk1 hz1
  refine W.cs (cells' := 1) (slots' := 6) rfl rfl ?_
  refine lv_astore_n (lv' := [(3, .ref xx), (0, .ref x.h), (1, .int k1), (2, .ref x.ob)]) hx hb d_L_find_15 rfl hl (by decide) rfl (fun ls hl => ?_)
  refine lv_iconst (v := 2) hx hb d_L_find_16 (by decide) ?_
  refine W.widen (k := 3) (n := 170) (Nat.le_of_ble_eq_true rfl) (Nat.le_of_ble_eq_true rfl) ?_
  exact W.iret (v := 2) hx hb hr (fun t ht hW => ⟨⟨_, kn, rfl, ⟨rfl, hC⟩, by rw [ht]; exact hP, hD⟩, hS.F ht⟩) hS.2.2 d_L_find_17
set_option maxHeartbeats 8000000 in
set_option maxRecDepth 100000 in
theorem H_find_3 (l : Launch) (hfl : l.flags = flags0) (x : FX) {k : CK} {e : ES} {k1 : Int32} (ov : Nat → Int64) {e' : ES} (hM : KThr l x y_D_find w_D_find ({ frames := 7, cells := 1, slots := 6, locals := 127 }) [.ref x.h, .int k1] k e 1 6 "java/util/NoSuchElementException" e') : HRet l x y_L_find w_L_find [.ref x.h, .int k1, .ref x.ob] k e ov 3 e' ov := by
  obtain ⟨kn, hC, hT⟩ := hM.up ov
  intro sz
  refine th_ofWw (tab := [(0, 9, 12, 13), (0, 9, 15, 23), (0, 9, 18, 33)]) (cc := method_7_code) (maxL := 4) (ret := some .int) (by decide) rfl ?_
  intro p en s m args below meth c s₁ B hml htab hv
  obtain ⟨rfl, hsz, hP, hK, hD0, hZ⟩ := hv
  have hx := B.exec
  have hb := B.bytes
  have hr := B.returns
  have hts := atoms_spec (ws := w_L_find) B.pre
  have hown : s.vm.findClass "DraftTreeLaw" = some m.cls := findClass_of_methodNamed B.named
  subst hsz
  have hD := hD0.self (sz := s.heap.size)
  generalize hAe : va_A (HW x k e ov) s.heap.size = B9 at hD hZ ⊢
  have hA : ∀ q : Nat, s.heap.size ≤ q → B9 q := fun q h => by rw [← hAe]; exact Or.inr h
  clear hAe
  have hS : va_S B9 s.heap s.heap [] := va_S.rf
  have hl := lv_entry ([.ref x.h, .int k1, .ref x.ob]) (n := 4) (Nat.le_of_ble_eq_true rfl)
  rw [lg_entry_eq]
  generalize (lg_sl ([.ref x.h, .int k1, .ref x.ob]) ++ List.replicate (4 - (lg_sl ([.ref x.h, .int k1, .ref x.ob])).length) Slot.unset).toArray = ls at hl ⊢
  have hl : lv_has ls 4 [(0, .ref x.h), (1, .int k1), (2, .ref x.ob)] := hl
  refine lv_aload_n hx hb d_L_find_0 rfl (lv_at hl 2 rfl) ?_
  refine lv_iconst (v := 0) hx hb d_L_find_1 (by decide) ?_
  refine lv_aload_n hx hb d_L_find_2 rfl (lv_at hl 0 rfl) ?_
  refine lv_iload_n hx hb d_L_find_3 rfl (lv_at hl 1 rfl) ?_
  have hFc := va_freeM (wc := HW x k e ov) hD hS hA (fun _ h9 => h9)
  refine th_catch (own := "DraftTreeLaw") (C := "java/util/NoSuchElementException") (hpc := 18) (A1 := va_A (HW x k e ov) s.heap.size) (th_runV (As := [.int k1]) (rest := [.int 0, .ref x.ob]) ⟨hx, hb, hml, hown, hts⟩ (hT _) (cwV 1 hts (gd_v lk_563 lk_564 lk_565 lk_445 lk_450) rfl rfl rfl (by decide +kernel) ⟨Nat.le_of_ble_eq_true rfl, Nat.le_of_ble_eq_true rfl⟩) ⟨fun a U g mk q => by obtain ⟨q0, q1, qP, qK, qD, qZ⟩ := q; exact ⟨q0, q1, qP, va_K.moved (u := U) (U := U.calling g mk a) (Vm.Alike.refl U.vm) qK, qD, th_ZA.calling qZ⟩, va_recv (ci := 0) (q0 := 1) hK hP rfl rfl, fun U hU hW => ⟨rfl, by rw [hU], by rw [hU]; exact hP, va_K.moved hW.alike hK, hD.weaken (fun _ _ _ _ => trivial), th_ZA.to hZ hS hU hW hFc⟩⟩ rfl rfl hl.1 rfl (lv_room (Nat.le_of_ble_eq_true rfl)) d_L_find_4 ⟨Nat.le_of_ble_eq_true rfl, Nat.le_of_ble_eq_true rfl⟩) hown htab (by refine ⟨⟨by decide, by decide, by decide⟩, "java/lang/IllegalStateException", (hts _ (List.mem_cons_of_mem _ lk_557)), ?_⟩; refine Or.inr ⟨hZ.2.2.2.2.2.2.1, ?_⟩; refine ⟨⟨by decide, by decide, by decide⟩, "java/lang/IndexOutOfBoundsException", (hts _ (List.mem_cons_of_mem _ lk_547)), ?_⟩; refine Or.inr ⟨hZ.2.2.2.2.2.2.2, ?_⟩; refine ⟨⟨by decide, by decide, by decide⟩, "java/util/NoSuchElementException", (hts _ (List.mem_cons_of_mem _ lk_566)), ?_⟩; exact Or.inl ⟨rfl, rfl⟩) (fun _ _ _ h => ⟨h.1, h.2.2⟩) hS (fun q _ h => hFc q h) hFc (fun xx st₀ t H1 locs ht hvm _ hB hz1 hk1 hS => ?_)
  obtain ⟨-, ⟨hP1, hD1⟩, -⟩ := hB
  rw [ht] at hP1
  have hP := hP1
  have hD := hD1.weaken (fun _ q _ h => hFc q.1 h)
  clear hP1 hD1 hFc hk1 hz1
  refine W.cs (cells' := 1) (slots' := 6) rfl rfl ?_
  refine lv_astore_n (lv' := [(3, .ref xx), (0, .ref x.h), (1, .int k1), (2, .ref x.ob)]) hx hb d_L_find_18 rfl hl (by decide) rfl (fun ls hl => ?_)
  refine lv_iconst (v := 3) hx hb d_L_find_19 (by decide) ?_
  refine W.widen (k := 3) (n := 170) (Nat.le_of_ble_eq_true rfl) (Nat.le_of_ble_eq_true rfl) ?_
  exact W.iret (v := 3) hx hb hr (fun t ht hW => ⟨⟨_, kn, rfl, ⟨rfl, hC⟩, by rw [ht]; exact hP, hD⟩, hS.F ht⟩) hS.2.2 d_L_find_20
set_option maxHeartbeats 8000000 in
set_option maxRecDepth 100000 in
theorem H_replace_0 (l : Launch) (hfl : l.flags = flags0) (x : FX) {k : CK} {e : ES} (ov : Nat → Int64) {r : Int32} {e' : ES} (hM : KRetI l x y_D_replace w_D_replace ({ frames := 7, cells := 2, slots := 164, locals := 160 }) [.ref x.h] k e 2 164 r e') : HRet l x y_L_replace w_L_replace [.ref x.h, .ref x.ob] k e ov 0 e' (vp_updL ov 0 r.toInt64) := by
  intro sz
  refine th_ofWw (tab := [(0, 8, 11, 13)]) (cc := method_8_code) (maxL := 3) (ret := some .int) (by decide) rfl ?_
  intro p en s m args below meth c s₁ B hml htab hv
  obtain ⟨rfl, hsz, hP, hK, hD0, hZ⟩ := hv
  have hx := B.exec
  have hb := B.bytes
  have hr := B.returns
  have hts := atoms_spec (ws := w_L_replace) B.pre
  have hown : s.vm.findClass "DraftTreeLaw" = some m.cls := findClass_of_methodNamed B.named
  subst hsz
  have hD := hD0.self (sz := s.heap.size)
  generalize hAe : va_A (HW x k e ov) s.heap.size = B9 at hD hZ ⊢
  have hA : ∀ q : Nat, s.heap.size ≤ q → B9 q := fun q h => by rw [← hAe]; exact Or.inr h
  clear hAe
  have hS : va_S B9 s.heap s.heap [] := va_S.rf
  have hl := lv_entry ([.ref x.h, .ref x.ob]) (n := 3) (Nat.le_of_ble_eq_true rfl)
  rw [lg_entry_eq]
  generalize (lg_sl ([.ref x.h, .ref x.ob]) ++ List.replicate (3 - (lg_sl ([.ref x.h, .ref x.ob])).length) Slot.unset).toArray = ls at hl ⊢
  have hl : lv_has ls 3 [(0, .ref x.h), (1, .ref x.ob)] := hl
  refine lv_aload_n hx hb d_L_replace_0 rfl (lv_at hl 1 rfl) ?_
  refine lv_iconst (v := 0) hx hb d_L_replace_1 (by decide) ?_
  refine lv_aload_n hx hb d_L_replace_2 rfl (lv_at hl 0 rfl) ?_
  have hFc := va_freeM (wc := HW x k e ov) hD hS hA (fun _ h9 => h9)
  refine va_calli (va_runV (As := []) (rest := [.int 0, .ref x.ob]) ⟨hx, hb, hml, hown, hts⟩ (hM.up ov _) (cwV 0 hts (gd_v lk_592 lk_593 lk_594 lk_445 lk_533) rfl rfl rfl (by decide +kernel) ⟨Nat.le_of_ble_eq_true rfl, Nat.le_of_ble_eq_true rfl⟩) ⟨fun a U g mk q => by obtain ⟨q0, q1, qP, qK, qD⟩ := q; exact ⟨q0, q1, qP, va_K.moved (u := U) (U := U.calling g mk a) (Vm.Alike.refl U.vm) qK, qD⟩, va_recv (ci := 0) (q0 := 1) hK hP rfl rfl, fun U hU hW => ⟨rfl, by rw [hU], by rw [hU]; exact hP, va_K.moved hW.alike hK, hD.weaken (fun _ _ _ _ => trivial)⟩⟩ rfl rfl hl.1 rfl (lv_room (Nat.le_of_ble_eq_true rfl)) d_L_replace_3 ⟨Nat.le_of_ble_eq_true rfl, Nat.le_of_ble_eq_true rfl⟩) hS (fun q _ h => hFc q h) hFc (fun r9 kn t H1 locs ht hvm hw hB hz1 hk1 hS => ?_)
  obtain ⟨hP1, hD1⟩ := hB
  rw [ht] at hP1
  have hP := hP1
  have hD := hD1.weaken (fun _ q _ h => hFc q.1 h)
  clear hP1 hD1 hFc hk1 hz1
  refine W.cs (cells' := 2) (slots' := 164) rfl rfl ?_
  obtain ⟨hw0, hC⟩ := hw
  subst hw0
  refine lv_i2l hx hb d_L_replace_6 rfl ?_
  refine va_last hx hb hK hP hD hS 0 2 rfl rfl (wk_inb_ok (by decide)) d_L_replace_7 (fun H locs hP hD hS => ?_)
  have hP : va_P x.D vwCl (HW x kn e' (vp_updL ov 0 r9.toInt64)) H := hP
  have hD : va_D B9 (HW x kn e' (vp_updL ov 0 r9.toInt64)) := hD
  refine lv_goto (tgt := 14) hx hb d_L_replace_8 (by decide) ?_
  refine lv_iconst (v := 0) hx hb d_L_replace_14 (by decide) ?_
  refine W.widen (k := 3) (n := 170) (Nat.le_of_ble_eq_true rfl) (Nat.le_of_ble_eq_true rfl) ?_
  exact W.iret (v := 0) hx hb hr (fun t ht hW => ⟨⟨_, kn, rfl, ⟨rfl, hC⟩, by rw [ht]; exact hP, hD⟩, hS.F ht⟩) hS.2.2 d_L_replace_15
set_option maxHeartbeats 8000000 in
set_option maxRecDepth 100000 in
theorem H_replace_1 (l : Launch) (hfl : l.flags = flags0) (x : FX) {k : CK} {e : ES} (ov : Nat → Int64) {e' : ES} (hM : KThr l x y_D_replace w_D_replace ({ frames := 8, cells := 1, slots := 6, locals := 160 }) [.ref x.h] k e 1 6 "java/lang/IllegalStateException" e') : HRet l x y_L_replace w_L_replace [.ref x.h, .ref x.ob] k e ov 1 e' ov := by
  obtain ⟨kn, hC, hT⟩ := hM.up ov
  intro sz
  refine th_ofWw (tab := [(0, 8, 11, 13)]) (cc := method_8_code) (maxL := 3) (ret := some .int) (by decide) rfl ?_
  intro p en s m args below meth c s₁ B hml htab hv
  obtain ⟨rfl, hsz, hP, hK, hD0, hZ⟩ := hv
  have hx := B.exec
  have hb := B.bytes
  have hr := B.returns
  have hts := atoms_spec (ws := w_L_replace) B.pre
  have hown : s.vm.findClass "DraftTreeLaw" = some m.cls := findClass_of_methodNamed B.named
  subst hsz
  have hD := hD0.self (sz := s.heap.size)
  generalize hAe : va_A (HW x k e ov) s.heap.size = B9 at hD hZ ⊢
  have hA : ∀ q : Nat, s.heap.size ≤ q → B9 q := fun q h => by rw [← hAe]; exact Or.inr h
  clear hAe
  have hS : va_S B9 s.heap s.heap [] := va_S.rf
  have hl := lv_entry ([.ref x.h, .ref x.ob]) (n := 3) (Nat.le_of_ble_eq_true rfl)
  rw [lg_entry_eq]
  generalize (lg_sl ([.ref x.h, .ref x.ob]) ++ List.replicate (3 - (lg_sl ([.ref x.h, .ref x.ob])).length) Slot.unset).toArray = ls at hl ⊢
  have hl : lv_has ls 3 [(0, .ref x.h), (1, .ref x.ob)] := hl
  refine lv_aload_n hx hb d_L_replace_0 rfl (lv_at hl 1 rfl) ?_
  refine lv_iconst (v := 0) hx hb d_L_replace_1 (by decide) ?_
  refine lv_aload_n hx hb d_L_replace_2 rfl (lv_at hl 0 rfl) ?_
  have hFc := va_freeM (wc := HW x k e ov) hD hS hA (fun _ h9 => h9)
  refine th_catch (own := "DraftTreeLaw") (C := "java/lang/IllegalStateException") (hpc := 11) (A1 := va_A (HW x k e ov) s.heap.size) (th_runV (As := []) (rest := [.int 0, .ref x.ob]) ⟨hx, hb, hml, hown, hts⟩ (hT _) (cwV 0 hts (gd_v lk_592 lk_593 lk_594 lk_445 lk_533) rfl rfl rfl (by decide +kernel) ⟨Nat.le_of_ble_eq_true rfl, Nat.le_of_ble_eq_true rfl⟩) ⟨fun a U g mk q => by obtain ⟨q0, q1, qP, qK, qD, qZ⟩ := q; exact ⟨q0, q1, qP, va_K.moved (u := U) (U := U.calling g mk a) (Vm.Alike.refl U.vm) qK, qD, th_ZA.calling qZ⟩, va_recv (ci := 0) (q0 := 1) hK hP rfl rfl, fun U hU hW => ⟨rfl, by rw [hU], by rw [hU]; exact hP, va_K.moved hW.alike hK, hD.weaken (fun _ _ _ _ => trivial), th_ZA.to hZ hS hU hW hFc⟩⟩ rfl rfl hl.1 rfl (lv_room (Nat.le_of_ble_eq_true rfl)) d_L_replace_3 ⟨Nat.le_of_ble_eq_true rfl, Nat.le_of_ble_eq_true rfl⟩) hown htab (by refine ⟨⟨by decide, by decide, by decide⟩, "java/lang/IllegalStateException", (hts _ (List.mem_cons_of_mem _ lk_557)), ?_⟩; exact Or.inl ⟨rfl, rfl⟩) (fun _ _ _ h => ⟨h.1, h.2.2⟩) hS (fun q _ h => hFc q h) hFc (fun xx st₀ t H1 locs ht hvm _ hB hz1 hk1 hS => ?_)
  obtain ⟨-, ⟨hP1, hD1⟩, -⟩ := hB
  rw [ht] at hP1
  have hP := hP1
  have hD := hD1.weaken (fun _ q _ h => hFc q.1 h)
  clear hP1 hD1 hFc hk1 hz1
  refine W.cs (cells' := 1) (slots' := 6) rfl rfl ?_
  refine lv_astore_n (lv' := [(2, .ref xx), (0, .ref x.h), (1, .ref x.ob)]) hx hb d_L_replace_11 rfl hl (by decide) rfl (fun ls hl => ?_)
  refine lv_iconst (v := 1) hx hb d_L_replace_12 (by decide) ?_
  refine W.widen (k := 3) (n := 170) (Nat.le_of_ble_eq_true rfl) (Nat.le_of_ble_eq_true rfl) ?_
  exact W.iret (v := 1) hx hb hr (fun t ht hW => ⟨⟨_, kn, rfl, ⟨rfl, hC⟩, by rw [ht]; exact hP, hD⟩, hS.F ht⟩) hS.2.2 d_L_replace_13
set_option maxHeartbeats 8000000 in
set_option maxRecDepth 100000 in
theorem H_undo_0 (l : Launch) (hfl : l.flags = flags0) (x : FX) {k : CK} {e : ES} (ov : Nat → Int64) {r : Int32} {e' : ES} (hM : KRetI l x y_D_undo w_D_undo ({ frames := 1, cells := 0, slots := 0, locals := 22 }) [.ref x.h] k e 0 0 r e') : HRet l x y_L_undo w_L_undo [.ref x.h, .ref x.ob] k e ov 0 e' (vp_updL ov 0 r.toInt64) := by
  intro sz
  refine th_ofWw (tab := [(0, 8, 11, 33)]) (cc := method_9_code) (maxL := 3) (ret := some .int) (by decide) rfl ?_
  intro p en s m args below meth c s₁ B hml htab hv
  obtain ⟨rfl, hsz, hP, hK, hD0, hZ⟩ := hv
  have hx := B.exec
  have hb := B.bytes
  have hr := B.returns
  have hts := atoms_spec (ws := w_L_undo) B.pre
  have hown : s.vm.findClass "DraftTreeLaw" = some m.cls := findClass_of_methodNamed B.named
  subst hsz
  have hD := hD0.self (sz := s.heap.size)
  generalize hAe : va_A (HW x k e ov) s.heap.size = B9 at hD hZ ⊢
  have hA : ∀ q : Nat, s.heap.size ≤ q → B9 q := fun q h => by rw [← hAe]; exact Or.inr h
  clear hAe
  have hS : va_S B9 s.heap s.heap [] := va_S.rf
  have hl := lv_entry ([.ref x.h, .ref x.ob]) (n := 3) (Nat.le_of_ble_eq_true rfl)
  rw [lg_entry_eq]
  generalize (lg_sl ([.ref x.h, .ref x.ob]) ++ List.replicate (3 - (lg_sl ([.ref x.h, .ref x.ob])).length) Slot.unset).toArray = ls at hl ⊢
  have hl : lv_has ls 3 [(0, .ref x.h), (1, .ref x.ob)] := hl
  refine lv_aload_n hx hb d_L_undo_0 rfl (lv_at hl 1 rfl) ?_
  refine lv_iconst (v := 0) hx hb d_L_undo_1 (by decide) ?_
  refine lv_aload_n hx hb d_L_undo_2 rfl (lv_at hl 0 rfl) ?_
  have hFc := va_freeM (wc := HW x k e ov) hD hS hA (fun _ h9 => h9)
  refine va_calli (va_runV (As := []) (rest := [.int 0, .ref x.ob]) ⟨hx, hb, hml, hown, hts⟩ (hM.up ov _) (cwV 0 hts (gd_v lk_596 lk_597 lk_598 lk_445 lk_496) rfl rfl rfl (by decide +kernel) ⟨Nat.le_of_ble_eq_true rfl, Nat.le_of_ble_eq_true rfl⟩) ⟨fun a U g mk q => by obtain ⟨q0, q1, qP, qK, qD⟩ := q; exact ⟨q0, q1, qP, va_K.moved (u := U) (U := U.calling g mk a) (Vm.Alike.refl U.vm) qK, qD⟩, va_recv (ci := 0) (q0 := 1) hK hP rfl rfl, fun U hU hW => ⟨rfl, by rw [hU], by rw [hU]; exact hP, va_K.moved hW.alike hK, hD.weaken (fun _ _ _ _ => trivial)⟩⟩ rfl rfl hl.1 rfl (lv_room (Nat.le_of_ble_eq_true rfl)) d_L_undo_3 ⟨Nat.le_of_ble_eq_true rfl, Nat.le_of_ble_eq_true rfl⟩) hS (fun q _ h => hFc q h) hFc (fun r9 kn t H1 locs ht hvm hw hB hz1 hk1 hS => ?_)
  obtain ⟨hP1, hD1⟩ := hB
  rw [ht] at hP1
  have hP := hP1
  have hD := hD1.weaken (fun _ q _ h => hFc q.1 h)
  clear hP1 hD1 hFc hk1 hz1
  refine W.cs (cells' := 0) (slots' := 0) rfl rfl ?_
  obtain ⟨hw0, hC⟩ := hw
  subst hw0
  refine lv_i2l hx hb d_L_undo_6 rfl ?_
  refine va_last hx hb hK hP hD hS 0 2 rfl rfl (wk_inb_ok (by decide)) d_L_undo_7 (fun H locs hP hD hS => ?_)
  have hP : va_P x.D vwCl (HW x kn e' (vp_updL ov 0 r9.toInt64)) H := hP
  have hD : va_D B9 (HW x kn e' (vp_updL ov 0 r9.toInt64)) := hD
  refine lv_goto (tgt := 14) hx hb d_L_undo_8 (by decide) ?_
  refine lv_iconst (v := 0) hx hb d_L_undo_14 (by decide) ?_
  refine W.widen (k := 3) (n := 170) (Nat.le_of_ble_eq_true rfl) (Nat.le_of_ble_eq_true rfl) ?_
  exact W.iret (v := 0) hx hb hr (fun t ht hW => ⟨⟨_, kn, rfl, ⟨rfl, hC⟩, by rw [ht]; exact hP, hD⟩, hS.F ht⟩) hS.2.2 d_L_undo_15
set_option maxHeartbeats 8000000 in
set_option maxRecDepth 100000 in
theorem H_undo_1 (l : Launch) (hfl : l.flags = flags0) (x : FX) {k : CK} {e : ES} (ov : Nat → Int64) {e' : ES} (hM : KThr l x y_D_undo w_D_undo ({ frames := 6, cells := 1, slots := 6, locals := 81 }) [.ref x.h] k e 1 6 "java/util/NoSuchElementException" e') : HRet l x y_L_undo w_L_undo [.ref x.h, .ref x.ob] k e ov 1 e' ov := by
  obtain ⟨kn, hC, hT⟩ := hM.up ov
  intro sz
  refine th_ofWw (tab := [(0, 8, 11, 33)]) (cc := method_9_code) (maxL := 3) (ret := some .int) (by decide) rfl ?_
  intro p en s m args below meth c s₁ B hml htab hv
  obtain ⟨rfl, hsz, hP, hK, hD0, hZ⟩ := hv
  have hx := B.exec
  have hb := B.bytes
  have hr := B.returns
  have hts := atoms_spec (ws := w_L_undo) B.pre
  have hown : s.vm.findClass "DraftTreeLaw" = some m.cls := findClass_of_methodNamed B.named
  subst hsz
  have hD := hD0.self (sz := s.heap.size)
  generalize hAe : va_A (HW x k e ov) s.heap.size = B9 at hD hZ ⊢
  have hA : ∀ q : Nat, s.heap.size ≤ q → B9 q := fun q h => by rw [← hAe]; exact Or.inr h
  clear hAe
  have hS : va_S B9 s.heap s.heap [] := va_S.rf
  have hl := lv_entry ([.ref x.h, .ref x.ob]) (n := 3) (Nat.le_of_ble_eq_true rfl)
  rw [lg_entry_eq]
  generalize (lg_sl ([.ref x.h, .ref x.ob]) ++ List.replicate (3 - (lg_sl ([.ref x.h, .ref x.ob])).length) Slot.unset).toArray = ls at hl ⊢
  have hl : lv_has ls 3 [(0, .ref x.h), (1, .ref x.ob)] := hl
  refine lv_aload_n hx hb d_L_undo_0 rfl (lv_at hl 1 rfl) ?_
  refine lv_iconst (v := 0) hx hb d_L_undo_1 (by decide) ?_
  refine lv_aload_n hx hb d_L_undo_2 rfl (lv_at hl 0 rfl) ?_
  have hFc := va_freeM (wc := HW x k e ov) hD hS hA (fun _ h9 => h9)
  refine th_catch (own := "DraftTreeLaw") (C := "java/util/NoSuchElementException") (hpc := 11) (A1 := va_A (HW x k e ov) s.heap.size) (th_runV (As := []) (rest := [.int 0, .ref x.ob]) ⟨hx, hb, hml, hown, hts⟩ (hT _) (cwV 0 hts (gd_v lk_596 lk_597 lk_598 lk_445 lk_496) rfl rfl rfl (by decide +kernel) ⟨Nat.le_of_ble_eq_true rfl, Nat.le_of_ble_eq_true rfl⟩) ⟨fun a U g mk q => by obtain ⟨q0, q1, qP, qK, qD, qZ⟩ := q; exact ⟨q0, q1, qP, va_K.moved (u := U) (U := U.calling g mk a) (Vm.Alike.refl U.vm) qK, qD, th_ZA.calling qZ⟩, va_recv (ci := 0) (q0 := 1) hK hP rfl rfl, fun U hU hW => ⟨rfl, by rw [hU], by rw [hU]; exact hP, va_K.moved hW.alike hK, hD.weaken (fun _ _ _ _ => trivial), th_ZA.to hZ hS hU hW hFc⟩⟩ rfl rfl hl.1 rfl (lv_room (Nat.le_of_ble_eq_true rfl)) d_L_undo_3 ⟨Nat.le_of_ble_eq_true rfl, Nat.le_of_ble_eq_true rfl⟩) hown htab (by refine ⟨⟨by decide, by decide, by decide⟩, "java/util/NoSuchElementException", (hts _ (List.mem_cons_of_mem _ lk_566)), ?_⟩; exact Or.inl ⟨rfl, rfl⟩) (fun _ _ _ h => ⟨h.1, h.2.2⟩) hS (fun q _ h => hFc q h) hFc (fun xx st₀ t H1 locs ht hvm _ hB hz1 hk1 hS => ?_)
  obtain ⟨-, ⟨hP1, hD1⟩, -⟩ := hB
  rw [ht] at hP1
  have hP := hP1
  have hD := hD1.weaken (fun _ q _ h => hFc q.1 h)
  clear hP1 hD1 hFc hk1 hz1
  refine W.cs (cells' := 1) (slots' := 6) rfl rfl ?_
  refine lv_astore_n (lv' := [(2, .ref xx), (0, .ref x.h), (1, .ref x.ob)]) hx hb d_L_undo_11 rfl hl (by decide) rfl (fun ls hl => ?_)
  refine lv_iconst (v := 1) hx hb d_L_undo_12 (by decide) ?_
  refine W.widen (k := 3) (n := 170) (Nat.le_of_ble_eq_true rfl) (Nat.le_of_ble_eq_true rfl) ?_
  exact W.iret (v := 1) hx hb hr (fun t ht hW => ⟨⟨_, kn, rfl, ⟨rfl, hC⟩, by rw [ht]; exact hP, hD⟩, hS.F ht⟩) hS.2.2 d_L_undo_13
set_option maxHeartbeats 8000000 in
set_option maxRecDepth 100000 in
theorem H_redo_0 (l : Launch) (hfl : l.flags = flags0) (x : FX) {k : CK} {e : ES} (ov : Nat → Int64) {r : Int32} {e' : ES} (hM : KRetI l x y_D_redo w_D_redo ({ frames := 1, cells := 0, slots := 0, locals := 22 }) [.ref x.h] k e 0 0 r e') : HRet l x y_L_redo w_L_redo [.ref x.h, .ref x.ob] k e ov 0 e' (vp_updL ov 0 r.toInt64) := by
  intro sz
  refine th_ofWw (tab := [(0, 8, 11, 33)]) (cc := method_10_code) (maxL := 3) (ret := some .int) (by decide) rfl ?_
  intro p en s m args below meth c s₁ B hml htab hv
  obtain ⟨rfl, hsz, hP, hK, hD0, hZ⟩ := hv
  have hx := B.exec
  have hb := B.bytes
  have hr := B.returns
  have hts := atoms_spec (ws := w_L_redo) B.pre
  have hown : s.vm.findClass "DraftTreeLaw" = some m.cls := findClass_of_methodNamed B.named
  subst hsz
  have hD := hD0.self (sz := s.heap.size)
  generalize hAe : va_A (HW x k e ov) s.heap.size = B9 at hD hZ ⊢
  have hA : ∀ q : Nat, s.heap.size ≤ q → B9 q := fun q h => by rw [← hAe]; exact Or.inr h
  clear hAe
  have hS : va_S B9 s.heap s.heap [] := va_S.rf
  have hl := lv_entry ([.ref x.h, .ref x.ob]) (n := 3) (Nat.le_of_ble_eq_true rfl)
  rw [lg_entry_eq]
  generalize (lg_sl ([.ref x.h, .ref x.ob]) ++ List.replicate (3 - (lg_sl ([.ref x.h, .ref x.ob])).length) Slot.unset).toArray = ls at hl ⊢
  have hl : lv_has ls 3 [(0, .ref x.h), (1, .ref x.ob)] := hl
  refine lv_aload_n hx hb d_L_redo_0 rfl (lv_at hl 1 rfl) ?_
  refine lv_iconst (v := 0) hx hb d_L_redo_1 (by decide) ?_
  refine lv_aload_n hx hb d_L_redo_2 rfl (lv_at hl 0 rfl) ?_
  have hFc := va_freeM (wc := HW x k e ov) hD hS hA (fun _ h9 => h9)
  refine va_calli (va_runV (As := []) (rest := [.int 0, .ref x.ob]) ⟨hx, hb, hml, hown, hts⟩ (hM.up ov _) (cwV 0 hts (gd_v lk_588 lk_589 lk_590 lk_445 lk_484) rfl rfl rfl (by decide +kernel) ⟨Nat.le_of_ble_eq_true rfl, Nat.le_of_ble_eq_true rfl⟩) ⟨fun a U g mk q => by obtain ⟨q0, q1, qP, qK, qD⟩ := q; exact ⟨q0, q1, qP, va_K.moved (u := U) (U := U.calling g mk a) (Vm.Alike.refl U.vm) qK, qD⟩, va_recv (ci := 0) (q0 := 1) hK hP rfl rfl, fun U hU hW => ⟨rfl, by rw [hU], by rw [hU]; exact hP, va_K.moved hW.alike hK, hD.weaken (fun _ _ _ _ => trivial)⟩⟩ rfl rfl hl.1 rfl (lv_room (Nat.le_of_ble_eq_true rfl)) d_L_redo_3 ⟨Nat.le_of_ble_eq_true rfl, Nat.le_of_ble_eq_true rfl⟩) hS (fun q _ h => hFc q h) hFc (fun r9 kn t H1 locs ht hvm hw hB hz1 hk1 hS => ?_)
  obtain ⟨hP1, hD1⟩ := hB
  rw [ht] at hP1
  have hP := hP1
  have hD := hD1.weaken (fun _ q _ h => hFc q.1 h)
  clear hP1 hD1 hFc hk1 hz1
  refine W.cs (cells' := 0) (slots' := 0) rfl rfl ?_
  obtain ⟨hw0, hC⟩ := hw
  subst hw0
  refine lv_i2l hx hb d_L_redo_6 rfl ?_
  refine va_last hx hb hK hP hD hS 0 2 rfl rfl (wk_inb_ok (by decide)) d_L_redo_7 (fun H locs hP hD hS => ?_)
  have hP : va_P x.D vwCl (HW x kn e' (vp_updL ov 0 r9.toInt64)) H := hP
  have hD : va_D B9 (HW x kn e' (vp_updL ov 0 r9.toInt64)) := hD
  refine lv_goto (tgt := 14) hx hb d_L_redo_8 (by decide) ?_
  refine lv_iconst (v := 0) hx hb d_L_redo_14 (by decide) ?_
  refine W.widen (k := 3) (n := 170) (Nat.le_of_ble_eq_true rfl) (Nat.le_of_ble_eq_true rfl) ?_
  exact W.iret (v := 0) hx hb hr (fun t ht hW => ⟨⟨_, kn, rfl, ⟨rfl, hC⟩, by rw [ht]; exact hP, hD⟩, hS.F ht⟩) hS.2.2 d_L_redo_15
set_option maxHeartbeats 8000000 in
set_option maxRecDepth 100000 in
theorem H_redo_1 (l : Launch) (hfl : l.flags = flags0) (x : FX) {k : CK} {e : ES} (ov : Nat → Int64) {e' : ES} (hM : KThr l x y_D_redo w_D_redo ({ frames := 6, cells := 1, slots := 6, locals := 81 }) [.ref x.h] k e 1 6 "java/util/NoSuchElementException" e') : HRet l x y_L_redo w_L_redo [.ref x.h, .ref x.ob] k e ov 1 e' ov := by
  obtain ⟨kn, hC, hT⟩ := hM.up ov
  intro sz
  refine th_ofWw (tab := [(0, 8, 11, 33)]) (cc := method_10_code) (maxL := 3) (ret := some .int) (by decide) rfl ?_
  intro p en s m args below meth c s₁ B hml htab hv
  obtain ⟨rfl, hsz, hP, hK, hD0, hZ⟩ := hv
  have hx := B.exec
  have hb := B.bytes
  have hr := B.returns
  have hts := atoms_spec (ws := w_L_redo) B.pre
  have hown : s.vm.findClass "DraftTreeLaw" = some m.cls := findClass_of_methodNamed B.named
  subst hsz
  have hD := hD0.self (sz := s.heap.size)
  generalize hAe : va_A (HW x k e ov) s.heap.size = B9 at hD hZ ⊢
  have hA : ∀ q : Nat, s.heap.size ≤ q → B9 q := fun q h => by rw [← hAe]; exact Or.inr h
  clear hAe
  have hS : va_S B9 s.heap s.heap [] := va_S.rf
  have hl := lv_entry ([.ref x.h, .ref x.ob]) (n := 3) (Nat.le_of_ble_eq_true rfl)
  rw [lg_entry_eq]
  generalize (lg_sl ([.ref x.h, .ref x.ob]) ++ List.replicate (3 - (lg_sl ([.ref x.h, .ref x.ob])).length) Slot.unset).toArray = ls at hl ⊢
  have hl : lv_has ls 3 [(0, .ref x.h), (1, .ref x.ob)] := hl
  refine lv_aload_n hx hb d_L_redo_0 rfl (lv_at hl 1 rfl) ?_
  refine lv_iconst (v := 0) hx hb d_L_redo_1 (by decide) ?_
  refine lv_aload_n hx hb d_L_redo_2 rfl (lv_at hl 0 rfl) ?_
  have hFc := va_freeM (wc := HW x k e ov) hD hS hA (fun _ h9 => h9)
  refine th_catch (own := "DraftTreeLaw") (C := "java/util/NoSuchElementException") (hpc := 11) (A1 := va_A (HW x k e ov) s.heap.size) (th_runV (As := []) (rest := [.int 0, .ref x.ob]) ⟨hx, hb, hml, hown, hts⟩ (hT _) (cwV 0 hts (gd_v lk_588 lk_589 lk_590 lk_445 lk_484) rfl rfl rfl (by decide +kernel) ⟨Nat.le_of_ble_eq_true rfl, Nat.le_of_ble_eq_true rfl⟩) ⟨fun a U g mk q => by obtain ⟨q0, q1, qP, qK, qD, qZ⟩ := q; exact ⟨q0, q1, qP, va_K.moved (u := U) (U := U.calling g mk a) (Vm.Alike.refl U.vm) qK, qD, th_ZA.calling qZ⟩, va_recv (ci := 0) (q0 := 1) hK hP rfl rfl, fun U hU hW => ⟨rfl, by rw [hU], by rw [hU]; exact hP, va_K.moved hW.alike hK, hD.weaken (fun _ _ _ _ => trivial), th_ZA.to hZ hS hU hW hFc⟩⟩ rfl rfl hl.1 rfl (lv_room (Nat.le_of_ble_eq_true rfl)) d_L_redo_3 ⟨Nat.le_of_ble_eq_true rfl, Nat.le_of_ble_eq_true rfl⟩) hown htab (by refine ⟨⟨by decide, by decide, by decide⟩, "java/util/NoSuchElementException", (hts _ (List.mem_cons_of_mem _ lk_566)), ?_⟩; exact Or.inl ⟨rfl, rfl⟩) (fun _ _ _ h => ⟨h.1, h.2.2⟩) hS (fun q _ h => hFc q h) hFc (fun xx st₀ t H1 locs ht hvm _ hB hz1 hk1 hS => ?_)
  obtain ⟨-, ⟨hP1, hD1⟩, -⟩ := hB
  rw [ht] at hP1
  have hP := hP1
  have hD := hD1.weaken (fun _ q _ h => hFc q.1 h)
  clear hP1 hD1 hFc hk1 hz1
  refine W.cs (cells' := 1) (slots' := 6) rfl rfl ?_
  refine lv_astore_n (lv' := [(2, .ref xx), (0, .ref x.h), (1, .ref x.ob)]) hx hb d_L_redo_11 rfl hl (by decide) rfl (fun ls hl => ?_)
  refine lv_iconst (v := 1) hx hb d_L_redo_12 (by decide) ?_
  refine W.widen (k := 3) (n := 170) (Nat.le_of_ble_eq_true rfl) (Nat.le_of_ble_eq_true rfl) ?_
  exact W.iret (v := 1) hx hb hr (fun t ht hW => ⟨⟨_, kn, rfl, ⟨rfl, hC⟩, by rw [ht]; exact hP, hD⟩, hS.F ht⟩) hS.2.2 d_L_redo_13
set_option maxHeartbeats 8000000 in
set_option maxRecDepth 100000 in
theorem H_jump_0 (l : Launch) (hfl : l.flags = flags0) (x : FX) {k : CK} {e : ES} {k1 : Int32} (ov : Nat → Int64) {e' : ES} (hM : KRetV l x y_D_jump w_D_jump ({ frames := 1, cells := 0, slots := 0, locals := 22 }) [.ref x.h, .int k1] k e 0 0 e') : HRet l x y_L_jump w_L_jump [.ref x.h, .int k1] k e ov 0 e' ov := by
  intro sz
  refine th_ofWw (tab := [(0, 5, 8, 28)]) (cc := method_11_code) (maxL := 3) (ret := some .int) (by decide) rfl ?_
  intro p en s m args below meth c s₁ B hml htab hv
  obtain ⟨rfl, hsz, hP, hK, hD0, hZ⟩ := hv
  have hx := B.exec
  have hb := B.bytes
  have hr := B.returns
  have hts := atoms_spec (ws := w_L_jump) B.pre
  have hown : s.vm.findClass "DraftTreeLaw" = some m.cls := findClass_of_methodNamed B.named
  subst hsz
  have hD := hD0.self (sz := s.heap.size)
  generalize hAe : va_A (HW x k e ov) s.heap.size = B9 at hD hZ ⊢
  have hA : ∀ q : Nat, s.heap.size ≤ q → B9 q := fun q h => by rw [← hAe]; exact Or.inr h
  clear hAe
  have hS : va_S B9 s.heap s.heap [] := va_S.rf
  have hl := lv_entry ([.ref x.h, .int k1]) (n := 3) (Nat.le_of_ble_eq_true rfl)
  rw [lg_entry_eq]
  generalize (lg_sl ([.ref x.h, .int k1]) ++ List.replicate (3 - (lg_sl ([.ref x.h, .int k1])).length) Slot.unset).toArray = ls at hl ⊢
  have hl : lv_has ls 3 [(0, .ref x.h), (1, .int k1)] := hl
  refine lv_aload_n hx hb d_L_jump_0 rfl (lv_at hl 0 rfl) ?_
  refine lv_iload_n hx hb d_L_jump_1 rfl (lv_at hl 1 rfl) ?_
  have hFc := va_freeM (wc := HW x k e ov) hD hS hA (fun _ h9 => h9)
  refine va_callv (va_runV (As := [.int k1]) (rest := []) ⟨hx, hb, hml, hown, hts⟩ (hM.up ov _) (cwV 1 hts (gd_v lk_576 lk_577 lk_578 lk_445 lk_469) rfl rfl rfl (by decide +kernel) ⟨Nat.le_of_ble_eq_true rfl, Nat.le_of_ble_eq_true rfl⟩) ⟨fun a U g mk q => by obtain ⟨q0, q1, qP, qK, qD⟩ := q; exact ⟨q0, q1, qP, va_K.moved (u := U) (U := U.calling g mk a) (Vm.Alike.refl U.vm) qK, qD⟩, va_recv (ci := 0) (q0 := 1) hK hP rfl rfl, fun U hU hW => ⟨rfl, by rw [hU], by rw [hU]; exact hP, va_K.moved hW.alike hK, hD.weaken (fun _ _ _ _ => trivial)⟩⟩ rfl rfl hl.1 rfl (lv_room (Nat.le_of_ble_eq_true rfl)) d_L_jump_2 ⟨Nat.le_of_ble_eq_true rfl, Nat.le_of_ble_eq_true rfl⟩) hS (fun q _ h => hFc q h) hFc (fun kn t H1 locs ht hvm hw hB hz1 hk1 hS => ?_)
  obtain ⟨hP1, hD1⟩ := hB
  rw [ht] at hP1
  have hP := hP1
  have hD := hD1.weaken (fun _ q _ h => hFc q.1 h)
  clear hP1 hD1 hFc hk1 hz1
  refine W.cs (cells' := 0) (slots' := 0) rfl rfl ?_
  have hC := hw
  refine lv_goto (tgt := 11) hx hb d_L_jump_5 (by decide) ?_
  refine lv_iconst (v := 0) hx hb d_L_jump_11 (by decide) ?_
  refine W.widen (k := 3) (n := 170) (Nat.le_of_ble_eq_true rfl) (Nat.le_of_ble_eq_true rfl) ?_
  exact W.iret (v := 0) hx hb hr (fun t ht hW => ⟨⟨_, kn, rfl, ⟨rfl, hC⟩, by rw [ht]; exact hP, hD⟩, hS.F ht⟩) hS.2.2 d_L_jump_12
set_option maxHeartbeats 8000000 in
set_option maxRecDepth 100000 in
theorem H_jump_1 (l : Launch) (hfl : l.flags = flags0) (x : FX) {k : CK} {e : ES} {k1 : Int32} (ov : Nat → Int64) {e' : ES} (hM : KThr l x y_D_jump w_D_jump ({ frames := 7, cells := 1, slots := 6, locals := 102 }) [.ref x.h, .int k1] k e 1 6 "java/lang/IllegalArgumentException" e') : HRet l x y_L_jump w_L_jump [.ref x.h, .int k1] k e ov 1 e' ov := by
  obtain ⟨kn, hC, hT⟩ := hM.up ov
  intro sz
  refine th_ofWw (tab := [(0, 5, 8, 28)]) (cc := method_11_code) (maxL := 3) (ret := some .int) (by decide) rfl ?_
  intro p en s m args below meth c s₁ B hml htab hv
  obtain ⟨rfl, hsz, hP, hK, hD0, hZ⟩ := hv
  have hx := B.exec
  have hb := B.bytes
  have hr := B.returns
  have hts := atoms_spec (ws := w_L_jump) B.pre
  have hown : s.vm.findClass "DraftTreeLaw" = some m.cls := findClass_of_methodNamed B.named
  subst hsz
  have hD := hD0.self (sz := s.heap.size)
  generalize hAe : va_A (HW x k e ov) s.heap.size = B9 at hD hZ ⊢
  have hA : ∀ q : Nat, s.heap.size ≤ q → B9 q := fun q h => by rw [← hAe]; exact Or.inr h
  clear hAe
  have hS : va_S B9 s.heap s.heap [] := va_S.rf
  have hl := lv_entry ([.ref x.h, .int k1]) (n := 3) (Nat.le_of_ble_eq_true rfl)
  rw [lg_entry_eq]
  generalize (lg_sl ([.ref x.h, .int k1]) ++ List.replicate (3 - (lg_sl ([.ref x.h, .int k1])).length) Slot.unset).toArray = ls at hl ⊢
  have hl : lv_has ls 3 [(0, .ref x.h), (1, .int k1)] := hl
  refine lv_aload_n hx hb d_L_jump_0 rfl (lv_at hl 0 rfl) ?_
  refine lv_iload_n hx hb d_L_jump_1 rfl (lv_at hl 1 rfl) ?_
  have hFc := va_freeM (wc := HW x k e ov) hD hS hA (fun _ h9 => h9)
  refine th_catch (own := "DraftTreeLaw") (C := "java/lang/IllegalArgumentException") (hpc := 8) (A1 := va_A (HW x k e ov) s.heap.size) (th_runV (As := [.int k1]) (rest := []) ⟨hx, hb, hml, hown, hts⟩ (hT _) (cwV 1 hts (gd_v lk_576 lk_577 lk_578 lk_445 lk_469) rfl rfl rfl (by decide +kernel) ⟨Nat.le_of_ble_eq_true rfl, Nat.le_of_ble_eq_true rfl⟩) ⟨fun a U g mk q => by obtain ⟨q0, q1, qP, qK, qD, qZ⟩ := q; exact ⟨q0, q1, qP, va_K.moved (u := U) (U := U.calling g mk a) (Vm.Alike.refl U.vm) qK, qD, th_ZA.calling qZ⟩, va_recv (ci := 0) (q0 := 1) hK hP rfl rfl, fun U hU hW => ⟨rfl, by rw [hU], by rw [hU]; exact hP, va_K.moved hW.alike hK, hD.weaken (fun _ _ _ _ => trivial), th_ZA.to hZ hS hU hW hFc⟩⟩ rfl rfl hl.1 rfl (lv_room (Nat.le_of_ble_eq_true rfl)) d_L_jump_2 ⟨Nat.le_of_ble_eq_true rfl, Nat.le_of_ble_eq_true rfl⟩) hown htab (by refine ⟨⟨by decide, by decide, by decide⟩, "java/lang/IllegalArgumentException", (hts _ (List.mem_cons_of_mem _ lk_552)), ?_⟩; exact Or.inl ⟨rfl, rfl⟩) (fun _ _ _ h => ⟨h.1, h.2.2⟩) hS (fun q _ h => hFc q h) hFc (fun xx st₀ t H1 locs ht hvm _ hB hz1 hk1 hS => ?_)
  obtain ⟨-, ⟨hP1, hD1⟩, -⟩ := hB
  rw [ht] at hP1
  have hP := hP1
  have hD := hD1.weaken (fun _ q _ h => hFc q.1 h)
  clear hP1 hD1 hFc hk1 hz1
  refine W.cs (cells' := 1) (slots' := 6) rfl rfl ?_
  refine lv_astore_n (lv' := [(2, .ref xx), (0, .ref x.h), (1, .int k1)]) hx hb d_L_jump_8 rfl hl (by decide) rfl (fun ls hl => ?_)
  refine lv_iconst (v := 1) hx hb d_L_jump_9 (by decide) ?_
  refine W.widen (k := 3) (n := 170) (Nat.le_of_ble_eq_true rfl) (Nat.le_of_ble_eq_true rfl) ?_
  exact W.iret (v := 1) hx hb hr (fun t ht hW => ⟨⟨_, kn, rfl, ⟨rfl, hC⟩, by rw [ht]; exact hP, hD⟩, hS.F ht⟩) hS.2.2 d_L_jump_10
set_option maxHeartbeats 8000000 in
set_option maxRecDepth 100000 in
theorem H_at_0 (l : Launch) (hfl : l.flags = flags0) (x : FX) {k : CK} {e : ES} {k1 : Int32} (ov : Nat → Int64) {r : Int32} {e' : ES} (hM : KRetI l x y_D_at w_D_at ({ frames := 0, cells := 0, slots := 0, locals := 0 }) [.ref x.h, .int k1] k e 0 0 r e') : HRet l x y_L_at w_L_at [.ref x.h, .int k1, .ref x.ob] k e ov 0 e' (vp_updL ov 0 r.toInt64) := by
  intro sz
  refine th_ofWw (tab := [(0, 9, 12, 23)]) (cc := method_12_code) (maxL := 4) (ret := some .int) (by decide) rfl ?_
  intro p en s m args below meth c s₁ B hml htab hv
  obtain ⟨rfl, hsz, hP, hK, hD0, hZ⟩ := hv
  have hx := B.exec
  have hb := B.bytes
  have hr := B.returns
  have hts := atoms_spec (ws := w_L_at) B.pre
  have hown : s.vm.findClass "DraftTreeLaw" = some m.cls := findClass_of_methodNamed B.named
  subst hsz
  have hD := hD0.self (sz := s.heap.size)
  generalize hAe : va_A (HW x k e ov) s.heap.size = B9 at hD hZ ⊢
  have hA : ∀ q : Nat, s.heap.size ≤ q → B9 q := fun q h => by rw [← hAe]; exact Or.inr h
  clear hAe
  have hS : va_S B9 s.heap s.heap [] := va_S.rf
  have hl := lv_entry ([.ref x.h, .int k1, .ref x.ob]) (n := 4) (Nat.le_of_ble_eq_true rfl)
  rw [lg_entry_eq]
  generalize (lg_sl ([.ref x.h, .int k1, .ref x.ob]) ++ List.replicate (4 - (lg_sl ([.ref x.h, .int k1, .ref x.ob])).length) Slot.unset).toArray = ls at hl ⊢
  have hl : lv_has ls 4 [(0, .ref x.h), (1, .int k1), (2, .ref x.ob)] := hl
  refine lv_aload_n hx hb d_L_at_0 rfl (lv_at hl 2 rfl) ?_
  refine lv_iconst (v := 0) hx hb d_L_at_1 (by decide) ?_
  refine lv_aload_n hx hb d_L_at_2 rfl (lv_at hl 0 rfl) ?_
  refine lv_iload_n hx hb d_L_at_3 rfl (lv_at hl 1 rfl) ?_
  have hFc := va_freeM (wc := HW x k e ov) hD hS hA (fun _ h9 => h9)
  refine va_calli (va_runV (As := [.int k1]) (rest := [.int 0, .ref x.ob]) ⟨hx, hb, hml, hown, hts⟩ (hM.up ov _) (cwV 1 hts (gd_v lk_544 lk_545 lk_546 lk_445 lk_245) rfl rfl rfl (by decide +kernel) ⟨Nat.le_of_ble_eq_true rfl, Nat.le_of_ble_eq_true rfl⟩) ⟨fun a U g mk q => by obtain ⟨q0, q1, qP, qK, qD⟩ := q; exact ⟨q0, q1, qP, va_K.moved (u := U) (U := U.calling g mk a) (Vm.Alike.refl U.vm) qK, qD⟩, va_recv (ci := 0) (q0 := 1) hK hP rfl rfl, fun U hU hW => ⟨rfl, by rw [hU], by rw [hU]; exact hP, va_K.moved hW.alike hK, hD.weaken (fun _ _ _ _ => trivial)⟩⟩ rfl rfl hl.1 rfl (lv_room (Nat.le_of_ble_eq_true rfl)) d_L_at_4 ⟨Nat.le_of_ble_eq_true rfl, Nat.le_of_ble_eq_true rfl⟩) hS (fun q _ h => hFc q h) hFc (fun r9 kn t H1 locs ht hvm hw hB hz1 hk1 hS => ?_)
  obtain ⟨hP1, hD1⟩ := hB
  rw [ht] at hP1
  have hP := hP1
  have hD := hD1.weaken (fun _ q _ h => hFc q.1 h)
  clear hP1 hD1 hFc hk1 hz1
  refine W.cs (cells' := 0) (slots' := 0) rfl rfl ?_
  obtain ⟨hw0, hC⟩ := hw
  subst hw0
  refine lv_i2l hx hb d_L_at_7 rfl ?_
  refine va_last hx hb hK hP hD hS 0 2 rfl rfl (wk_inb_ok (by decide)) d_L_at_8 (fun H locs hP hD hS => ?_)
  have hP : va_P x.D vwCl (HW x kn e' (vp_updL ov 0 r9.toInt64)) H := hP
  have hD : va_D B9 (HW x kn e' (vp_updL ov 0 r9.toInt64)) := hD
  refine lv_goto (tgt := 15) hx hb d_L_at_9 (by decide) ?_
  refine lv_iconst (v := 0) hx hb d_L_at_15 (by decide) ?_
  refine W.widen (k := 3) (n := 170) (Nat.le_of_ble_eq_true rfl) (Nat.le_of_ble_eq_true rfl) ?_
  exact W.iret (v := 0) hx hb hr (fun t ht hW => ⟨⟨_, kn, rfl, ⟨rfl, hC⟩, by rw [ht]; exact hP, hD⟩, hS.F ht⟩) hS.2.2 d_L_at_16
set_option maxHeartbeats 8000000 in
set_option maxRecDepth 100000 in
theorem H_at_1 (l : Launch) (hfl : l.flags = flags0) (x : FX) {k : CK} {e : ES} {k1 : Int32} (ov : Nat → Int64) {e' : ES} (hM : KThr l x y_D_at w_D_at ({ frames := 6, cells := 1, slots := 6, locals := 81 }) [.ref x.h, .int k1] k e 1 6 "java/lang/IndexOutOfBoundsException" e') : HRet l x y_L_at w_L_at [.ref x.h, .int k1, .ref x.ob] k e ov 1 e' ov := by
  obtain ⟨kn, hC, hT⟩ := hM.up ov
  intro sz
  refine th_ofWw (tab := [(0, 9, 12, 23)]) (cc := method_12_code) (maxL := 4) (ret := some .int) (by decide) rfl ?_
  intro p en s m args below meth c s₁ B hml htab hv
  obtain ⟨rfl, hsz, hP, hK, hD0, hZ⟩ := hv
  have hx := B.exec
  have hb := B.bytes
  have hr := B.returns
  have hts := atoms_spec (ws := w_L_at) B.pre
  have hown : s.vm.findClass "DraftTreeLaw" = some m.cls := findClass_of_methodNamed B.named
  subst hsz
  have hD := hD0.self (sz := s.heap.size)
  generalize hAe : va_A (HW x k e ov) s.heap.size = B9 at hD hZ ⊢
  have hA : ∀ q : Nat, s.heap.size ≤ q → B9 q := fun q h => by rw [← hAe]; exact Or.inr h
  clear hAe
  have hS : va_S B9 s.heap s.heap [] := va_S.rf
  have hl := lv_entry ([.ref x.h, .int k1, .ref x.ob]) (n := 4) (Nat.le_of_ble_eq_true rfl)
  rw [lg_entry_eq]
  generalize (lg_sl ([.ref x.h, .int k1, .ref x.ob]) ++ List.replicate (4 - (lg_sl ([.ref x.h, .int k1, .ref x.ob])).length) Slot.unset).toArray = ls at hl ⊢
  have hl : lv_has ls 4 [(0, .ref x.h), (1, .int k1), (2, .ref x.ob)] := hl
  refine lv_aload_n hx hb d_L_at_0 rfl (lv_at hl 2 rfl) ?_
  refine lv_iconst (v := 0) hx hb d_L_at_1 (by decide) ?_
  refine lv_aload_n hx hb d_L_at_2 rfl (lv_at hl 0 rfl) ?_
  refine lv_iload_n hx hb d_L_at_3 rfl (lv_at hl 1 rfl) ?_
  have hFc := va_freeM (wc := HW x k e ov) hD hS hA (fun _ h9 => h9)
  refine th_catch (own := "DraftTreeLaw") (C := "java/lang/IndexOutOfBoundsException") (hpc := 12) (A1 := va_A (HW x k e ov) s.heap.size) (th_runV (As := [.int k1]) (rest := [.int 0, .ref x.ob]) ⟨hx, hb, hml, hown, hts⟩ (hT _) (cwV 1 hts (gd_v lk_544 lk_545 lk_546 lk_445 lk_245) rfl rfl rfl (by decide +kernel) ⟨Nat.le_of_ble_eq_true rfl, Nat.le_of_ble_eq_true rfl⟩) ⟨fun a U g mk q => by obtain ⟨q0, q1, qP, qK, qD, qZ⟩ := q; exact ⟨q0, q1, qP, va_K.moved (u := U) (U := U.calling g mk a) (Vm.Alike.refl U.vm) qK, qD, th_ZA.calling qZ⟩, va_recv (ci := 0) (q0 := 1) hK hP rfl rfl, fun U hU hW => ⟨rfl, by rw [hU], by rw [hU]; exact hP, va_K.moved hW.alike hK, hD.weaken (fun _ _ _ _ => trivial), th_ZA.to hZ hS hU hW hFc⟩⟩ rfl rfl hl.1 rfl (lv_room (Nat.le_of_ble_eq_true rfl)) d_L_at_4 ⟨Nat.le_of_ble_eq_true rfl, Nat.le_of_ble_eq_true rfl⟩) hown htab (by refine ⟨⟨by decide, by decide, by decide⟩, "java/lang/IndexOutOfBoundsException", (hts _ (List.mem_cons_of_mem _ lk_547)), ?_⟩; exact Or.inl ⟨rfl, rfl⟩) (fun _ _ _ h => ⟨h.1, h.2.2⟩) hS (fun q _ h => hFc q h) hFc (fun xx st₀ t H1 locs ht hvm _ hB hz1 hk1 hS => ?_)
  obtain ⟨-, ⟨hP1, hD1⟩, -⟩ := hB
  rw [ht] at hP1
  have hP := hP1
  have hD := hD1.weaken (fun _ q _ h => hFc q.1 h)
  clear hP1 hD1 hFc hk1 hz1
  refine W.cs (cells' := 1) (slots' := 6) rfl rfl ?_
  refine lv_astore_n (lv' := [(3, .ref xx), (0, .ref x.h), (1, .int k1), (2, .ref x.ob)]) hx hb d_L_at_12 rfl hl (by decide) rfl (fun ls hl => ?_)
  refine lv_iconst (v := 1) hx hb d_L_at_13 (by decide) ?_
  refine W.widen (k := 3) (n := 170) (Nat.le_of_ble_eq_true rfl) (Nat.le_of_ble_eq_true rfl) ?_
  exact W.iret (v := 1) hx hb hr (fun t ht hW => ⟨⟨_, kn, rfl, ⟨rfl, hC⟩, by rw [ht]; exact hP, hD⟩, hS.F ht⟩) hS.2.2 d_L_at_14
set_option maxHeartbeats 8000000 in
set_option maxRecDepth 100000 in
theorem H_line_0 (l : Launch) (hfl : l.flags = flags0) (x : FX) {k : CK} {e : ES} {k1 k2 : Int32} (ov : Nat → Int64) {r : Int32} {e' : ES} (hM : KRetI l x y_D_line w_D_line ({ frames := 1, cells := 0, slots := 0, locals := 23 }) [.ref x.h, .int k1, .int k2] k e 0 0 r e') : HRet l x y_L_line w_L_line [.ref x.h, .int k1, .int k2, .ref x.ob] k e ov 0 e' (vp_updL ov 0 r.toInt64) := by
  intro sz
  refine th_ofWw (tab := [(0, 10, 13, 28), (0, 10, 17, 23)]) (cc := method_13_code) (maxL := 5) (ret := some .int) (by decide) rfl ?_
  intro p en s m args below meth c s₁ B hml htab hv
  obtain ⟨rfl, hsz, hP, hK, hD0, hZ⟩ := hv
  have hx := B.exec
  have hb := B.bytes
  have hr := B.returns
  have hts := atoms_spec (ws := w_L_line) B.pre
  have hown : s.vm.findClass "DraftTreeLaw" = some m.cls := findClass_of_methodNamed B.named
  subst hsz
  have hD := hD0.self (sz := s.heap.size)
  generalize hAe : va_A (HW x k e ov) s.heap.size = B9 at hD hZ ⊢
  have hA : ∀ q : Nat, s.heap.size ≤ q → B9 q := fun q h => by rw [← hAe]; exact Or.inr h
  clear hAe
  have hS : va_S B9 s.heap s.heap [] := va_S.rf
  have hl := lv_entry ([.ref x.h, .int k1, .int k2, .ref x.ob]) (n := 5) (Nat.le_of_ble_eq_true rfl)
  rw [lg_entry_eq]
  generalize (lg_sl ([.ref x.h, .int k1, .int k2, .ref x.ob]) ++ List.replicate (5 - (lg_sl ([.ref x.h, .int k1, .int k2, .ref x.ob])).length) Slot.unset).toArray = ls at hl ⊢
  have hl : lv_has ls 5 [(0, .ref x.h), (1, .int k1), (2, .int k2), (3, .ref x.ob)] := hl
  refine lv_aload_n hx hb d_L_line_0 rfl (lv_at hl 3 rfl) ?_
  refine lv_iconst (v := 0) hx hb d_L_line_1 (by decide) ?_
  refine lv_aload_n hx hb d_L_line_2 rfl (lv_at hl 0 rfl) ?_
  refine lv_iload_n hx hb d_L_line_3 rfl (lv_at hl 1 rfl) ?_
  refine lv_iload_n hx hb d_L_line_4 rfl (lv_at hl 2 rfl) ?_
  have hFc := va_freeM (wc := HW x k e ov) hD hS hA (fun _ h9 => h9)
  refine va_calli (va_runV (As := [.int k1, .int k2]) (rest := [.int 0, .ref x.ob]) ⟨hx, hb, hml, hown, hts⟩ (hM.up ov _) (cwV 2 hts (gd_v lk_580 lk_581 lk_582 lk_445 lk_482) rfl rfl rfl (by decide +kernel) ⟨Nat.le_of_ble_eq_true rfl, Nat.le_of_ble_eq_true rfl⟩) ⟨fun a U g mk q => by obtain ⟨q0, q1, qP, qK, qD⟩ := q; exact ⟨q0, q1, qP, va_K.moved (u := U) (U := U.calling g mk a) (Vm.Alike.refl U.vm) qK, qD⟩, va_recv (ci := 0) (q0 := 1) hK hP rfl rfl, fun U hU hW => ⟨rfl, by rw [hU], by rw [hU]; exact hP, va_K.moved hW.alike hK, hD.weaken (fun _ _ _ _ => trivial)⟩⟩ rfl rfl hl.1 rfl (lv_room (Nat.le_of_ble_eq_true rfl)) d_L_line_5 ⟨Nat.le_of_ble_eq_true rfl, Nat.le_of_ble_eq_true rfl⟩) hS (fun q _ h => hFc q h) hFc (fun r9 kn t H1 locs ht hvm hw hB hz1 hk1 hS => ?_)
  obtain ⟨hP1, hD1⟩ := hB
  rw [ht] at hP1
  have hP := hP1
  have hD := hD1.weaken (fun _ q _ h => hFc q.1 h)
  clear hP1 hD1 hFc hk1 hz1
  refine W.cs (cells' := 0) (slots' := 0) rfl rfl ?_
  obtain ⟨hw0, hC⟩ := hw
  subst hw0
  refine lv_i2l hx hb d_L_line_8 rfl ?_
  refine va_last hx hb hK hP hD hS 0 2 rfl rfl (wk_inb_ok (by decide)) d_L_line_9 (fun H locs hP hD hS => ?_)
  have hP : va_P x.D vwCl (HW x kn e' (vp_updL ov 0 r9.toInt64)) H := hP
  have hD : va_D B9 (HW x kn e' (vp_updL ov 0 r9.toInt64)) := hD
  refine lv_goto (tgt := 21) hx hb d_L_line_10 (by decide) ?_
  refine lv_iconst (v := 0) hx hb d_L_line_21 (by decide) ?_
  refine W.widen (k := 3) (n := 170) (Nat.le_of_ble_eq_true rfl) (Nat.le_of_ble_eq_true rfl) ?_
  exact W.iret (v := 0) hx hb hr (fun t ht hW => ⟨⟨_, kn, rfl, ⟨rfl, hC⟩, by rw [ht]; exact hP, hD⟩, hS.F ht⟩) hS.2.2 d_L_line_22
set_option maxHeartbeats 8000000 in
set_option maxRecDepth 100000 in
theorem H_line_1 (l : Launch) (hfl : l.flags = flags0) (x : FX) {k : CK} {e : ES} {k1 k2 : Int32} (ov : Nat → Int64) {e' : ES} (hM : KThr l x y_D_line w_D_line ({ frames := 7, cells := 1, slots := 6, locals := 104 }) [.ref x.h, .int k1, .int k2] k e 1 6 "java/lang/IllegalArgumentException" e') : HRet l x y_L_line w_L_line [.ref x.h, .int k1, .int k2, .ref x.ob] k e ov 1 e' ov := by
  obtain ⟨kn, hC, hT⟩ := hM.up ov
  intro sz
  refine th_ofWw (tab := [(0, 10, 13, 28), (0, 10, 17, 23)]) (cc := method_13_code) (maxL := 5) (ret := some .int) (by decide) rfl ?_
  intro p en s m args below meth c s₁ B hml htab hv
  obtain ⟨rfl, hsz, hP, hK, hD0, hZ⟩ := hv
  have hx := B.exec
  have hb := B.bytes
  have hr := B.returns
  have hts := atoms_spec (ws := w_L_line) B.pre
  have hown : s.vm.findClass "DraftTreeLaw" = some m.cls := findClass_of_methodNamed B.named
  subst hsz
  have hD := hD0.self (sz := s.heap.size)
  generalize hAe : va_A (HW x k e ov) s.heap.size = B9 at hD hZ ⊢
  have hA : ∀ q : Nat, s.heap.size ≤ q → B9 q := fun q h => by rw [← hAe]; exact Or.inr h
  clear hAe
  have hS : va_S B9 s.heap s.heap [] := va_S.rf
  have hl := lv_entry ([.ref x.h, .int k1, .int k2, .ref x.ob]) (n := 5) (Nat.le_of_ble_eq_true rfl)
  rw [lg_entry_eq]
  generalize (lg_sl ([.ref x.h, .int k1, .int k2, .ref x.ob]) ++ List.replicate (5 - (lg_sl ([.ref x.h, .int k1, .int k2, .ref x.ob])).length) Slot.unset).toArray = ls at hl ⊢
  have hl : lv_has ls 5 [(0, .ref x.h), (1, .int k1), (2, .int k2), (3, .ref x.ob)] := hl
  refine lv_aload_n hx hb d_L_line_0 rfl (lv_at hl 3 rfl) ?_
  refine lv_iconst (v := 0) hx hb d_L_line_1 (by decide) ?_
  refine lv_aload_n hx hb d_L_line_2 rfl (lv_at hl 0 rfl) ?_
  refine lv_iload_n hx hb d_L_line_3 rfl (lv_at hl 1 rfl) ?_
  refine lv_iload_n hx hb d_L_line_4 rfl (lv_at hl 2 rfl) ?_
  have hFc := va_freeM (wc := HW x k e ov) hD hS hA (fun _ h9 => h9)
  refine th_catch (own := "DraftTreeLaw") (C := "java/lang/IllegalArgumentException") (hpc := 13) (A1 := va_A (HW x k e ov) s.heap.size) (th_runV (As := [.int k1, .int k2]) (rest := [.int 0, .ref x.ob]) ⟨hx, hb, hml, hown, hts⟩ (hT _) (cwV 2 hts (gd_v lk_580 lk_581 lk_582 lk_445 lk_482) rfl rfl rfl (by decide +kernel) ⟨Nat.le_of_ble_eq_true rfl, Nat.le_of_ble_eq_true rfl⟩) ⟨fun a U g mk q => by obtain ⟨q0, q1, qP, qK, qD, qZ⟩ := q; exact ⟨q0, q1, qP, va_K.moved (u := U) (U := U.calling g mk a) (Vm.Alike.refl U.vm) qK, qD, th_ZA.calling qZ⟩, va_recv (ci := 0) (q0 := 1) hK hP rfl rfl, fun U hU hW => ⟨rfl, by rw [hU], by rw [hU]; exact hP, va_K.moved hW.alike hK, hD.weaken (fun _ _ _ _ => trivial), th_ZA.to hZ hS hU hW hFc⟩⟩ rfl rfl hl.1 rfl (lv_room (Nat.le_of_ble_eq_true rfl)) d_L_line_5 ⟨Nat.le_of_ble_eq_true rfl, Nat.le_of_ble_eq_true rfl⟩) hown htab (by refine ⟨⟨by decide, by decide, by decide⟩, "java/lang/IllegalArgumentException", (hts _ (List.mem_cons_of_mem _ lk_552)), ?_⟩; exact Or.inl ⟨rfl, rfl⟩) (fun _ _ _ h => ⟨h.1, h.2.2⟩) hS (fun q _ h => hFc q h) hFc (fun xx st₀ t H1 locs ht hvm _ hB hz1 hk1 hS => ?_)
  obtain ⟨-, ⟨hP1, hD1⟩, -⟩ := hB
  rw [ht] at hP1
  have hP := hP1
  have hD := hD1.weaken (fun _ q _ h => hFc q.1 h)
  clear hP1 hD1 hFc hk1 hz1
  refine W.cs (cells' := 1) (slots' := 6) rfl rfl ?_
  refine lv_astore (lv' := [(4, .ref xx), (0, .ref x.h), (1, .int k1), (2, .int k2), (3, .ref x.ob)]) hx hb d_L_line_13 hl (by decide) rfl (fun ls hl => ?_)
  refine lv_iconst (v := 1) hx hb d_L_line_15 (by decide) ?_
  refine W.widen (k := 3) (n := 170) (Nat.le_of_ble_eq_true rfl) (Nat.le_of_ble_eq_true rfl) ?_
  exact W.iret (v := 1) hx hb hr (fun t ht hW => ⟨⟨_, kn, rfl, ⟨rfl, hC⟩, by rw [ht]; exact hP, hD⟩, hS.F ht⟩) hS.2.2 d_L_line_16
set_option maxHeartbeats 8000000 in
set_option maxRecDepth 100000 in
theorem H_line_2 (l : Launch) (hfl : l.flags = flags0) (x : FX) {k : CK} {e : ES} {k1 k2 : Int32} (ov : Nat → Int64) {e' : ES} (hM : KThr l x y_D_line w_D_line ({ frames := 7, cells := 1, slots := 6, locals := 104 }) [.ref x.h, .int k1, .int k2] k e 1 6 "java/lang/IndexOutOfBoundsException" e') : HRet l x y_L_line w_L_line [.ref x.h, .int k1, .int k2, .ref x.ob] k e ov 2 e' ov := by
  obtain ⟨kn, hC, hT⟩ := hM.up ov
  intro sz
  refine th_ofWw (tab := [(0, 10, 13, 28), (0, 10, 17, 23)]) (cc := method_13_code) (maxL := 5) (ret := some .int) (by decide) rfl ?_
  intro p en s m args below meth c s₁ B hml htab hv
  obtain ⟨rfl, hsz, hP, hK, hD0, hZ⟩ := hv
  have hx := B.exec
  have hb := B.bytes
  have hr := B.returns
  have hts := atoms_spec (ws := w_L_line) B.pre
  have hown : s.vm.findClass "DraftTreeLaw" = some m.cls := findClass_of_methodNamed B.named
  subst hsz
  have hD := hD0.self (sz := s.heap.size)
  generalize hAe : va_A (HW x k e ov) s.heap.size = B9 at hD hZ ⊢
  have hA : ∀ q : Nat, s.heap.size ≤ q → B9 q := fun q h => by rw [← hAe]; exact Or.inr h
  clear hAe
  have hS : va_S B9 s.heap s.heap [] := va_S.rf
  have hl := lv_entry ([.ref x.h, .int k1, .int k2, .ref x.ob]) (n := 5) (Nat.le_of_ble_eq_true rfl)
  rw [lg_entry_eq]
  generalize (lg_sl ([.ref x.h, .int k1, .int k2, .ref x.ob]) ++ List.replicate (5 - (lg_sl ([.ref x.h, .int k1, .int k2, .ref x.ob])).length) Slot.unset).toArray = ls at hl ⊢
  have hl : lv_has ls 5 [(0, .ref x.h), (1, .int k1), (2, .int k2), (3, .ref x.ob)] := hl
  refine lv_aload_n hx hb d_L_line_0 rfl (lv_at hl 3 rfl) ?_
  refine lv_iconst (v := 0) hx hb d_L_line_1 (by decide) ?_
  refine lv_aload_n hx hb d_L_line_2 rfl (lv_at hl 0 rfl) ?_
  refine lv_iload_n hx hb d_L_line_3 rfl (lv_at hl 1 rfl) ?_
  refine lv_iload_n hx hb d_L_line_4 rfl (lv_at hl 2 rfl) ?_
  have hFc := va_freeM (wc := HW x k e ov) hD hS hA (fun _ h9 => h9)
  refine th_catch (own := "DraftTreeLaw") (C := "java/lang/IndexOutOfBoundsException") (hpc := 17) (A1 := va_A (HW x k e ov) s.heap.size) (th_runV (As := [.int k1, .int k2]) (rest := [.int 0, .ref x.ob]) ⟨hx, hb, hml, hown, hts⟩ (hT _) (cwV 2 hts (gd_v lk_580 lk_581 lk_582 lk_445 lk_482) rfl rfl rfl (by decide +kernel) ⟨Nat.le_of_ble_eq_true rfl, Nat.le_of_ble_eq_true rfl⟩) ⟨fun a U g mk q => by obtain ⟨q0, q1, qP, qK, qD, qZ⟩ := q; exact ⟨q0, q1, qP, va_K.moved (u := U) (U := U.calling g mk a) (Vm.Alike.refl U.vm) qK, qD, th_ZA.calling qZ⟩, va_recv (ci := 0) (q0 := 1) hK hP rfl rfl, fun U hU hW => ⟨rfl, by rw [hU], by rw [hU]; exact hP, va_K.moved hW.alike hK, hD.weaken (fun _ _ _ _ => trivial), th_ZA.to hZ hS hU hW hFc⟩⟩ rfl rfl hl.1 rfl (lv_room (Nat.le_of_ble_eq_true rfl)) d_L_line_5 ⟨Nat.le_of_ble_eq_true rfl, Nat.le_of_ble_eq_true rfl⟩) hown htab (by refine ⟨⟨by decide, by decide, by decide⟩, "java/lang/IllegalArgumentException", (hts _ (List.mem_cons_of_mem _ lk_552)), ?_⟩; refine Or.inr ⟨hZ.2.2.2.2.1, ?_⟩; refine ⟨⟨by decide, by decide, by decide⟩, "java/lang/IndexOutOfBoundsException", (hts _ (List.mem_cons_of_mem _ lk_547)), ?_⟩; exact Or.inl ⟨rfl, rfl⟩) (fun _ _ _ h => ⟨h.1, h.2.2⟩) hS (fun q _ h => hFc q h) hFc (fun xx st₀ t H1 locs ht hvm _ hB hz1 hk1 hS => ?_)
  obtain ⟨-, ⟨hP1, hD1⟩, -⟩ := hB
  rw [ht] at hP1
  have hP := hP1
  have hD := hD1.weaken (fun _ q _ h => hFc q.1 h)
  clear hP1 hD1 hFc hk1 hz1
  refine W.cs (cells' := 1) (slots' := 6) rfl rfl ?_
  refine lv_astore (lv' := [(4, .ref xx), (0, .ref x.h), (1, .int k1), (2, .int k2), (3, .ref x.ob)]) hx hb d_L_line_17 hl (by decide) rfl (fun ls hl => ?_)
  refine lv_iconst (v := 2) hx hb d_L_line_19 (by decide) ?_
  refine W.widen (k := 3) (n := 170) (Nat.le_of_ble_eq_true rfl) (Nat.le_of_ble_eq_true rfl) ?_
  exact W.iret (v := 2) hx hb hr (fun t ht hW => ⟨⟨_, kn, rfl, ⟨rfl, hC⟩, by rw [ht]; exact hP, hD⟩, hS.F ht⟩) hS.2.2 d_L_line_20
set_option maxHeartbeats 8000000 in
set_option maxRecDepth 100000 in
theorem H_figure_0 (l : Launch) (hfl : l.flags = flags0) (x : FX) {k : CK} {e : ES} {k1 : Int32} (ov : Nat → Int64) {r : Int32} {e' : ES} (hM : KRetI l x y_D_figure w_D_figure ({ frames := 0, cells := 0, slots := 0, locals := 0 }) [.ref x.h, .int k1] k e 0 0 r e') : HRet l x y_L_figure w_L_figure [.ref x.h, .int k1, .ref x.ob] k e ov 0 e' (vp_updL ov 0 r.toInt64) := by
  intro sz
  refine th_ofWw (tab := [(0, 9, 12, 28)]) (cc := method_14_code) (maxL := 4) (ret := some .int) (by decide) rfl ?_
  intro p en s m args below meth c s₁ B hml htab hv
  obtain ⟨rfl, hsz, hP, hK, hD0, hZ⟩ := hv
  have hx := B.exec
  have hb := B.bytes
  have hr := B.returns
  have hts := atoms_spec (ws := w_L_figure) B.pre
  have hown : s.vm.findClass "DraftTreeLaw" = some m.cls := findClass_of_methodNamed B.named
  subst hsz
  have hD := hD0.self (sz := s.heap.size)
  generalize hAe : va_A (HW x k e ov) s.heap.size = B9 at hD hZ ⊢
  have hA : ∀ q : Nat, s.heap.size ≤ q → B9 q := fun q h => by rw [← hAe]; exact Or.inr h
  clear hAe
  have hS : va_S B9 s.heap s.heap [] := va_S.rf
  have hl := lv_entry ([.ref x.h, .int k1, .ref x.ob]) (n := 4) (Nat.le_of_ble_eq_true rfl)
  rw [lg_entry_eq]
  generalize (lg_sl ([.ref x.h, .int k1, .ref x.ob]) ++ List.replicate (4 - (lg_sl ([.ref x.h, .int k1, .ref x.ob])).length) Slot.unset).toArray = ls at hl ⊢
  have hl : lv_has ls 4 [(0, .ref x.h), (1, .int k1), (2, .ref x.ob)] := hl
  refine lv_aload_n hx hb d_L_figure_0 rfl (lv_at hl 2 rfl) ?_
  refine lv_iconst (v := 0) hx hb d_L_figure_1 (by decide) ?_
  refine lv_aload_n hx hb d_L_figure_2 rfl (lv_at hl 0 rfl) ?_
  refine lv_iload_n hx hb d_L_figure_3 rfl (lv_at hl 1 rfl) ?_
  have hFc := va_freeM (wc := HW x k e ov) hD hS hA (fun _ h9 => h9)
  refine va_calli (va_runV (As := [.int k1]) (rest := [.int 0, .ref x.ob]) ⟨hx, hb, hml, hown, hts⟩ (hM.up ov _) (cwV 1 hts (gd_v lk_559 lk_560 lk_561 lk_445 lk_440) rfl rfl rfl (by decide +kernel) ⟨Nat.le_of_ble_eq_true rfl, Nat.le_of_ble_eq_true rfl⟩) ⟨fun a U g mk q => by obtain ⟨q0, q1, qP, qK, qD⟩ := q; exact ⟨q0, q1, qP, va_K.moved (u := U) (U := U.calling g mk a) (Vm.Alike.refl U.vm) qK, qD⟩, va_recv (ci := 0) (q0 := 1) hK hP rfl rfl, fun U hU hW => ⟨rfl, by rw [hU], by rw [hU]; exact hP, va_K.moved hW.alike hK, hD.weaken (fun _ _ _ _ => trivial)⟩⟩ rfl rfl hl.1 rfl (lv_room (Nat.le_of_ble_eq_true rfl)) d_L_figure_4 ⟨Nat.le_of_ble_eq_true rfl, Nat.le_of_ble_eq_true rfl⟩) hS (fun q _ h => hFc q h) hFc (fun r9 kn t H1 locs ht hvm hw hB hz1 hk1 hS => ?_)
  obtain ⟨hP1, hD1⟩ := hB
  rw [ht] at hP1
  have hP := hP1
  have hD := hD1.weaken (fun _ q _ h => hFc q.1 h)
  clear hP1 hD1 hFc hk1 hz1
  refine W.cs (cells' := 0) (slots' := 0) rfl rfl ?_
  obtain ⟨hw0, hC⟩ := hw
  subst hw0
  refine lv_i2l hx hb d_L_figure_7 rfl ?_
  refine va_last hx hb hK hP hD hS 0 2 rfl rfl (wk_inb_ok (by decide)) d_L_figure_8 (fun H locs hP hD hS => ?_)
  have hP : va_P x.D vwCl (HW x kn e' (vp_updL ov 0 r9.toInt64)) H := hP
  have hD : va_D B9 (HW x kn e' (vp_updL ov 0 r9.toInt64)) := hD
  refine lv_goto (tgt := 15) hx hb d_L_figure_9 (by decide) ?_
  refine lv_iconst (v := 0) hx hb d_L_figure_15 (by decide) ?_
  refine W.widen (k := 3) (n := 170) (Nat.le_of_ble_eq_true rfl) (Nat.le_of_ble_eq_true rfl) ?_
  exact W.iret (v := 0) hx hb hr (fun t ht hW => ⟨⟨_, kn, rfl, ⟨rfl, hC⟩, by rw [ht]; exact hP, hD⟩, hS.F ht⟩) hS.2.2 d_L_figure_16
set_option maxHeartbeats 8000000 in
set_option maxRecDepth 100000 in
theorem H_figure_1 (l : Launch) (hfl : l.flags = flags0) (x : FX) {k : CK} {e : ES} {k1 : Int32} (ov : Nat → Int64) {e' : ES} (hM : KThr l x y_D_figure w_D_figure ({ frames := 6, cells := 1, slots := 6, locals := 81 }) [.ref x.h, .int k1] k e 1 6 "java/lang/IllegalArgumentException" e') : HRet l x y_L_figure w_L_figure [.ref x.h, .int k1, .ref x.ob] k e ov 1 e' ov := by
  obtain ⟨kn, hC, hT⟩ := hM.up ov
  intro sz
  refine th_ofWw (tab := [(0, 9, 12, 28)]) (cc := method_14_code) (maxL := 4) (ret := some .int) (by decide) rfl ?_
  intro p en s m args below meth c s₁ B hml htab hv
  obtain ⟨rfl, hsz, hP, hK, hD0, hZ⟩ := hv
  have hx := B.exec
  have hb := B.bytes
  have hr := B.returns
  have hts := atoms_spec (ws := w_L_figure) B.pre
  have hown : s.vm.findClass "DraftTreeLaw" = some m.cls := findClass_of_methodNamed B.named
  subst hsz
  have hD := hD0.self (sz := s.heap.size)
  generalize hAe : va_A (HW x k e ov) s.heap.size = B9 at hD hZ ⊢
  have hA : ∀ q : Nat, s.heap.size ≤ q → B9 q := fun q h => by rw [← hAe]; exact Or.inr h
  clear hAe
  have hS : va_S B9 s.heap s.heap [] := va_S.rf
  have hl := lv_entry ([.ref x.h, .int k1, .ref x.ob]) (n := 4) (Nat.le_of_ble_eq_true rfl)
  rw [lg_entry_eq]
  generalize (lg_sl ([.ref x.h, .int k1, .ref x.ob]) ++ List.replicate (4 - (lg_sl ([.ref x.h, .int k1, .ref x.ob])).length) Slot.unset).toArray = ls at hl ⊢
  have hl : lv_has ls 4 [(0, .ref x.h), (1, .int k1), (2, .ref x.ob)] := hl
  refine lv_aload_n hx hb d_L_figure_0 rfl (lv_at hl 2 rfl) ?_
  refine lv_iconst (v := 0) hx hb d_L_figure_1 (by decide) ?_
  refine lv_aload_n hx hb d_L_figure_2 rfl (lv_at hl 0 rfl) ?_
  refine lv_iload_n hx hb d_L_figure_3 rfl (lv_at hl 1 rfl) ?_
  have hFc := va_freeM (wc := HW x k e ov) hD hS hA (fun _ h9 => h9)
  refine th_catch (own := "DraftTreeLaw") (C := "java/lang/IllegalArgumentException") (hpc := 12) (A1 := va_A (HW x k e ov) s.heap.size) (th_runV (As := [.int k1]) (rest := [.int 0, .ref x.ob]) ⟨hx, hb, hml, hown, hts⟩ (hT _) (cwV 1 hts (gd_v lk_559 lk_560 lk_561 lk_445 lk_440) rfl rfl rfl (by decide +kernel) ⟨Nat.le_of_ble_eq_true rfl, Nat.le_of_ble_eq_true rfl⟩) ⟨fun a U g mk q => by obtain ⟨q0, q1, qP, qK, qD, qZ⟩ := q; exact ⟨q0, q1, qP, va_K.moved (u := U) (U := U.calling g mk a) (Vm.Alike.refl U.vm) qK, qD, th_ZA.calling qZ⟩, va_recv (ci := 0) (q0 := 1) hK hP rfl rfl, fun U hU hW => ⟨rfl, by rw [hU], by rw [hU]; exact hP, va_K.moved hW.alike hK, hD.weaken (fun _ _ _ _ => trivial), th_ZA.to hZ hS hU hW hFc⟩⟩ rfl rfl hl.1 rfl (lv_room (Nat.le_of_ble_eq_true rfl)) d_L_figure_4 ⟨Nat.le_of_ble_eq_true rfl, Nat.le_of_ble_eq_true rfl⟩) hown htab (by refine ⟨⟨by decide, by decide, by decide⟩, "java/lang/IllegalArgumentException", (hts _ (List.mem_cons_of_mem _ lk_552)), ?_⟩; exact Or.inl ⟨rfl, rfl⟩) (fun _ _ _ h => ⟨h.1, h.2.2⟩) hS (fun q _ h => hFc q h) hFc (fun xx st₀ t H1 locs ht hvm _ hB hz1 hk1 hS => ?_)
  obtain ⟨-, ⟨hP1, hD1⟩, -⟩ := hB
  rw [ht] at hP1
  have hP := hP1
  have hD := hD1.weaken (fun _ q _ h => hFc q.1 h)
  clear hP1 hD1 hFc hk1 hz1
  refine W.cs (cells' := 1) (slots' := 6) rfl rfl ?_
  refine lv_astore_n (lv' := [(3, .ref xx), (0, .ref x.h), (1, .int k1), (2, .ref x.ob)]) hx hb d_L_figure_12 rfl hl (by decide) rfl (fun ls hl => ?_)
  refine lv_iconst (v := 1) hx hb d_L_figure_13 (by decide) ?_
  refine W.widen (k := 3) (n := 170) (Nat.le_of_ble_eq_true rfl) (Nat.le_of_ble_eq_true rfl) ?_
  exact W.iret (v := 1) hx hb hr (fun t ht hW => ⟨⟨_, kn, rfl, ⟨rfl, hC⟩, by rw [ht]; exact hP, hD⟩, hS.F ht⟩) hS.2.2 d_L_figure_14
set_option maxHeartbeats 8000000 in
set_option maxRecDepth 100000 in
theorem H_parent_0 (l : Launch) (hfl : l.flags = flags0) (x : FX) {k : CK} {e : ES} {k1 : Int32} (ov : Nat → Int64) {r : Int32} {e' : ES} (hM : KRetI l x y_D_parent w_D_parent ({ frames := 1, cells := 0, slots := 0, locals := 21 }) [.ref x.h, .int k1] k e 0 0 r e') : HRet l x y_L_parent w_L_parent [.ref x.h, .int k1, .ref x.ob] k e ov 0 e' (vp_updL ov 0 r.toInt64) := by
  intro sz
  refine th_ofWw (tab := [(0, 9, 12, 28)]) (cc := method_15_code) (maxL := 4) (ret := some .int) (by decide) rfl ?_
  intro p en s m args below meth c s₁ B hml htab hv
  obtain ⟨rfl, hsz, hP, hK, hD0, hZ⟩ := hv
  have hx := B.exec
  have hb := B.bytes
  have hr := B.returns
  have hts := atoms_spec (ws := w_L_parent) B.pre
  have hown : s.vm.findClass "DraftTreeLaw" = some m.cls := findClass_of_methodNamed B.named
  subst hsz
  have hD := hD0.self (sz := s.heap.size)
  generalize hAe : va_A (HW x k e ov) s.heap.size = B9 at hD hZ ⊢
  have hA : ∀ q : Nat, s.heap.size ≤ q → B9 q := fun q h => by rw [← hAe]; exact Or.inr h
  clear hAe
  have hS : va_S B9 s.heap s.heap [] := va_S.rf
  have hl := lv_entry ([.ref x.h, .int k1, .ref x.ob]) (n := 4) (Nat.le_of_ble_eq_true rfl)
  rw [lg_entry_eq]
  generalize (lg_sl ([.ref x.h, .int k1, .ref x.ob]) ++ List.replicate (4 - (lg_sl ([.ref x.h, .int k1, .ref x.ob])).length) Slot.unset).toArray = ls at hl ⊢
  have hl : lv_has ls 4 [(0, .ref x.h), (1, .int k1), (2, .ref x.ob)] := hl
  refine lv_aload_n hx hb d_L_parent_0 rfl (lv_at hl 2 rfl) ?_
  refine lv_iconst (v := 0) hx hb d_L_parent_1 (by decide) ?_
  refine lv_aload_n hx hb d_L_parent_2 rfl (lv_at hl 0 rfl) ?_
  refine lv_iload_n hx hb d_L_parent_3 rfl (lv_at hl 1 rfl) ?_
  have hFc := va_freeM (wc := HW x k e ov) hD hS hA (fun _ h9 => h9)
  refine va_calli (va_runV (As := [.int k1]) (rest := [.int 0, .ref x.ob]) ⟨hx, hb, hml, hown, hts⟩ (hM.up ov _) (cwV 1 hts (gd_v lk_584 lk_585 lk_586 lk_445 lk_483) rfl rfl rfl (by decide +kernel) ⟨Nat.le_of_ble_eq_true rfl, Nat.le_of_ble_eq_true rfl⟩) ⟨fun a U g mk q => by obtain ⟨q0, q1, qP, qK, qD⟩ := q; exact ⟨q0, q1, qP, va_K.moved (u := U) (U := U.calling g mk a) (Vm.Alike.refl U.vm) qK, qD⟩, va_recv (ci := 0) (q0 := 1) hK hP rfl rfl, fun U hU hW => ⟨rfl, by rw [hU], by rw [hU]; exact hP, va_K.moved hW.alike hK, hD.weaken (fun _ _ _ _ => trivial)⟩⟩ rfl rfl hl.1 rfl (lv_room (Nat.le_of_ble_eq_true rfl)) d_L_parent_4 ⟨Nat.le_of_ble_eq_true rfl, Nat.le_of_ble_eq_true rfl⟩) hS (fun q _ h => hFc q h) hFc (fun r9 kn t H1 locs ht hvm hw hB hz1 hk1 hS => ?_)
  obtain ⟨hP1, hD1⟩ := hB
  rw [ht] at hP1
  have hP := hP1
  have hD := hD1.weaken (fun _ q _ h => hFc q.1 h)
  clear hP1 hD1 hFc hk1 hz1
  refine W.cs (cells' := 0) (slots' := 0) rfl rfl ?_
  obtain ⟨hw0, hC⟩ := hw
  subst hw0
  refine lv_i2l hx hb d_L_parent_7 rfl ?_
  refine va_last hx hb hK hP hD hS 0 2 rfl rfl (wk_inb_ok (by decide)) d_L_parent_8 (fun H locs hP hD hS => ?_)
  have hP : va_P x.D vwCl (HW x kn e' (vp_updL ov 0 r9.toInt64)) H := hP
  have hD : va_D B9 (HW x kn e' (vp_updL ov 0 r9.toInt64)) := hD
  refine lv_goto (tgt := 15) hx hb d_L_parent_9 (by decide) ?_
  refine lv_iconst (v := 0) hx hb d_L_parent_15 (by decide) ?_
  refine W.widen (k := 3) (n := 170) (Nat.le_of_ble_eq_true rfl) (Nat.le_of_ble_eq_true rfl) ?_
  exact W.iret (v := 0) hx hb hr (fun t ht hW => ⟨⟨_, kn, rfl, ⟨rfl, hC⟩, by rw [ht]; exact hP, hD⟩, hS.F ht⟩) hS.2.2 d_L_parent_16
set_option maxHeartbeats 8000000 in
set_option maxRecDepth 100000 in
theorem H_parent_1 (l : Launch) (hfl : l.flags = flags0) (x : FX) {k : CK} {e : ES} {k1 : Int32} (ov : Nat → Int64) {e' : ES} (hM : KThr l x y_D_parent w_D_parent ({ frames := 7, cells := 1, slots := 6, locals := 102 }) [.ref x.h, .int k1] k e 1 6 "java/lang/IllegalArgumentException" e') : HRet l x y_L_parent w_L_parent [.ref x.h, .int k1, .ref x.ob] k e ov 1 e' ov := by
  obtain ⟨kn, hC, hT⟩ := hM.up ov
  intro sz
  refine th_ofWw (tab := [(0, 9, 12, 28)]) (cc := method_15_code) (maxL := 4) (ret := some .int) (by decide) rfl ?_
  intro p en s m args below meth c s₁ B hml htab hv
  obtain ⟨rfl, hsz, hP, hK, hD0, hZ⟩ := hv
  have hx := B.exec
  have hb := B.bytes
  have hr := B.returns
  have hts := atoms_spec (ws := w_L_parent) B.pre
  have hown : s.vm.findClass "DraftTreeLaw" = some m.cls := findClass_of_methodNamed B.named
  subst hsz
  have hD := hD0.self (sz := s.heap.size)
  generalize hAe : va_A (HW x k e ov) s.heap.size = B9 at hD hZ ⊢
  have hA : ∀ q : Nat, s.heap.size ≤ q → B9 q := fun q h => by rw [← hAe]; exact Or.inr h
  clear hAe
  have hS : va_S B9 s.heap s.heap [] := va_S.rf
  have hl := lv_entry ([.ref x.h, .int k1, .ref x.ob]) (n := 4) (Nat.le_of_ble_eq_true rfl)
  rw [lg_entry_eq]
  generalize (lg_sl ([.ref x.h, .int k1, .ref x.ob]) ++ List.replicate (4 - (lg_sl ([.ref x.h, .int k1, .ref x.ob])).length) Slot.unset).toArray = ls at hl ⊢
  have hl : lv_has ls 4 [(0, .ref x.h), (1, .int k1), (2, .ref x.ob)] := hl
  refine lv_aload_n hx hb d_L_parent_0 rfl (lv_at hl 2 rfl) ?_
  refine lv_iconst (v := 0) hx hb d_L_parent_1 (by decide) ?_
  refine lv_aload_n hx hb d_L_parent_2 rfl (lv_at hl 0 rfl) ?_
  refine lv_iload_n hx hb d_L_parent_3 rfl (lv_at hl 1 rfl) ?_
  have hFc := va_freeM (wc := HW x k e ov) hD hS hA (fun _ h9 => h9)
  refine th_catch (own := "DraftTreeLaw") (C := "java/lang/IllegalArgumentException") (hpc := 12) (A1 := va_A (HW x k e ov) s.heap.size) (th_runV (As := [.int k1]) (rest := [.int 0, .ref x.ob]) ⟨hx, hb, hml, hown, hts⟩ (hT _) (cwV 1 hts (gd_v lk_584 lk_585 lk_586 lk_445 lk_483) rfl rfl rfl (by decide +kernel) ⟨Nat.le_of_ble_eq_true rfl, Nat.le_of_ble_eq_true rfl⟩) ⟨fun a U g mk q => by obtain ⟨q0, q1, qP, qK, qD, qZ⟩ := q; exact ⟨q0, q1, qP, va_K.moved (u := U) (U := U.calling g mk a) (Vm.Alike.refl U.vm) qK, qD, th_ZA.calling qZ⟩, va_recv (ci := 0) (q0 := 1) hK hP rfl rfl, fun U hU hW => ⟨rfl, by rw [hU], by rw [hU]; exact hP, va_K.moved hW.alike hK, hD.weaken (fun _ _ _ _ => trivial), th_ZA.to hZ hS hU hW hFc⟩⟩ rfl rfl hl.1 rfl (lv_room (Nat.le_of_ble_eq_true rfl)) d_L_parent_4 ⟨Nat.le_of_ble_eq_true rfl, Nat.le_of_ble_eq_true rfl⟩) hown htab (by refine ⟨⟨by decide, by decide, by decide⟩, "java/lang/IllegalArgumentException", (hts _ (List.mem_cons_of_mem _ lk_552)), ?_⟩; exact Or.inl ⟨rfl, rfl⟩) (fun _ _ _ h => ⟨h.1, h.2.2⟩) hS (fun q _ h => hFc q h) hFc (fun xx st₀ t H1 locs ht hvm _ hB hz1 hk1 hS => ?_)
  obtain ⟨-, ⟨hP1, hD1⟩, -⟩ := hB
  rw [ht] at hP1
  have hP := hP1
  have hD := hD1.weaken (fun _ q _ h => hFc q.1 h)
  clear hP1 hD1 hFc hk1 hz1
  refine W.cs (cells' := 1) (slots' := 6) rfl rfl ?_
  refine lv_astore_n (lv' := [(3, .ref xx), (0, .ref x.h), (1, .int k1), (2, .ref x.ob)]) hx hb d_L_parent_12 rfl hl (by decide) rfl (fun ls hl => ?_)
  refine lv_iconst (v := 1) hx hb d_L_parent_13 (by decide) ?_
  refine W.widen (k := 3) (n := 170) (Nat.le_of_ble_eq_true rfl) (Nat.le_of_ble_eq_true rfl) ?_
  exact W.iret (v := 1) hx hb hr (fun t ht hW => ⟨⟨_, kn, rfl, ⟨rfl, hC⟩, by rw [ht]; exact hP, hD⟩, hS.F ht⟩) hS.2.2 d_L_parent_14
-- 79s.stp
-- own rows: one call on both sides
theorem oU0 (ov : Nat → Int64) (v : Int64) : vp_updL ov 0 v 0 = v := if_pos rfl
theorem no10 {P : Prop} : (1 : Int32) = 0 → P := fun z => absurd z (by decide)
theorem no20 {P : Prop} : (2 : Int32) = 0 → P := fun z => absurd z (by decide)
theorem no30 {P : Prop} : (3 : Int32) = 0 → P := fun z => absurd z (by decide)
theorem i_ltN {k1 : Int32} {n : Nat} (hn : n ≤ 160) (h : ¬ (k1 < 0 ∨ ¬ k1 < Int32.ofNat n)) : ∃ s, s < n ∧ k1 = Int32.ofNat s := by
  have h1 : ¬ k1 < 0 := fun z => h (Or.inl z)
  have h2 : k1 < Int32.ofNat n := Classical.not_not.mp (fun z => h (Or.inr z))
  have h0 : 0 ≤ k1 := by
    rw [Int32.lt_iff_toInt_lt, Int32.toInt_zero] at h1
    rw [Int32.le_iff_toInt_le, Int32.toInt_zero]
    omega
  obtain ⟨q1, q2⟩ := er_nat h0
  refine ⟨k1.toNatClampNeg, ?_, q1⟩
  rw [q1] at h2
  exact (pn_lt q2 (by omega)).mp h2
theorem S_insert (l : Launch) (hfl : l.flags = flags0) (x : FX) {k : CK} {e : ES} {t : Nat} {cf : Nat → Nat} {I : MI} {A : MA} (h : CRel e k) (w : EWf e) (hM : MRel e t cf I A) (ov : Nat → Int64) :
    ∃ c e' ov' r I' A' t' cf', HRet l x y_L_insert w_L_insert [.ref x.h, .ref x.ob] k e ov c e' ov' ∧ f_M_insert I A = some (r, I', A') ∧ EWf e' ∧ MRel e' t' cf' I' A' ∧ t' ≤ t + 1 := by
  obtain ⟨⟨r, I', A'⟩, ez, t', cf', ht, hm, -⟩ := B_insert hM w
  by_cases q : e.n = 40 ∨ 160 < e_exl e (e_lo e) (e_hi e) e.sn
  · have he : e_ins e = e := by
      unfold e_ins
      by_cases q2 : e_edits e = true
      · rw [if_pos q2, if_pos (show e_full e = true from decide_eq_true q.symm)]
      · rw [if_neg q2]
    refine ⟨1, e_ins e, ov, r, I', A', t', cf', ?_, ez, w.ins, hm, ht⟩
    rw [he]
    exact H_insert_1 l hfl x ov (Kt_insert l hfl x h w q)
  · exact ⟨0, e_ins e, _, r, I', A', t', cf', H_insert_0 l hfl x ov (K_insert l x h w (fun z => q (Or.inl z)) (Nat.le_of_not_lt (fun z => q (Or.inr z)))), ez, w.ins, hm, ht⟩
theorem S_erase (l : Launch) (hfl : l.flags = flags0) (x : FX) {k : CK} {e : ES} {t : Nat} {cf : Nat → Nat} {I : MI} {A : MA} (h : CRel e k) (w : EWf e) (hM : MRel e t cf I A) (ov : Nat → Int64) (k1 : Int32) :
    ∃ c e' ov' r I' A' t' cf', HRet l x y_L_erase w_L_erase [.ref x.h, .int k1, .ref x.ob] k e ov c e' ov' ∧ f_M_erase I A k1 = some (r, I', A') ∧ EWf e' ∧ MRel e' t' cf' I' A' ∧ t' ≤ t + 1 ∧ I' 0 = c ∧ (c = 0 → ov' 0 = r.toInt64) := by
  obtain ⟨⟨r, I', A'⟩, ez, t', cf', ht, hm, hb1, hb2⟩ := B_erase hM w k1
  by_cases q : e_ea e k1 < e_eb e k1 ∧ e.n = 40
  · have he : e_era e k1 = e := if_neg (fun z => z.2 q.2)
    refine ⟨1, e_era e k1, ov, r, I', A', t', cf', ?_, ez, w.era k1, hm, ht, hb1 q, no10⟩
    rw [he]
    exact H_erase_1 l hfl x ov (Kt_erase l hfl x h w q.1 q.2)
  · have zr : r = Int32.ofNat (e_eb e k1 - e_ea e k1) := (hb2 q).2
    exact ⟨0, e_era e k1, _, r, I', A', t', cf', H_erase_0 l hfl x ov (K_erase l x h w (fun z y => q ⟨z, y⟩)), ez, w.era k1, hm, ht, (hb2 q).1, fun _ => by rw [zr]; exact oU0 _ _⟩
theorem S_go (l : Launch) (hfl : l.flags = flags0) (x : FX) {k : CK} {e : ES} {t : Nat} {cf : Nat → Nat} {I : MI} {A : MA} (h : CRel e k) (w : EWf e) (hM : MRel e t cf I A) (ov : Nat → Int64) (k1 k2 : Int32) :
    ∃ c e' ov' r I' A' t' cf', HRet l x y_L_go w_L_go [.ref x.h, .int k1, .int k2] k e ov c e' ov' ∧ f_M_go I A k1 k2 = some (r, I', A') ∧ EWf e' ∧ MRel e' t' cf' I' A' ∧ t' ≤ t + 1 ∧ I' 0 = c := by
  obtain ⟨⟨r, I', A'⟩, ez, hb1, hb2⟩ := B_go hM w k1 k2
  by_cases q : okPl k1 (e.tn e.p) = true
  · obtain ⟨p, hp, ep⟩ := okPl_nat (w.tt _ w.pb).nb q
    obtain ⟨z0, hm⟩ := hb2 p hp ep
    exact ⟨0, _, ov, r, I', A', t, cf, H_go_0 l hfl x ov (K_go l x h w hp ep), ez, w.go hp _, hm, Nat.le_succ _, z0⟩
  · obtain ⟨z0, hm⟩ := hb1 (okPl_bad q)
    exact ⟨1, e, ov, r, I', A', t, cf, H_go_1 l hfl x ov (Kt_go l hfl x h w q), ez, w, hm, Nat.le_succ _, z0⟩
theorem S_compile (l : Launch) (hfl : l.flags = flags0) (x : FX) {k : CK} {e : ES} {t : Nat} {cf : Nat → Nat} {I : MI} {A : MA} (h : CRel e k) (w : EWf e) (hM : MRel e t cf I A) (ov : Nat → Int64) :
    ∃ c e' ov' r I' A' t' cf', HRet l x y_L_compile w_L_compile [.ref x.h] k e ov c e' ov' ∧ f_M_compile I A = some (r, I', A') ∧ EWf e' ∧ MRel e' t' cf' I' A' ∧ t' ≤ t + 1 ∧ I' 0 = c := by
  obtain ⟨s, hs, ⟨r, I', A'⟩, ez, hz⟩ := B_compileE hM w
  cases ho : c_rd s e.sn with
  | inl p =>
    rw [ho] at hz
    exact ⟨1, e_cf e p, ov, r, I', A', t, cf, H_compile_1 l hfl x ov (Kt_compile l hfl x h w hs ho), ez, w.cf p, hz.2, Nat.le_succ _, hz.1⟩
  | inr st =>
    rw [ho] at hz
    exact ⟨0, e_cd e s, ov, r, I', A', t, cf, H_compile_0 l hfl x ov (K_compile l x h w hs ho), ez, w.cd s, hz.2, Nat.le_succ _, hz.1⟩
theorem S_find (l : Launch) (hfl : l.flags = flags0) (x : FX) {k : CK} {e : ES} {t : Nat} {cf : Nat → Nat} {I : MI} {A : MA} (h : CRel e k) (w : EWf e) (hM : MRel e t cf I A) (ov : Nat → Int64) (k1 : Int32) :
    ∃ c e' ov' r I' A' t' cf', HRet l x y_L_find w_L_find [.ref x.h, .int k1, .ref x.ob] k e ov c e' ov' ∧ f_M_find I A k1 = some (r, I', A') ∧ EWf e' ∧ MRel e' t' cf' I' A' ∧ t' ≤ t + 1 ∧ I' 0 = c ∧ (c = 0 → ov' 0 = r.toInt64) := by
  obtain ⟨⟨r, I', A'⟩, ez, b1, b2, b3⟩ := B_find hM w k1
  obtain ⟨c1, c2, c3⟩ := Kt_find l hfl x h w k1
  cases hh : e.has with
  | false =>
    obtain ⟨z0, hm⟩ := b1 hh
    exact ⟨1, e, ov, r, I', A', t, cf, H_find_1 l hfl x ov (c1 hh), ez, w, hm, Nat.le_succ _, z0, no10⟩
  | true =>
    by_cases q : okPl k1 (e.tn e.p) = true
    · obtain ⟨p, hp, ep⟩ := okPl_nat (w.tt _ w.pb).nb q
      rcases c3 hh p hp ep with ⟨n1, kt⟩ | ⟨a, b, f1, kr⟩
      · rcases b3 hh p hp ep with ⟨-, z0, hm⟩ | ⟨a, b, f1, -⟩
        · exact ⟨3, e, ov, r, I', A', t, cf, H_find_3 l hfl x ov kt, ez, w, hm, Nat.le_succ _, z0, no30⟩
        · exact (f1.not n1).elim
      · rcases b3 hh p hp ep with ⟨n1, -⟩ | ⟨a', b', f2, z0, zr, hm⟩
        · exact (f1.not n1).elim
        · obtain ⟨ea, eb⟩ := f2.uniq f1
          subst ea
          subst eb
          have zr : r = Int32.ofNat a' := zr
          exact ⟨0, e_fnd e a' b', _, r, I', A', t, cf, H_find_0 l hfl x ov kr, ez, w.fnd f1, hm, Nat.le_succ _, z0, fun _ => by rw [zr]; exact oU0 _ _⟩
    · obtain ⟨z0, hm⟩ := b2 hh (okPl_bad q)
      exact ⟨2, e, ov, r, I', A', t, cf, H_find_2 l hfl x ov (c2 hh q), ez, w, hm, Nat.le_succ _, z0, no20⟩
theorem S_replace (l : Launch) (hfl : l.flags = flags0) (x : FX) {k : CK} {e : ES} {t : Nat} {cf : Nat → Nat} {I : MI} {A : MA} (h : CRel e k) (w : EWf e) (hM : MRel e t cf I A) (ov : Nat → Int64) :
    ∃ c e' ov' r I' A' t' cf', HRet l x y_L_replace w_L_replace [.ref x.h, .ref x.ob] k e ov c e' ov' ∧ f_M_replace I A = some (r, I', A') ∧ EWf e' ∧ MRel e' t' cf' I' A' ∧ t' ≤ t + 1 ∧ I' 0 = c ∧ (c = 0 → ov' 0 = r.toInt64) := by
  obtain ⟨⟨r, I', A'⟩, ez, b1, b2⟩ := B_replace hM w
  cases hh : e.has with
  | false =>
    obtain ⟨z0, hm⟩ := b1 hh
    exact ⟨1, e, ov, r, I', A', t, cf, H_replace_1 l hfl x ov (Kt_replace1 l hfl x h w hh), ez, w, hm, Nat.le_succ _, z0, no10⟩
  | true =>
    obtain ⟨ms, t', cf', ht, hms, hm, g1, g2⟩ := b2 hh
    cases q : e_rok e ms with
    | true =>
      have zr : r = Int32.ofNat ms.length := (g1 q).2
      exact ⟨0, e_rep e ms, _, r, I', A', t', cf', H_replace_0 l hfl x ov (K_replace l x h w hh hms q), ez, w.rep hms, hm, ht, (g1 q).1, fun _ => by rw [zr]; exact oU0 _ _⟩
    | false =>
      have hq := of_decide_eq_false q
      have he : e_rep e ms = e := (if_neg (fun z => hq (Or.inl z))).trans (if_pos (Classical.not_not.mp (fun z => hq (Or.inr z))))
      refine ⟨1, e_rep e ms, ov, r, I', A', t', cf', ?_, ez, w.rep hms, hm, ht, g2 q, no10⟩
      rw [he]
      exact H_replace_1 l hfl x ov (Kt_replace2 l hfl x h w hh hms q)
theorem S_undo (l : Launch) (hfl : l.flags = flags0) (x : FX) {k : CK} {e : ES} {t : Nat} {cf : Nat → Nat} {I : MI} {A : MA} (h : CRel e k) (w : EWf e) (hM : MRel e t cf I A) (ov : Nat → Int64) :
    ∃ c e' ov' r I' A' t' cf', HRet l x y_L_undo w_L_undo [.ref x.h, .ref x.ob] k e ov c e' ov' ∧ f_M_undo I A = some (r, I', A') ∧ EWf e' ∧ MRel e' t' cf' I' A' ∧ t' ≤ t + 1 ∧ I' 0 = c ∧ (c = 0 → ov' 0 = r.toInt64) := by
  obtain ⟨⟨r, I', A'⟩, ez, hz⟩ := B_undo hM w
  cases hp : e.pa e.p with
  | none =>
    rw [hp] at hz
    exact ⟨1, e, ov, r, I', A', t, cf, H_undo_1 l hfl x ov (Kt_undo l hfl x h w hp), ez, w, hz.2, Nat.le_succ _, hz.1, no10⟩
  | some q =>
    rw [hp] at hz
    have zr : r = Int32.ofNat q := hz.2.1
    exact ⟨0, e_come e q, _, r, I', A', t + 1, _, H_undo_0 l hfl x ov (K_undo l x h w hp), ez, w.come (w.pn w.pb hp), hz.2.2, Nat.le_refl _, hz.1, fun _ => by rw [zr]; exact oU0 _ _⟩
theorem S_redo (l : Launch) (hfl : l.flags = flags0) (x : FX) {k : CK} {e : ES} {t : Nat} {cf : Nat → Nat} {I : MI} {A : MA} (h : CRel e k) (w : EWf e) (hM : MRel e t cf I A) (ov : Nat → Int64) (ht : t < 100000) :
    ∃ c e' ov' r I' A' t' cf', HRet l x y_L_redo w_L_redo [.ref x.h, .ref x.ob] k e ov c e' ov' ∧ f_M_redo I A = some (r, I', A') ∧ EWf e' ∧ MRel e' t' cf' I' A' ∧ t' ≤ t + 1 ∧ I' 0 = c ∧ (c = 0 → ov' 0 = r.toInt64) := by
  obtain ⟨⟨r, I', A'⟩, ez, hz⟩ := B_redo hM w ht
  cases hp : e.lc e.p with
  | none =>
    rw [hp] at hz
    exact ⟨1, e, ov, r, I', A', t, cf, H_redo_1 l hfl x ov (Kt_redo l hfl x h w hp), ez, w, hz.2, Nat.le_succ _, hz.1, no10⟩
  | some q =>
    rw [hp] at hz
    have zr : r = Int32.ofNat q := hz.2.1
    exact ⟨0, e_come e q, _, r, I', A', t + 1, _, H_redo_0 l hfl x ov (K_redo l x h w hp), ez, w.come (w.l1 e.p q w.pb hp).1, hz.2.2, Nat.le_refl _, hz.1, fun _ => by rw [zr]; exact oU0 _ _⟩
theorem S_jump (l : Launch) (hfl : l.flags = flags0) (x : FX) {k : CK} {e : ES} {t : Nat} {cf : Nat → Nat} {I : MI} {A : MA} (h : CRel e k) (w : EWf e) (hM : MRel e t cf I A) (ov : Nat → Int64) (k1 : Int32) :
    ∃ c e' ov' r I' A' t' cf', HRet l x y_L_jump w_L_jump [.ref x.h, .int k1] k e ov c e' ov' ∧ f_M_jump I A k1 = some (r, I', A') ∧ EWf e' ∧ MRel e' t' cf' I' A' ∧ t' ≤ t + 1 ∧ I' 0 = c := by
  obtain ⟨⟨r, I', A'⟩, ez, b1, b2⟩ := B_jump hM w k1
  have hn2 := w.n2
  by_cases q : k1 < 0 ∨ ¬ k1 < Int32.ofNat e.n
  · obtain ⟨z0, hm⟩ := b1 q
    exact ⟨1, e, ov, r, I', A', t, cf, H_jump_1 l hfl x ov (Kt_jump l hfl x h w q), ez, w, hm, Nat.le_succ _, z0⟩
  · obtain ⟨s, hs, es⟩ := i_ltN (by clear w h hM; omega) q
    obtain ⟨z0, hm⟩ := b2 s hs es
    exact ⟨0, e_come e s, ov, r, I', A', t + 1, _, H_jump_0 l hfl x ov (K_jump l x h w hs es), ez, w.come hs, hm, Nat.le_refl _, z0⟩
theorem S_at (l : Launch) (hfl : l.flags = flags0) (x : FX) {k : CK} {e : ES} {t : Nat} {cf : Nat → Nat} {I : MI} {A : MA} (h : CRel e k) (w : EWf e) (hM : MRel e t cf I A) (ov : Nat → Int64) (k1 : Int32) :
    ∃ c e' ov' r I' A' t' cf', HRet l x y_L_at w_L_at [.ref x.h, .int k1, .ref x.ob] k e ov c e' ov' ∧ f_M_at I A k1 = some (r, I', A') ∧ EWf e' ∧ MRel e' t' cf' I' A' ∧ t' ≤ t + 1 ∧ I' 0 = c ∧ (c = 0 → ov' 0 = r.toInt64) := by
  obtain ⟨⟨r, I', A'⟩, ez, b1, b2, hm⟩ := B_at hM w k1
  by_cases q : k1 < 0 ∨ ¬ k1 < Int32.ofNat (e.tn e.p)
  · exact ⟨1, e, ov, r, I', A', t, cf, H_at_1 l hfl x ov (Kt_at l hfl x h w q), ez, w, hm, Nat.le_succ _, b1 q, no10⟩
  · obtain ⟨s, hs, es⟩ := i_ltN (w.tt _ w.pb).nb q
    obtain ⟨z0, zr⟩ := b2 s hs es
    have zr : r = e.tx e.p s := zr
    exact ⟨0, e, _, r, I', A', t, cf, H_at_0 l hfl x ov (K_at l x h w hs es), ez, w, hm, Nat.le_succ _, z0, fun _ => by rw [zr]; exact oU0 _ _⟩
theorem S_figure (l : Launch) (hfl : l.flags = flags0) (x : FX) {k : CK} {e : ES} {t : Nat} {cf : Nat → Nat} {I : MI} {A : MA} (h : CRel e k) (w : EWf e) (hM : MRel e t cf I A) (ov : Nat → Int64) (k1 : Int32) :
    ∃ c e' ov' r I' A' t' cf', HRet l x y_L_figure w_L_figure [.ref x.h, .int k1, .ref x.ob] k e ov c e' ov' ∧ f_M_figure I A k1 = some (r, I', A') ∧ EWf e' ∧ MRel e' t' cf' I' A' ∧ t' ≤ t + 1 ∧ I' 0 = c ∧ (c = 0 → ov' 0 = r.toInt64) := by
  obtain ⟨⟨r, I', A'⟩, ez, b1, b2, hm⟩ := B_figure hM k1
  by_cases q : k1 < 0 ∨ ¬ k1 ≤ 4
  · exact ⟨1, e, ov, r, I', A', t, cf, H_figure_1 l hfl x ov (Kt_figure l hfl x h w q), ez, w, hm, Nat.le_succ _, b1 q, no10⟩
  · obtain ⟨z0, zr⟩ := b2 q
    have zr : r = e_fig e k1 := zr
    exact ⟨0, e, _, r, I', A', t, cf, H_figure_0 l hfl x ov (K_figure l x h w q), ez, w, hm, Nat.le_succ _, z0, fun _ => by rw [zr]; exact oU0 _ _⟩
theorem S_parent (l : Launch) (hfl : l.flags = flags0) (x : FX) {k : CK} {e : ES} {t : Nat} {cf : Nat → Nat} {I : MI} {A : MA} (h : CRel e k) (w : EWf e) (hM : MRel e t cf I A) (ov : Nat → Int64) (k1 : Int32) :
    ∃ c e' ov' r I' A' t' cf', HRet l x y_L_parent w_L_parent [.ref x.h, .int k1, .ref x.ob] k e ov c e' ov' ∧ f_M_parent I A k1 = some (r, I', A') ∧ EWf e' ∧ MRel e' t' cf' I' A' ∧ t' ≤ t + 1 ∧ I' 0 = c ∧ (c = 0 → ov' 0 = r.toInt64) := by
  obtain ⟨⟨r, I', A'⟩, ez, b1, b2, hm⟩ := B_parent hM w k1
  have hn2 := w.n2
  by_cases q : k1 < 0 ∨ ¬ k1 < Int32.ofNat e.n
  · exact ⟨1, e, ov, r, I', A', t, cf, H_parent_1 l hfl x ov (Kt_parent l hfl x h w q), ez, w, hm, Nat.le_succ _, b1 q, no10⟩
  · obtain ⟨s, hs, es⟩ := i_ltN (by clear w h hM; omega) q
    obtain ⟨z0, zr⟩ := b2 s hs es
    have zr : r = mkI (e.pa s) := zr
    exact ⟨0, e, _, r, I', A', t, cf, H_parent_0 l hfl x ov (K_parent l x h w hs es), ez, w, hm, Nat.le_succ _, z0, fun _ => by rw [zr]; exact oU0 _ _⟩
theorem l_tag_3 (tn : Nat) (tx : Nat → Int32) (k1 k2 : Int32) : l_tag tn tx k1 k2 = 0 ∨ l_tag tn tx k1 k2 = 2 ∨ l_tag tn tx k1 k2 = 3 := by
  unfold l_tag
  split
  · exact Or.inl rfl
  · split
    · split
      · exact Or.inl rfl
      · exact Or.inr (Or.inl rfl)
    · split
      · split
        · exact Or.inl rfl
        · exact Or.inr (Or.inl rfl)
      · split
        · split
          · exact Or.inl rfl
          · exact Or.inr (Or.inl rfl)
        · exact Or.inr (Or.inr rfl)
theorem S_line (l : Launch) (hfl : l.flags = flags0) (x : FX) {k : CK} {e : ES} {t : Nat} {cf : Nat → Nat} {I : MI} {A : MA} (h : CRel e k) (w : EWf e) (hM : MRel e t cf I A) (ov : Nat → Int64) (k1 k2 : Int32) :
    ∃ c e' ov' r I' A' t' cf', HRet l x y_L_line w_L_line [.ref x.h, .int k1, .int k2, .ref x.ob] k e ov c e' ov' ∧ f_M_line I A k1 k2 = some (r, I', A') ∧ EWf e' ∧ MRel e' t' cf' I' A' ∧ t' ≤ t + 1 ∧ I' 0 = c ∧ (c = 0 → ov' 0 = r.toInt64) := by
  obtain ⟨⟨r, I', A'⟩, ez, b1, b2, hm⟩ := B_line hM w k1 k2
  have b1 : I' 0 = l_code (l_tag (e.tn e.p) (e.tx e.p) k1 k2) := b1
  rcases l_tag_3 (e.tn e.p) (e.tx e.p) k1 k2 with q | q | q
  · have zr : r = l_val (e.tn e.p) (e.tx e.p) k1 k2 := b2 q
    exact ⟨0, e, _, r, I', A', t, cf, H_line_0 l hfl x ov (K_line l x h w q), ez, w, hm, Nat.le_succ _, by rw [b1, q]; rfl, fun _ => by rw [zr]; exact oU0 _ _⟩
  · exact ⟨2, e, ov, r, I', A', t, cf, H_line_2 l hfl x ov (Kt_line2 l hfl x h w q), ez, w, hm, Nat.le_succ _, by rw [b1, q]; rfl, no20⟩
  · exact ⟨1, e, ov, r, I', A', t, cf, H_line_1 l hfl x ov (Kt_line3 l hfl x h w q), ez, w, hm, Nat.le_succ _, by rw [b1, q]; rfl, no10⟩
theorem S_type (l : Launch) (x : FX) {k : CK} {e : ES} {t : Nat} {cf : Nat → Nat} {I : MI} {A : MA} (h : CRel e k) (w : EWf e) (hM : MRel e t cf I A) (k1 : Int32) :
    ∃ e' r I' A', KRetI l x y_D_type w_D_type ({ frames := 0, cells := 0, slots := 0, locals := 0 }) [.ref x.h, .int k1] k e 0 0 r e' ∧ f_M_type I A k1 = some (r, I', A') ∧ EWf e' ∧ MRel e' t cf I' A' := by
  obtain ⟨⟨r, I', A'⟩, ez, zr, hm⟩ := B_type hM w k1
  have zr : r = _ := zr
  exact ⟨e_typ e k1, r, I', A', by rw [zr]; exact K_type l x h w k1, ez, w.typ k1, hm⟩
theorem S_wipe (l : Launch) (x : FX) {k : CK} {e : ES} {t : Nat} {cf : Nat → Nat} {I : MI} {A : MA} (h : CRel e k) (w : EWf e) (hM : MRel e t cf I A) :
    ∃ e' r I' A', KRetI l x y_D_wipe w_D_wipe ({ frames := 0, cells := 0, slots := 0, locals := 0 }) [.ref x.h] k e 0 0 r e' ∧ f_M_wipe I A = some (r, I', A') ∧ EWf e' ∧ MRel e' t cf I' A' := by
  obtain ⟨⟨r, I', A'⟩, ez, zr, hm⟩ := B_wipe hM
  have zr : r = _ := zr
  exact ⟨e_sn e 0, r, I', A', by rw [zr]; exact K_wipe l x h w, ez, w.sn0, hm⟩
theorem S_fault (l : Launch) (x : FX) {k : CK} {e : ES} {t : Nat} {cf : Nat → Nat} {I : MI} {A : MA} (h : CRel e k) (w : EWf e) (hM : MRel e t cf I A) :
    ∃ e' r I' A', KRetI l x y_D_fault w_D_fault ({ frames := 0, cells := 0, slots := 0, locals := 0 }) [.ref x.h] k e 0 0 r e' ∧ f_M_fault I A = some (r, I', A') ∧ EWf e' ∧ MRel e' t cf I' A' :=
  ⟨e, _, _, _, K_fault l x h w, B_fault hM, w, hM.i0 0⟩
theorem S_length (l : Launch) (x : FX) {k : CK} {e : ES} {t : Nat} {cf : Nat → Nat} {I : MI} {A : MA} (h : CRel e k) (w : EWf e) (hM : MRel e t cf I A) :
    ∃ e' r I' A', KRetI l x y_D_length w_D_length ({ frames := 0, cells := 0, slots := 0, locals := 0 }) [.ref x.h] k e 0 0 r e' ∧ f_M_length I A = some (r, I', A') ∧ EWf e' ∧ MRel e' t cf I' A' :=
  ⟨e, _, _, _, K_length l x h w, B_length hM w, w, hM.i0 0⟩
/-- the law's world: the reference, the row for answers, the class -/
abbrev WL (x : FX) (k : CK) (e : ES) (ov : Nat → Int64) (I : MI) (A : MA) : va_W := mw_W x.hM x.qM x.gM I A ++ HW x k e ov
theorem perm_l (x : FX) (k : CK) (e : ES) (ov : Nat → Int64) (I : MI) (A : MA) : (WL x k e ov I A).Perm (HW x k e ov ++ mw_W x.hM x.qM x.gM I A) := List.perm_append_comm
theorem tin_mw (x : FX) : ∀ t ∈ mw_T x.gM, t ∈ kT x := by
  show ∀ t ∈ [(x.gc, .char), (x.gc, .char), (x.gi, .int), (x.gi, .int), (x.gi, .int), (x.gi, .int), (x.gc, .char), (x.gi, .int), (x.gi, .int), (x.gi, .int), (x.gi, .int), (x.gi, .int), (x.gi, .int), (x.gi, .int), (x.gi, .int), (x.gi, .int), (x.gi, .int), (x.gz, .boolean), (x.gz, .boolean), (x.gc, .char)], t ∈ kT x
  intro t ht
  simp only [List.mem_cons, List.not_mem_nil, or_false] at ht ⊢
  rcases ht with h | h | h | h | h | h | h | h | h | h | h | h | h | h | h | h | h | h | h | h <;> simp [h]
theorem Met.liftIT {l : Launch} {y : MethodName} {wl : List Cond} {rm : Room} {mc ms : Nat} {av : List Value} {D : va_G} {sz : Nat} {wc ws rs : va_W} {Tc Ts : List (ClassId × FieldType)} {S : Type} {post : Int32 → S → Prop} {C : S → State → Prop} {B : S → va_W} (B' : S → va_W)
    (hM : Met l y wl rm (va_Pc av (kPreT D sz wc Tc)) (va_Qi post C (va_A wc sz)) mc ms (va_A wc sz)) (hC : ∀ u t, C u t → va_P D vwCl (B u) t.heap ∧ va_D (va_A wc sz) (B u)) (p0 : ws.Perm (wc ++ rs)) (p1 : ∀ u, (B' u).Perm (B u ++ rs)) (hT : ∀ x ∈ Tc, x ∈ Ts) :
    Met l y wl rm (va_Pc av (kPreT D sz ws Ts)) (va_Qi post (fun u t => va_P D vwCl (B' u) t.heap ∧ va_D (va_A ws sz) (B' u)) (va_A ws sz)) mc ms (va_A ws sz) := by
  have hm : ∀ q ∈ wc, q ∈ ws := fun q hq => p0.mem_iff.mpr (List.mem_append_left _ hq)
  refine hM.conseq (fun a U h => ?_) (fun a st o t h hq => ?_) (va_A.mono hm)
  · obtain ⟨h0, h1, h2, h3, h4, h5⟩ := h
    exact ⟨h0, h1, h2.memb hm, h3.memb hT, (h4.perm p0.symm).lef, h5.mono (va_A.mono hm)⟩
  · obtain ⟨h0, h1, h2, h3, h4, -⟩ := h
    obtain ⟨⟨r, u, ho, hr, hB⟩, hF⟩ := hq
    obtain ⟨b1, b2⟩ := hC u t hB
    exact ⟨⟨r, u, ho, hr, va_lift h2 h1 h4 p0 (p1 u) hF.2 b1 b2⟩, hF.mono (va_A.mono hm)⟩
theorem HRet.up {l : Launch} {x : FX} {y : MethodName} {wl : List Cond} {av : List Value} {k : CK} {e : ES} {ov : Nat → Int64} {c : Int32} {e' : ES} {ov' : Nat → Int64} (h : HRet l x y wl av k e ov c e' ov') (I : MI) (A : MA) (sz : Nat) : Met l y wl hRm (va_Pc av (kPreT x.D sz (WL x k e ov I A) (kT x))) (va_Qi (fun (r9 : Int32) (k' : CK) => r9 = c ∧ CRel e' k') (fun k' t => va_P x.D vwCl (WL x k' e' ov' I A) t.heap ∧ va_D (va_A (WL x k e ov I A) sz) (WL x k' e' ov' I A)) (va_A (WL x k e ov I A) sz)) 3 170 (va_A (WL x k e ov I A) sz) :=
  Met.liftIT (rs := mw_W x.hM x.qM x.gM I A) (fun k' => WL x k' e' ov' I A) (h sz) (fun _ _ z => z) (perm_l x k e ov I A) (fun k' => perm_l x k' e' ov' I A) (fun _ z => z)
theorem KRetI.up2 {l : Launch} {x : FX} {y : MethodName} {wl : List Cond} {rm : Room} {av : List Value} {k : CK} {e : ES} {mc ms : Nat} {r : Int32} {e' : ES} (h : KRetI l x y wl rm av k e mc ms r e') (ov : Nat → Int64) (I : MI) (A : MA) (sz : Nat) : Met l y wl rm (va_Pc av (kPre x.D sz (WL x k e ov I A) (kT x))) (va_Qi (fun (r9 : Int32) (k' : CK) => r9 = r ∧ CRel e' k') (fun k' t => va_P x.D vwCl (WL x k' e' ov I A) t.heap ∧ va_D (va_A (WL x k e ov I A) sz) (WL x k' e' ov I A)) (va_A (WL x k e ov I A) sz)) mc ms (va_A (WL x k e ov I A) sz) :=
  Met.liftI (rs := mw_W x.hM x.qM x.gM I A) (fun k' => WL x k' e' ov I A) (h.up ov sz) (fun _ _ z => z) (perm_l x k e ov I A) (fun k' => perm_l x k' e' ov I A) (fun _ z => z)
theorem mUpI {l : Launch} {x : FX} {y : MethodName} {wl : List Cond} {rm : Room} {av : List Value} {mc ms : Nat} {r : Int32} {I : MI} {A : MA} {I' : MI} {A' : MA} {C : Unit → State → Prop} (k : CK) (e : ES) (ov : Nat → Int64) {sz : Nat} (h : Met l y wl rm (va_Pc av (kPre x.D sz (mw_W x.hM x.qM x.gM I A) (mw_T x.gM))) (va_Qi (fun (r9 : Int32) (_ : Unit) => r9 = r) C (va_A (mw_W x.hM x.qM x.gM I A) sz)) mc ms (va_A (mw_W x.hM x.qM x.gM I A) sz)) (hC : ∀ u t, C u t → va_P x.D vwCl (mw_W x.hM x.qM x.gM I' A') t.heap ∧ va_D (va_A (mw_W x.hM x.qM x.gM I A) sz) (mw_W x.hM x.qM x.gM I' A')) : Met l y wl rm (va_Pc av (kPre x.D sz (WL x k e ov I A) (kT x))) (va_Qi (fun (r9 : Int32) (_ : Unit) => r9 = r) (fun _ t => va_P x.D vwCl (WL x k e ov I' A') t.heap ∧ va_D (va_A (WL x k e ov I A) sz) (WL x k e ov I' A')) (va_A (WL x k e ov I A) sz)) mc ms (va_A (WL x k e ov I A) sz) :=
  Met.liftI (rs := HW x k e ov) (fun _ => WL x k e ov I' A') h hC (List.Perm.refl _) (fun _ => List.Perm.refl _) (tin_mw x)
theorem mUpV {l : Launch} {x : FX} {y : MethodName} {wl : List Cond} {rm : Room} {av : List Value} {mc ms : Nat} {I : MI} {A : MA} {I' : MI} {A' : MA} {C : Unit → State → Prop} (k : CK) (e : ES) (ov : Nat → Int64) {sz : Nat} (h : Met l y wl rm (va_Pc av (kPre x.D sz (mw_W x.hM x.qM x.gM I A) (mw_T x.gM))) (va_Qv (fun (u : Unit) => u = u) C (va_A (mw_W x.hM x.qM x.gM I A) sz)) mc ms (va_A (mw_W x.hM x.qM x.gM I A) sz)) (hC : ∀ u t, C u t → va_P x.D vwCl (mw_W x.hM x.qM x.gM I' A') t.heap ∧ va_D (va_A (mw_W x.hM x.qM x.gM I A) sz) (mw_W x.hM x.qM x.gM I' A')) : Met l y wl rm (va_Pc av (kPre x.D sz (WL x k e ov I A) (kT x))) (va_Qv (fun (u : Unit) => u = u) (fun _ t => va_P x.D vwCl (WL x k e ov I' A') t.heap ∧ va_D (va_A (WL x k e ov I A) sz) (WL x k e ov I' A')) (va_A (WL x k e ov I A) sz)) mc ms (va_A (WL x k e ov I A) sz) :=
  Met.liftV (rs := HW x k e ov) (fun _ => WL x k e ov I' A') h hC (List.Perm.refl _) (fun _ => List.Perm.refl _) (tin_mw x)
