-- own rows: a new state
def e_mk (e : ES) (tl : Nat) (tf : Nat → Int32) (pl : Nat) : ES := (ES.mk e.sn e.sc (e.n + 1) e.p e.c e.mr (sU e.tn e.n tl) (sU e.tx e.n tf) (sU e.pl e.n pl) (sU e.pa e.n (some e.p)) (sU e.lc e.n none) e.has e.pat e.fl)
theorem e_edit_mk (e : ES) (tl : Nat) (tf : Nat → Int32) (pl : Nat) : e_come (e_mk e tl tf pl) e.n = e_edit e tl tf pl := by
  unfold e_edit
  have h1 : (e_mk e tl tf pl).pa e.n = some e.p := sU_self _ _ _
  have h2 : (e_new e tl tf pl).pa e.n = some e.p := sU_self _ _ _
  have hl : (e_come (e_mk e tl tf pl) e.n).lc = (e_come (e_new e tl tf pl) e.n).lc := by
    rw [e_come_lc1 h1, e_come_lc1 h2]
    funext i
    by_cases q : i = e.p
    · rw [q, sU_self, sU_self]
    · rw [sU_ne _ _ q, sU_ne _ _ q]
      show sU e.lc e.n none i = sU (sU e.lc e.n none) e.p (some e.n) i
      rw [sU_ne _ _ q]
  have a : e_come (e_mk e tl tf pl) e.n = ES.mk e.sn e.sc (e.n + 1) e.n (sU (sU e.pl e.n pl) e.p e.c e.n) none (sU e.tn e.n tl) (sU e.tx e.n tf) (sU (sU e.pl e.n pl) e.p e.c) (sU e.pa e.n (some e.p)) (e_come (e_mk e tl tf pl) e.n).lc e.has e.pat e.fl := rfl
  have b : e_come (e_new e tl tf pl) e.n = ES.mk e.sn e.sc (e.n + 1) e.n (sU (sU e.pl e.n pl) e.p e.c e.n) none (sU e.tn e.n tl) (sU e.tx e.n tf) (sU (sU e.pl e.n pl) e.p e.c) (sU e.pa e.n (some e.p)) (e_come (e_new e tl tf pl) e.n).lc e.has e.pat e.fl := rfl
  rw [a, b, hl]
theorem tw_f_succ (n : Nat) (sa : Nat → Nat) (qs : Nat) : tw_f (n + 1) (sU sa n qs) = va_up (tw_f n sa) n (some qs) := by
  funext i
  by_cases q : i = n
  · rw [q, va_up_self]
    unfold tw_f
    rw [if_pos (Nat.lt_succ_self n), sU_self]
  · rw [va_up_ne _ _ q]
    unfold tw_f
    rw [sU_ne _ _ q]
    by_cases z : i < n
    · rw [if_pos z, if_pos (by omega)]
    · rw [if_neg z, if_neg (by omega)]
abbrev kNS (tq : Nat) (e : ES) (pl : Nat) (qs : Nat) : Nat × va_E := (qs, .inr (1, [.ref tq, .int (Int32.ofNat e.p), .int (Int32.ofNat pl), .int (-1)]))
abbrev kNT (x : FX) (tq tl : Nat) (tf : Nat → Int32) : Nat × va_E := (tq, .inl (x.gc, tl, .inl tf))
theorem kS_new (k : CK) (e : ES) (tl : Nat) (tf : Nat → Int32) (pl qs tq : Nat) (I' : MI) : kS (k.nw (sU k.sa e.n qs) (sU k.ta e.n tq) I') (e_mk e tl tf pl) = kS k e ++ [kNS tq e pl qs] := by
  show (List.range (e.n + 1)).map (tw_S (sU k.sa e.n qs) (sU k.ta e.n tq) (kO (e_mk e tl tf pl)) (kL (e_mk e tl tf pl)) (kC (e_mk e tl tf pl))) = _
  rw [List.range_succ, List.map_append]
  congr 1
  · refine List.map_congr_left (fun i hi => ?_)
    have hlt := List.mem_range.mp hi
    have q : i ≠ e.n := by omega
    show (sU k.sa e.n qs i, Sum.inr (1, [Value.ref (sU k.ta e.n tq i), Value.int (mkI (sU e.pa e.n (some e.p) i)), Value.int (Int32.ofNat (sU e.pl e.n pl i)), Value.int (mkI (sU e.lc e.n none i))])) = _
    rw [sU_ne _ _ q, sU_ne _ _ q, sU_ne _ _ q, sU_ne _ _ q, sU_ne _ _ q]
    rfl
  · show [(sU k.sa e.n qs e.n, Sum.inr (1, [Value.ref (sU k.ta e.n tq e.n), Value.int (mkI (sU e.pa e.n (some e.p) e.n)), Value.int (Int32.ofNat (sU e.pl e.n pl e.n)), Value.int (mkI (sU e.lc e.n none e.n))]))] = _
    rw [sU_self, sU_self, sU_self, sU_self, sU_self]
    rfl
theorem kE_new (x : FX) (k : CK) (e : ES) (tl : Nat) (tf : Nat → Int32) (pl qs tq : Nat) (I' : MI) : kE x (k.nw (sU k.sa e.n qs) (sU k.ta e.n tq) I') (e_mk e tl tf pl) = kE x k e ++ [kNT x tq tl tf] := by
  show (List.range (e.n + 1)).map (tw_E (sU k.ta e.n tq) x.gc (sU e.tn e.n tl) (sU e.tx e.n tf)) = _
  rw [List.range_succ, List.map_append]
  congr 1
  · refine List.map_congr_left (fun i hi => ?_)
    have hlt := List.mem_range.mp hi
    have q : i ≠ e.n := by omega
    show (sU k.ta e.n tq i, Sum.inl (x.gc, sU e.tn e.n tl i, Sum.inl (sU e.tx e.n tf i))) = _
    rw [sU_ne _ _ q, sU_ne _ _ q, sU_ne _ _ q]
  · show [(sU k.ta e.n tq e.n, Sum.inl (x.gc, sU e.tn e.n tl e.n, Sum.inl (sU e.tx e.n tf e.n)))] = _
    rw [sU_self, sU_self, sU_self]
theorem perm_new {α : Type} (Y S E : List α) (a b : α) : (Y ++ ((S ++ [a]) ++ (E ++ [b]))).Perm ((Y ++ (S ++ E)) ++ [b] ++ [a]) := by
  simp only [List.append_assoc]
  refine List.Perm.append_left Y (List.Perm.append_left S ?_)
  have h := List.perm_append_comm (l₁ := [a]) (l₂ := E ++ [b])
  rw [List.append_assoc] at h
  exact h
/-- the world before its last move, cell by cell -/
abbrev kWn (x : FX) (k : CK) (e : ES) (tl : Nat) (tf : Nat → Int32) (pl qs tq : Nat) (I' : MI) : va_W := ((kD0 x (k.tw I') e :: (kY9 x k ++ (kYr x k ++ (kYm x k ++ ((x.q 2, .inl (x.gD 2, 40, .inr (.inr (.inr (.inr (va_up (tw_f e.n k.sa) e.n (some qs))))))) :: (kS k e ++ kE x k e)))))) ++ [kNT x tq tl tf]) ++ [kNS tq e pl qs]
theorem KW_new (x : FX) (k : CK) {e : ES} (hp : e.p < e.n) (tl : Nat) (tf : Nat → Int32) (pl qs tq : Nat) (I' : MI) : (KW x (k.nw (sU k.sa e.n qs) (sU k.ta e.n tq) I') (e_mk e tl tf pl)).Perm (kWn x k e tl tf pl qs tq I') := by
  have hta : sU k.ta e.n tq e.p = k.ta e.p := sU_ne _ _ (by omega)
  have e1 : KW x (k.nw (sU k.sa e.n qs) (sU k.ta e.n tq) I') (e_mk e tl tf pl) = kD0 x (k.tw I') e :: (kY9 x k ++ (kYr x k ++ (kYm x k ++ ((x.q 2, .inl (x.gD 2, 40, .inr (.inr (.inr (.inr (va_up (tw_f e.n k.sa) e.n (some qs))))))) :: ((kS k e ++ [kNS tq e pl qs]) ++ (kE x k e ++ [kNT x tq tl tf])))))) := by
    rw [← kS_new k e tl tf pl qs tq I', ← kE_new x k e tl tf pl qs tq I', ← tw_f_succ]
    show kD0 x (k.nw (sU k.sa e.n qs) (sU k.ta e.n tq) I') (e_mk e tl tf pl) :: _ = _
    have e0 : kD0 x (k.nw (sU k.sa e.n qs) (sU k.ta e.n tq) I') (e_mk e tl tf pl) = kD0 x (k.tw I') e := by
      show (x.h, Sum.inr (0, [Value.ref (x.q 0), Value.int (I' 1), Value.ref (x.q 2), Value.int (I' 3), Value.int (I' 4), Value.ref (sU k.ta e.n tq e.p), Value.int (I' 6), Value.int (I' 7), Value.ref (x.q 8), Value.ref k.hp, Value.int (I' 10), Value.int (I' 11), Value.ref (x.q 12), Value.ref (x.q 13)])) = _
      rw [hta]
      rfl
    rw [e0]
    rfl
  rw [e1]
  exact perm_new (kD0 x (k.tw I') e :: (kY9 x k ++ (kYr x k ++ (kYm x k ++ [(x.q 2, .inl (x.gD 2, 40, .inr (.inr (.inr (.inr (va_up (tw_f e.n k.sa) e.n (some qs)))))))])))) (kS k e) (kE x k e) (kNS tq e pl qs) (kNT x tq tl tf)
theorem CRel.mk' {e : ES} {k : CK} (h : CRel e k) (tl : Nat) (tf : Nat → Int32) (pl : Nat) (sa' ta' : Nat → Nat) : CRel (e_mk e tl tf pl) (k.nw sa' ta' (upd k.I 3 (Int32.ofNat (e.n + 1)))) := by
  refine ⟨?_, h.s2, ?_, ?_, ?_, ?_, ?_, ?_, h.pm⟩
  · show upd k.I 3 (Int32.ofNat (e.n + 1)) 1 = _; rw [upd_ne _ _ (by decide)]; exact h.s1
  · show upd k.I 3 (Int32.ofNat (e.n + 1)) 3 = _; rw [upd_self]; rfl
  · show upd k.I 3 (Int32.ofNat (e.n + 1)) 4 = _; rw [upd_ne _ _ (by decide)]; exact h.hp
  · show upd k.I 3 (Int32.ofNat (e.n + 1)) 6 = _; rw [upd_ne _ _ (by decide)]; exact h.hc
  · show upd k.I 3 (Int32.ofNat (e.n + 1)) 7 = _; rw [upd_ne _ _ (by decide)]; exact h.hm
  · show upd k.I 3 (Int32.ofNat (e.n + 1)) 10 = _; rw [upd_ne _ _ (by decide)]; exact h.hh
  · show upd k.I 3 (Int32.ofNat (e.n + 1)) 11 = _; rw [upd_ne _ _ (by decide)]; exact h.hf
set_option maxHeartbeats 8000000 in
set_option maxRecDepth 100000 in
theorem km_makeState (l : Launch) (x : FX) {k : CK} {e : ES} (h : CRel e k) (w : EWf e) (hn : e.n < 40) (tq tl : Nat) (tf : Nat → Int32) (pl : Nat) (sz : Nat) :
    Met l y_D_makeState w_D_makeState ({ frames := 3, cells := 1, slots := 4, locals := 60 }) (va_Pc [.ref x.h, .ref tq, .int (Int32.ofNat pl)] (kPre x.D sz (KW x k e ++ [kNT x tq tl tf]) (kT x))) (va_Qv (fun (k' : CK) => CRel (e_edit e tl tf pl) k') (fun k' t => va_P x.D vwCl (KW x k' (e_edit e tl tf pl)) t.heap ∧ va_D (va_A (KW x k e ++ [kNT x tq tl tf]) sz) (KW x k' (e_edit e tl tf pl))) (va_A (KW x k e ++ [kNT x tq tl tf]) sz)) 1 4 (va_A (KW x k e ++ [kNT x tq tl tf]) sz) := by
  refine Met.ofW (cc := prog_1_method_24_code) (maxL := 4) (ret := none) (by decide) rfl ?_
  intro p en s m args below meth c s₁ B hml hv
  obtain ⟨rfl, hsz, hP, hK, hD0⟩ := hv
  have hx := B.exec
  have hb := B.bytes
  have hr := B.returns
  have hts := atoms_spec (ws := w_D_makeState) B.pre
  have hown : s.vm.findClass "DraftTree" = some m.cls := findClass_of_methodNamed B.named
  subst hsz
  have hD := hD0.self (sz := s.heap.size)
  generalize hAe : va_A (KW x k e ++ [kNT x tq tl tf]) s.heap.size = B9 at hD ⊢
  have hA : ∀ q : Nat, s.heap.size ≤ q → B9 q := fun q h => by rw [← hAe]; exact Or.inr h
  clear hAe
  have hS : va_S B9 s.heap s.heap [] := va_S.rf
  have hl := lv_entry ([.ref x.h, .ref tq, .int (Int32.ofNat pl)]) (n := 4) (Nat.le_of_ble_eq_true rfl)
  rw [lg_entry_eq]
  generalize (lg_sl ([.ref x.h, .ref tq, .int (Int32.ofNat pl)]) ++ List.replicate (4 - (lg_sl ([.ref x.h, .ref tq, .int (Int32.ofNat pl)])).length) Slot.unset).toArray = ls at hl ⊢
  have hl : lv_has ls 4 [(0, .ref x.h), (1, .ref tq), (2, .int (Int32.ofNat pl))] := hl
  refine lv_aload_n hx hb d_D_makeState_0 rfl (lv_at hl 0 rfl) ?_
  refine va_get (D := x.D) (ci := 0) (v := .int (k.I 3)) (C := R_D) (T := F_D) (N := 14) hx hb hts (fun w h => List.mem_cons_of_mem _ (in_D w h)) hown hK hP 0 rfl rfl 3 (by decide) (hts _ (List.mem_cons_of_mem _ lk_436)) (fun _ h9 => h9) rfl d_D_makeState_1 ?_
  refine wk_top (w := .int (Int32.ofNat e.n)) (congrArg _ h.hn) ?_
  refine lv_istore_n (lv' := [(3, .int (Int32.ofNat e.n)), (0, .ref x.h), (1, .ref tq), (2, .int (Int32.ofNat pl))]) hx hb d_D_makeState_4 rfl hl (by decide) rfl (fun ls hl => ?_)
  have hl : lv_has ls 4 [(3, .int (Int32.ofNat e.n)), (0, .ref x.h), (1, .ref tq), (2, .int (Int32.ofNat pl))] := hl
  refine lv_aload_n hx hb d_D_makeState_5 rfl (lv_at hl 1 rfl) ?_
  refine va_get (D := x.D) (ci := 0) (v := .ref (x.q 2)) (C := R_D) (T := F_D) (N := 14) hx hb hts (fun w h => List.mem_cons_of_mem _ (in_D w h)) hown hK hP 0 rfl rfl 2 (by decide) (hts _ (List.mem_cons_of_mem _ lk_455)) (fun _ h9 => h9) rfl d_D_makeState_6 ?_
  refine lv_iload_n hx hb d_D_makeState_9 rfl (lv_at hl 0 rfl) ?_
  refine va_new (ci := 1) (fs := [.null, .int 0, .int 0, .int 0]) (C := R_S) (T := F_S) (N := 4) hx hb hts (fun w h => List.mem_cons_of_mem _ (in_S w h)) t_S tk_S hown (hts _ (List.mem_cons_of_mem _ lk_526)) (hts _ (List.mem_cons_of_mem _ lk_528)) (hts _ (List.mem_cons_of_mem _ lk_527)) hK hP hD hS hA rfl (by decide) (Nat.le_of_ble_eq_true rfl) (Nat.le_of_ble_eq_true rfl) d_D_makeState_10 (fun qs H hP hD hS => ?_)
  refine W.cs (cells' := 1) (slots' := 4) rfl rfl ?_
  refine lv_dup hx hb d_D_makeState_13 rfl ?_
  refine lv_aload_n hx hb d_D_makeState_14 rfl (lv_at hl 2 rfl) ?_
  refine lv_iload_n hx hb d_D_makeState_15 rfl (lv_at hl 3 rfl) ?_
  refine lv_aload_n hx hb d_D_makeState_16 rfl (lv_at hl 1 rfl) ?_
  refine va_get (D := x.D) (ci := 0) (v := .int (k.I 4)) (C := R_D) (T := F_D) (N := 14) hx hb hts (fun w h => List.mem_cons_of_mem _ (in_D w h)) hown hK hP 0 rfl rfl 4 (by decide) (hts _ (List.mem_cons_of_mem _ lk_435)) (fun _ h9 => h9) rfl d_D_makeState_17 ?_
  refine wk_top (w := .int (Int32.ofNat e.p)) (congrArg _ h.hp) ?_
  have hPc : va_P x.D vwCl (sw_W qs .null (fun _ => 0)) H := hP.rig
  have hDc : va_D B9 (sw_W qs .null (fun _ => 0)) := hD.rig
  have hFc := va_freeM (wc := sw_W qs .null (fun _ => 0)) hD hS hA (fun q hq => List.mem_append_right _ hq)
  have hFa := va_freeM hD hS hA (fun _ h9 => h9)
  refine va_callv (va_runI (As := [.ref tq, .int (Int32.ofNat pl), .int (Int32.ofNat e.p)]) (rest := [.ref qs, .int (Int32.ofNat e.n), .ref (x.q 2)]) ⟨hx, hb, hml, hown, hts⟩ (cm_S_init l x.dC x.dI qs .null tq _ (fun _ => 0) (Int32.ofNat pl) (Int32.ofNat e.p) _ _ rfl) (cwI 3 hts (gd_c lk_504) rfl rfl rfl (hts _ (List.mem_cons_of_mem _ lk_527)) (hts _ (List.mem_cons_of_mem _ lk_529)) (hts _ (List.mem_cons_of_mem _ lk_530)) rfl (by decide +kernel) ⟨Nat.le_of_ble_eq_true rfl, Nat.le_of_ble_eq_true rfl⟩) ⟨fun a U g mk q => by obtain ⟨q0, q1, qP, qK, qD⟩ := q; exact ⟨q0, q1, qP, va_K.moved (u := U) (U := U.calling g mk a) (Vm.Alike.refl U.vm) qK, qD⟩, fun U hU hW => ⟨rfl, by rw [hU], by rw [hU]; exact hPc, va_K.moved hW.alike (hK.memb (fun _ h9 => absurd h9 List.not_mem_nil)), hDc.weaken (fun _ _ _ _ => trivial)⟩⟩ rfl rfl hl.1 rfl (lv_room (Nat.le_of_ble_eq_true rfl)) d_D_makeState_20 ⟨Nat.le_of_ble_eq_true rfl, Nat.le_of_ble_eq_true rfl⟩) hS (fun q _ h => hFc q h) hFc (fun u t H1 locs ht hvm hw hB hz1 hk1 hS => ?_)
  obtain ⟨hP1, -, hD1⟩ := hB
  rw [ht] at hP1
  have hj := va_lift (ws' := (KW x k e ++ [kNT x tq tl tf]) ++ [kNS tq e pl qs]) hP rfl hD List.perm_append_comm List.perm_append_comm hk1 hP1 hD1
  have hP := hj.1
  have hD := hj.2.weaken (fun _ q _ h9 => hFa q.1 h9)
  clear hj hFc hFa hPc hDc hP1 hD1
  generalize H1 = H at hP hS ⊢
  obtain ⟨iq, hiq⟩ := List.getElem?_of_mem (show kNS tq e pl qs ∈ (KW x k e ++ [kNT x tq tl tf]) ++ [kNS tq e pl qs] from List.mem_append_right _ (List.mem_singleton.mpr rfl))
  refine va_astq hx hb hK hP hD hS 21 3 iq 1 rfl rfl hiq rfl (wk_inb_ok ((pn_inb (by omega)).mpr hn)) d_D_makeState_23 (fun H locs hP hD hS => ?_)
  refine lv_aload_n hx hb d_D_makeState_24 rfl (lv_at hl 1 rfl) ?_
  refine lv_dup hx hb d_D_makeState_25 rfl ?_
  refine va_get (D := x.D) (ci := 0) (v := .int (k.I 3)) (C := R_D) (T := F_D) (N := 14) hx hb hts (fun w h => List.mem_cons_of_mem _ (in_D w h)) hown hK hP 0 rfl rfl 3 (by decide) (hts _ (List.mem_cons_of_mem _ lk_436)) (fun _ h9 => h9) rfl d_D_makeState_26 ?_
  refine wk_top (w := .int (Int32.ofNat e.n)) (congrArg _ h.hn) ?_
  refine lv_iconst (v := 1) hx hb d_D_makeState_29 (by decide) ?_
  refine lv_iadd hx hb d_D_makeState_30 ?_
  refine wk_top (w := .int (Int32.ofNat (e.n + 1))) (congrArg _ (pn_succ e.n)) ?_
  refine va_put (D := x.D) (ci := 0) (v := .int (Int32.ofNat (e.n + 1))) (ty := .int) (C := R_D) (T := F_D) (N := 14) hx hb hts (fun w h => List.mem_cons_of_mem _ (in_D w h)) t_D tk_D n_D hown hK hP hD hS 0 rfl rfl 3 (by decide) (hts _ (List.mem_cons_of_mem _ lk_436)) (fun _ h9 => h9) rfl (by decide +kernel) rfl rfl (Nat.le_of_ble_eq_true rfl) d_D_makeState_31 (fun H locs hP hD hS => ?_)
  rw [pn_nat (show e.n < 2147483648 by omega)] at hP hD
  have hP : va_P x.D vwCl (kWn x k e tl tf pl qs tq (upd k.I 3 (Int32.ofNat (e.n + 1)))) H := hP
  have hD : va_D B9 (kWn x k e tl tf pl qs tq (upd k.I 3 (Int32.ofNat (e.n + 1)))) := hD
  have hP := hP.perm (KW_new x k w.pb tl tf pl qs tq (upd k.I 3 (Int32.ofNat (e.n + 1))))
  have hD := hD.perm (KW_new x k w.pb tl tf pl qs tq (upd k.I 3 (Int32.ofNat (e.n + 1))))
  have hC1 := h.mk' tl tf pl (sU k.sa e.n qs) (sU k.ta e.n tq)
  generalize k.nw (sU k.sa e.n qs) (sU k.ta e.n tq) (upd k.I 3 (Int32.ofNat (e.n + 1))) = k1 at hP hD hC1
  refine lv_aload_n hx hb d_D_makeState_34 rfl (lv_at hl 1 rfl) ?_
  refine lv_iload_n hx hb d_D_makeState_35 rfl (lv_at hl 0 rfl) ?_
  have hFc := va_freeM (wc := KW x k1 (e_mk e tl tf pl)) hD hS hA (fun _ h9 => h9)
  have hpb := w.pb
  refine va_callv (va_runV (As := [.int (Int32.ofNat e.n)]) (rest := []) ⟨hx, hb, hml, hown, hts⟩ (K_moveTo l x hC1 (show e.p < e.n + 1 by clear w; omega) (show e.n + 1 ≤ 40 by clear w; omega) (s := e.n) (Nat.lt_succ_self e.n) (fun q hq => by
      have : sU e.pa e.n (some e.p) e.n = some q := hq
      rw [sU_self] at this
      cases this
      show e.p < e.n + 1
      clear w; omega) _) (cwV 1 hts (gd_v lk_465 lk_466 lk_467 lk_444 lk_464) rfl rfl rfl (by decide +kernel) ⟨Nat.le_of_ble_eq_true rfl, Nat.le_of_ble_eq_true rfl⟩) ⟨fun a U g mk q => by obtain ⟨q0, q1, qP, qK, qD⟩ := q; exact ⟨q0, q1, qP, va_K.moved (u := U) (U := U.calling g mk a) (Vm.Alike.refl U.vm) qK, qD⟩, va_recv (ci := 0) (q0 := 0) hK hP rfl rfl, fun U hU hW => ⟨rfl, by rw [hU], by rw [hU]; exact hP, va_K.moved hW.alike hK, hD.weaken (fun _ _ _ _ => trivial)⟩⟩ rfl rfl hl.1 rfl (lv_room (Nat.le_of_ble_eq_true rfl)) d_D_makeState_36 ⟨Nat.le_of_ble_eq_true rfl, Nat.le_of_ble_eq_true rfl⟩) hS (fun q _ h => hFc q h) hFc (fun k' t H1 locs ht hvm hw hB hz1 hk1 hS => ?_)
  obtain ⟨hP1, hD1⟩ := hB
  rw [ht] at hP1
  have hP := hP1
  have hD := hD1.weaken (fun _ q _ h => hFc q.1 h)
  rw [e_edit_mk e tl tf pl] at hP hD hw
  exact W.vret hx hb hr (fun t ht hW => ⟨⟨k', rfl, hw, by rw [ht]; exact hP, hD⟩, hS.F ht⟩) hS.2.2 d_D_makeState_39
