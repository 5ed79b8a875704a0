-- own rows: insert, erase, replace
theorem pn_eqN {a b : Nat} (ha : a < 2147483648) (hb : b < 2147483648) : Int32.ofNat a = Int32.ofNat b ↔ a = b := by
  refine ⟨fun h => ?_, fun h => by rw [h]⟩
  have := congrArg Int32.toNatClampNeg h
  rw [pn_nat ha, pn_nat hb] at this
  exact this
theorem er_neg {k : Int32} (h : ¬ 0 ≤ k) : k < 0 := by
  rw [Int32.le_iff_toInt_le, Int32.toInt_zero] at h
  rw [Int32.lt_iff_toInt_lt, Int32.toInt_zero]
  omega
theorem er_nneg {k : Int32} (h : 0 ≤ k) : ¬ k < 0 := by
  rw [Int32.le_iff_toInt_le, Int32.toInt_zero] at h
  rw [Int32.lt_iff_toInt_lt, Int32.toInt_zero]
  omega
theorem er_nat {k : Int32} (h : 0 ≤ k) : k = Int32.ofNat k.toNatClampNeg ∧ k.toNatClampNeg < 2147483648 := by
  rw [Int32.le_iff_toInt_le, Int32.toInt_zero] at h
  have h2 := Int32.toInt_lt k
  have h3 : k.toNatClampNeg = k.toInt.toNat := rfl
  refine ⟨?_, by omega⟩
  rw [← Int32.toInt_inj, pn_toInt (by omega), h3]
  omega
theorem er_ea {e : ES} {k : Int32} (h : 0 ≤ k) (hq : ¬ e_lo e < e_hi e) : e_ea e k = e_lo e := by
  unfold e_ea
  rw [if_neg hq, if_neg (er_nneg h), (e_eq_c hq).1]
theorem er_eb {e : ES} {k : Int32} (hc : e.c ≤ e.tn e.p) (ht : e.tn e.p ≤ 160) (h : 0 ≤ k) (hq : ¬ e_lo e < e_hi e) : Int32.ofNat e.c + (if Int32.ofNat (e.tn e.p - e.c) < k then Int32.ofNat (e.tn e.p - e.c) else k) = Int32.ofNat (e_eb e k) := by
  obtain ⟨k1, k2⟩ := er_nat h
  unfold e_eb
  rw [if_neg hq, if_neg (er_nneg h)]
  generalize k.toNatClampNeg = n at k1 k2 ⊢
  subst k1
  by_cases q : e.c + n ≤ e.tn e.p
  · rw [if_pos q, if_neg (fun z => by have := (pn_lt (by omega) (by omega)).mp z; omega), pn_add]
  · rw [if_neg q, if_pos ((pn_lt (by omega) (by omega)).mpr (by omega)), pn_add]
    congr 1; omega
theorem er_eb2 {e : ES} {k : Int32} (h : k < 0) (hq : ¬ e_lo e < e_hi e) : e_eb e k = e_hi e := by
  unfold e_eb
  rw [if_neg hq, if_pos h, (e_eq_c hq).2]
theorem er_ea2 {e : ES} {k : Int32} (hc : e.c ≤ e.tn e.p) (ht : e.tn e.p ≤ 160) (h : k < 0) (hq : ¬ e_lo e < e_hi e) : (if (0 : Int32) < Int32.ofNat e.c + k then Int32.ofNat e.c + k else 0) = Int32.ofNat (e_ea e k) := by
  unfold e_ea
  rw [if_neg hq, if_pos h]
  have h0 := h
  rw [Int32.lt_iff_toInt_lt, Int32.toInt_zero] at h0
  have h2 := Int32.le_toInt k
  have hs : (Int32.ofNat e.c + k).toInt = (e.c : Int) + k.toInt := by
    rw [pn_addI (by rw [pn_toInt (by omega)]; omega) (by rw [pn_toInt (by omega)]; omega), pn_toInt (by omega)]
  by_cases q : (0 : Int32) < Int32.ofNat e.c + k
  · rw [if_pos q]
    rw [Int32.lt_iff_toInt_lt, Int32.toInt_zero, hs] at q
    exact pn_addneg h (by omega) (by omega)
  · rw [if_neg q]
    rw [Int32.lt_iff_toInt_lt, Int32.toInt_zero, hs] at q
    rw [show ((e.c : Int) + k.toInt).toNat = 0 by omega]
    rfl
theorem rp_small {R : Rl} {sn tn : Nat} (hs : sn ≤ 24) (ht : tn ≤ 160) : ∀ (ms : List (Nat × Nat)) (q : Nat), q ≤ tn → Ms R tn q ms → rp_len sn tn q ms < 2147483648 := by
  have key : ∀ (ms : List (Nat × Nat)) (q : Nat), q ≤ tn → Ms R tn q ms → rp_len sn tn q ms + 25 * q ≤ 25 * tn := by
    intro ms
    induction ms with
    | nil =>
      intro q hq _
      have e0 : rp_len sn tn q [] = tn - q := rfl
      omega
    | cons ab mm ih =>
      obtain ⟨a, b⟩ := ab
      intro q hq hm
      obtain ⟨hfo, hrest⟩ := hm
      have f1 := hfo.1
      have f2 := hfo.2.1
      have f3 := hfo.2.2.1
      have f4 := hfo.2.2.2.1.1
      have e0 : rp_len sn tn q ((a, b) :: mm) = (a - q) + sn + rp_len sn tn b mm := rfl
      have := ih b (by omega) hrest
      omega
  intro ms q hq hm
  have := key ms q hq hm
  omega
set_option maxHeartbeats 8000000 in
set_option maxRecDepth 100000 in
theorem K_insert (l : Launch) (x : FX) {k : CK} {e : ES} (h : CRel e k) (w : EWf e) (hn : e.n ≠ 40) (hx160 : e_exl e (e_lo e) (e_hi e) e.sn ≤ 160) : KRetI l x y_D_insert w_D_insert ({ frames := 5, cells := 2, slots := 164, locals := 150 }) [.ref x.h] k e 2 164 (Int32.ofNat (e_ins e).p) (e_ins e) := by
  intro sz
  have tt := w.tt _ w.pb
  have htn := tt.nb
  have hsb := w.sb
  have hpb := w.pb
  have hn2 := w.n2
  have hcb := w.cb
  obtain ⟨l1, l2⟩ := e_lo_le w
  have hel : e_exl e (e_lo e) (e_hi e) e.sn = e.tn e.p - (e_hi e - e_lo e) + e.sn := rfl
  refine Met.ofW (cc := prog_1_method_4_code) (maxL := 3) (ret := some .int) (by decide) rfl ?_
  intro p en s m args below meth c s₁ B hml hv
  obtain ⟨rfl, hsz, hP, hK, hD0⟩ := hv
  have hx := B.exec
  have hb := B.bytes
  have hr := B.returns
  have hts := atoms_spec (ws := w_D_insert) B.pre
  have hown : s.vm.findClass "DraftTree" = some m.cls := findClass_of_methodNamed B.named
  have hlocks := B.notSynchronized
  subst hsz
  have hD := hD0.self (sz := s.heap.size)
  generalize hAe : va_A (KW x k e) s.heap.size = B9 at hD ⊢
  have hA : ∀ q : Nat, s.heap.size ≤ q → B9 q := fun q h => by rw [← hAe]; exact Or.inr h
  clear hAe
  have hS : va_S B9 s.heap s.heap [] := va_S.rf
  have hl := lv_entry ([.ref x.h]) (n := 3) (Nat.le_of_ble_eq_true rfl)
  rw [lg_entry_eq]
  generalize (lg_sl ([.ref x.h]) ++ List.replicate (3 - (lg_sl ([.ref x.h])).length) Slot.unset).toArray = ls at hl ⊢
  have hl : lv_has ls 3 [(0, .ref x.h)] := hl
  obtain ⟨it, hit⟩ := List.getElem?_of_mem (kE_in x k w.pb)
  refine lv_aload_n hx hb d_D_insert_0 rfl (lv_at hl 0 rfl) ?_
  have hFc := va_freeM (wc := KW x k e) hD hS hA (fun _ h9 => h9)
  refine va_calli (va_runV (As := []) (rest := []) ⟨hx, hb, hml, hown, hts⟩ (K_selS l x h w _) (cwV 0 hts (gd_v lk_506 lk_507 lk_508 lk_444 lk_492) rfl rfl rfl (by decide +kernel) ⟨Nat.le_of_ble_eq_true rfl, Nat.le_of_ble_eq_true rfl⟩) ⟨fun a U g mk q => by obtain ⟨q0, q1, qP, qK, qD⟩ := q; exact ⟨q0, q1, qP, va_K.moved (u := U) (U := U.calling g mk a) (Vm.Alike.refl U.vm) qK, qD⟩, va_recv (ci := 0) (q0 := 0) hK hP rfl rfl, fun U hU hW => ⟨rfl, by rw [hU], by rw [hU]; exact hP, va_K.moved hW.alike hK, hD.weaken (fun _ _ _ _ => trivial)⟩⟩ rfl rfl hl.1 rfl (lv_room (Nat.le_of_ble_eq_true rfl)) d_D_insert_1 ⟨Nat.le_of_ble_eq_true rfl, Nat.le_of_ble_eq_true rfl⟩) hS (fun q _ h => hFc q h) hFc (fun r9 kn t H1 locs ht hvm hw hB hz1 hk1 hS => ?_)
  obtain ⟨hP1, hD1⟩ := hB
  rw [ht] at hP1
  have hP := hP1
  have hD := hD1.weaken (fun _ q _ h => hFc q.1 h)
  clear hP1 hD1 hFc hk1 hz1
  subst hw
  refine lv_istore_n (lv' := [(1, .int (Int32.ofNat (e_lo e))), (0, .ref x.h)]) hx hb d_D_insert_4 rfl hl (by decide) rfl (fun ls hl => ?_)
  have hl : lv_has ls 3 [(1, .int (Int32.ofNat (e_lo e))), (0, .ref x.h)] := hl
  refine lv_aload_n hx hb d_D_insert_5 rfl (lv_at hl 1 rfl) ?_
  have hFc := va_freeM (wc := KW x k e) hD hS hA (fun _ h9 => h9)
  refine va_calli (va_runV (As := []) (rest := []) ⟨hx, hb, hml, hown, hts⟩ (K_selE l x h w _) (cwV 0 hts (gd_v lk_509 lk_510 lk_511 lk_444 lk_488) rfl rfl rfl (by decide +kernel) ⟨Nat.le_of_ble_eq_true rfl, Nat.le_of_ble_eq_true rfl⟩) ⟨fun a U g mk q => by obtain ⟨q0, q1, qP, qK, qD⟩ := q; exact ⟨q0, q1, qP, va_K.moved (u := U) (U := U.calling g mk a) (Vm.Alike.refl U.vm) qK, qD⟩, va_recv (ci := 0) (q0 := 0) hK hP rfl rfl, fun U hU hW => ⟨rfl, by rw [hU], by rw [hU]; exact hP, va_K.moved hW.alike hK, hD.weaken (fun _ _ _ _ => trivial)⟩⟩ rfl rfl hl.1 rfl (lv_room (Nat.le_of_ble_eq_true rfl)) d_D_insert_6 ⟨Nat.le_of_ble_eq_true rfl, Nat.le_of_ble_eq_true rfl⟩) hS (fun q _ h => hFc q h) hFc (fun r9 kn t H1 locs ht hvm hw hB hz1 hk1 hS => ?_)
  obtain ⟨hP1, hD1⟩ := hB
  rw [ht] at hP1
  have hP := hP1
  have hD := hD1.weaken (fun _ q _ h => hFc q.1 h)
  clear hP1 hD1 hFc hk1 hz1
  subst hw
  refine lv_istore_n (lv' := [(2, .int (Int32.ofNat (e_hi e))), (1, .int (Int32.ofNat (e_lo e))), (0, .ref x.h)]) hx hb d_D_insert_9 rfl hl (by decide) rfl (fun ls hl => ?_)
  have hl : lv_has ls 3 [(2, .int (Int32.ofNat (e_hi e))), (1, .int (Int32.ofNat (e_lo e))), (0, .ref x.h)] := hl
  refine lv_aload_n hx hb d_D_insert_10 rfl (lv_at hl 2 rfl) ?_
  refine va_get (D := x.D) (ci := 0) (v := .int (k.I 3)) (C := R_D) (T := F_D) (N := 14) hx hb hts (fun w h => List.mem_cons_of_mem _ (in_D w h)) hown hK hP 0 rfl rfl 3 (by decide) (hts _ (List.mem_cons_of_mem _ lk_436)) (fun _ h9 => h9) rfl d_D_insert_11 ?_
  refine wk_top (w := .int (Int32.ofNat e.n)) (congrArg _ h.hn) ?_
  refine lv_bipush (v := 40) hx hb d_D_insert_14 (by decide) ?_
  refine lv_icmp_eq (tgt := 39) hx hb d_D_insert_16 (by decide) (fun hc => ?_) (fun hc => ?_)
  ·
    exact absurd ((pn_eqN (b := 40) (by clear w tt h; omega) (by decide)).mp hc) hn
  ·
    refine lv_aload_n hx hb d_D_insert_19 rfl (lv_at hl 2 rfl) ?_
    refine va_get (D := x.D) (ci := 0) (v := .ref (k.ta e.p)) (C := R_D) (T := F_D) (N := 14) hx hb hts (fun w h => List.mem_cons_of_mem _ (in_D w h)) hown hK hP 0 rfl rfl 5 (by decide) (hts _ (List.mem_cons_of_mem _ lk_241)) (fun _ h9 => h9) rfl d_D_insert_20 ?_
    refine va_alen (v := Int32.ofNat (e.tn e.p)) hx hb hK hP it 0 hit rfl rfl d_D_insert_23 ?_
    refine lv_iload_n hx hb d_D_insert_24 rfl (lv_at hl 0 rfl) ?_
    refine lv_iload_n hx hb d_D_insert_25 rfl (lv_at hl 1 rfl) ?_
    refine lv_isub hx hb d_D_insert_26 ?_
    refine lv_isub hx hb d_D_insert_27 ?_
    refine lv_aload_n hx hb d_D_insert_28 rfl (lv_at hl 2 rfl) ?_
    refine va_get (D := x.D) (ci := 0) (v := .int (k.I 1)) (C := R_D) (T := F_D) (N := 14) hx hb hts (fun w h => List.mem_cons_of_mem _ (in_D w h)) hown hK hP 0 rfl rfl 1 (by decide) (hts _ (List.mem_cons_of_mem _ lk_312)) (fun _ h9 => h9) rfl d_D_insert_29 ?_
    refine wk_top (w := .int (Int32.ofNat e.sn)) (congrArg _ h.s1) ?_
    refine lv_iadd hx hb d_D_insert_32 ?_
    refine wk_top (w := .int (Int32.ofNat (e_exl e (e_lo e) (e_hi e) e.sn))) (congrArg _ (by rw [pn_sub l1, pn_sub (show e_hi e - e_lo e ≤ e.tn e.p by clear w tt h; omega), pn_add, hel])) ?_
    refine lv_sipush (v := 160) hx hb d_D_insert_33 (by decide) ?_
    refine lv_icmp_le (tgt := 47) hx hb d_D_insert_36 (by decide) (fun hc => ?_) (fun hc => ?_)
    ·
      refine lv_iload_n hx hb d_D_insert_47 rfl (lv_at hl 1 rfl) ?_
      refine lv_iload_n hx hb d_D_insert_48 rfl (lv_at hl 0 rfl) ?_
      refine lv_icmp_lt (tgt := 59) hx hb d_D_insert_49 (by decide) (fun hc => ?_) (fun hc => ?_)
      ·
        have hlt := (pn_lt (by clear w tt h; omega) (by clear w tt h; omega)).mp hc
        refine lv_aload_n hx hb d_D_insert_59 rfl (lv_at hl 2 rfl) ?_
        refine lv_iload_n hx hb d_D_insert_60 rfl (lv_at hl 1 rfl) ?_
        refine lv_iload_n hx hb d_D_insert_61 rfl (lv_at hl 0 rfl) ?_
        refine lv_aload_n hx hb d_D_insert_62 rfl (lv_at hl 2 rfl) ?_
        refine va_get (D := x.D) (ci := 0) (v := .int (k.I 1)) (C := R_D) (T := F_D) (N := 14) hx hb hts (fun w h => List.mem_cons_of_mem _ (in_D w h)) hown hK hP 0 rfl rfl 1 (by decide) (hts _ (List.mem_cons_of_mem _ lk_312)) (fun _ h9 => h9) rfl d_D_insert_63 ?_
        refine wk_top (w := .int (Int32.ofNat e.sn)) (congrArg _ h.s1) ?_
        have hFc := va_freeM (wc := KW x k e) hD hS hA (fun _ h9 => h9)
        refine va_callv (va_runV (As := [.int (Int32.ofNat (e_lo e)), .int (Int32.ofNat (e_hi e)), .int (Int32.ofNat e.sn)]) (rest := []) ⟨hx, hb, hml, hown, hts⟩ (K_exchange l x h w (show e.n < 40 by clear w tt h; omega) l1 l2 (Nat.le_refl _) hx160 _) (cwV 3 hts (gd_v lk_513 lk_514 lk_515 lk_444 lk_512) rfl rfl rfl (by decide +kernel) ⟨Nat.le_of_ble_eq_true rfl, Nat.le_of_ble_eq_true rfl⟩) ⟨fun a U g mk q => by obtain ⟨q0, q1, qP, qK, qD⟩ := q; exact ⟨q0, q1, qP, va_K.moved (u := U) (U := U.calling g mk a) (Vm.Alike.refl U.vm) qK, qD⟩, va_recv (ci := 0) (q0 := 0) hK hP rfl rfl, fun U hU hW => ⟨rfl, by rw [hU], by rw [hU]; exact hP, va_K.moved hW.alike hK, hD.weaken (fun _ _ _ _ => trivial)⟩⟩ rfl rfl hl.1 rfl (lv_room (Nat.le_of_ble_eq_true rfl)) d_D_insert_66 ⟨Nat.le_of_ble_eq_true rfl, Nat.le_of_ble_eq_true rfl⟩) hS (fun q _ h => hFc q h) hFc (fun kn t H1 locs ht hvm hw hB hz1 hk1 hS => ?_)
        obtain ⟨hP1, hD1⟩ := hB
        rw [ht] at hP1
        have hP := hP1
        have hD := hD1.weaken (fun _ q _ h => hFc q.1 h)
        clear hP1 hD1 hFc hk1 hz1
        refine W.cs (cells' := 2) (slots' := 164) rfl rfl ?_
        have he : e_ins e = e_sn (e_edit e (e_exl e (e_lo e) (e_hi e) e.sn) (e_ext e (e_lo e) (e_hi e) e.sn) (e_lo e + e.sn)) 0 := by
          unfold e_ins
          rw [if_pos (show e_edits e = true from decide_eq_true (Or.inl hlt)), if_neg (show ¬ e_full e = true from fun z => by have := of_decide_eq_true z; clear w tt h; omega)]
        generalize e_edit e (e_exl e (e_lo e) (e_hi e) e.sn) (e_ext e (e_lo e) (e_hi e) e.sn) (e_lo e + e.sn) = e1 at hP hD hw he
        refine lv_aload_n hx hb d_D_insert_69 rfl (lv_at hl 2 rfl) ?_
        refine lv_iconst (v := 0) hx hb d_D_insert_70 (by decide) ?_
        refine va_put (D := x.D) (ci := 0) (v := .int 0) (ty := .int) (C := R_D) (T := F_D) (N := 14) hx hb hts (fun w h => List.mem_cons_of_mem _ (in_D w h)) t_D tk_D n_D hown hK hP hD hS 0 rfl rfl 1 (by decide) (hts _ (List.mem_cons_of_mem _ lk_312)) (fun _ h9 => h9) rfl (by decide +kernel) rfl rfl (Nat.le_of_ble_eq_true rfl) d_D_insert_71 (fun H locs hP hD hS => ?_)
        have hP : va_P x.D vwCl (KW x (kn.dw (upd kn.I 1 0) kn.A kn.M kn.MB kn.L) e1) H := hP
        have hD : va_D B9 (KW x (kn.dw (upd kn.I 1 0) kn.A kn.M kn.MB kn.L) e1) := hD
        rw [← KW_same x _ (show SameT (e_sn e1 0) e1 from ⟨rfl, rfl, rfl, rfl, rfl, rfl, rfl⟩), ← he] at hP hD
        have hC := (C_wipe hw 0 (fun _ => 0)).2
        rw [← he] at hC
        generalize kn.dw (upd kn.I 1 0) kn.A kn.M kn.MB kn.L = k2 at hP hD hC
        refine lv_aload_n hx hb d_D_insert_74 rfl (lv_at hl 2 rfl) ?_
        refine va_get (D := x.D) (ci := 0) (v := .int (k2.I 4)) (C := R_D) (T := F_D) (N := 14) hx hb hts (fun w h => List.mem_cons_of_mem _ (in_D w h)) hown hK hP 0 rfl rfl 4 (by decide) (hts _ (List.mem_cons_of_mem _ lk_435)) (fun _ h9 => h9) rfl d_D_insert_75 ?_
        refine wk_top (w := .int (Int32.ofNat (e_ins e).p)) (congrArg _ hC.hp) ?_
        exact W.iret (v := Int32.ofNat (e_ins e).p) hx hb hr (fun t ht hW => ⟨⟨_, k2, rfl, ⟨rfl, hC⟩, by rw [ht]; exact hP, hD⟩, hS.F ht⟩) hS.2.2 d_D_insert_78
      ·
        have hlt := fun z => hc ((pn_lt (by clear w tt h; omega) (by clear w tt h; omega)).mpr z)
        refine lv_aload_n hx hb d_D_insert_52 rfl (lv_at hl 2 rfl) ?_
        refine va_get (D := x.D) (ci := 0) (v := .int (k.I 1)) (C := R_D) (T := F_D) (N := 14) hx hb hts (fun w h => List.mem_cons_of_mem _ (in_D w h)) hown hK hP 0 rfl rfl 1 (by decide) (hts _ (List.mem_cons_of_mem _ lk_312)) (fun _ h9 => h9) rfl d_D_insert_53 ?_
        refine wk_top (w := .int (Int32.ofNat e.sn)) (congrArg _ h.s1) ?_
        refine lv_if_le (tgt := 74) hx hb d_D_insert_56 (by decide) (fun hc => ?_) (fun hc => ?_)
        ·
          have h0 : e.sn ≤ 0 := (pn_le (b := 0) (by clear w tt h; omega) (by decide)).mp hc
          have he : e_ins e = e := by
            unfold e_ins
            rw [if_neg (show ¬ e_edits e = true from fun z => by have := of_decide_eq_true z; exact this.elim hlt (fun z => absurd h0 (Nat.not_le_of_lt z)))]
          rw [he]
          refine lv_aload_n hx hb d_D_insert_74 rfl (lv_at hl 2 rfl) ?_
          refine va_get (D := x.D) (ci := 0) (v := .int (k.I 4)) (C := R_D) (T := F_D) (N := 14) hx hb hts (fun w h => List.mem_cons_of_mem _ (in_D w h)) hown hK hP 0 rfl rfl 4 (by decide) (hts _ (List.mem_cons_of_mem _ lk_435)) (fun _ h9 => h9) rfl d_D_insert_75 ?_
          refine wk_top (w := .int (Int32.ofNat e.p)) (congrArg _ h.hp) ?_
          refine W.widen (k := 2) (n := 164) (Nat.le_of_ble_eq_true rfl) (Nat.le_of_ble_eq_true rfl) ?_
          exact W.iret (v := Int32.ofNat e.p) hx hb hr (fun t ht hW => ⟨⟨_, k, rfl, ⟨rfl, h⟩, by rw [ht]; exact hP, hD⟩, hS.F ht⟩) hS.2.2 d_D_insert_78
        ·
          have h0 : 0 < e.sn := Nat.lt_of_not_le (fun z => hc ((pn_le (b := 0) (by clear w tt h; omega) (by decide)).mpr z))
          refine lv_aload_n hx hb d_D_insert_59 rfl (lv_at hl 2 rfl) ?_
          refine lv_iload_n hx hb d_D_insert_60 rfl (lv_at hl 1 rfl) ?_
          refine lv_iload_n hx hb d_D_insert_61 rfl (lv_at hl 0 rfl) ?_
          refine lv_aload_n hx hb d_D_insert_62 rfl (lv_at hl 2 rfl) ?_
          refine va_get (D := x.D) (ci := 0) (v := .int (k.I 1)) (C := R_D) (T := F_D) (N := 14) hx hb hts (fun w h => List.mem_cons_of_mem _ (in_D w h)) hown hK hP 0 rfl rfl 1 (by decide) (hts _ (List.mem_cons_of_mem _ lk_312)) (fun _ h9 => h9) rfl d_D_insert_63 ?_
          refine wk_top (w := .int (Int32.ofNat e.sn)) (congrArg _ h.s1) ?_
          have hFc := va_freeM (wc := KW x k e) hD hS hA (fun _ h9 => h9)
          refine va_callv (va_runV (As := [.int (Int32.ofNat (e_lo e)), .int (Int32.ofNat (e_hi e)), .int (Int32.ofNat e.sn)]) (rest := []) ⟨hx, hb, hml, hown, hts⟩ (K_exchange l x h w (show e.n < 40 by clear w tt h; omega) l1 l2 (Nat.le_refl _) hx160 _) (cwV 3 hts (gd_v lk_513 lk_514 lk_515 lk_444 lk_512) rfl rfl rfl (by decide +kernel) ⟨Nat.le_of_ble_eq_true rfl, Nat.le_of_ble_eq_true rfl⟩) ⟨fun a U g mk q => by obtain ⟨q0, q1, qP, qK, qD⟩ := q; exact ⟨q0, q1, qP, va_K.moved (u := U) (U := U.calling g mk a) (Vm.Alike.refl U.vm) qK, qD⟩, va_recv (ci := 0) (q0 := 0) hK hP rfl rfl, fun U hU hW => ⟨rfl, by rw [hU], by rw [hU]; exact hP, va_K.moved hW.alike hK, hD.weaken (fun _ _ _ _ => trivial)⟩⟩ rfl rfl hl.1 rfl (lv_room (Nat.le_of_ble_eq_true rfl)) d_D_insert_66 ⟨Nat.le_of_ble_eq_true rfl, Nat.le_of_ble_eq_true rfl⟩) hS (fun q _ h => hFc q h) hFc (fun kn t H1 locs ht hvm hw hB hz1 hk1 hS => ?_)
          obtain ⟨hP1, hD1⟩ := hB
          rw [ht] at hP1
          have hP := hP1
          have hD := hD1.weaken (fun _ q _ h => hFc q.1 h)
          clear hP1 hD1 hFc hk1 hz1
          refine W.cs (cells' := 2) (slots' := 164) rfl rfl ?_
          have he : e_ins e = e_sn (e_edit e (e_exl e (e_lo e) (e_hi e) e.sn) (e_ext e (e_lo e) (e_hi e) e.sn) (e_lo e + e.sn)) 0 := by
            unfold e_ins
            rw [if_pos (show e_edits e = true from decide_eq_true (Or.inr h0)), if_neg (show ¬ e_full e = true from fun z => by have := of_decide_eq_true z; clear w tt h; omega)]
          generalize e_edit e (e_exl e (e_lo e) (e_hi e) e.sn) (e_ext e (e_lo e) (e_hi e) e.sn) (e_lo e + e.sn) = e1 at hP hD hw he
          refine lv_aload_n hx hb d_D_insert_69 rfl (lv_at hl 2 rfl) ?_
          refine lv_iconst (v := 0) hx hb d_D_insert_70 (by decide) ?_
          refine va_put (D := x.D) (ci := 0) (v := .int 0) (ty := .int) (C := R_D) (T := F_D) (N := 14) hx hb hts (fun w h => List.mem_cons_of_mem _ (in_D w h)) t_D tk_D n_D hown hK hP hD hS 0 rfl rfl 1 (by decide) (hts _ (List.mem_cons_of_mem _ lk_312)) (fun _ h9 => h9) rfl (by decide +kernel) rfl rfl (Nat.le_of_ble_eq_true rfl) d_D_insert_71 (fun H locs hP hD hS => ?_)
          have hP : va_P x.D vwCl (KW x (kn.dw (upd kn.I 1 0) kn.A kn.M kn.MB kn.L) e1) H := hP
          have hD : va_D B9 (KW x (kn.dw (upd kn.I 1 0) kn.A kn.M kn.MB kn.L) e1) := hD
          rw [← KW_same x _ (show SameT (e_sn e1 0) e1 from ⟨rfl, rfl, rfl, rfl, rfl, rfl, rfl⟩), ← he] at hP hD
          have hC := (C_wipe hw 0 (fun _ => 0)).2
          rw [← he] at hC
          generalize kn.dw (upd kn.I 1 0) kn.A kn.M kn.MB kn.L = k2 at hP hD hC
          refine lv_aload_n hx hb d_D_insert_74 rfl (lv_at hl 2 rfl) ?_
          refine va_get (D := x.D) (ci := 0) (v := .int (k2.I 4)) (C := R_D) (T := F_D) (N := 14) hx hb hts (fun w h => List.mem_cons_of_mem _ (in_D w h)) hown hK hP 0 rfl rfl 4 (by decide) (hts _ (List.mem_cons_of_mem _ lk_435)) (fun _ h9 => h9) rfl d_D_insert_75 ?_
          refine wk_top (w := .int (Int32.ofNat (e_ins e).p)) (congrArg _ hC.hp) ?_
          exact W.iret (v := Int32.ofNat (e_ins e).p) hx hb hr (fun t ht hW => ⟨⟨_, k2, rfl, ⟨rfl, hC⟩, by rw [ht]; exact hP, hD⟩, hS.F ht⟩) hS.2.2 d_D_insert_78
    ·
      exact absurd ((pn_le (b := 160) (by clear w tt h; omega) (by decide)).mpr hx160) hc
set_option maxHeartbeats 8000000 in
set_option maxRecDepth 100000 in
theorem Kt_insert (l : Launch) (hfl : l.flags = flags0) (x : FX) {k : CK} {e : ES} (h : CRel e k) (w : EWf e) (hbad : e.n = 40 ∨ 160 < e_exl e (e_lo e) (e_hi e) e.sn) : KThr l x y_D_insert w_D_insert ({ frames := 6, cells := 1, slots := 6, locals := 120 }) [.ref x.h] k e 1 6 "java/lang/IllegalStateException" e := by
  refine ⟨k, h, fun sz => ?_⟩
  have tt := w.tt _ w.pb
  have htn := tt.nb
  have hsb := w.sb
  have hpb := w.pb
  have hn2 := w.n2
  have hcb := w.cb
  obtain ⟨l1, l2⟩ := e_lo_le w
  have hel : e_exl e (e_lo e) (e_hi e) e.sn = e.tn e.p - (e_hi e - e_lo e) + e.sn := rfl
  refine th_Met.ofW (cc := prog_1_method_4_code) (maxL := 3) (ret := some .int) (by decide) rfl ?_
  intro p en s m args below meth c s₁ B hml hnh hv
  obtain ⟨rfl, hsz, hP, hK, hD0, hZ⟩ := hv
  have hx := B.exec
  have hb := B.bytes
  have hr := B.returns
  have hts := atoms_spec (ws := w_D_insert) B.pre
  have hown : s.vm.findClass "DraftTree" = some m.cls := findClass_of_methodNamed B.named
  have hlocks := B.notSynchronized
  have htr := Launch.traces_off hfl B.admits
  subst hsz
  have hD := hD0.self (sz := s.heap.size)
  generalize hAe : va_A (KW x k e) s.heap.size = B9 at hD hZ ⊢
  have hA : ∀ q : Nat, s.heap.size ≤ q → B9 q := fun q h => by rw [← hAe]; exact Or.inr h
  clear hAe
  have hS : va_S B9 s.heap s.heap [] := va_S.rf
  have hl := lv_entry ([.ref x.h]) (n := 3) (Nat.le_of_ble_eq_true rfl)
  rw [lg_entry_eq]
  generalize (lg_sl ([.ref x.h]) ++ List.replicate (3 - (lg_sl ([.ref x.h])).length) Slot.unset).toArray = ls at hl ⊢
  have hl : lv_has ls 3 [(0, .ref x.h)] := hl
  obtain ⟨it, hit⟩ := List.getElem?_of_mem (kE_in x k w.pb)
  refine lv_aload_n hx hb d_D_insert_0 rfl (lv_at hl 0 rfl) ?_
  have hFc := va_freeM (wc := KW x k e) hD hS hA (fun _ h9 => h9)
  refine va_calli (va_runV (As := []) (rest := []) ⟨hx, hb, hml, hown, hts⟩ (K_selS l x h w _) (cwV 0 hts (gd_v lk_506 lk_507 lk_508 lk_444 lk_492) rfl rfl rfl (by decide +kernel) ⟨Nat.le_of_ble_eq_true rfl, Nat.le_of_ble_eq_true rfl⟩) ⟨fun a U g mk q => by obtain ⟨q0, q1, qP, qK, qD⟩ := q; exact ⟨q0, q1, qP, va_K.moved (u := U) (U := U.calling g mk a) (Vm.Alike.refl U.vm) qK, qD⟩, va_recv (ci := 0) (q0 := 0) hK hP rfl rfl, fun U hU hW => ⟨rfl, by rw [hU], by rw [hU]; exact hP, va_K.moved hW.alike hK, hD.weaken (fun _ _ _ _ => trivial)⟩⟩ rfl rfl hl.1 rfl (lv_room (Nat.le_of_ble_eq_true rfl)) d_D_insert_1 ⟨Nat.le_of_ble_eq_true rfl, Nat.le_of_ble_eq_true rfl⟩) hS (fun q _ h => hFc q h) hFc (fun r9 kn t H1 locs ht hvm hw hB hz1 hk1 hS => ?_)
  obtain ⟨hP1, hD1⟩ := hB
  rw [ht] at hP1
  have hP := hP1
  have hD := hD1.weaken (fun _ q _ h => hFc q.1 h)
  clear hP1 hD1 hFc hk1 hz1
  subst hw
  refine lv_istore_n (lv' := [(1, .int (Int32.ofNat (e_lo e))), (0, .ref x.h)]) hx hb d_D_insert_4 rfl hl (by decide) rfl (fun ls hl => ?_)
  have hl : lv_has ls 3 [(1, .int (Int32.ofNat (e_lo e))), (0, .ref x.h)] := hl
  refine lv_aload_n hx hb d_D_insert_5 rfl (lv_at hl 1 rfl) ?_
  have hFc := va_freeM (wc := KW x k e) hD hS hA (fun _ h9 => h9)
  refine va_calli (va_runV (As := []) (rest := []) ⟨hx, hb, hml, hown, hts⟩ (K_selE l x h w _) (cwV 0 hts (gd_v lk_509 lk_510 lk_511 lk_444 lk_488) rfl rfl rfl (by decide +kernel) ⟨Nat.le_of_ble_eq_true rfl, Nat.le_of_ble_eq_true rfl⟩) ⟨fun a U g mk q => by obtain ⟨q0, q1, qP, qK, qD⟩ := q; exact ⟨q0, q1, qP, va_K.moved (u := U) (U := U.calling g mk a) (Vm.Alike.refl U.vm) qK, qD⟩, va_recv (ci := 0) (q0 := 0) hK hP rfl rfl, fun U hU hW => ⟨rfl, by rw [hU], by rw [hU]; exact hP, va_K.moved hW.alike hK, hD.weaken (fun _ _ _ _ => trivial)⟩⟩ rfl rfl hl.1 rfl (lv_room (Nat.le_of_ble_eq_true rfl)) d_D_insert_6 ⟨Nat.le_of_ble_eq_true rfl, Nat.le_of_ble_eq_true rfl⟩) hS (fun q _ h => hFc q h) hFc (fun r9 kn t H1 locs ht hvm hw hB hz1 hk1 hS => ?_)
  obtain ⟨hP1, hD1⟩ := hB
  rw [ht] at hP1
  have hP := hP1
  have hD := hD1.weaken (fun _ q _ h => hFc q.1 h)
  clear hP1 hD1 hFc hk1 hz1
  subst hw
  refine lv_istore_n (lv' := [(2, .int (Int32.ofNat (e_hi e))), (1, .int (Int32.ofNat (e_lo e))), (0, .ref x.h)]) hx hb d_D_insert_9 rfl hl (by decide) rfl (fun ls hl => ?_)
  have hl : lv_has ls 3 [(2, .int (Int32.ofNat (e_hi e))), (1, .int (Int32.ofNat (e_lo e))), (0, .ref x.h)] := hl
  refine lv_aload_n hx hb d_D_insert_10 rfl (lv_at hl 2 rfl) ?_
  refine va_get (D := x.D) (ci := 0) (v := .int (k.I 3)) (C := R_D) (T := F_D) (N := 14) hx hb hts (fun w h => List.mem_cons_of_mem _ (in_D w h)) hown hK hP 0 rfl rfl 3 (by decide) (hts _ (List.mem_cons_of_mem _ lk_436)) (fun _ h9 => h9) rfl d_D_insert_11 ?_
  refine wk_top (w := .int (Int32.ofNat e.n)) (congrArg _ h.hn) ?_
  refine lv_bipush (v := 40) hx hb d_D_insert_14 (by decide) ?_
  refine lv_icmp_eq (tgt := 39) hx hb d_D_insert_16 (by decide) (fun hc => ?_) (fun hc => ?_)
  ·
    exact th_newG hx hb htr hown (by decide) (by decide) (wk_thr hts hZ hS lk_445 lk_446 (fun _ a9 b9 => oa_2 a9 b9)) hnh (by rw [hl.1, hml]) hS (Nat.le_of_ble_eq_true rfl) (Nat.le_of_ble_eq_true rfl) (Nat.le_of_ble_eq_true rfl) (Nat.le_of_ble_eq_true rfl) (Nat.le_of_ble_eq_true rfl) (Nat.le_of_ble_eq_true rfl) hlocks (fun t hal hk => ⟨hP.kept (fun k q hq => hk _ (hP k q hq).lt), hD⟩) d_D_insert_39 d_D_insert_42 d_D_insert_43 d_D_insert_46
  ·
    refine lv_aload_n hx hb d_D_insert_19 rfl (lv_at hl 2 rfl) ?_
    refine va_get (D := x.D) (ci := 0) (v := .ref (k.ta e.p)) (C := R_D) (T := F_D) (N := 14) hx hb hts (fun w h => List.mem_cons_of_mem _ (in_D w h)) hown hK hP 0 rfl rfl 5 (by decide) (hts _ (List.mem_cons_of_mem _ lk_241)) (fun _ h9 => h9) rfl d_D_insert_20 ?_
    refine va_alen (v := Int32.ofNat (e.tn e.p)) hx hb hK hP it 0 hit rfl rfl d_D_insert_23 ?_
    refine lv_iload_n hx hb d_D_insert_24 rfl (lv_at hl 0 rfl) ?_
    refine lv_iload_n hx hb d_D_insert_25 rfl (lv_at hl 1 rfl) ?_
    refine lv_isub hx hb d_D_insert_26 ?_
    refine lv_isub hx hb d_D_insert_27 ?_
    refine lv_aload_n hx hb d_D_insert_28 rfl (lv_at hl 2 rfl) ?_
    refine va_get (D := x.D) (ci := 0) (v := .int (k.I 1)) (C := R_D) (T := F_D) (N := 14) hx hb hts (fun w h => List.mem_cons_of_mem _ (in_D w h)) hown hK hP 0 rfl rfl 1 (by decide) (hts _ (List.mem_cons_of_mem _ lk_312)) (fun _ h9 => h9) rfl d_D_insert_29 ?_
    refine wk_top (w := .int (Int32.ofNat e.sn)) (congrArg _ h.s1) ?_
    refine lv_iadd hx hb d_D_insert_32 ?_
    refine wk_top (w := .int (Int32.ofNat (e_exl e (e_lo e) (e_hi e) e.sn))) (congrArg _ (by rw [pn_sub l1, pn_sub (show e_hi e - e_lo e ≤ e.tn e.p by clear w tt h; omega), pn_add, hel])) ?_
    refine lv_sipush (v := 160) hx hb d_D_insert_33 (by decide) ?_
    refine lv_icmp_le (tgt := 47) hx hb d_D_insert_36 (by decide) (fun hc => ?_) (fun hc => ?_)
    ·
      have a1 : e_exl e (e_lo e) (e_hi e) e.sn ≤ 160 := (pn_le (b := 160) (by clear w tt h; omega) (by decide)).mp hc
      rename_i hc0
      rcases hbad with z | z
      · exact absurd (show Int32.ofNat e.n = 40 by rw [z]; rfl) hc0
      · exact absurd a1 (by clear w tt h; omega)
    ·
      exact th_newG hx hb htr hown (by decide) (by decide) (wk_thr hts hZ hS lk_445 lk_446 (fun _ a9 b9 => oa_2 a9 b9)) hnh (by rw [hl.1, hml]) hS (Nat.le_of_ble_eq_true rfl) (Nat.le_of_ble_eq_true rfl) (Nat.le_of_ble_eq_true rfl) (Nat.le_of_ble_eq_true rfl) (Nat.le_of_ble_eq_true rfl) (Nat.le_of_ble_eq_true rfl) hlocks (fun t hal hk => ⟨hP.kept (fun k q hq => hk _ (hP k q hq).lt), hD⟩) d_D_insert_39 d_D_insert_42 d_D_insert_43 d_D_insert_46
set_option maxHeartbeats 8000000 in
set_option maxRecDepth 100000 in
theorem K_erase (l : Launch) (x : FX) {k : CK} {e : ES} (h : CRel e k) (w : EWf e) {k1 : Int32} (hok : e_ea e k1 < e_eb e k1 → e.n ≠ 40) : KRetI l x y_D_erase w_D_erase ({ frames := 5, cells := 2, slots := 164, locals := 150 }) [.ref x.h, .int k1] k e 2 164 (Int32.ofNat (e_eb e k1 - e_ea e k1)) (e_era e k1) := by
  intro sz
  have tt := w.tt _ w.pb
  have htn := tt.nb
  have hsb := w.sb
  have hpb := w.pb
  have hn2 := w.n2
  have hcb := w.cb
  obtain ⟨l1, l2⟩ := e_lo_le w
  obtain ⟨a1, a2⟩ := e_ea_le w k1
  have hel : e_exl e (e_ea e k1) (e_eb e k1) 0 = e.tn e.p - (e_eb e k1 - e_ea e k1) + 0 := rfl
  refine Met.ofW (cc := prog_1_method_5_code) (maxL := 4) (ret := some .int) (by decide) rfl ?_
  intro p en s m args below meth c s₁ B hml hv
  obtain ⟨rfl, hsz, hP, hK, hD0⟩ := hv
  have hx := B.exec
  have hb := B.bytes
  have hr := B.returns
  have hts := atoms_spec (ws := w_D_erase) B.pre
  have hown : s.vm.findClass "DraftTree" = some m.cls := findClass_of_methodNamed B.named
  have hlocks := B.notSynchronized
  subst hsz
  have hD := hD0.self (sz := s.heap.size)
  generalize hAe : va_A (KW x k e) s.heap.size = B9 at hD ⊢
  have hA : ∀ q : Nat, s.heap.size ≤ q → B9 q := fun q h => by rw [← hAe]; exact Or.inr h
  clear hAe
  have hS : va_S B9 s.heap s.heap [] := va_S.rf
  have hl := lv_entry ([.ref x.h, .int k1]) (n := 4) (Nat.le_of_ble_eq_true rfl)
  rw [lg_entry_eq]
  generalize (lg_sl ([.ref x.h, .int k1]) ++ List.replicate (4 - (lg_sl ([.ref x.h, .int k1])).length) Slot.unset).toArray = ls at hl ⊢
  have hl : lv_has ls 4 [(0, .ref x.h), (1, .int k1)] := hl
  obtain ⟨it, hit⟩ := List.getElem?_of_mem (kE_in x k w.pb)
  refine lv_aload_n hx hb d_D_erase_0 rfl (lv_at hl 0 rfl) ?_
  have hFc := va_freeM (wc := KW x k e) hD hS hA (fun _ h9 => h9)
  refine va_calli (va_runV (As := []) (rest := []) ⟨hx, hb, hml, hown, hts⟩ (K_selS l x h w _) (cwV 0 hts (gd_v lk_506 lk_507 lk_508 lk_444 lk_492) rfl rfl rfl (by decide +kernel) ⟨Nat.le_of_ble_eq_true rfl, Nat.le_of_ble_eq_true rfl⟩) ⟨fun a U g mk q => by obtain ⟨q0, q1, qP, qK, qD⟩ := q; exact ⟨q0, q1, qP, va_K.moved (u := U) (U := U.calling g mk a) (Vm.Alike.refl U.vm) qK, qD⟩, va_recv (ci := 0) (q0 := 0) hK hP rfl rfl, fun U hU hW => ⟨rfl, by rw [hU], by rw [hU]; exact hP, va_K.moved hW.alike hK, hD.weaken (fun _ _ _ _ => trivial)⟩⟩ rfl rfl hl.1 rfl (lv_room (Nat.le_of_ble_eq_true rfl)) d_D_erase_1 ⟨Nat.le_of_ble_eq_true rfl, Nat.le_of_ble_eq_true rfl⟩) hS (fun q _ h => hFc q h) hFc (fun r9 kn t H1 locs ht hvm hw hB hz1 hk1 hS => ?_)
  obtain ⟨hP1, hD1⟩ := hB
  rw [ht] at hP1
  have hP := hP1
  have hD := hD1.weaken (fun _ q _ h => hFc q.1 h)
  clear hP1 hD1 hFc hk1 hz1
  subst hw
  refine lv_istore_n (lv' := [(2, .int (Int32.ofNat (e_lo e))), (0, .ref x.h), (1, .int k1)]) hx hb d_D_erase_4 rfl hl (by decide) rfl (fun ls hl => ?_)
  have hl : lv_has ls 4 [(2, .int (Int32.ofNat (e_lo e))), (0, .ref x.h), (1, .int k1)] := hl
  refine lv_aload_n hx hb d_D_erase_5 rfl (lv_at hl 1 rfl) ?_
  have hFc := va_freeM (wc := KW x k e) hD hS hA (fun _ h9 => h9)
  refine va_calli (va_runV (As := []) (rest := []) ⟨hx, hb, hml, hown, hts⟩ (K_selE l x h w _) (cwV 0 hts (gd_v lk_509 lk_510 lk_511 lk_444 lk_488) rfl rfl rfl (by decide +kernel) ⟨Nat.le_of_ble_eq_true rfl, Nat.le_of_ble_eq_true rfl⟩) ⟨fun a U g mk q => by obtain ⟨q0, q1, qP, qK, qD⟩ := q; exact ⟨q0, q1, qP, va_K.moved (u := U) (U := U.calling g mk a) (Vm.Alike.refl U.vm) qK, qD⟩, va_recv (ci := 0) (q0 := 0) hK hP rfl rfl, fun U hU hW => ⟨rfl, by rw [hU], by rw [hU]; exact hP, va_K.moved hW.alike hK, hD.weaken (fun _ _ _ _ => trivial)⟩⟩ rfl rfl hl.1 rfl (lv_room (Nat.le_of_ble_eq_true rfl)) d_D_erase_6 ⟨Nat.le_of_ble_eq_true rfl, Nat.le_of_ble_eq_true rfl⟩) hS (fun q _ h => hFc q h) hFc (fun r9 kn t H1 locs ht hvm hw hB hz1 hk1 hS => ?_)
  obtain ⟨hP1, hD1⟩ := hB
  rw [ht] at hP1
  have hP := hP1
  have hD := hD1.weaken (fun _ q _ h => hFc q.1 h)
  clear hP1 hD1 hFc hk1 hz1
  subst hw
  refine lv_istore_n (lv' := [(3, .int (Int32.ofNat (e_hi e))), (2, .int (Int32.ofNat (e_lo e))), (0, .ref x.h), (1, .int k1)]) hx hb d_D_erase_9 rfl hl (by decide) rfl (fun ls hl => ?_)
  have hl : lv_has ls 4 [(3, .int (Int32.ofNat (e_hi e))), (2, .int (Int32.ofNat (e_lo e))), (0, .ref x.h), (1, .int k1)] := hl
  refine lv_iload_n hx hb d_D_erase_10 rfl (lv_at hl 1 rfl) ?_
  refine lv_iload_n hx hb d_D_erase_11 rfl (lv_at hl 0 rfl) ?_
  refine lv_icmp_ne (tgt := 33) hx hb d_D_erase_12 (by decide) (fun hc => ?_) (fun hc => ?_)
  ·
    have hne : e_lo e < e_hi e := Nat.lt_of_le_of_ne l1 (fun z => hc (congrArg Int32.ofNat z))
    refine lv_iload_n hx hb d_D_erase_33 rfl (lv_at hl 1 rfl) ?_
    refine lv_iload_n hx hb d_D_erase_34 rfl (lv_at hl 0 rfl) ?_
    refine lv_icmp_ne (tgt := 58) hx hb d_D_erase_35 (by decide) (fun _ => ?_) (fun hc2 => absurd hc2 hc)
    have ha : e_ea e k1 = e_lo e := if_pos hne
    have hb9 : e_eb e k1 = e_hi e := if_pos hne
    have hl := lv_sub hl [2, 1, 0] rfl
    rw [← ha, ← hb9] at hl
    have hl : lv_has ls 4 [(0, .ref x.h), (2, .int (Int32.ofNat (e_ea e k1))), (3, .int (Int32.ofNat (e_eb e k1)))] := hl
    refine lv_iload_n hx hb d_D_erase_58 rfl (lv_at hl 1 rfl) ?_
    refine lv_iload_n hx hb d_D_erase_59 rfl (lv_at hl 2 rfl) ?_
    refine lv_icmp_ge (tgt := 87) hx hb d_D_erase_60 (by decide) (fun hc => ?_) (fun hc => ?_)
    ·
      have hge := (pn_le (by clear w tt h; omega) (by clear w tt h; omega)).mp hc
      have he : e_era e k1 = e := if_neg (fun z => absurd hge (Nat.not_le_of_lt z.1))
      rw [he]
      refine lv_iload_n hx hb d_D_erase_87 rfl (lv_at hl 2 rfl) ?_
      refine lv_iload_n hx hb d_D_erase_88 rfl (lv_at hl 1 rfl) ?_
      refine lv_isub hx hb d_D_erase_89 ?_
      refine wk_top (w := .int (Int32.ofNat (e_eb e k1 - e_ea e k1))) (congrArg _ (pn_sub a1)) ?_
      refine W.widen (k := 2) (n := 164) (Nat.le_of_ble_eq_true rfl) (Nat.le_of_ble_eq_true rfl) ?_
      exact W.iret (v := Int32.ofNat (e_eb e k1 - e_ea e k1)) hx hb hr (fun t ht hW => ⟨⟨_, k, rfl, ⟨rfl, h⟩, by rw [ht]; exact hP, hD⟩, hS.F ht⟩) hS.2.2 d_D_erase_90
    ·
      have hlt2 : e_ea e k1 < e_eb e k1 := Nat.lt_of_not_le (fun z => hc ((pn_le (by clear w tt h; omega) (by clear w tt h; omega)).mpr z))
      refine lv_aload_n hx hb d_D_erase_63 rfl (lv_at hl 0 rfl) ?_
      refine va_get (D := x.D) (ci := 0) (v := .int (k.I 3)) (C := R_D) (T := F_D) (N := 14) hx hb hts (fun w h => List.mem_cons_of_mem _ (in_D w h)) hown hK hP 0 rfl rfl 3 (by decide) (hts _ (List.mem_cons_of_mem _ lk_436)) (fun _ h9 => h9) rfl d_D_erase_64 ?_
      refine wk_top (w := .int (Int32.ofNat e.n)) (congrArg _ h.hn) ?_
      refine lv_bipush (v := 40) hx hb d_D_erase_67 (by decide) ?_
      refine lv_icmp_ne (tgt := 80) hx hb d_D_erase_69 (by decide) (fun hc => ?_) (fun hc => ?_)
      ·
        have hn := hok hlt2
        have he : e_era e k1 = e_edit e (e_exl e (e_ea e k1) (e_eb e k1) 0) (e_ext e (e_ea e k1) (e_eb e k1) 0) (e_ea e k1 + 0) := if_pos ⟨hlt2, hn⟩
        rw [he]
        refine lv_aload_n hx hb d_D_erase_80 rfl (lv_at hl 0 rfl) ?_
        refine lv_iload_n hx hb d_D_erase_81 rfl (lv_at hl 1 rfl) ?_
        refine lv_iload_n hx hb d_D_erase_82 rfl (lv_at hl 2 rfl) ?_
        refine lv_iconst (v := 0) hx hb d_D_erase_83 (by decide) ?_
        have hFc := va_freeM (wc := KW x k e) hD hS hA (fun _ h9 => h9)
        refine va_callv (va_runV (As := [.int (Int32.ofNat (e_ea e k1)), .int (Int32.ofNat (e_eb e k1)), .int 0]) (rest := []) ⟨hx, hb, hml, hown, hts⟩ (K_exchange l x h w (show e.n < 40 by clear w tt h; omega) a1 a2 (Nat.zero_le e.sn) (show e_exl e (e_ea e k1) (e_eb e k1) 0 ≤ 160 by clear w tt h; omega) _) (cwV 3 hts (gd_v lk_513 lk_514 lk_515 lk_444 lk_512) rfl rfl rfl (by decide +kernel) ⟨Nat.le_of_ble_eq_true rfl, Nat.le_of_ble_eq_true rfl⟩) ⟨fun a U g mk q => by obtain ⟨q0, q1, qP, qK, qD⟩ := q; exact ⟨q0, q1, qP, va_K.moved (u := U) (U := U.calling g mk a) (Vm.Alike.refl U.vm) qK, qD⟩, va_recv (ci := 0) (q0 := 0) hK hP rfl rfl, fun U hU hW => ⟨rfl, by rw [hU], by rw [hU]; exact hP, va_K.moved hW.alike hK, hD.weaken (fun _ _ _ _ => trivial)⟩⟩ rfl rfl hl.1 rfl (lv_room (Nat.le_of_ble_eq_true rfl)) d_D_erase_84 ⟨Nat.le_of_ble_eq_true rfl, Nat.le_of_ble_eq_true rfl⟩) hS (fun q _ h => hFc q h) hFc (fun kn t H1 locs ht hvm hw hB hz1 hk1 hS => ?_)
        obtain ⟨hP1, hD1⟩ := hB
        rw [ht] at hP1
        have hP := hP1
        have hD := hD1.weaken (fun _ q _ h => hFc q.1 h)
        clear hP1 hD1 hFc hk1 hz1
        refine W.cs (cells' := 2) (slots' := 164) rfl rfl ?_
        refine lv_iload_n hx hb d_D_erase_87 rfl (lv_at hl 2 rfl) ?_
        refine lv_iload_n hx hb d_D_erase_88 rfl (lv_at hl 1 rfl) ?_
        refine lv_isub hx hb d_D_erase_89 ?_
        refine wk_top (w := .int (Int32.ofNat (e_eb e k1 - e_ea e k1))) (congrArg _ (pn_sub a1)) ?_
        exact W.iret (v := Int32.ofNat (e_eb e k1 - e_ea e k1)) hx hb hr (fun t ht hW => ⟨⟨_, _, rfl, ⟨rfl, hw⟩, by rw [ht]; exact hP, hD⟩, hS.F ht⟩) hS.2.2 d_D_erase_90
      ·
        exact absurd ((pn_eqN (b := 40) (by clear w tt h; omega) (by decide)).mp hc) (hok hlt2)
  ·
    have heq : ¬ e_lo e < e_hi e := fun z => absurd ((pn_eqN (by clear w tt h; omega) (by clear w tt h; omega)).mp hc) (Nat.ne_of_lt z)
    obtain ⟨c1, c2⟩ := e_eq_c heq
    refine lv_iload_n hx hb d_D_erase_15 rfl (lv_at hl 3 rfl) ?_
    refine lv_if_ge (tgt := 33) hx hb d_D_erase_16 (by decide) (fun hc3 => ?_) (fun hc3 => ?_)
    ·
      refine lv_iload_n hx hb d_D_erase_33 rfl (lv_at hl 1 rfl) ?_
      refine lv_iload_n hx hb d_D_erase_34 rfl (lv_at hl 0 rfl) ?_
      refine lv_icmp_ne (tgt := 58) hx hb d_D_erase_35 (by decide) (fun hc2 => absurd hc hc2) (fun _ => ?_)
      refine lv_aload_n hx hb d_D_erase_38 rfl (lv_at hl 2 rfl) ?_
      refine va_get (D := x.D) (ci := 0) (v := .int (k.I 6)) (C := R_D) (T := F_D) (N := 14) hx hb hts (fun w h => List.mem_cons_of_mem _ (in_D w h)) hown hK hP 0 rfl rfl 6 (by decide) (hts _ (List.mem_cons_of_mem _ lk_437)) (fun _ h9 => h9) rfl d_D_erase_39 ?_
      refine wk_top (w := .int (Int32.ofNat e.c)) (congrArg _ h.hc) ?_
      refine lv_iload_n hx hb d_D_erase_42 rfl (lv_at hl 3 rfl) ?_
      refine lv_aload_n hx hb d_D_erase_43 rfl (lv_at hl 2 rfl) ?_
      refine va_get (D := x.D) (ci := 0) (v := .ref (k.ta e.p)) (C := R_D) (T := F_D) (N := 14) hx hb hts (fun w h => List.mem_cons_of_mem _ (in_D w h)) hown hK hP 0 rfl rfl 5 (by decide) (hts _ (List.mem_cons_of_mem _ lk_241)) (fun _ h9 => h9) rfl d_D_erase_44 ?_
      refine va_alen (v := Int32.ofNat (e.tn e.p)) hx hb hK hP it 0 hit rfl rfl d_D_erase_47 ?_
      refine lv_aload_n hx hb d_D_erase_48 rfl (lv_at hl 2 rfl) ?_
      refine va_get (D := x.D) (ci := 0) (v := .int (k.I 6)) (C := R_D) (T := F_D) (N := 14) hx hb hts (fun w h => List.mem_cons_of_mem _ (in_D w h)) hown hK hP 0 rfl rfl 6 (by decide) (hts _ (List.mem_cons_of_mem _ lk_437)) (fun _ h9 => h9) rfl d_D_erase_49 ?_
      refine wk_top (w := .int (Int32.ofNat e.c)) (congrArg _ h.hc) ?_
      refine lv_isub hx hb d_D_erase_52 ?_
      refine wk_top (w := .int (Int32.ofNat (e.tn e.p - e.c))) (congrArg _ (pn_sub hcb)) ?_
      refine va_mmin hx hb (by rw [hml, hl.1]) hown (hts _ (List.mem_cons_of_mem _ lk_489)) (hts _ (List.mem_cons_of_mem _ lk_490)) (hts _ (List.mem_cons_of_mem _ lk_486)) (hts _ (List.mem_cons_of_mem _ lk_491)) (Nat.le_of_ble_eq_true rfl) (Nat.le_of_ble_eq_true rfl) (Nat.le_of_ble_eq_true rfl) (Nat.le_of_ble_eq_true rfl) d_D_erase_53 ?_
      refine lv_iadd hx hb d_D_erase_56 ?_
      refine wk_top (w := .int (Int32.ofNat (e_eb e k1))) (congrArg _ (er_eb hcb htn hc3 heq)) ?_
      refine lv_istore_n (lv' := [(3, .int (Int32.ofNat (e_eb e k1))), (2, .int (Int32.ofNat (e_lo e))), (0, .ref x.h), (1, .int k1)]) hx hb d_D_erase_57 rfl hl (by decide) rfl (fun ls hl => ?_)
      have hl : lv_has ls 4 [(3, .int (Int32.ofNat (e_eb e k1))), (2, .int (Int32.ofNat (e_lo e))), (0, .ref x.h), (1, .int k1)] := hl
      have ha : e_ea e k1 = e_lo e := er_ea hc3 heq
      have hl := lv_sub hl [2, 1, 0] rfl
      rw [← ha] at hl
      have hl : lv_has ls 4 [(0, .ref x.h), (2, .int (Int32.ofNat (e_ea e k1))), (3, .int (Int32.ofNat (e_eb e k1)))] := hl
      refine lv_iload_n hx hb d_D_erase_58 rfl (lv_at hl 1 rfl) ?_
      refine lv_iload_n hx hb d_D_erase_59 rfl (lv_at hl 2 rfl) ?_
      refine lv_icmp_ge (tgt := 87) hx hb d_D_erase_60 (by decide) (fun hc => ?_) (fun hc => ?_)
      ·
        have hge := (pn_le (by clear w tt h; omega) (by clear w tt h; omega)).mp hc
        have he : e_era e k1 = e := if_neg (fun z => absurd hge (Nat.not_le_of_lt z.1))
        rw [he]
        refine lv_iload_n hx hb d_D_erase_87 rfl (lv_at hl 2 rfl) ?_
        refine lv_iload_n hx hb d_D_erase_88 rfl (lv_at hl 1 rfl) ?_
        refine lv_isub hx hb d_D_erase_89 ?_
        refine wk_top (w := .int (Int32.ofNat (e_eb e k1 - e_ea e k1))) (congrArg _ (pn_sub a1)) ?_
        refine W.widen (k := 2) (n := 164) (Nat.le_of_ble_eq_true rfl) (Nat.le_of_ble_eq_true rfl) ?_
        exact W.iret (v := Int32.ofNat (e_eb e k1 - e_ea e k1)) hx hb hr (fun t ht hW => ⟨⟨_, k, rfl, ⟨rfl, h⟩, by rw [ht]; exact hP, hD⟩, hS.F ht⟩) hS.2.2 d_D_erase_90
      ·
        have hlt2 : e_ea e k1 < e_eb e k1 := Nat.lt_of_not_le (fun z => hc ((pn_le (by clear w tt h; omega) (by clear w tt h; omega)).mpr z))
        refine lv_aload_n hx hb d_D_erase_63 rfl (lv_at hl 0 rfl) ?_
        refine va_get (D := x.D) (ci := 0) (v := .int (k.I 3)) (C := R_D) (T := F_D) (N := 14) hx hb hts (fun w h => List.mem_cons_of_mem _ (in_D w h)) hown hK hP 0 rfl rfl 3 (by decide) (hts _ (List.mem_cons_of_mem _ lk_436)) (fun _ h9 => h9) rfl d_D_erase_64 ?_
        refine wk_top (w := .int (Int32.ofNat e.n)) (congrArg _ h.hn) ?_
        refine lv_bipush (v := 40) hx hb d_D_erase_67 (by decide) ?_
        refine lv_icmp_ne (tgt := 80) hx hb d_D_erase_69 (by decide) (fun hc => ?_) (fun hc => ?_)
        ·
          have hn := hok hlt2
          have he : e_era e k1 = e_edit e (e_exl e (e_ea e k1) (e_eb e k1) 0) (e_ext e (e_ea e k1) (e_eb e k1) 0) (e_ea e k1 + 0) := if_pos ⟨hlt2, hn⟩
          rw [he]
          refine lv_aload_n hx hb d_D_erase_80 rfl (lv_at hl 0 rfl) ?_
          refine lv_iload_n hx hb d_D_erase_81 rfl (lv_at hl 1 rfl) ?_
          refine lv_iload_n hx hb d_D_erase_82 rfl (lv_at hl 2 rfl) ?_
          refine lv_iconst (v := 0) hx hb d_D_erase_83 (by decide) ?_
          have hFc := va_freeM (wc := KW x k e) hD hS hA (fun _ h9 => h9)
          refine va_callv (va_runV (As := [.int (Int32.ofNat (e_ea e k1)), .int (Int32.ofNat (e_eb e k1)), .int 0]) (rest := []) ⟨hx, hb, hml, hown, hts⟩ (K_exchange l x h w (show e.n < 40 by clear w tt h; omega) a1 a2 (Nat.zero_le e.sn) (show e_exl e (e_ea e k1) (e_eb e k1) 0 ≤ 160 by clear w tt h; omega) _) (cwV 3 hts (gd_v lk_513 lk_514 lk_515 lk_444 lk_512) rfl rfl rfl (by decide +kernel) ⟨Nat.le_of_ble_eq_true rfl, Nat.le_of_ble_eq_true rfl⟩) ⟨fun a U g mk q => by obtain ⟨q0, q1, qP, qK, qD⟩ := q; exact ⟨q0, q1, qP, va_K.moved (u := U) (U := U.calling g mk a) (Vm.Alike.refl U.vm) qK, qD⟩, va_recv (ci := 0) (q0 := 0) hK hP rfl rfl, fun U hU hW => ⟨rfl, by rw [hU], by rw [hU]; exact hP, va_K.moved hW.alike hK, hD.weaken (fun _ _ _ _ => trivial)⟩⟩ rfl rfl hl.1 rfl (lv_room (Nat.le_of_ble_eq_true rfl)) d_D_erase_84 ⟨Nat.le_of_ble_eq_true rfl, Nat.le_of_ble_eq_true rfl⟩) hS (fun q _ h => hFc q h) hFc (fun kn t H1 locs ht hvm hw hB hz1 hk1 hS => ?_)
          obtain ⟨hP1, hD1⟩ := hB
          rw [ht] at hP1
          have hP := hP1
          have hD := hD1.weaken (fun _ q _ h => hFc q.1 h)
          clear hP1 hD1 hFc hk1 hz1
          refine W.cs (cells' := 2) (slots' := 164) rfl rfl ?_
          refine lv_iload_n hx hb d_D_erase_87 rfl (lv_at hl 2 rfl) ?_
          refine lv_iload_n hx hb d_D_erase_88 rfl (lv_at hl 1 rfl) ?_
          refine lv_isub hx hb d_D_erase_89 ?_
          refine wk_top (w := .int (Int32.ofNat (e_eb e k1 - e_ea e k1))) (congrArg _ (pn_sub a1)) ?_
          exact W.iret (v := Int32.ofNat (e_eb e k1 - e_ea e k1)) hx hb hr (fun t ht hW => ⟨⟨_, _, rfl, ⟨rfl, hw⟩, by rw [ht]; exact hP, hD⟩, hS.F ht⟩) hS.2.2 d_D_erase_90
        ·
          exact absurd ((pn_eqN (b := 40) (by clear w tt h; omega) (by decide)).mp hc) (hok hlt2)
    ·
      have hk0 : k1 < 0 := er_neg hc3
      refine lv_iconst (v := 0) hx hb d_D_erase_19 (by decide) ?_
      refine lv_aload_n hx hb d_D_erase_20 rfl (lv_at hl 2 rfl) ?_
      refine va_get (D := x.D) (ci := 0) (v := .int (k.I 6)) (C := R_D) (T := F_D) (N := 14) hx hb hts (fun w h => List.mem_cons_of_mem _ (in_D w h)) hown hK hP 0 rfl rfl 6 (by decide) (hts _ (List.mem_cons_of_mem _ lk_437)) (fun _ h9 => h9) rfl d_D_erase_21 ?_
      refine wk_top (w := .int (Int32.ofNat e.c)) (congrArg _ h.hc) ?_
      refine lv_iload_n hx hb d_D_erase_24 rfl (lv_at hl 3 rfl) ?_
      refine lv_iadd hx hb d_D_erase_25 ?_
      refine va_mmax hx hb (by rw [hml, hl.1]) hown (hts _ (List.mem_cons_of_mem _ lk_484)) (hts _ (List.mem_cons_of_mem _ lk_485)) (hts _ (List.mem_cons_of_mem _ lk_486)) (hts _ (List.mem_cons_of_mem _ lk_487)) (Nat.le_of_ble_eq_true rfl) (Nat.le_of_ble_eq_true rfl) (Nat.le_of_ble_eq_true rfl) (Nat.le_of_ble_eq_true rfl) d_D_erase_26 ?_
      refine wk_top (w := .int (Int32.ofNat (e_ea e k1))) (congrArg _ (er_ea2 hcb htn hk0 heq)) ?_
      refine lv_istore_n (lv' := [(2, .int (Int32.ofNat (e_ea e k1))), (3, .int (Int32.ofNat (e_hi e))), (0, .ref x.h), (1, .int k1)]) hx hb d_D_erase_29 rfl hl (by decide) rfl (fun ls hl => ?_)
      have hl : lv_has ls 4 [(2, .int (Int32.ofNat (e_ea e k1))), (3, .int (Int32.ofNat (e_hi e))), (0, .ref x.h), (1, .int k1)] := hl
      refine lv_goto (tgt := 58) hx hb d_D_erase_30 (by decide) ?_
      have hb9 : e_eb e k1 = e_hi e := er_eb2 hk0 heq
      have hl := lv_sub hl [2, 0, 1] rfl
      rw [← hb9] at hl
      have hl : lv_has ls 4 [(0, .ref x.h), (2, .int (Int32.ofNat (e_ea e k1))), (3, .int (Int32.ofNat (e_eb e k1)))] := hl
      refine lv_iload_n hx hb d_D_erase_58 rfl (lv_at hl 1 rfl) ?_
      refine lv_iload_n hx hb d_D_erase_59 rfl (lv_at hl 2 rfl) ?_
      refine lv_icmp_ge (tgt := 87) hx hb d_D_erase_60 (by decide) (fun hc => ?_) (fun hc => ?_)
      ·
        have hge := (pn_le (by clear w tt h; omega) (by clear w tt h; omega)).mp hc
        have he : e_era e k1 = e := if_neg (fun z => absurd hge (Nat.not_le_of_lt z.1))
        rw [he]
        refine lv_iload_n hx hb d_D_erase_87 rfl (lv_at hl 2 rfl) ?_
        refine lv_iload_n hx hb d_D_erase_88 rfl (lv_at hl 1 rfl) ?_
        refine lv_isub hx hb d_D_erase_89 ?_
        refine wk_top (w := .int (Int32.ofNat (e_eb e k1 - e_ea e k1))) (congrArg _ (pn_sub a1)) ?_
        refine W.widen (k := 2) (n := 164) (Nat.le_of_ble_eq_true rfl) (Nat.le_of_ble_eq_true rfl) ?_
        exact W.iret (v := Int32.ofNat (e_eb e k1 - e_ea e k1)) hx hb hr (fun t ht hW => ⟨⟨_, k, rfl, ⟨rfl, h⟩, by rw [ht]; exact hP, hD⟩, hS.F ht⟩) hS.2.2 d_D_erase_90
      ·
        have hlt2 : e_ea e k1 < e_eb e k1 := Nat.lt_of_not_le (fun z => hc ((pn_le (by clear w tt h; omega) (by clear w tt h; omega)).mpr z))
        refine lv_aload_n hx hb d_D_erase_63 rfl (lv_at hl 0 rfl) ?_
        refine va_get (D := x.D) (ci := 0) (v := .int (k.I 3)) (C := R_D) (T := F_D) (N := 14) hx hb hts (fun w h => List.mem_cons_of_mem _ (in_D w h)) hown hK hP 0 rfl rfl 3 (by decide) (hts _ (List.mem_cons_of_mem _ lk_436)) (fun _ h9 => h9) rfl d_D_erase_64 ?_
        refine wk_top (w := .int (Int32.ofNat e.n)) (congrArg _ h.hn) ?_
        refine lv_bipush (v := 40) hx hb d_D_erase_67 (by decide) ?_
        refine lv_icmp_ne (tgt := 80) hx hb d_D_erase_69 (by decide) (fun hc => ?_) (fun hc => ?_)
        ·
          have hn := hok hlt2
          have he : e_era e k1 = e_edit e (e_exl e (e_ea e k1) (e_eb e k1) 0) (e_ext e (e_ea e k1) (e_eb e k1) 0) (e_ea e k1 + 0) := if_pos ⟨hlt2, hn⟩
          rw [he]
          refine lv_aload_n hx hb d_D_erase_80 rfl (lv_at hl 0 rfl) ?_
          refine lv_iload_n hx hb d_D_erase_81 rfl (lv_at hl 1 rfl) ?_
          refine lv_iload_n hx hb d_D_erase_82 rfl (lv_at hl 2 rfl) ?_
          refine lv_iconst (v := 0) hx hb d_D_erase_83 (by decide) ?_
          have hFc := va_freeM (wc := KW x k e) hD hS hA (fun _ h9 => h9)
          refine va_callv (va_runV (As := [.int (Int32.ofNat (e_ea e k1)), .int (Int32.ofNat (e_eb e k1)), .int 0]) (rest := []) ⟨hx, hb, hml, hown, hts⟩ (K_exchange l x h w (show e.n < 40 by clear w tt h; omega) a1 a2 (Nat.zero_le e.sn) (show e_exl e (e_ea e k1) (e_eb e k1) 0 ≤ 160 by clear w tt h; omega) _) (cwV 3 hts (gd_v lk_513 lk_514 lk_515 lk_444 lk_512) rfl rfl rfl (by decide +kernel) ⟨Nat.le_of_ble_eq_true rfl, Nat.le_of_ble_eq_true rfl⟩) ⟨fun a U g mk q => by obtain ⟨q0, q1, qP, qK, qD⟩ := q; exact ⟨q0, q1, qP, va_K.moved (u := U) (U := U.calling g mk a) (Vm.Alike.refl U.vm) qK, qD⟩, va_recv (ci := 0) (q0 := 0) hK hP rfl rfl, fun U hU hW => ⟨rfl, by rw [hU], by rw [hU]; exact hP, va_K.moved hW.alike hK, hD.weaken (fun _ _ _ _ => trivial)⟩⟩ rfl rfl hl.1 rfl (lv_room (Nat.le_of_ble_eq_true rfl)) d_D_erase_84 ⟨Nat.le_of_ble_eq_true rfl, Nat.le_of_ble_eq_true rfl⟩) hS (fun q _ h => hFc q h) hFc (fun kn t H1 locs ht hvm hw hB hz1 hk1 hS => ?_)
          obtain ⟨hP1, hD1⟩ := hB
          rw [ht] at hP1
          have hP := hP1
          have hD := hD1.weaken (fun _ q _ h => hFc q.1 h)
          clear hP1 hD1 hFc hk1 hz1
          refine W.cs (cells' := 2) (slots' := 164) rfl rfl ?_
          refine lv_iload_n hx hb d_D_erase_87 rfl (lv_at hl 2 rfl) ?_
          refine lv_iload_n hx hb d_D_erase_88 rfl (lv_at hl 1 rfl) ?_
          refine lv_isub hx hb d_D_erase_89 ?_
          refine wk_top (w := .int (Int32.ofNat (e_eb e k1 - e_ea e k1))) (congrArg _ (pn_sub a1)) ?_
          exact W.iret (v := Int32.ofNat (e_eb e k1 - e_ea e k1)) hx hb hr (fun t ht hW => ⟨⟨_, _, rfl, ⟨rfl, hw⟩, by rw [ht]; exact hP, hD⟩, hS.F ht⟩) hS.2.2 d_D_erase_90
        ·
          exact absurd ((pn_eqN (b := 40) (by clear w tt h; omega) (by decide)).mp hc) (hok hlt2)
set_option maxHeartbeats 8000000 in
set_option maxRecDepth 100000 in
theorem Kt_erase (l : Launch) (hfl : l.flags = flags0) (x : FX) {k : CK} {e : ES} (h : CRel e k) (w : EWf e) {k1 : Int32} (hlt : e_ea e k1 < e_eb e k1) (hn : e.n = 40) : KThr l x y_D_erase w_D_erase ({ frames := 6, cells := 1, slots := 6, locals := 120 }) [.ref x.h, .int k1] k e 1 6 "java/lang/IllegalStateException" e := by
  refine ⟨k, h, fun sz => ?_⟩
  have tt := w.tt _ w.pb
  have htn := tt.nb
  have hsb := w.sb
  have hpb := w.pb
  have hn2 := w.n2
  have hcb := w.cb
  obtain ⟨l1, l2⟩ := e_lo_le w
  obtain ⟨a1, a2⟩ := e_ea_le w k1
  have hel : e_exl e (e_ea e k1) (e_eb e k1) 0 = e.tn e.p - (e_eb e k1 - e_ea e k1) + 0 := rfl
  refine th_Met.ofW (cc := prog_1_method_5_code) (maxL := 4) (ret := some .int) (by decide) rfl ?_
  intro p en s m args below meth c s₁ B hml hnh hv
  obtain ⟨rfl, hsz, hP, hK, hD0, hZ⟩ := hv
  have hx := B.exec
  have hb := B.bytes
  have hr := B.returns
  have hts := atoms_spec (ws := w_D_erase) B.pre
  have hown : s.vm.findClass "DraftTree" = some m.cls := findClass_of_methodNamed B.named
  have hlocks := B.notSynchronized
  have htr := Launch.traces_off hfl B.admits
  subst hsz
  have hD := hD0.self (sz := s.heap.size)
  generalize hAe : va_A (KW x k e) s.heap.size = B9 at hD hZ ⊢
  have hA : ∀ q : Nat, s.heap.size ≤ q → B9 q := fun q h => by rw [← hAe]; exact Or.inr h
  clear hAe
  have hS : va_S B9 s.heap s.heap [] := va_S.rf
  have hl := lv_entry ([.ref x.h, .int k1]) (n := 4) (Nat.le_of_ble_eq_true rfl)
  rw [lg_entry_eq]
  generalize (lg_sl ([.ref x.h, .int k1]) ++ List.replicate (4 - (lg_sl ([.ref x.h, .int k1])).length) Slot.unset).toArray = ls at hl ⊢
  have hl : lv_has ls 4 [(0, .ref x.h), (1, .int k1)] := hl
  obtain ⟨it, hit⟩ := List.getElem?_of_mem (kE_in x k w.pb)
  refine lv_aload_n hx hb d_D_erase_0 rfl (lv_at hl 0 rfl) ?_
  have hFc := va_freeM (wc := KW x k e) hD hS hA (fun _ h9 => h9)
  refine va_calli (va_runV (As := []) (rest := []) ⟨hx, hb, hml, hown, hts⟩ (K_selS l x h w _) (cwV 0 hts (gd_v lk_506 lk_507 lk_508 lk_444 lk_492) rfl rfl rfl (by decide +kernel) ⟨Nat.le_of_ble_eq_true rfl, Nat.le_of_ble_eq_true rfl⟩) ⟨fun a U g mk q => by obtain ⟨q0, q1, qP, qK, qD⟩ := q; exact ⟨q0, q1, qP, va_K.moved (u := U) (U := U.calling g mk a) (Vm.Alike.refl U.vm) qK, qD⟩, va_recv (ci := 0) (q0 := 0) hK hP rfl rfl, fun U hU hW => ⟨rfl, by rw [hU], by rw [hU]; exact hP, va_K.moved hW.alike hK, hD.weaken (fun _ _ _ _ => trivial)⟩⟩ rfl rfl hl.1 rfl (lv_room (Nat.le_of_ble_eq_true rfl)) d_D_erase_1 ⟨Nat.le_of_ble_eq_true rfl, Nat.le_of_ble_eq_true rfl⟩) hS (fun q _ h => hFc q h) hFc (fun r9 kn t H1 locs ht hvm hw hB hz1 hk1 hS => ?_)
  obtain ⟨hP1, hD1⟩ := hB
  rw [ht] at hP1
  have hP := hP1
  have hD := hD1.weaken (fun _ q _ h => hFc q.1 h)
  clear hP1 hD1 hFc hk1 hz1
  subst hw
  refine lv_istore_n (lv' := [(2, .int (Int32.ofNat (e_lo e))), (0, .ref x.h), (1, .int k1)]) hx hb d_D_erase_4 rfl hl (by decide) rfl (fun ls hl => ?_)
  have hl : lv_has ls 4 [(2, .int (Int32.ofNat (e_lo e))), (0, .ref x.h), (1, .int k1)] := hl
  refine lv_aload_n hx hb d_D_erase_5 rfl (lv_at hl 1 rfl) ?_
  have hFc := va_freeM (wc := KW x k e) hD hS hA (fun _ h9 => h9)
  refine va_calli (va_runV (As := []) (rest := []) ⟨hx, hb, hml, hown, hts⟩ (K_selE l x h w _) (cwV 0 hts (gd_v lk_509 lk_510 lk_511 lk_444 lk_488) rfl rfl rfl (by decide +kernel) ⟨Nat.le_of_ble_eq_true rfl, Nat.le_of_ble_eq_true rfl⟩) ⟨fun a U g mk q => by obtain ⟨q0, q1, qP, qK, qD⟩ := q; exact ⟨q0, q1, qP, va_K.moved (u := U) (U := U.calling g mk a) (Vm.Alike.refl U.vm) qK, qD⟩, va_recv (ci := 0) (q0 := 0) hK hP rfl rfl, fun U hU hW => ⟨rfl, by rw [hU], by rw [hU]; exact hP, va_K.moved hW.alike hK, hD.weaken (fun _ _ _ _ => trivial)⟩⟩ rfl rfl hl.1 rfl (lv_room (Nat.le_of_ble_eq_true rfl)) d_D_erase_6 ⟨Nat.le_of_ble_eq_true rfl, Nat.le_of_ble_eq_true rfl⟩) hS (fun q _ h => hFc q h) hFc (fun r9 kn t H1 locs ht hvm hw hB hz1 hk1 hS => ?_)
  obtain ⟨hP1, hD1⟩ := hB
  rw [ht] at hP1
  have hP := hP1
  have hD := hD1.weaken (fun _ q _ h => hFc q.1 h)
  clear hP1 hD1 hFc hk1 hz1
  subst hw
  refine lv_istore_n (lv' := [(3, .int (Int32.ofNat (e_hi e))), (2, .int (Int32.ofNat (e_lo e))), (0, .ref x.h), (1, .int k1)]) hx hb d_D_erase_9 rfl hl (by decide) rfl (fun ls hl => ?_)
  have hl : lv_has ls 4 [(3, .int (Int32.ofNat (e_hi e))), (2, .int (Int32.ofNat (e_lo e))), (0, .ref x.h), (1, .int k1)] := hl
  refine lv_iload_n hx hb d_D_erase_10 rfl (lv_at hl 1 rfl) ?_
  refine lv_iload_n hx hb d_D_erase_11 rfl (lv_at hl 0 rfl) ?_
  refine lv_icmp_ne (tgt := 33) hx hb d_D_erase_12 (by decide) (fun hc => ?_) (fun hc => ?_)
  ·
    have hne : e_lo e < e_hi e := Nat.lt_of_le_of_ne l1 (fun z => hc (congrArg Int32.ofNat z))
    refine lv_iload_n hx hb d_D_erase_33 rfl (lv_at hl 1 rfl) ?_
    refine lv_iload_n hx hb d_D_erase_34 rfl (lv_at hl 0 rfl) ?_
    refine lv_icmp_ne (tgt := 58) hx hb d_D_erase_35 (by decide) (fun _ => ?_) (fun hc2 => absurd hc2 hc)
    have ha : e_ea e k1 = e_lo e := if_pos hne
    have hb9 : e_eb e k1 = e_hi e := if_pos hne
    have hl := lv_sub hl [2, 1, 0] rfl
    rw [← ha, ← hb9] at hl
    have hl : lv_has ls 4 [(0, .ref x.h), (2, .int (Int32.ofNat (e_ea e k1))), (3, .int (Int32.ofNat (e_eb e k1)))] := hl
    refine lv_iload_n hx hb d_D_erase_58 rfl (lv_at hl 1 rfl) ?_
    refine lv_iload_n hx hb d_D_erase_59 rfl (lv_at hl 2 rfl) ?_
    refine lv_icmp_ge (tgt := 87) hx hb d_D_erase_60 (by decide) (fun hc => ?_) (fun hc => ?_)
    ·
      have hge := (pn_le (by clear w tt h; omega) (by clear w tt h; omega)).mp hc
      exact absurd hge (by clear w tt h; omega)
    ·
      have hlt2 : e_ea e k1 < e_eb e k1 := Nat.lt_of_not_le (fun z => hc ((pn_le (by clear w tt h; omega) (by clear w tt h; omega)).mpr z))
      refine lv_aload_n hx hb d_D_erase_63 rfl (lv_at hl 0 rfl) ?_
      refine va_get (D := x.D) (ci := 0) (v := .int (k.I 3)) (C := R_D) (T := F_D) (N := 14) hx hb hts (fun w h => List.mem_cons_of_mem _ (in_D w h)) hown hK hP 0 rfl rfl 3 (by decide) (hts _ (List.mem_cons_of_mem _ lk_436)) (fun _ h9 => h9) rfl d_D_erase_64 ?_
      refine wk_top (w := .int (Int32.ofNat e.n)) (congrArg _ h.hn) ?_
      refine lv_bipush (v := 40) hx hb d_D_erase_67 (by decide) ?_
      refine lv_icmp_ne (tgt := 80) hx hb d_D_erase_69 (by decide) (fun hc => ?_) (fun hc => ?_)
      ·
        exact absurd (show Int32.ofNat e.n = 40 by rw [hn]; rfl) hc
      ·
        exact th_newG hx hb htr hown (by decide) (by decide) (wk_thr hts hZ hS lk_445 lk_446 (fun _ a9 b9 => oa_2 a9 b9)) hnh (by rw [hl.1, hml]) hS (Nat.le_of_ble_eq_true rfl) (Nat.le_of_ble_eq_true rfl) (Nat.le_of_ble_eq_true rfl) (Nat.le_of_ble_eq_true rfl) (Nat.le_of_ble_eq_true rfl) (Nat.le_of_ble_eq_true rfl) hlocks (fun t hal hk => ⟨hP.kept (fun k q hq => hk _ (hP k q hq).lt), hD⟩) d_D_erase_72 d_D_erase_75 d_D_erase_76 d_D_erase_79
  ·
    have heq : ¬ e_lo e < e_hi e := fun z => absurd ((pn_eqN (by clear w tt h; omega) (by clear w tt h; omega)).mp hc) (Nat.ne_of_lt z)
    obtain ⟨c1, c2⟩ := e_eq_c heq
    refine lv_iload_n hx hb d_D_erase_15 rfl (lv_at hl 3 rfl) ?_
    refine lv_if_ge (tgt := 33) hx hb d_D_erase_16 (by decide) (fun hc3 => ?_) (fun hc3 => ?_)
    ·
      refine lv_iload_n hx hb d_D_erase_33 rfl (lv_at hl 1 rfl) ?_
      refine lv_iload_n hx hb d_D_erase_34 rfl (lv_at hl 0 rfl) ?_
      refine lv_icmp_ne (tgt := 58) hx hb d_D_erase_35 (by decide) (fun hc2 => absurd hc hc2) (fun _ => ?_)
      refine lv_aload_n hx hb d_D_erase_38 rfl (lv_at hl 2 rfl) ?_
      refine va_get (D := x.D) (ci := 0) (v := .int (k.I 6)) (C := R_D) (T := F_D) (N := 14) hx hb hts (fun w h => List.mem_cons_of_mem _ (in_D w h)) hown hK hP 0 rfl rfl 6 (by decide) (hts _ (List.mem_cons_of_mem _ lk_437)) (fun _ h9 => h9) rfl d_D_erase_39 ?_
      refine wk_top (w := .int (Int32.ofNat e.c)) (congrArg _ h.hc) ?_
      refine lv_iload_n hx hb d_D_erase_42 rfl (lv_at hl 3 rfl) ?_
      refine lv_aload_n hx hb d_D_erase_43 rfl (lv_at hl 2 rfl) ?_
      refine va_get (D := x.D) (ci := 0) (v := .ref (k.ta e.p)) (C := R_D) (T := F_D) (N := 14) hx hb hts (fun w h => List.mem_cons_of_mem _ (in_D w h)) hown hK hP 0 rfl rfl 5 (by decide) (hts _ (List.mem_cons_of_mem _ lk_241)) (fun _ h9 => h9) rfl d_D_erase_44 ?_
      refine va_alen (v := Int32.ofNat (e.tn e.p)) hx hb hK hP it 0 hit rfl rfl d_D_erase_47 ?_
      refine lv_aload_n hx hb d_D_erase_48 rfl (lv_at hl 2 rfl) ?_
      refine va_get (D := x.D) (ci := 0) (v := .int (k.I 6)) (C := R_D) (T := F_D) (N := 14) hx hb hts (fun w h => List.mem_cons_of_mem _ (in_D w h)) hown hK hP 0 rfl rfl 6 (by decide) (hts _ (List.mem_cons_of_mem _ lk_437)) (fun _ h9 => h9) rfl d_D_erase_49 ?_
      refine wk_top (w := .int (Int32.ofNat e.c)) (congrArg _ h.hc) ?_
      refine lv_isub hx hb d_D_erase_52 ?_
      refine wk_top (w := .int (Int32.ofNat (e.tn e.p - e.c))) (congrArg _ (pn_sub hcb)) ?_
      refine va_mmin hx hb (by rw [hml, hl.1]) hown (hts _ (List.mem_cons_of_mem _ lk_489)) (hts _ (List.mem_cons_of_mem _ lk_490)) (hts _ (List.mem_cons_of_mem _ lk_486)) (hts _ (List.mem_cons_of_mem _ lk_491)) (Nat.le_of_ble_eq_true rfl) (Nat.le_of_ble_eq_true rfl) (Nat.le_of_ble_eq_true rfl) (Nat.le_of_ble_eq_true rfl) d_D_erase_53 ?_
      refine lv_iadd hx hb d_D_erase_56 ?_
      refine wk_top (w := .int (Int32.ofNat (e_eb e k1))) (congrArg _ (er_eb hcb htn hc3 heq)) ?_
      refine lv_istore_n (lv' := [(3, .int (Int32.ofNat (e_eb e k1))), (2, .int (Int32.ofNat (e_lo e))), (0, .ref x.h), (1, .int k1)]) hx hb d_D_erase_57 rfl hl (by decide) rfl (fun ls hl => ?_)
      have hl : lv_has ls 4 [(3, .int (Int32.ofNat (e_eb e k1))), (2, .int (Int32.ofNat (e_lo e))), (0, .ref x.h), (1, .int k1)] := hl
      have ha : e_ea e k1 = e_lo e := er_ea hc3 heq
      have hl := lv_sub hl [2, 1, 0] rfl
      rw [← ha] at hl
      have hl : lv_has ls 4 [(0, .ref x.h), (2, .int (Int32.ofNat (e_ea e k1))), (3, .int (Int32.ofNat (e_eb e k1)))] := hl
      refine lv_iload_n hx hb d_D_erase_58 rfl (lv_at hl 1 rfl) ?_
      refine lv_iload_n hx hb d_D_erase_59 rfl (lv_at hl 2 rfl) ?_
      refine lv_icmp_ge (tgt := 87) hx hb d_D_erase_60 (by decide) (fun hc => ?_) (fun hc => ?_)
      ·
        have hge := (pn_le (by clear w tt h; omega) (by clear w tt h; omega)).mp hc
        exact absurd hge (by clear w tt h; omega)
      ·
        have hlt2 : e_ea e k1 < e_eb e k1 := Nat.lt_of_not_le (fun z => hc ((pn_le (by clear w tt h; omega) (by clear w tt h; omega)).mpr z))
        refine lv_aload_n hx hb d_D_erase_63 rfl (lv_at hl 0 rfl) ?_
        refine va_get (D := x.D) (ci := 0) (v := .int (k.I 3)) (C := R_D) (T := F_D) (N := 14) hx hb hts (fun w h => List.mem_cons_of_mem _ (in_D w h)) hown hK hP 0 rfl rfl 3 (by decide) (hts _ (List.mem_cons_of_mem _ lk_436)) (fun _ h9 => h9) rfl d_D_erase_64 ?_
        refine wk_top (w := .int (Int32.ofNat e.n)) (congrArg _ h.hn) ?_
        refine lv_bipush (v := 40) hx hb d_D_erase_67 (by decide) ?_
        refine lv_icmp_ne (tgt := 80) hx hb d_D_erase_69 (by decide) (fun hc => ?_) (fun hc => ?_)
        ·
          exact absurd (show Int32.ofNat e.n = 40 by rw [hn]; rfl) hc
        ·
          exact th_newG hx hb htr hown (by decide) (by decide) (wk_thr hts hZ hS lk_445 lk_446 (fun _ a9 b9 => oa_2 a9 b9)) hnh (by rw [hl.1, hml]) hS (Nat.le_of_ble_eq_true rfl) (Nat.le_of_ble_eq_true rfl) (Nat.le_of_ble_eq_true rfl) (Nat.le_of_ble_eq_true rfl) (Nat.le_of_ble_eq_true rfl) (Nat.le_of_ble_eq_true rfl) hlocks (fun t hal hk => ⟨hP.kept (fun k q hq => hk _ (hP k q hq).lt), hD⟩) d_D_erase_72 d_D_erase_75 d_D_erase_76 d_D_erase_79
    ·
      have hk0 : k1 < 0 := er_neg hc3
      refine lv_iconst (v := 0) hx hb d_D_erase_19 (by decide) ?_
      refine lv_aload_n hx hb d_D_erase_20 rfl (lv_at hl 2 rfl) ?_
      refine va_get (D := x.D) (ci := 0) (v := .int (k.I 6)) (C := R_D) (T := F_D) (N := 14) hx hb hts (fun w h => List.mem_cons_of_mem _ (in_D w h)) hown hK hP 0 rfl rfl 6 (by decide) (hts _ (List.mem_cons_of_mem _ lk_437)) (fun _ h9 => h9) rfl d_D_erase_21 ?_
      refine wk_top (w := .int (Int32.ofNat e.c)) (congrArg _ h.hc) ?_
      refine lv_iload_n hx hb d_D_erase_24 rfl (lv_at hl 3 rfl) ?_
      refine lv_iadd hx hb d_D_erase_25 ?_
      refine va_mmax hx hb (by rw [hml, hl.1]) hown (hts _ (List.mem_cons_of_mem _ lk_484)) (hts _ (List.mem_cons_of_mem _ lk_485)) (hts _ (List.mem_cons_of_mem _ lk_486)) (hts _ (List.mem_cons_of_mem _ lk_487)) (Nat.le_of_ble_eq_true rfl) (Nat.le_of_ble_eq_true rfl) (Nat.le_of_ble_eq_true rfl) (Nat.le_of_ble_eq_true rfl) d_D_erase_26 ?_
      refine wk_top (w := .int (Int32.ofNat (e_ea e k1))) (congrArg _ (er_ea2 hcb htn hk0 heq)) ?_
      refine lv_istore_n (lv' := [(2, .int (Int32.ofNat (e_ea e k1))), (3, .int (Int32.ofNat (e_hi e))), (0, .ref x.h), (1, .int k1)]) hx hb d_D_erase_29 rfl hl (by decide) rfl (fun ls hl => ?_)
      have hl : lv_has ls 4 [(2, .int (Int32.ofNat (e_ea e k1))), (3, .int (Int32.ofNat (e_hi e))), (0, .ref x.h), (1, .int k1)] := hl
      refine lv_goto (tgt := 58) hx hb d_D_erase_30 (by decide) ?_
      have hb9 : e_eb e k1 = e_hi e := er_eb2 hk0 heq
      have hl := lv_sub hl [2, 0, 1] rfl
      rw [← hb9] at hl
      have hl : lv_has ls 4 [(0, .ref x.h), (2, .int (Int32.ofNat (e_ea e k1))), (3, .int (Int32.ofNat (e_eb e k1)))] := hl
      refine lv_iload_n hx hb d_D_erase_58 rfl (lv_at hl 1 rfl) ?_
      refine lv_iload_n hx hb d_D_erase_59 rfl (lv_at hl 2 rfl) ?_
      refine lv_icmp_ge (tgt := 87) hx hb d_D_erase_60 (by decide) (fun hc => ?_) (fun hc => ?_)
      ·
        have hge := (pn_le (by clear w tt h; omega) (by clear w tt h; omega)).mp hc
        exact absurd hge (by clear w tt h; omega)
      ·
        have hlt2 : e_ea e k1 < e_eb e k1 := Nat.lt_of_not_le (fun z => hc ((pn_le (by clear w tt h; omega) (by clear w tt h; omega)).mpr z))
        refine lv_aload_n hx hb d_D_erase_63 rfl (lv_at hl 0 rfl) ?_
        refine va_get (D := x.D) (ci := 0) (v := .int (k.I 3)) (C := R_D) (T := F_D) (N := 14) hx hb hts (fun w h => List.mem_cons_of_mem _ (in_D w h)) hown hK hP 0 rfl rfl 3 (by decide) (hts _ (List.mem_cons_of_mem _ lk_436)) (fun _ h9 => h9) rfl d_D_erase_64 ?_
        refine wk_top (w := .int (Int32.ofNat e.n)) (congrArg _ h.hn) ?_
        refine lv_bipush (v := 40) hx hb d_D_erase_67 (by decide) ?_
        refine lv_icmp_ne (tgt := 80) hx hb d_D_erase_69 (by decide) (fun hc => ?_) (fun hc => ?_)
        ·
          exact absurd (show Int32.ofNat e.n = 40 by rw [hn]; rfl) hc
        ·
          exact th_newG hx hb htr hown (by decide) (by decide) (wk_thr hts hZ hS lk_445 lk_446 (fun _ a9 b9 => oa_2 a9 b9)) hnh (by rw [hl.1, hml]) hS (Nat.le_of_ble_eq_true rfl) (Nat.le_of_ble_eq_true rfl) (Nat.le_of_ble_eq_true rfl) (Nat.le_of_ble_eq_true rfl) (Nat.le_of_ble_eq_true rfl) (Nat.le_of_ble_eq_true rfl) hlocks (fun t hal hk => ⟨hP.kept (fun k q hq => hk _ (hP k q hq).lt), hD⟩) d_D_erase_72 d_D_erase_75 d_D_erase_76 d_D_erase_79
set_option maxHeartbeats 8000000 in
set_option maxRecDepth 100000 in
theorem K_replace (l : Launch) (x : FX) {k : CK} {e : ES} (h : CRel e k) (w : EWf e) (hh : e.has = true) {ms : List (Nat × Nat)} (hms : Ms (e_R e) (e.tn e.p) 0 ms) (hrok : e_rok e ms = true) : KRetI l x y_D_replace w_D_replace ({ frames := 7, cells := 2, slots := 164, locals := 160 }) [.ref x.h] k e 2 164 (Int32.ofNat ms.length) (e_rep e ms) := by
  obtain ⟨A', M', hC2, hmA, hcoll⟩ := K_coll l x h w hh hms
  obtain ⟨k2, hk2⟩ : ∃ k2, k2 = k.dw k.I A' M' k.MB k.L := ⟨_, rfl⟩
  have hmA : msA k2.A 0 ms := by rw [hk2]; exact hmA
  rw [← hk2] at hC2 hcoll
  intro sz
  have tt := w.tt _ w.pb
  have htn := tt.nb
  have hsb := w.sb
  have hpb := w.pb
  have hn2 := w.n2
  have hcb := w.cb
  obtain ⟨l1, l2⟩ := e_lo_le w
  have hlen := Ms.len ms 0 (Nat.zero_le _) hms
  have hrl : rp_len e.sn (e.tn e.p) 0 ms < 2147483648 := rp_small (by clear w tt h hC2 hms hmA; omega) (by clear w tt h hC2 hms hmA; omega) ms 0 (Nat.zero_le _) hms
  refine Met.ofW (cc := prog_1_method_10_code) (maxL := 3) (ret := some .int) (by decide) rfl ?_
  intro p en s m args below meth c s₁ B hml hv
  obtain ⟨rfl, hsz, hP, hK, hD0⟩ := hv
  have hx := B.exec
  have hb := B.bytes
  have hr := B.returns
  have hts := atoms_spec (ws := w_D_replace) B.pre
  have hown : s.vm.findClass "DraftTree" = some m.cls := findClass_of_methodNamed B.named
  have hlocks := B.notSynchronized
  subst hsz
  have hD := hD0.self (sz := s.heap.size)
  generalize hAe : va_A (KW x k e) s.heap.size = B9 at hD ⊢
  have hA : ∀ q : Nat, s.heap.size ≤ q → B9 q := fun q h => by rw [← hAe]; exact Or.inr h
  clear hAe
  have hS : va_S B9 s.heap s.heap [] := va_S.rf
  have hl := lv_entry ([.ref x.h]) (n := 3) (Nat.le_of_ble_eq_true rfl)
  rw [lg_entry_eq]
  generalize (lg_sl ([.ref x.h]) ++ List.replicate (3 - (lg_sl ([.ref x.h])).length) Slot.unset).toArray = ls at hl ⊢
  have hl : lv_has ls 3 [(0, .ref x.h)] := hl
  obtain ⟨it, hit⟩ := List.getElem?_of_mem (kE_in x k w.pb)
  refine lv_aload_n hx hb d_D_replace_0 rfl (lv_at hl 0 rfl) ?_
  refine va_get (D := x.D) (ci := 0) (v := .int (k.I 10)) (C := R_D) (T := F_D) (N := 14) hx hb hts (fun w h => List.mem_cons_of_mem _ (in_D w h)) hown hK hP 0 rfl rfl 10 (by decide) (hts _ (List.mem_cons_of_mem _ lk_430)) (fun _ h9 => h9) rfl d_D_replace_1 ?_
  refine wk_top (w := .int (g_flag e.has)) (congrArg _ h.hh) ?_
  refine lv_if_ne (tgt := 15) hx hb d_D_replace_4 (by decide) (fun _ => ?_) (fun hc => absurd hc (by rw [hh]; decide))
  refine lv_aload_n hx hb d_D_replace_15 rfl (lv_at hl 0 rfl) ?_
  have hFc := va_freeM (wc := KW x k e) hD hS hA (fun _ h9 => h9)
  refine va_calli (va_runV (As := []) (rest := []) ⟨hx, hb, hml, hown, hts⟩ (hcoll _) (cwV 0 hts (gd_v lk_533 lk_534 lk_535 lk_444 lk_309) rfl rfl rfl (by decide +kernel) ⟨Nat.le_of_ble_eq_true rfl, Nat.le_of_ble_eq_true rfl⟩) ⟨fun a U g mk q => by obtain ⟨q0, q1, qP, qK, qD⟩ := q; exact ⟨q0, q1, qP, va_K.moved (u := U) (U := U.calling g mk a) (Vm.Alike.refl U.vm) qK, qD⟩, va_recv (ci := 0) (q0 := 0) hK hP rfl rfl, fun U hU hW => ⟨rfl, by rw [hU], by rw [hU]; exact hP, va_K.moved hW.alike hK, hD.weaken (fun _ _ _ _ => trivial)⟩⟩ rfl rfl hl.1 rfl (lv_room (Nat.le_of_ble_eq_true rfl)) d_D_replace_16 ⟨Nat.le_of_ble_eq_true rfl, Nat.le_of_ble_eq_true rfl⟩) hS (fun q _ h => hFc q h) hFc (fun r9 kn t H1 locs ht hvm hw hB hz1 hk1 hS => ?_)
  obtain ⟨hP1, hD1⟩ := hB
  rw [ht] at hP1
  have hP := hP1
  have hD := hD1.weaken (fun _ q _ h => hFc q.1 h)
  clear hP1 hD1 hFc hk1 hz1
  subst hw
  refine lv_istore_n (lv' := [(1, .int (Int32.ofNat ms.length)), (0, .ref x.h)]) hx hb d_D_replace_19 rfl hl (by decide) rfl (fun ls hl => ?_)
  have hl : lv_has ls 3 [(1, .int (Int32.ofNat ms.length)), (0, .ref x.h)] := hl
  obtain ⟨it, hit⟩ := List.getElem?_of_mem (kE_in x k2 w.pb)
  refine lv_iload_n hx hb d_D_replace_20 rfl (lv_at hl 0 rfl) ?_
  refine lv_if_le (tgt := 60) hx hb d_D_replace_21 (by decide) (fun hc => ?_) (fun hc => ?_)
  ·
    have h0 : ms.length ≤ 0 := (pn_le (b := 0) (by clear w tt h hC2 hms hmA; omega) (by decide)).mp hc
    have hnil : ms = [] := List.eq_nil_of_length_eq_zero (Nat.le_zero.mp h0)
    have he : e_rep e ms = e_sn e 0 := if_pos hnil
    refine lv_aload_n hx hb d_D_replace_60 rfl (lv_at hl 1 rfl) ?_
    refine lv_iconst (v := 0) hx hb d_D_replace_61 (by decide) ?_
    refine va_put (D := x.D) (ci := 0) (v := .int 0) (ty := .int) (C := R_D) (T := F_D) (N := 14) hx hb hts (fun w h => List.mem_cons_of_mem _ (in_D w h)) t_D tk_D n_D hown hK hP hD hS 0 rfl rfl 1 (by decide) (hts _ (List.mem_cons_of_mem _ lk_312)) (fun _ h9 => h9) rfl (by decide +kernel) rfl rfl (Nat.le_of_ble_eq_true rfl) d_D_replace_62 (fun H locs hP hD hS => ?_)
    have hP : va_P x.D vwCl (KW x (k2.dw (upd k2.I 1 0) k2.A k2.M k2.MB k2.L) e) H := hP
    have hD : va_D B9 (KW x (k2.dw (upd k2.I 1 0) k2.A k2.M k2.MB k2.L) e) := hD
    rw [← KW_same x _ (show SameT (e_sn e 0) e from ⟨rfl, rfl, rfl, rfl, rfl, rfl, rfl⟩), ← he] at hP hD
    have hC := (C_wipe hC2 0 (fun _ => 0)).2
    rw [← he] at hC
    generalize k2.dw (upd k2.I 1 0) k2.A k2.M k2.MB k2.L = k3 at hP hD hC
    refine lv_iload_n hx hb d_D_replace_65 rfl (lv_at hl 0 rfl) ?_
    refine W.widen (k := 2) (n := 164) (Nat.le_of_ble_eq_true rfl) (Nat.le_of_ble_eq_true rfl) ?_
    exact W.iret (v := Int32.ofNat ms.length) hx hb hr (fun t ht hW => ⟨⟨_, k3, rfl, ⟨rfl, hC⟩, by rw [ht]; exact hP, hD⟩, hS.F ht⟩) hS.2.2 d_D_replace_66
  ·
    have hnn : ms ≠ [] := fun z => hc (by rw [z]; decide)
    refine lv_aload_n hx hb d_D_replace_24 rfl (lv_at hl 1 rfl) ?_
    refine lv_iload_n hx hb d_D_replace_25 rfl (lv_at hl 0 rfl) ?_
    have hFc := va_freeM (wc := KW x k2 e) hD hS hA (fun _ h9 => h9)
    refine va_calli (va_runV (As := [.int (Int32.ofNat ms.length)]) (rest := []) ⟨hx, hb, hml, hown, hts⟩ (K_size l x hC2 w hms hmA _) (cwV 1 hts (gd_v lk_536 lk_537 lk_538 lk_444 lk_493) rfl rfl rfl (by decide +kernel) ⟨Nat.le_of_ble_eq_true rfl, Nat.le_of_ble_eq_true rfl⟩) ⟨fun a U g mk q => by obtain ⟨q0, q1, qP, qK, qD⟩ := q; exact ⟨q0, q1, qP, va_K.moved (u := U) (U := U.calling g mk a) (Vm.Alike.refl U.vm) qK, qD⟩, va_recv (ci := 0) (q0 := 0) hK hP rfl rfl, fun U hU hW => ⟨rfl, by rw [hU], by rw [hU]; exact hP, va_K.moved hW.alike hK, hD.weaken (fun _ _ _ _ => trivial)⟩⟩ rfl rfl hl.1 rfl (lv_room (Nat.le_of_ble_eq_true rfl)) d_D_replace_26 ⟨Nat.le_of_ble_eq_true rfl, Nat.le_of_ble_eq_true rfl⟩) hS (fun q _ h => hFc q h) hFc (fun r9 kn t H1 locs ht hvm hw hB hz1 hk1 hS => ?_)
    obtain ⟨hP1, hD1⟩ := hB
    rw [ht] at hP1
    have hP := hP1
    have hD := hD1.weaken (fun _ q _ h => hFc q.1 h)
    clear hP1 hD1 hFc hk1 hz1
    subst hw
    refine lv_istore_n (lv' := [(2, .int (Int32.ofNat (rp_len e.sn (e.tn e.p) 0 ms))), (1, .int (Int32.ofNat ms.length)), (0, .ref x.h)]) hx hb d_D_replace_29 rfl hl (by decide) rfl (fun ls hl => ?_)
    have hl : lv_has ls 3 [(2, .int (Int32.ofNat (rp_len e.sn (e.tn e.p) 0 ms))), (1, .int (Int32.ofNat ms.length)), (0, .ref x.h)] := hl
    refine lv_iload_n hx hb d_D_replace_30 rfl (lv_at hl 0 rfl) ?_
    refine lv_sipush (v := 160) hx hb d_D_replace_31 (by decide) ?_
    refine lv_icmp_gt (tgt := 46) hx hb d_D_replace_34 (by decide) (fun hc2 => ?_) (fun hc2 => ?_)
    ·
      have hbig : 160 < rp_len e.sn (e.tn e.p) 0 ms := (pn_lt (a := 160) (by decide) hrl).mp hc2
      exact absurd hrok (by rw [show e_rok e ms = false from decide_eq_false (fun z => z.elim hnn (fun y => y (Or.inl hbig)))]; decide)
    ·
      have hsm : rp_len e.sn (e.tn e.p) 0 ms ≤ 160 := Nat.le_of_not_lt (fun z => hc2 ((pn_lt (a := 160) (by decide) hrl).mpr z))
      refine lv_aload_n hx hb d_D_replace_37 rfl (lv_at hl 2 rfl) ?_
      refine va_get (D := x.D) (ci := 0) (v := .int (k2.I 3)) (C := R_D) (T := F_D) (N := 14) hx hb hts (fun w h => List.mem_cons_of_mem _ (in_D w h)) hown hK hP 0 rfl rfl 3 (by decide) (hts _ (List.mem_cons_of_mem _ lk_436)) (fun _ h9 => h9) rfl d_D_replace_38 ?_
      refine wk_top (w := .int (Int32.ofNat e.n)) (congrArg _ hC2.hn) ?_
      refine lv_bipush (v := 40) hx hb d_D_replace_41 (by decide) ?_
      refine lv_icmp_ne (tgt := 54) hx hb d_D_replace_43 (by decide) (fun hc3 => ?_) (fun hc3 => ?_)
      ·
        have hn : e.n ≠ 40 := fun z => hc3 (by rw [z]; rfl)
        refine lv_aload_n hx hb d_D_replace_54 rfl (lv_at hl 2 rfl) ?_
        refine lv_iload_n hx hb d_D_replace_55 rfl (lv_at hl 1 rfl) ?_
        refine lv_iload_n hx hb d_D_replace_56 rfl (lv_at hl 0 rfl) ?_
        have hFc := va_freeM (wc := KW x k2 e) hD hS hA (fun _ h9 => h9)
        refine va_callv (va_runV (As := [.int (Int32.ofNat ms.length), .int (Int32.ofNat (rp_len e.sn (e.tn e.p) 0 ms))]) (rest := []) ⟨hx, hb, hml, hown, hts⟩ (K_put l x hC2 w (show e.n < 40 by clear w tt h hC2 hms hmA; omega) hms hmA hsm _) (cwV 2 hts (gd_v lk_539 lk_540 lk_541 lk_444 lk_531) rfl rfl rfl (by decide +kernel) ⟨Nat.le_of_ble_eq_true rfl, Nat.le_of_ble_eq_true rfl⟩) ⟨fun a U g mk q => by obtain ⟨q0, q1, qP, qK, qD⟩ := q; exact ⟨q0, q1, qP, va_K.moved (u := U) (U := U.calling g mk a) (Vm.Alike.refl U.vm) qK, qD⟩, va_recv (ci := 0) (q0 := 0) hK hP rfl rfl, fun U hU hW => ⟨rfl, by rw [hU], by rw [hU]; exact hP, va_K.moved hW.alike hK, hD.weaken (fun _ _ _ _ => trivial)⟩⟩ rfl rfl hl.1 rfl (lv_room (Nat.le_of_ble_eq_true rfl)) d_D_replace_57 ⟨Nat.le_of_ble_eq_true rfl, Nat.le_of_ble_eq_true rfl⟩) hS (fun q _ h => hFc q h) hFc (fun kn t H1 locs ht hvm hw hB hz1 hk1 hS => ?_)
        obtain ⟨hP1, hD1⟩ := hB
        rw [ht] at hP1
        have hP := hP1
        have hD := hD1.weaken (fun _ q _ h => hFc q.1 h)
        clear hP1 hD1 hFc hk1 hz1
        refine W.cs (cells' := 2) (slots' := 164) rfl rfl ?_
        have he : e_rep e ms = e_sn (pE e ms) 0 := (if_neg hnn).trans (if_neg (fun z => z.elim (fun y => absurd hsm (Nat.not_le_of_lt y)) hn))
        generalize pE e ms = e1 at hP hD hw he
        refine lv_aload_n hx hb d_D_replace_60 rfl (lv_at hl 2 rfl) ?_
        refine lv_iconst (v := 0) hx hb d_D_replace_61 (by decide) ?_
        refine va_put (D := x.D) (ci := 0) (v := .int 0) (ty := .int) (C := R_D) (T := F_D) (N := 14) hx hb hts (fun w h => List.mem_cons_of_mem _ (in_D w h)) t_D tk_D n_D hown hK hP hD hS 0 rfl rfl 1 (by decide) (hts _ (List.mem_cons_of_mem _ lk_312)) (fun _ h9 => h9) rfl (by decide +kernel) rfl rfl (Nat.le_of_ble_eq_true rfl) d_D_replace_62 (fun H locs hP hD hS => ?_)
        have hP : va_P x.D vwCl (KW x (kn.dw (upd kn.I 1 0) kn.A kn.M kn.MB kn.L) e1) H := hP
        have hD : va_D B9 (KW x (kn.dw (upd kn.I 1 0) kn.A kn.M kn.MB kn.L) e1) := hD
        rw [← KW_same x _ (show SameT (e_sn e1 0) e1 from ⟨rfl, rfl, rfl, rfl, rfl, rfl, rfl⟩), ← he] at hP hD
        have hC := (C_wipe hw 0 (fun _ => 0)).2
        rw [← he] at hC
        generalize kn.dw (upd kn.I 1 0) kn.A kn.M kn.MB kn.L = k3 at hP hD hC
        refine lv_iload_n hx hb d_D_replace_65 rfl (lv_at hl 1 rfl) ?_
        exact W.iret (v := Int32.ofNat ms.length) hx hb hr (fun t ht hW => ⟨⟨_, k3, rfl, ⟨rfl, hC⟩, by rw [ht]; exact hP, hD⟩, hS.F ht⟩) hS.2.2 d_D_replace_66
      ·
        have hn : e.n = 40 := (pn_eqN (b := 40) (by clear w tt h hC2 hms hmA; omega) (by decide)).mp hc3
        exact absurd hrok (by rw [show e_rok e ms = false from decide_eq_false (fun z => z.elim hnn (fun y => y (Or.inr hn)))]; decide)
set_option maxHeartbeats 8000000 in
set_option maxRecDepth 100000 in
theorem Kt_replace1 (l : Launch) (hfl : l.flags = flags0) (x : FX) {k : CK} {e : ES} (h : CRel e k) (w : EWf e) (hh : e.has = false) : KThr l x y_D_replace w_D_replace ({ frames := 8, cells := 1, slots := 6, locals := 160 }) [.ref x.h] k e 1 6 "java/lang/IllegalStateException" e := by
  refine ⟨k, h, fun sz => ?_⟩
  have tt := w.tt _ w.pb
  have htn := tt.nb
  have hsb := w.sb
  have hpb := w.pb
  have hn2 := w.n2
  have hcb := w.cb
  obtain ⟨l1, l2⟩ := e_lo_le w
  refine th_Met.ofW (cc := prog_1_method_10_code) (maxL := 3) (ret := some .int) (by decide) rfl ?_
  intro p en s m args below meth c s₁ B hml hnh hv
  obtain ⟨rfl, hsz, hP, hK, hD0, hZ⟩ := hv
  have hx := B.exec
  have hb := B.bytes
  have hr := B.returns
  have hts := atoms_spec (ws := w_D_replace) B.pre
  have hown : s.vm.findClass "DraftTree" = some m.cls := findClass_of_methodNamed B.named
  have hlocks := B.notSynchronized
  have htr := Launch.traces_off hfl B.admits
  subst hsz
  have hD := hD0.self (sz := s.heap.size)
  generalize hAe : va_A (KW x k e) s.heap.size = B9 at hD hZ ⊢
  have hA : ∀ q : Nat, s.heap.size ≤ q → B9 q := fun q h => by rw [← hAe]; exact Or.inr h
  clear hAe
  have hS : va_S B9 s.heap s.heap [] := va_S.rf
  have hl := lv_entry ([.ref x.h]) (n := 3) (Nat.le_of_ble_eq_true rfl)
  rw [lg_entry_eq]
  generalize (lg_sl ([.ref x.h]) ++ List.replicate (3 - (lg_sl ([.ref x.h])).length) Slot.unset).toArray = ls at hl ⊢
  have hl : lv_has ls 3 [(0, .ref x.h)] := hl
  obtain ⟨it, hit⟩ := List.getElem?_of_mem (kE_in x k w.pb)
  refine lv_aload_n hx hb d_D_replace_0 rfl (lv_at hl 0 rfl) ?_
  refine va_get (D := x.D) (ci := 0) (v := .int (k.I 10)) (C := R_D) (T := F_D) (N := 14) hx hb hts (fun w h => List.mem_cons_of_mem _ (in_D w h)) hown hK hP 0 rfl rfl 10 (by decide) (hts _ (List.mem_cons_of_mem _ lk_430)) (fun _ h9 => h9) rfl d_D_replace_1 ?_
  refine wk_top (w := .int (g_flag e.has)) (congrArg _ h.hh) ?_
  refine lv_if_ne (tgt := 15) hx hb d_D_replace_4 (by decide) (fun hc => absurd (by rw [hh]; rfl) hc) (fun _ => ?_)
  exact th_newG hx hb htr hown (by decide) (by decide) (wk_thr hts hZ hS lk_445 lk_446 (fun _ a9 b9 => oa_2 a9 b9)) hnh (by rw [hl.1, hml]) hS (Nat.le_of_ble_eq_true rfl) (Nat.le_of_ble_eq_true rfl) (Nat.le_of_ble_eq_true rfl) (Nat.le_of_ble_eq_true rfl) (Nat.le_of_ble_eq_true rfl) (Nat.le_of_ble_eq_true rfl) hlocks (fun t hal hk => ⟨hP.kept (fun k q hq => hk _ (hP k q hq).lt), hD⟩) d_D_replace_7 d_D_replace_10 d_D_replace_11 d_D_replace_14
set_option maxHeartbeats 8000000 in
set_option maxRecDepth 100000 in
theorem Kt_replace2 (l : Launch) (hfl : l.flags = flags0) (x : FX) {k : CK} {e : ES} (h : CRel e k) (w : EWf e) (hh : e.has = true) {ms : List (Nat × Nat)} (hms : Ms (e_R e) (e.tn e.p) 0 ms) (hrok : e_rok e ms = false) : KThr l x y_D_replace w_D_replace ({ frames := 8, cells := 1, slots := 6, locals := 160 }) [.ref x.h] k e 1 6 "java/lang/IllegalStateException" e := by
  obtain ⟨A', M', hC2, hmA, hcoll⟩ := K_coll l x h w hh hms
  obtain ⟨k2, hk2⟩ : ∃ k2, k2 = k.dw k.I A' M' k.MB k.L := ⟨_, rfl⟩
  have hmA : msA k2.A 0 ms := by rw [hk2]; exact hmA
  rw [← hk2] at hC2 hcoll
  refine ⟨k2, hC2, fun sz => ?_⟩
  have tt := w.tt _ w.pb
  have htn := tt.nb
  have hsb := w.sb
  have hpb := w.pb
  have hn2 := w.n2
  have hcb := w.cb
  obtain ⟨l1, l2⟩ := e_lo_le w
  have hlen := Ms.len ms 0 (Nat.zero_le _) hms
  have hrl : rp_len e.sn (e.tn e.p) 0 ms < 2147483648 := rp_small (by clear w tt h hC2 hms hmA; omega) (by clear w tt h hC2 hms hmA; omega) ms 0 (Nat.zero_le _) hms
  refine th_Met.ofW (cc := prog_1_method_10_code) (maxL := 3) (ret := some .int) (by decide) rfl ?_
  intro p en s m args below meth c s₁ B hml hnh hv
  obtain ⟨rfl, hsz, hP, hK, hD0, hZ⟩ := hv
  have hx := B.exec
  have hb := B.bytes
  have hr := B.returns
  have hts := atoms_spec (ws := w_D_replace) B.pre
  have hown : s.vm.findClass "DraftTree" = some m.cls := findClass_of_methodNamed B.named
  have hlocks := B.notSynchronized
  have htr := Launch.traces_off hfl B.admits
  subst hsz
  have hD := hD0.self (sz := s.heap.size)
  generalize hAe : va_A (KW x k e) s.heap.size = B9 at hD hZ ⊢
  have hA : ∀ q : Nat, s.heap.size ≤ q → B9 q := fun q h => by rw [← hAe]; exact Or.inr h
  clear hAe
  have hS : va_S B9 s.heap s.heap [] := va_S.rf
  have hl := lv_entry ([.ref x.h]) (n := 3) (Nat.le_of_ble_eq_true rfl)
  rw [lg_entry_eq]
  generalize (lg_sl ([.ref x.h]) ++ List.replicate (3 - (lg_sl ([.ref x.h])).length) Slot.unset).toArray = ls at hl ⊢
  have hl : lv_has ls 3 [(0, .ref x.h)] := hl
  obtain ⟨it, hit⟩ := List.getElem?_of_mem (kE_in x k w.pb)
  refine lv_aload_n hx hb d_D_replace_0 rfl (lv_at hl 0 rfl) ?_
  refine va_get (D := x.D) (ci := 0) (v := .int (k.I 10)) (C := R_D) (T := F_D) (N := 14) hx hb hts (fun w h => List.mem_cons_of_mem _ (in_D w h)) hown hK hP 0 rfl rfl 10 (by decide) (hts _ (List.mem_cons_of_mem _ lk_430)) (fun _ h9 => h9) rfl d_D_replace_1 ?_
  refine wk_top (w := .int (g_flag e.has)) (congrArg _ h.hh) ?_
  refine lv_if_ne (tgt := 15) hx hb d_D_replace_4 (by decide) (fun _ => ?_) (fun hc => absurd hc (by rw [hh]; decide))
  refine lv_aload_n hx hb d_D_replace_15 rfl (lv_at hl 0 rfl) ?_
  have hFc := va_freeM (wc := KW x k e) hD hS hA (fun _ h9 => h9)
  refine va_calli (va_runV (As := []) (rest := []) ⟨hx, hb, hml, hown, hts⟩ (hcoll _) (cwV 0 hts (gd_v lk_533 lk_534 lk_535 lk_444 lk_309) rfl rfl rfl (by decide +kernel) ⟨Nat.le_of_ble_eq_true rfl, Nat.le_of_ble_eq_true rfl⟩) ⟨fun a U g mk q => by obtain ⟨q0, q1, qP, qK, qD⟩ := q; exact ⟨q0, q1, qP, va_K.moved (u := U) (U := U.calling g mk a) (Vm.Alike.refl U.vm) qK, qD⟩, va_recv (ci := 0) (q0 := 0) hK hP rfl rfl, fun U hU hW => ⟨rfl, by rw [hU], by rw [hU]; exact hP, va_K.moved hW.alike hK, hD.weaken (fun _ _ _ _ => trivial)⟩⟩ rfl rfl hl.1 rfl (lv_room (Nat.le_of_ble_eq_true rfl)) d_D_replace_16 ⟨Nat.le_of_ble_eq_true rfl, Nat.le_of_ble_eq_true rfl⟩) hS (fun q _ h => hFc q h) hFc (fun r9 kn t H1 locs ht hvm hw hB hz1 hk1 hS => ?_)
  obtain ⟨hP1, hD1⟩ := hB
  rw [ht] at hP1
  have hP := hP1
  have hD := hD1.weaken (fun _ q _ h => hFc q.1 h)
  clear hP1 hD1 hFc hk1 hz1
  subst hw
  refine lv_istore_n (lv' := [(1, .int (Int32.ofNat ms.length)), (0, .ref x.h)]) hx hb d_D_replace_19 rfl hl (by decide) rfl (fun ls hl => ?_)
  have hl : lv_has ls 3 [(1, .int (Int32.ofNat ms.length)), (0, .ref x.h)] := hl
  obtain ⟨it, hit⟩ := List.getElem?_of_mem (kE_in x k2 w.pb)
  refine lv_iload_n hx hb d_D_replace_20 rfl (lv_at hl 0 rfl) ?_
  refine lv_if_le (tgt := 60) hx hb d_D_replace_21 (by decide) (fun hc => ?_) (fun hc => ?_)
  ·
    have h0 : ms.length ≤ 0 := (pn_le (b := 0) (by clear w tt h hC2 hms hmA; omega) (by decide)).mp hc
    have hnil : ms = [] := List.eq_nil_of_length_eq_zero (Nat.le_zero.mp h0)
    exact absurd hrok (by rw [show e_rok e ms = true from decide_eq_true (Or.inl hnil)]; decide)
  ·
    have hnn : ms ≠ [] := fun z => hc (by rw [z]; decide)
    refine lv_aload_n hx hb d_D_replace_24 rfl (lv_at hl 1 rfl) ?_
    refine lv_iload_n hx hb d_D_replace_25 rfl (lv_at hl 0 rfl) ?_
    have hFc := va_freeM (wc := KW x k2 e) hD hS hA (fun _ h9 => h9)
    refine va_calli (va_runV (As := [.int (Int32.ofNat ms.length)]) (rest := []) ⟨hx, hb, hml, hown, hts⟩ (K_size l x hC2 w hms hmA _) (cwV 1 hts (gd_v lk_536 lk_537 lk_538 lk_444 lk_493) rfl rfl rfl (by decide +kernel) ⟨Nat.le_of_ble_eq_true rfl, Nat.le_of_ble_eq_true rfl⟩) ⟨fun a U g mk q => by obtain ⟨q0, q1, qP, qK, qD⟩ := q; exact ⟨q0, q1, qP, va_K.moved (u := U) (U := U.calling g mk a) (Vm.Alike.refl U.vm) qK, qD⟩, va_recv (ci := 0) (q0 := 0) hK hP rfl rfl, fun U hU hW => ⟨rfl, by rw [hU], by rw [hU]; exact hP, va_K.moved hW.alike hK, hD.weaken (fun _ _ _ _ => trivial)⟩⟩ rfl rfl hl.1 rfl (lv_room (Nat.le_of_ble_eq_true rfl)) d_D_replace_26 ⟨Nat.le_of_ble_eq_true rfl, Nat.le_of_ble_eq_true rfl⟩) hS (fun q _ h => hFc q h) hFc (fun r9 kn t H1 locs ht hvm hw hB hz1 hk1 hS => ?_)
    obtain ⟨hP1, hD1⟩ := hB
    rw [ht] at hP1
    have hP := hP1
    have hD := hD1.weaken (fun _ q _ h => hFc q.1 h)
    clear hP1 hD1 hFc hk1 hz1
    subst hw
    refine lv_istore_n (lv' := [(2, .int (Int32.ofNat (rp_len e.sn (e.tn e.p) 0 ms))), (1, .int (Int32.ofNat ms.length)), (0, .ref x.h)]) hx hb d_D_replace_29 rfl hl (by decide) rfl (fun ls hl => ?_)
    have hl : lv_has ls 3 [(2, .int (Int32.ofNat (rp_len e.sn (e.tn e.p) 0 ms))), (1, .int (Int32.ofNat ms.length)), (0, .ref x.h)] := hl
    refine lv_iload_n hx hb d_D_replace_30 rfl (lv_at hl 0 rfl) ?_
    refine lv_sipush (v := 160) hx hb d_D_replace_31 (by decide) ?_
    refine lv_icmp_gt (tgt := 46) hx hb d_D_replace_34 (by decide) (fun hc2 => ?_) (fun hc2 => ?_)
    ·
      have hbig : 160 < rp_len e.sn (e.tn e.p) 0 ms := (pn_lt (a := 160) (by decide) hrl).mp hc2
      exact th_newG hx hb htr hown (by decide) (by decide) (wk_thr hts hZ hS lk_445 lk_446 (fun _ a9 b9 => oa_2 a9 b9)) hnh (by rw [hl.1, hml]) hS (Nat.le_of_ble_eq_true rfl) (Nat.le_of_ble_eq_true rfl) (Nat.le_of_ble_eq_true rfl) (Nat.le_of_ble_eq_true rfl) (Nat.le_of_ble_eq_true rfl) (Nat.le_of_ble_eq_true rfl) hlocks (fun t hal hk => ⟨hP.kept (fun k q hq => hk _ (hP k q hq).lt), hD⟩) d_D_replace_46 d_D_replace_49 d_D_replace_50 d_D_replace_53
    ·
      have hsm : rp_len e.sn (e.tn e.p) 0 ms ≤ 160 := Nat.le_of_not_lt (fun z => hc2 ((pn_lt (a := 160) (by decide) hrl).mpr z))
      refine lv_aload_n hx hb d_D_replace_37 rfl (lv_at hl 2 rfl) ?_
      refine va_get (D := x.D) (ci := 0) (v := .int (k2.I 3)) (C := R_D) (T := F_D) (N := 14) hx hb hts (fun w h => List.mem_cons_of_mem _ (in_D w h)) hown hK hP 0 rfl rfl 3 (by decide) (hts _ (List.mem_cons_of_mem _ lk_436)) (fun _ h9 => h9) rfl d_D_replace_38 ?_
      refine wk_top (w := .int (Int32.ofNat e.n)) (congrArg _ hC2.hn) ?_
      refine lv_bipush (v := 40) hx hb d_D_replace_41 (by decide) ?_
      refine lv_icmp_ne (tgt := 54) hx hb d_D_replace_43 (by decide) (fun hc3 => ?_) (fun hc3 => ?_)
      ·
        have hn : e.n ≠ 40 := fun z => hc3 (by rw [z]; rfl)
        exact absurd hrok (by rw [show e_rok e ms = true from decide_eq_true (Or.inr (fun z => z.elim (fun y => absurd hsm (Nat.not_le_of_lt y)) hn))]; decide)
      ·
        exact th_newG hx hb htr hown (by decide) (by decide) (wk_thr hts hZ hS lk_445 lk_446 (fun _ a9 b9 => oa_2 a9 b9)) hnh (by rw [hl.1, hml]) hS (Nat.le_of_ble_eq_true rfl) (Nat.le_of_ble_eq_true rfl) (Nat.le_of_ble_eq_true rfl) (Nat.le_of_ble_eq_true rfl) (Nat.le_of_ble_eq_true rfl) (Nat.le_of_ble_eq_true rfl) hlocks (fun t hal hk => ⟨hP.kept (fun k q hq => hk _ (hP k q hq).lt), hD⟩) d_D_replace_46 d_D_replace_49 d_D_replace_50 d_D_replace_53
