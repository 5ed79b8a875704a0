-- own rows: the slip in the place of all matches
abbrev pRm : Room := { frames := 4, cells := 2, slots := 164, locals := 120 }
abbrev pE (e : ES) (ms : List (Nat × Nat)) : ES := e_edit e (rp_len e.sn (e.tn e.p) 0 ms) (rp_tx e.sn e.sc (e.tx e.p) 0 ms) (rp_pl e.sn 0 ms)
abbrev pQ (x : FX) (e : ES) (ms : List (Nat × Nat)) (B9 : Nat → Prop) : Array Value → State → Outcome → State → Prop := va_Qv (fun (k' : CK) => CRel (pE e ms) k') (fun k' t => va_P x.D vwCl (KW x k' (pE e ms)) t.heap ∧ va_D B9 (KW x k' (pE e ms))) B9
theorem rp_end {sn : Nat} {sc : Nat → Nat} {tx g F : Nat → Int32} {p t tn : Nat} (hg : ∀ j, j < t → g j = F j) (hF : ∀ j, j < tn - p → F (t + j) = tx (p + j)) : ∀ j, j < t + (tn - p) → va_cpy tx g p t (tn - p) j = F j := by
  intro j hj
  unfold va_cpy
  by_cases q : t ≤ j ∧ j < t + (tn - p)
  · rw [if_pos q]
    have := hF (j - t) (by omega)
    rw [show t + (j - t) = j by omega] at this
    exact this.symm
  · rw [if_neg q]; exact hg j (by omega)
theorem rp_stp {sn : Nat} {sc : Nat → Nat} {sl tx g F : Nat → Int32} {p t a : Nat} {G : Nat → Int32} (hg : ∀ j, j < t → g j = F j) (hsl : ∀ j, j < sn → sl j = Int32.ofNat (sc j)) (hF : ∀ j, j < a - p + sn → F (t + j) = if j < a - p then tx (p + j) else if j < a - p + sn then Int32.ofNat (sc (j - (a - p))) else G j) :
    ∀ j, j < t + ((a - p) + sn) → va_cpy sl (va_cpy tx g p t (a - p)) 0 (t + (a - p)) sn j = F j := by
  intro j hj
  unfold va_cpy
  by_cases q1 : t + (a - p) ≤ j ∧ j < t + (a - p) + sn
  · rw [if_pos q1]
    have := hF (j - t) (by omega)
    rw [show t + (j - t) = j by omega, if_neg (by omega), if_pos (by omega)] at this
    rw [this, hsl _ (by omega)]
    congr 2; omega
  · rw [if_neg q1]
    by_cases q2 : t ≤ j ∧ j < t + (a - p)
    · rw [if_pos q2]
      have := hF (j - t) (by omega)
      rw [show t + (j - t) = j by omega, if_pos (by omega)] at this
      exact this.symm
    · rw [if_neg q2]; exact hg j (by omega)
set_option maxHeartbeats 8000000 in
set_option maxRecDepth 100000 in
theorem K_put (l : Launch) (x : FX) {k : CK} {e : ES} (h : CRel e k) (w : EWf e) (hn : e.n < 40) {ms : List (Nat × Nat)} (hms : Ms (e_R e) (e.tn e.p) 0 ms) (hmA : msA k.A 0 ms) (hx160 : rp_len e.sn (e.tn e.p) 0 ms ≤ 160) : KRetV l x y_D_putSlipIntoMatches w_D_putSlipIntoMatches pRm [.ref x.h, .int (Int32.ofNat ms.length), .int (Int32.ofNat (rp_len e.sn (e.tn e.p) 0 ms))] k e 2 164 (pE e ms) := by
  intro sz
  have tt := w.tt _ w.pb
  have ht := tt.nb
  have hsb := w.sb
  have hpb := w.pb
  have hlen := Ms.len ms 0 (Nat.zero_le _) hms
  obtain ⟨F, hFe⟩ : ∃ F, F = rp_tx e.sn e.sc (e.tx e.p) 0 ms := ⟨_, rfl⟩
  obtain ⟨tl, htl⟩ : ∃ tl, tl = rp_len e.sn (e.tn e.p) 0 ms := ⟨_, rfl⟩
  rw [← htl] at hx160 ⊢
  refine Met.ofW (cc := prog_1_method_28_code) (maxL := 8) (ret := none) (by decide) rfl ?_
  intro p en s m args below meth c s₁ B hml hv
  obtain ⟨rfl, hsz, hP, hK, hD0⟩ := hv
  have hx := B.exec
  have hb := B.bytes
  have hr := B.returns
  have hts := atoms_spec (ws := w_D_putSlipIntoMatches) B.pre
  have hown : s.vm.findClass "DraftTree" = some m.cls := findClass_of_methodNamed B.named
  subst hsz
  have hD := hD0.self (sz := s.heap.size)
  generalize hAe : va_A (KW x k e) s.heap.size = B9 at hD ⊢
  have hA : ∀ q : Nat, s.heap.size ≤ q → B9 q := fun q h => by rw [← hAe]; exact Or.inr h
  clear hAe
  have hS : va_S B9 s.heap s.heap [] := va_S.rf
  have hl := lv_entry ([.ref x.h, .int (Int32.ofNat ms.length), .int (Int32.ofNat tl)]) (n := 8) (Nat.le_of_ble_eq_true rfl)
  rw [lg_entry_eq]
  generalize (lg_sl ([.ref x.h, .int (Int32.ofNat ms.length), .int (Int32.ofNat tl)]) ++ List.replicate (8 - (lg_sl ([.ref x.h, .int (Int32.ofNat ms.length), .int (Int32.ofNat tl)])).length) Slot.unset).toArray = ls at hl ⊢
  have hl : lv_has ls 8 [(0, .ref x.h), (1, .int (Int32.ofNat ms.length)), (2, .int (Int32.ofNat tl))] := hl
  obtain ⟨it, hit⟩ := List.getElem?_of_mem (kE_in x k w.pb)
  refine lv_iload_n hx hb d_D_putSlipIntoMatches_0 rfl (lv_at hl 2 rfl) ?_
  have hK0 := hK
  refine va_newa (atype := .char) (ty := .char) (a0 := (tl, .inl (fun _ => 0))) (N' := tl) hx hb (hts _ (List.mem_cons_of_mem _ lk_516)) rfl hK hP hD hS hA (fun _ => rfl) (pn_nneg (by clear w tt h hms; omega)) (pn_nat (by clear w tt h hms; omega)) (Nat.le_trans (Nat.mul_le_mul_right _ hx160) (by decide)) (Nat.le_of_ble_eq_true rfl) (show 0 + tl ≤ 164 by clear w tt h hms; omega) d_D_putSlipIntoMatches_1 (fun tq g H hK hP hD hS => ?_)
  have hg : g = x.gc := hK.one (ty := .char) rfl (List.mem_append_right _ (List.mem_singleton.mpr rfl)) (List.mem_append_left _ List.mem_cons_self)
  subst hg
  have hK := hK0
  refine W.widen (k := 1) (n := 160) (Nat.le_of_ble_eq_true rfl) (show 0 + tl ≤ 160 by clear w tt h hms; omega) ?_
  refine lv_astore_n (lv' := [(3, .ref tq), (0, .ref x.h), (1, .int (Int32.ofNat ms.length)), (2, .int (Int32.ofNat tl))]) hx hb d_D_putSlipIntoMatches_3 rfl hl (by decide) rfl (fun ls hl => ?_)
  have hl : lv_has ls 8 [(3, .ref tq), (0, .ref x.h), (1, .int (Int32.ofNat ms.length)), (2, .int (Int32.ofNat tl))] := hl
  refine lv_iconst (v := 0) hx hb d_D_putSlipIntoMatches_4 (by decide) ?_
  refine lv_istore (lv' := [(4, .int 0), (3, .ref tq), (0, .ref x.h), (1, .int (Int32.ofNat ms.length)), (2, .int (Int32.ofNat tl))]) hx hb d_D_putSlipIntoMatches_5 hl (by decide) rfl (fun ls hl => ?_)
  have hl : lv_has ls 8 [(4, .int 0), (3, .ref tq), (0, .ref x.h), (1, .int (Int32.ofNat ms.length)), (2, .int (Int32.ofNat tl))] := hl
  refine lv_iconst (v := 0) hx hb d_D_putSlipIntoMatches_7 (by decide) ?_
  refine lv_istore (lv' := [(5, .int 0), (4, .int 0), (3, .ref tq), (0, .ref x.h), (1, .int (Int32.ofNat ms.length)), (2, .int (Int32.ofNat tl))]) hx hb d_D_putSlipIntoMatches_8 hl (by decide) rfl (fun ls hl => ?_)
  have hl : lv_has ls 8 [(5, .int 0), (4, .int 0), (3, .ref tq), (0, .ref x.h), (1, .int (Int32.ofNat ms.length)), (2, .int (Int32.ofNat tl))] := hl
  refine lv_iconst (v := 0) hx hb d_D_putSlipIntoMatches_10 (by decide) ?_
  refine lv_istore (lv' := [(6, .int 0), (5, .int 0), (4, .int 0), (3, .ref tq), (0, .ref x.h), (1, .int (Int32.ofNat ms.length)), (2, .int (Int32.ofNat tl))]) hx hb d_D_putSlipIntoMatches_11 hl (by decide) rfl (fun ls hl => ?_)
  have hl : lv_has ls 8 [(6, .int 0), (5, .int 0), (4, .int 0), (3, .ref tq), (0, .ref x.h), (1, .int (Int32.ofNat ms.length)), (2, .int (Int32.ofNat tl))] := hl
  have key : ∀ (mm : List (Nat × Nat)) (i q t : Nat) (g : Nat → Int32) (ls : Array Slot) (H : Heap) (locs : List Loc), Ms (e_R e) (e.tn e.p) q mm → msA k.A i mm → i + mm.length = ms.length → q ≤ e.tn e.p → t + rp_len e.sn (e.tn e.p) q mm = tl → t + rp_pl e.sn q mm = rp_pl e.sn 0 ms → (∀ j, j < t → g j = F j) → (∀ j, j < rp_len e.sn (e.tn e.p) q mm → F (t + j) = rp_tx e.sn e.sc (e.tx e.p) q mm j) →
      lv_has ls 8 [(0, .ref x.h), (1, .int (Int32.ofNat ms.length)), (3, .ref tq), (4, .int (Int32.ofNat q)), (5, .int (Int32.ofNat t)), (6, .int (Int32.ofNat i))] → va_P x.D vwCl (KW x k e ++ [(tq, .inl (x.gc, tl, .inl g))]) H → va_D B9 (KW x k e ++ [(tq, .inl (x.gc, tl, .inl g))]) → va_S B9 s.heap H locs →
      W p l en (headSpec w_D_putSlipIntoMatches pRm).room s m ([.ref x.h, .int (Int32.ofNat ms.length), .int (Int32.ofNat tl)] : List Value).toArray below meth c H locs 1 160 (MQ below (pQ x e ms B9) ([.ref x.h, .int (Int32.ofNat ms.length), .int (Int32.ofNat tl)] : List Value).toArray s 2 164 B9) (F0 m 13 ls []) := by
    intro mm
    induction mm with
    | nil =>
      intro i q t g ls H locs hmm hmA hlen2 hqt htl2 hpl hg hF hl hP hD hS
      have hi : i = ms.length := hlen2
      have htl3 : t + (e.tn e.p - q) = tl := htl2
      have hpl2 : t = rp_pl e.sn 0 ms := hpl
      refine lv_iload hx hb d_D_putSlipIntoMatches_13 (lv_at hl 5 rfl) ?_
      refine lv_iload_n hx hb d_D_putSlipIntoMatches_15 rfl (lv_at hl 1 rfl) ?_
      refine lv_icmp_ge (tgt := 90) hx hb d_D_putSlipIntoMatches_16 (by decide) (fun _ => ?_) (fun hc => absurd ((pn_le (by clear w tt h hms hmm; omega) (by clear w tt h hms hmm; omega)).mpr (Nat.le_of_eq hi.symm)) hc)
      refine lv_aload_n hx hb d_D_putSlipIntoMatches_90 rfl (lv_at hl 0 rfl) ?_
      refine va_get (D := x.D) (ci := 0) (v := .ref (k.ta e.p)) (C := R_D) (T := F_D) (N := 14) hx hb hts (fun w h => List.mem_cons_of_mem _ (in_D w h)) hown hK hP 0 rfl rfl 5 (by decide) (hts _ (List.mem_cons_of_mem _ lk_241)) (fun _ h9 => h9) rfl d_D_putSlipIntoMatches_91 ?_
      refine lv_iload hx hb d_D_putSlipIntoMatches_94 (lv_at hl 3 rfl) ?_
      refine lv_aload_n hx hb d_D_putSlipIntoMatches_96 rfl (lv_at hl 2 rfl) ?_
      refine lv_iload hx hb d_D_putSlipIntoMatches_97 (lv_at hl 4 rfl) ?_
      refine lv_aload_n hx hb d_D_putSlipIntoMatches_99 rfl (lv_at hl 0 rfl) ?_
      refine va_get (D := x.D) (ci := 0) (v := .ref (k.ta e.p)) (C := R_D) (T := F_D) (N := 14) hx hb hts (fun w h => List.mem_cons_of_mem _ (in_D w h)) hown hK hP 0 rfl rfl 5 (by decide) (hts _ (List.mem_cons_of_mem _ lk_241)) (fun _ h9 => h9) rfl d_D_putSlipIntoMatches_100 ?_
      refine va_alen (v := Int32.ofNat (e.tn e.p)) hx hb hK hP it 0 (by rw [List.getElem?_append_left (List.getElem?_eq_some_iff.mp hit).1]; exact hit) rfl rfl d_D_putSlipIntoMatches_103 ?_
      refine lv_iload hx hb d_D_putSlipIntoMatches_104 (lv_at hl 3 rfl) ?_
      refine lv_isub hx hb d_D_putSlipIntoMatches_106 ?_
      refine wk_top (w := .int (Int32.ofNat (e.tn e.p - q))) (congrArg _ (pn_sub hqt)) ?_
      refine va_copyL (sp := q) (dp := t) (n := e.tn e.p - q) (rest := []) hx hb (hml.trans hl.1.symm) hown (hts _ (List.mem_cons_of_mem _ lk_517)) (hts _ (List.mem_cons_of_mem _ lk_520)) (hts _ (List.mem_cons_of_mem _ lk_518)) (hts _ (List.mem_cons_of_mem _ lk_519)) hK hP hD hS 0 (kE_in x k hpb) rfl (by clear w tt h hms hmm; omega) (by clear w tt h hms hmm; omega) (by clear w tt h hms hmm; omega) (by clear w tt h hms hmm; omega) (fun i hi => tt.ch _ (by clear w tt h hms hmm; omega)) (Nat.le_of_ble_eq_true rfl) (Nat.le_of_ble_eq_true rfl) d_D_putSlipIntoMatches_107 (fun H locs hP hD hS => ?_)
      have hP := hP.ext (g := rp_tx e.sn e.sc (e.tx e.p) 0 ms) (fun j hj => by
        rw [← hFe]
        exact rp_end (sn := e.sn) (sc := e.sc) hg hF j (by clear w tt h hms hmm; omega))
      have hD : va_D B9 (KW x k e ++ [kNT x tq tl (rp_tx e.sn e.sc (e.tx e.p) 0 ms)]) := hD.adr (by rw [List.map_append, List.map_append]; rfl)
      refine lv_aload_n hx hb d_D_putSlipIntoMatches_110 rfl (lv_at hl 0 rfl) ?_
      refine lv_aload_n hx hb d_D_putSlipIntoMatches_111 rfl (lv_at hl 2 rfl) ?_
      refine lv_iload hx hb d_D_putSlipIntoMatches_112 (lv_at hl 4 rfl) ?_
      have hFc := va_freeM (wc := KW x k e ++ [kNT x tq tl (rp_tx e.sn e.sc (e.tx e.p) 0 ms)]) hD hS hA (fun _ h9 => h9)
      refine va_callv (va_runV (As := [.ref tq, .int (Int32.ofNat t)]) (rest := []) ⟨hx, hb, hml, hown, hts⟩ (km_makeState l x h w hn tq tl (rp_tx e.sn e.sc (e.tx e.p) 0 ms) t _) (cwV 2 hts (gd_v lk_522 lk_523 lk_524 lk_444 lk_521) rfl rfl rfl (by decide +kernel) ⟨Nat.le_of_ble_eq_true rfl, Nat.le_of_ble_eq_true rfl⟩) ⟨fun a U g mk q => by obtain ⟨q0, q1, qP, qK, qD⟩ := q; exact ⟨q0, q1, qP, va_K.moved (u := U) (U := U.calling g mk a) (Vm.Alike.refl U.vm) qK, qD⟩, va_recv (ci := 0) (q0 := 0) hK hP rfl rfl, fun U hU hW => ⟨rfl, by rw [hU], by rw [hU]; exact hP, va_K.moved hW.alike hK, hD.weaken (fun _ _ _ _ => trivial)⟩⟩ rfl rfl hl.1 rfl (lv_room (Nat.le_of_ble_eq_true rfl)) d_D_putSlipIntoMatches_114 ⟨Nat.le_of_ble_eq_true rfl, Nat.le_of_ble_eq_true rfl⟩) hS (fun q _ h => hFc q h) hFc (fun k' t' H1 locs ht hvm hw hB hz1 hk1 hS => ?_)
      obtain ⟨hP1, hD1⟩ := hB
      rw [ht] at hP1
      have hP := hP1
      have hD := hD1.weaken (fun _ q _ h => hFc q.1 h)
      rw [htl, hpl2] at hP hD hw
      exact W.vret hx hb hr (fun t ht hW => ⟨⟨k', rfl, hw, by rw [ht]; exact hP, hD⟩, hS.F ht⟩) hS.2.2 d_D_putSlipIntoMatches_117
    | cons ab mm ih =>
      obtain ⟨a, b⟩ := ab
      intro i q t g ls H locs hmm hmA hlen2 hqt htl2 hpl hg hF hl hP hD hS
      obtain ⟨hfo, hrest⟩ := hmm
      obtain ⟨g12, g13, hmA2⟩ := hmA
      have f1 := hfo.1
      have f2 := hfo.2.1
      have f3 := hfo.2.2.1
      have f4 := hfo.2.2.2.1.1
      simp only [List.length_cons] at hlen2
      have htl3 : t + ((a - q) + e.sn + rp_len e.sn (e.tn e.p) b mm) = tl := htl2
      have hpl3 : t + ((a - q) + e.sn + rp_pl e.sn b mm) = rp_pl e.sn 0 ms := hpl
      have hi0 : i < 2147483648 := by clear w tt h hms hrest; omega
      refine lv_iload hx hb d_D_putSlipIntoMatches_13 (lv_at hl 5 rfl) ?_
      refine lv_iload_n hx hb d_D_putSlipIntoMatches_15 rfl (lv_at hl 1 rfl) ?_
      refine lv_icmp_ge (tgt := 90) hx hb d_D_putSlipIntoMatches_16 (by decide) (fun hc => absurd ((pn_le (by clear w tt h hms hrest; omega) hi0).mp hc) (by clear w tt h hms hrest; omega)) (fun _ => ?_)
      refine lv_aload_n hx hb d_D_putSlipIntoMatches_19 rfl (lv_at hl 0 rfl) ?_
      refine va_get (D := x.D) (ci := 0) (v := .ref (x.q 12)) (C := R_D) (T := F_D) (N := 14) hx hb hts (fun w h => List.mem_cons_of_mem _ (in_D w h)) hown hK hP 0 rfl rfl 12 (by decide) (hts _ (List.mem_cons_of_mem _ lk_305)) (fun _ h9 => h9) rfl d_D_putSlipIntoMatches_20 ?_
      refine lv_iload hx hb d_D_putSlipIntoMatches_23 (lv_at hl 5 rfl) ?_
      refine va_iald hx hb hK hP 2 1 rfl rfl (wk_inb_ok ((pn_inb hi0).mpr (by clear w tt h hms hrest; omega))) d_D_putSlipIntoMatches_25 ?_
      refine wk_top (w := .int (Int32.ofNat a)) (congrArg _ (by rw [pn_nat hi0]; exact g12)) ?_
      refine lv_iload hx hb d_D_putSlipIntoMatches_26 (lv_at hl 3 rfl) ?_
      refine lv_isub hx hb d_D_putSlipIntoMatches_28 ?_
      refine wk_top (w := .int (Int32.ofNat (a - q))) (congrArg _ (pn_sub f1)) ?_
      refine lv_istore (lv' := [(7, .int (Int32.ofNat (a - q))), (0, .ref x.h), (1, .int (Int32.ofNat ms.length)), (3, .ref tq), (4, .int (Int32.ofNat q)), (5, .int (Int32.ofNat t)), (6, .int (Int32.ofNat i))]) hx hb d_D_putSlipIntoMatches_29 hl (by decide) rfl (fun ls hl => ?_)
      have hl : lv_has ls 8 [(7, .int (Int32.ofNat (a - q))), (0, .ref x.h), (1, .int (Int32.ofNat ms.length)), (3, .ref tq), (4, .int (Int32.ofNat q)), (5, .int (Int32.ofNat t)), (6, .int (Int32.ofNat i))] := hl
      refine lv_aload_n hx hb d_D_putSlipIntoMatches_31 rfl (lv_at hl 1 rfl) ?_
      refine va_get (D := x.D) (ci := 0) (v := .ref (k.ta e.p)) (C := R_D) (T := F_D) (N := 14) hx hb hts (fun w h => List.mem_cons_of_mem _ (in_D w h)) hown hK hP 0 rfl rfl 5 (by decide) (hts _ (List.mem_cons_of_mem _ lk_241)) (fun _ h9 => h9) rfl d_D_putSlipIntoMatches_32 ?_
      refine lv_iload hx hb d_D_putSlipIntoMatches_35 (lv_at hl 4 rfl) ?_
      refine lv_aload_n hx hb d_D_putSlipIntoMatches_37 rfl (lv_at hl 3 rfl) ?_
      refine lv_iload hx hb d_D_putSlipIntoMatches_38 (lv_at hl 5 rfl) ?_
      refine lv_iload hx hb d_D_putSlipIntoMatches_40 (lv_at hl 0 rfl) ?_
      refine va_copyL (sp := q) (dp := t) (n := a - q) (rest := []) hx hb (hml.trans hl.1.symm) hown (hts _ (List.mem_cons_of_mem _ lk_517)) (hts _ (List.mem_cons_of_mem _ lk_520)) (hts _ (List.mem_cons_of_mem _ lk_518)) (hts _ (List.mem_cons_of_mem _ lk_519)) hK hP hD hS 0 (kE_in x k hpb) rfl (by clear w tt h hms hrest; omega) (by clear w tt h hms hrest; omega) (by clear w tt h hms hrest; omega) (by clear w tt h hms hrest; omega) (fun i hi => tt.ch _ (by clear w tt h hms hrest; omega)) (Nat.le_of_ble_eq_true rfl) (Nat.le_of_ble_eq_true rfl) d_D_putSlipIntoMatches_42 (fun H locs hP hD hS => ?_)
      refine lv_aload_n hx hb d_D_putSlipIntoMatches_45 rfl (lv_at hl 1 rfl) ?_
      refine va_get (D := x.D) (ci := 0) (v := .ref (x.q 0)) (C := R_D) (T := F_D) (N := 14) hx hb hts (fun w h => List.mem_cons_of_mem _ (in_D w h)) hown hK hP 0 rfl rfl 0 (by decide) (hts _ (List.mem_cons_of_mem _ lk_311)) (fun _ h9 => h9) rfl d_D_putSlipIntoMatches_46 ?_
      refine lv_iconst (v := 0) hx hb d_D_putSlipIntoMatches_49 (by decide) ?_
      refine lv_aload_n hx hb d_D_putSlipIntoMatches_50 rfl (lv_at hl 3 rfl) ?_
      refine lv_iload hx hb d_D_putSlipIntoMatches_51 (lv_at hl 5 rfl) ?_
      refine lv_iload hx hb d_D_putSlipIntoMatches_53 (lv_at hl 0 rfl) ?_
      refine lv_iadd hx hb d_D_putSlipIntoMatches_55 ?_
      refine wk_top (w := .int (Int32.ofNat (t + (a - q)))) (congrArg _ (pn_add _ _)) ?_
      refine lv_aload_n hx hb d_D_putSlipIntoMatches_56 rfl (lv_at hl 1 rfl) ?_
      refine va_get (D := x.D) (ci := 0) (v := .int (k.I 1)) (C := R_D) (T := F_D) (N := 14) hx hb hts (fun w h => List.mem_cons_of_mem _ (in_D w h)) hown hK hP 0 rfl rfl 1 (by decide) (hts _ (List.mem_cons_of_mem _ lk_312)) (fun _ h9 => h9) rfl d_D_putSlipIntoMatches_57 ?_
      refine wk_top (w := .int (Int32.ofNat e.sn)) (congrArg _ h.s1) ?_
      refine va_copyL (sp := 0) (dp := t + (a - q)) (n := e.sn) (rest := []) hx hb (hml.trans hl.1.symm) hown (hts _ (List.mem_cons_of_mem _ lk_517)) (hts _ (List.mem_cons_of_mem _ lk_520)) (hts _ (List.mem_cons_of_mem _ lk_518)) (hts _ (List.mem_cons_of_mem _ lk_519)) hK hP hD hS 0 (kA_in x k e) rfl (by clear w tt h hms hrest; omega) (by clear w tt h hms hrest; omega) (by clear w tt h hms hrest; omega) (by clear w tt h hms hrest; omega) (fun i hi => ⟨e.sc i, w.sv i hi, by rw [Nat.zero_add]; exact h.s2 i hi⟩) (Nat.le_of_ble_eq_true rfl) (Nat.le_of_ble_eq_true rfl) d_D_putSlipIntoMatches_60 (fun H locs hP hD hS => ?_)
      refine lv_iload hx hb d_D_putSlipIntoMatches_63 (lv_at hl 5 rfl) ?_
      refine lv_iload hx hb d_D_putSlipIntoMatches_65 (lv_at hl 0 rfl) ?_
      refine lv_aload_n hx hb d_D_putSlipIntoMatches_67 rfl (lv_at hl 1 rfl) ?_
      refine va_get (D := x.D) (ci := 0) (v := .int (k.I 1)) (C := R_D) (T := F_D) (N := 14) hx hb hts (fun w h => List.mem_cons_of_mem _ (in_D w h)) hown hK hP 0 rfl rfl 1 (by decide) (hts _ (List.mem_cons_of_mem _ lk_312)) (fun _ h9 => h9) rfl d_D_putSlipIntoMatches_68 ?_
      refine wk_top (w := .int (Int32.ofNat e.sn)) (congrArg _ h.s1) ?_
      refine lv_iadd hx hb d_D_putSlipIntoMatches_71 ?_
      refine lv_iadd hx hb d_D_putSlipIntoMatches_72 ?_
      refine wk_top (w := .int (Int32.ofNat (t + ((a - q) + e.sn)))) (congrArg _ (by rw [pn_add, pn_add])) ?_
      refine lv_istore (lv' := [(5, .int (Int32.ofNat (t + ((a - q) + e.sn)))), (7, .int (Int32.ofNat (a - q))), (0, .ref x.h), (1, .int (Int32.ofNat ms.length)), (3, .ref tq), (4, .int (Int32.ofNat q)), (6, .int (Int32.ofNat i))]) hx hb d_D_putSlipIntoMatches_73 hl (by decide) rfl (fun ls hl => ?_)
      have hl : lv_has ls 8 [(5, .int (Int32.ofNat (t + ((a - q) + e.sn)))), (7, .int (Int32.ofNat (a - q))), (0, .ref x.h), (1, .int (Int32.ofNat ms.length)), (3, .ref tq), (4, .int (Int32.ofNat q)), (6, .int (Int32.ofNat i))] := hl
      refine lv_aload_n hx hb d_D_putSlipIntoMatches_75 rfl (lv_at hl 2 rfl) ?_
      refine va_get (D := x.D) (ci := 0) (v := .ref (x.q 13)) (C := R_D) (T := F_D) (N := 14) hx hb hts (fun w h => List.mem_cons_of_mem _ (in_D w h)) hown hK hP 0 rfl rfl 13 (by decide) (hts _ (List.mem_cons_of_mem _ lk_307)) (fun _ h9 => h9) rfl d_D_putSlipIntoMatches_76 ?_
      refine lv_iload hx hb d_D_putSlipIntoMatches_79 (lv_at hl 6 rfl) ?_
      refine va_iald hx hb hK hP 3 1 rfl rfl (wk_inb_ok ((pn_inb hi0).mpr (by clear w tt h hms hrest; omega))) d_D_putSlipIntoMatches_81 ?_
      refine wk_top (w := .int (Int32.ofNat b)) (congrArg _ (by rw [pn_nat hi0]; exact g13)) ?_
      refine lv_istore (lv' := [(4, .int (Int32.ofNat b)), (5, .int (Int32.ofNat (t + ((a - q) + e.sn)))), (7, .int (Int32.ofNat (a - q))), (0, .ref x.h), (1, .int (Int32.ofNat ms.length)), (3, .ref tq), (6, .int (Int32.ofNat i))]) hx hb d_D_putSlipIntoMatches_82 hl (by decide) rfl (fun ls hl => ?_)
      have hl : lv_has ls 8 [(4, .int (Int32.ofNat b)), (5, .int (Int32.ofNat (t + ((a - q) + e.sn)))), (7, .int (Int32.ofNat (a - q))), (0, .ref x.h), (1, .int (Int32.ofNat ms.length)), (3, .ref tq), (6, .int (Int32.ofNat i))] := hl
      refine lv_iinc (k := 6) (v := (Int32.ofNat (i + 1))) (lv' := [(6, .int (Int32.ofNat (i + 1))), (4, .int (Int32.ofNat b)), (5, .int (Int32.ofNat (t + ((a - q) + e.sn)))), (7, .int (Int32.ofNat (a - q))), (0, .ref x.h), (1, .int (Int32.ofNat ms.length)), (3, .ref tq)]) hx hb d_D_putSlipIntoMatches_84 hl rfl (pn_succ i) (by decide) rfl (fun ls hl => ?_)
      have hl : lv_has ls 8 [(6, .int (Int32.ofNat (i + 1))), (4, .int (Int32.ofNat b)), (5, .int (Int32.ofNat (t + ((a - q) + e.sn)))), (7, .int (Int32.ofNat (a - q))), (0, .ref x.h), (1, .int (Int32.ofNat ms.length)), (3, .ref tq)] := hl
      refine lv_goto (tgt := 13) hx hb d_D_putSlipIntoMatches_87 (by decide) ?_
      refine ih (i + 1) b (t + ((a - q) + e.sn)) _ _ _ _ hrest hmA2 (by clear w tt h hms hrest; omega) f3 (by clear w tt h hms hrest; omega) (by clear w tt h hms hrest; omega) ?_ ?_ (lv_sub hl [4, 5, 6, 1, 2, 0] rfl) hP hD hS
      · exact rp_stp (sn := e.sn) (sc := e.sc) (G := fun j => rp_tx e.sn e.sc (e.tx e.p) b mm (j - (a - q + e.sn))) hg (fun j hj => h.s2 j hj) (fun j hj => hF j (show j < (a - q) + e.sn + rp_len e.sn (e.tn e.p) b mm by clear w tt h hms hrest; omega))
      · intro j hj
        have z := hF ((a - q) + e.sn + j) (show (a - q) + e.sn + j < (a - q) + e.sn + rp_len e.sn (e.tn e.p) b mm by clear w tt h hms hrest; omega)
        have y : rp_tx e.sn e.sc (e.tx e.p) q ((a, b) :: mm) ((a - q) + e.sn + j) = rp_tx e.sn e.sc (e.tx e.p) b mm j := by
          show (if (a - q) + e.sn + j < a - q then _ else if (a - q) + e.sn + j < a - q + e.sn then _ else rp_tx e.sn e.sc (e.tx e.p) b mm ((a - q) + e.sn + j - (a - q + e.sn))) = _
          rw [if_neg (by clear w tt h hms hrest; omega), if_neg (by clear w tt h hms hrest; omega), show (a - q) + e.sn + j - (a - q + e.sn) = j by clear w tt h hms hrest; omega]
        rw [← y, ← z, show t + ((a - q) + e.sn) + j = t + ((a - q) + e.sn + j) by clear w tt h hms hrest; omega]
  exact key ms 0 0 0 _ _ _ _ hms hmA (Nat.zero_add _) (Nat.zero_le _) (by rw [Nat.zero_add, ← htl]) (Nat.zero_add _) (fun j hj => absurd hj (Nat.not_lt_zero _)) (fun j _ => by rw [Nat.zero_add, hFe]) (lv_sub hl [4, 5, 3, 2, 1, 0] rfl) hP hD hS
