-- 79t.rf
-- own rows: the refutation: what both sides do at 39 times type('a') and insert(), and one insert() more
theorem B_insertX {e : ES} {t : Nat} {cf : Nat → Nat} {I : MI} {A : MA} (h : MRel e t cf I A) (w : EWf e) : Res (f_M_insert I A) (fun z => ∃ t' cf', t' ≤ t + 1 ∧ MRel (e_ins e) t' cf' z.2.1 z.2.2 ∧ ((e_edits e = true ∧ e_full e = true ∧ z.2.1 0 = 1) ∨ (¬ (e_edits e = true ∧ e_full e = true) ∧ z.2.1 0 = 0 ∧ z.1 = Int32.ofNat (e_ins e).p))) := by
  have hsb := w.sb
  have hn2 := w.n2
  have hpb := w.pb
  have tt := w.tt _ w.pb
  have htb := tt.nb
  obtain ⟨l1, l2⟩ := e_lo_le w
  have h10 : ¬ (1 : Int32) = 0 := by decide
  have h1le : ¬ (1 : Int32) ≤ 0 := by decide
  have h0le : (0 : Int32) ≤ 0 := by decide
  obtain ⟨X, hX⟩ : ∃ X, X = upd (upd (fun _ => (0 : Int32)) 1 (Int32.ofNat (e_lo e))) 2 (Int32.ofNat (e_hi e)) := ⟨_, rfl⟩
  have x1 : X 1 = Int32.ofNat (e_lo e) := by rw [hX, upd_ne _ _ (by decide), upd_self]
  have x2 : X 2 = Int32.ofNat (e_hi e) := by rw [hX, upd_self]
  unfold f_M_insert
  rw [B_low h w]
  simp only [Option.bind_some]
  rw [B_high h w]
  simp only [Option.bind_some]
  rw [← hX, h.s1]
  -- with something to do
  have yes : e_edits e = true → Res (f_M_insert_22 I A X) (fun z => ∃ t' cf', t' ≤ t + 1 ∧ MRel (e_ins e) t' cf' z.2.1 z.2.2 ∧ ((e_edits e = true ∧ e_full e = true ∧ z.2.1 0 = 1) ∨ (¬ (e_edits e = true ∧ e_full e = true) ∧ z.2.1 0 = 0 ∧ z.1 = Int32.ofNat (e_ins e).p))) := by
    intro hed
    unfold f_M_insert_22 f_M_insert_27
    rw [if_neg h10, B_len (h.txt w)]
    simp only [Option.bind_some]
    rw [x1, x2, h.s1, h.hn, pn_sub l1, pn_sub (show e_hi e - e_lo e ≤ e.tn e.p by clear h w tt; omega), pn_add, show e.tn e.p - (e_hi e - e_lo e) + e.sn = e_exl e (e_lo e) (e_hi e) e.sn from rfl]
    have hxb : e_exl e (e_lo e) (e_hi e) e.sn ≤ 200 := by unfold e_exl; clear h w tt; omega
    have bad : e_full e = true → Res (f_M_insert_61 I A (upd X 3 1)) (fun z => ∃ t' cf', t' ≤ t + 1 ∧ MRel (e_ins e) t' cf' z.2.1 z.2.2 ∧ ((e_edits e = true ∧ e_full e = true ∧ z.2.1 0 = 1) ∨ (¬ (e_edits e = true ∧ e_full e = true) ∧ z.2.1 0 = 0 ∧ z.1 = Int32.ofNat (e_ins e).p))) := by
      intro hfull
      unfold f_M_insert_61 f_M_insert_66
      simp only [wk_let, upd_self, if_neg h1le]
      have ee : e_ins e = e := by unfold e_ins; rw [if_pos hed, if_pos hfull]
      rw [ee]
      exact Res.mk ⟨t, cf, Nat.le_succ _, h.i0 1, Or.inl ⟨hed, hfull, upd_self I 0 1⟩⟩
    by_cases q160 : 160 < e_exl e (e_lo e) (e_hi e) e.sn
    · rw [if_pos ((pn_clt (x := 160) 160 rfl (by clear h w tt; omega) (by omega)).mpr q160)]
      exact bad (decide_eq_true (Or.inl q160))
    · rw [if_neg (fun z => q160 ((pn_clt (x := 160) 160 rfl (by clear h w tt; omega) (by omega)).mp z))]
      by_cases q40 : e.n = 40
      · rw [if_pos ((pn_eqc (x := 40) 40 rfl (by clear h w tt; omega) (by omega)).mpr q40)]
        exact bad (decide_eq_true (Or.inr q40))
      · rw [if_neg (fun z => q40 ((pn_eqc (x := 40) 40 rfl (by clear h w tt; omega) (by omega)).mp z))]
        have hnf : ¬ e_full e = true := fun z => (of_decide_eq_true z).elim q160 q40
        have ee : e_ins e = e_sn (e_edit e (e_exl e (e_lo e) (e_hi e) e.sn) (e_ext e (e_lo e) (e_hi e) e.sn) (e_lo e + e.sn)) 0 := by unfold e_ins; rw [if_pos hed, if_neg hnf]
        rw [ee]
        unfold f_M_insert_65 f_M_insert_66
        have y1 : upd X 3 1 1 = Int32.ofNat (e_lo e) := by rw [upd_ne _ _ (by decide)]; exact x1
        have y2 : upd X 3 1 2 = Int32.ofNat (e_hi e) := by rw [upd_ne _ _ (by decide)]; exact x2
        have y3 : upd X 3 1 3 = 1 := upd_self _ _ _
        simp only [wk_let, upd_self, if_pos h0le, if_neg h10, y1, y2]
        have h0 := h.i0 0
        have r0 : MRel e t cf (upd (upd I 0 0) 36 0) A := h0.fr (fun j _ _ _ _ q => upd_ne _ _ q) (fun _ _ _ _ => rfl)
        obtain ⟨I0, hI0⟩ : ∃ I0, I0 = upd (upd I 0 0) 36 0 := ⟨_, rfl⟩
        rw [← hI0] at r0 ⊢
        have i36 : I0 36 = Int32.ofNat 0 := by rw [hI0]; exact upd_self _ _ _
        have z00 : I0 0 = 0 := by rw [hI0, upd_ne _ _ (by decide), upd_self]
        refine (B_addText (lo := 0) (r0.txt w) (Nat.zero_le _) (show e_lo e ≤ e.tn e.p by clear h w tt r0 h0; omega) (by clear h w tt r0 h0; omega) i36).bind ?_
        rintro ⟨a0, I1, A1⟩ ⟨a36, ai, aa, ad⟩
        simp only at a36 ai aa ad
        have r1 : MRel e t cf I1 A1 := r0.fr (fun j _ _ _ _ q => ai j q) (fun j _ _ q => aa j q)
        simp only
        refine (B_addSlip (sc := e.sc) hsb (by clear h w tt r0 h0 r1; omega) r1.s1 a36 (fun j hj => ⟨r1.s2 j hj, w.sv j hj⟩)).bind ?_
        rintro ⟨b0, I2, A2⟩ ⟨b36, bi, ba, bd⟩
        simp only at b36 bi ba bd
        have r2 : MRel e t cf I2 A2 := r1.fr (fun j _ _ _ _ q => bi j q) (fun j _ _ q => ba j q)
        simp only
        rw [B_len (r2.txt w)]
        simp only [Option.bind_some]
        refine (B_addText (r2.txt w) l2 (Nat.le_refl _) (by clear h w tt r0 h0 r1 r2; omega) b36).bind ?_
        rintro ⟨c0, I3, A3⟩ ⟨c36, ci, ca, cd⟩
        simp only at c36 ci ca cd
        have r3 : MRel e t cf I3 A3 := r2.fr (fun j _ _ _ _ q => ci j q) (fun j _ _ q => ca j q)
        simp only
        have elen : 0 + (e_lo e - 0) + e.sn + (e.tn e.p - e_hi e) = e_exl e (e_lo e) (e_hi e) e.sn := by unfold e_exl; clear h w tt r0 h0 r1 r2 r3; omega
        have epl : 0 + (e_lo e - 0) + e.sn = e_lo e + e.sn := by clear h w tt r0 h0 r1 r2 r3; omega
        rw [b36, epl]
        rw [elen] at c36
        have hT := e_ext_txt w l1 l2 (Nat.le_refl e.sn) (show e_exl e (e_lo e) (e_hi e) e.sn ≤ 160 by clear h w tt r0 h0 r1 r2 r3; omega)
        refine (r3.edit w (tf := e_ext e (e_lo e) (e_hi e) e.sn) (by clear h w tt r0 h0 r1 r2 r3; omega) c36 (fun k hk => ?_) hT).bind ?_
        · have hk' : k < e.tn e.p - (e_hi e - e_lo e) + e.sn := hk
          unfold e_ext
          rw [cd k]
          by_cases q3 : e_lo e + e.sn ≤ k
          · rw [if_pos (by clear h w tt r0 h0 r1 r2 r3; omega), if_neg (by clear h w tt r0 h0 r1 r2 r3; omega), if_neg (by clear h w tt r0 h0 r1 r2 r3; omega)]
            show e.tx e.p (e_hi e + (k - (0 + (e_lo e - 0) + e.sn))) = _
            rw [show e_hi e + (k - (0 + (e_lo e - 0) + e.sn)) = k - (e_lo e + e.sn) + e_hi e by clear h w tt r0 h0 r1 r2 r3; omega]
          · rw [if_neg (by clear h w tt r0 h0 r1 r2 r3; omega), bd k]
            by_cases q2 : e_lo e ≤ k
            · rw [if_pos (by clear h w tt r0 h0 r1 r2 r3; omega), if_neg (by clear h w tt r0 h0 r1 r2 r3; omega), if_pos (by clear h w tt r0 h0 r1 r2 r3; omega)]
              show Int32.ofNat (e.sc (k - (0 + (e_lo e - 0)))) = _
              rw [show k - (0 + (e_lo e - 0)) = k - e_lo e by clear h w tt r0 h0 r1 r2 r3; omega]
            · rw [if_neg (by clear h w tt r0 h0 r1 r2 r3; omega), ad k, if_pos (by clear h w tt r0 h0 r1 r2 r3; omega), if_pos (by clear h w tt r0 h0 r1 r2 r3; omega)]
              show e.tx e.p (0 + (k - 0)) = _
              rw [Nat.zero_add, Nat.sub_zero]
        · rintro ⟨d0, I4, A4⟩ ⟨d1, d2⟩
          simp only at d1 d2
          simp only [f_M_insert_118, wk_let]
          refine Res.mk ⟨t + 1, _, Nat.le_refl _, d1.sn0, Or.inr ⟨fun z => hnf z.2, ?_, (d1.sn0).hp⟩⟩
          show upd I4 1 0 0 = 0
          rw [upd_ne _ _ (by decide), d2, ci 0 (by decide), bi 0 (by decide), ai 0 (by decide)]; exact z00
  by_cases q1 : e_lo e < e_hi e
  · rw [if_pos ((pn_lt (by clear h w tt; omega) (by clear h w tt; omega)).mpr q1)]
    exact yes (decide_eq_true (Or.inl q1))
  · rw [if_neg (fun z => q1 ((pn_lt (by clear h w tt; omega) (by clear h w tt; omega)).mp z))]
    by_cases q2 : e.sn = 0
    · rw [if_pos ((pn_lec (x := 0) 0 rfl (by clear h w tt; omega) (by omega)).mpr (by clear h w tt; omega))]
      have hned : ¬ e_edits e = true := fun z => by have := of_decide_eq_true z; clear h w tt; omega
      have ee : e_ins e = e := by unfold e_ins; rw [if_neg hned]
      rw [ee]
      unfold f_M_insert_27 f_M_insert_65 f_M_insert_66 f_M_insert_118
      have y3 : upd X 3 0 3 = 0 := upd_self _ _ _
      simp only [if_true, wk_let, upd_self, if_pos h0le]
      refine Res.mk ⟨t, cf, Nat.le_succ _, (h.i0 0).snz q2, Or.inr ⟨fun z => hned z.1, ?_, ((h.i0 0).snz q2).hp⟩⟩
      show upd (upd I 0 0) 1 0 0 = 0
      rw [upd_ne _ _ (by decide), upd_self]
    · rw [if_neg (fun z => by have := (pn_lec (x := 0) 0 rfl (by clear h w tt; omega) (by omega)).mp z; clear h w tt; omega)]
      exact yes (decide_eq_true (Or.inr (by clear h w tt; omega)))
theorem S_insertX (l : Launch) (hfl : l.flags = flags0) (x : FX) {k : CK} {e : ES} {t : Nat} {cf : Nat → Nat} {I : MI} {A : MA} (h : CRel e k) (w : EWf e) (hM : MRel e t cf I A) (ov : Nat → Int64) (hn : e.n ≠ 40) (hx : e_exl e (e_lo e) (e_hi e) e.sn ≤ 160) :
    ∃ ov' r I' A' t' cf', HRet l x y_L_insert w_L_insert [.ref x.h, .ref x.ob] k e ov 0 (e_ins e) ov' ∧ f_M_insert I A = some (r, I', A') ∧ EWf (e_ins e) ∧ MRel (e_ins e) t' cf' I' A' ∧ t' ≤ t + 1 ∧ I' 0 = 0 ∧ ((0 : Int32) = 0 → ov' 0 = r.toInt64) := by
  obtain ⟨⟨r, I', A'⟩, ez, t', cf', ht, hm, hz⟩ := B_insertX hM w
  have nf : ¬ e_full e = true := fun z => (of_decide_eq_true z).elim (fun y => absurd hx (Nat.not_le.mpr y)) hn
  rcases hz with z | ⟨-, z0, zr⟩
  · exact absurd z.2.1 nf
  · have zr : r = Int32.ofNat (e_ins e).p := zr
    exact ⟨_, r, I', A', t', cf', H_insert_0 l hfl x ov (K_insert l x h w hn hx), ez, w.ins, hm, ht, z0, fun _ => by rw [zr]; exact oU0 _ _⟩
theorem S_insertB (l : Launch) (hfl : l.flags = flags0) (x : FX) {k : CK} {e : ES} {t : Nat} {cf : Nat → Nat} {I : MI} {A : MA} (h : CRel e k) (w : EWf e) (hM : MRel e t cf I A) (ov : Nat → Int64) (hn : e.n = 40) (hne : ¬ e_edits e = true) :
    ∃ r I' A' t' cf', HRet l x y_L_insert w_L_insert [.ref x.h, .ref x.ob] k e ov 1 e ov ∧ f_M_insert I A = some (r, I', A') ∧ EWf e ∧ MRel e t' cf' I' A' ∧ t' ≤ t + 1 ∧ I' 0 = 0 := by
  obtain ⟨⟨r, I', A'⟩, ez, t', cf', ht, hm, hz⟩ := B_insertX hM w
  have he : e_ins e = e := by unfold e_ins; rw [if_neg hne]
  rcases hz with z | ⟨-, z0, -⟩
  · exact absurd z.1 hne
  · rw [he] at hm
    exact ⟨r, I', A', t', cf', H_insert_1 l hfl x ov (Kt_insert l hfl x h w (Or.inl hn)), ez, w, hm, ht, z0⟩
/-- insert(): both sides answer the same (returned or refused, and the number) at every editor but one with 40 states and nothing to insert -/
theorem S_insertY (l : Launch) (hfl : l.flags = flags0) (x : FX) {k : CK} {e : ES} {t : Nat} {cf : Nat → Nat} {I : MI} {A : MA} (h : CRel e k) (w : EWf e) (hM : MRel e t cf I A) (ov : Nat → Int64) (hq : ¬ (e.n = 40 ∧ ¬ e_edits e = true)) :
    ∃ c e' ov' r I' A' t' cf', HRet l x y_L_insert w_L_insert [.ref x.h, .ref x.ob] k e ov c e' ov' ∧ f_M_insert I A = some (r, I', A') ∧ EWf e' ∧ MRel e' t' cf' I' A' ∧ t' ≤ t + 1 ∧ I' 0 = c ∧ (c = 0 → ov' 0 = r.toInt64) := by
  by_cases q : e.n = 40 ∨ 160 < e_exl e (e_lo e) (e_hi e) e.sn
  · obtain ⟨⟨r, I', A'⟩, ez, t', cf', ht, hm, hz⟩ := B_insertX hM w
    have hed : e_edits e = true := by
      rcases q with q | q
      · exact Classical.byContradiction (fun z => hq ⟨q, z⟩)
      · refine Classical.byContradiction (fun z => ?_)
        have z2 : ¬ (e_lo e < e_hi e ∨ 0 < e.sn) := fun y => z (decide_eq_true y)
        have tt := w.tt _ w.pb
        have htb := tt.nb
        unfold e_exl at q
        clear h w hM hm hz tt hq z ez ht
        omega
    have hfull : e_full e = true := decide_eq_true q.symm
    have he : e_ins e = e := by unfold e_ins; rw [if_pos hed, if_pos hfull]
    rcases hz with z | ⟨z, -⟩
    · refine ⟨1, e_ins e, ov, r, I', A', t', cf', ?_, ez, w.ins, hm, ht, z.2.2, no10⟩
      rw [he]
      exact H_insert_1 l hfl x ov (Kt_insert l hfl x h w q)
    · exact absurd ⟨hed, hfull⟩ z
  · obtain ⟨ov', r, I', A', t', cf', a1, a2, a3, a4, a5, a6, a7⟩ := S_insertX l hfl x h w hM ov (fun z => q (Or.inl z)) (Nat.le_of_not_lt (fun z => q (Or.inr z)))
    exact ⟨0, e_ins e, ov', r, I', A', t', cf', a1, a2, a3, a4, a5, a6, a7⟩
theorem S_typeX (l : Launch) (x : FX) {k : CK} {e : ES} {t : Nat} {cf : Nat → Nat} {I : MI} {A : MA} (h : CRel e k) (w : EWf e) (hM : MRel e t cf I A) (k1 : Int32) :
    ∃ r I' A', KRetI l x y_D_type w_D_type ({ frames := 0, cells := 0, slots := 0, locals := 0 }) [.ref x.h, .int k1] k e 0 0 r (e_typ e k1) ∧ f_M_type I A k1 = some (r, I', A') ∧ EWf (e_typ e k1) ∧ MRel (e_typ e k1) t cf I' A' := by
  obtain ⟨⟨r, I', A'⟩, ez, zr, hm⟩ := B_type hM w k1
  have zr : r = _ := zr
  exact ⟨r, I', A', by rw [zr]; exact K_type l x h w k1, ez, w.typ k1, hm⟩
/-- the editor after j times type('a') and insert() -/
abbrev RF (e : ES) (j : Nat) : Prop := e.sn = 0 ∧ e.mr = none ∧ e.n = j + 1 ∧ e.tn e.p = j
theorem rf_typ {e : ES} (h0 : e.sn = 0) : e_typ e 97 = (ES.mk (e.sn + 1) (sU e.sc e.sn (97 : Int32).toNatClampNeg) e.n e.p e.c e.mr e.tn e.tx e.pl e.pa e.lc e.has e.pat e.fl) := if_pos ⟨by decide, by rw [h0]; decide⟩
theorem rf_lo {e : ES} (h : e.mr = none) : e_lo e = e.c := by
  unfold e_lo
  rw [h]
theorem rf_hi {e : ES} (h : e.mr = none) : e_hi e = e.c := by
  unfold e_hi
  rw [h]
theorem rf_ins {e : ES} {j : Nat} (h1 : e.sn = 1) (hm : e.mr = none) (hn : e.n = j + 1) (ht : e.tn e.p = j) (hj : j < 39) : e.n ≠ 40 ∧ e_exl e (e_lo e) (e_hi e) e.sn ≤ 160 ∧ RF (e_ins e) (j + 1) := by
  have hx : e_exl e (e_lo e) (e_hi e) e.sn = j + 1 := by
    unfold e_exl
    rw [rf_lo hm, rf_hi hm, ht, h1]
    omega
  have n40 : e.n ≠ 40 := by omega
  have x160 : e_exl e (e_lo e) (e_hi e) e.sn ≤ 160 := by omega
  have hed : e_edits e = true := decide_eq_true (Or.inr (by omega))
  have hnf : ¬ e_full e = true := fun z => (of_decide_eq_true z).elim (fun y => by omega) n40
  refine ⟨n40, x160, ?_⟩
  have ee : e_ins e = e_sn (e_edit e (e_exl e (e_lo e) (e_hi e) e.sn) (e_ext e (e_lo e) (e_hi e) e.sn) (e_lo e + e.sn)) 0 := by
    unfold e_ins
    rw [if_pos hed, if_neg hnf]
  rw [ee, hx]
  refine ⟨rfl, rfl, ?_, ?_⟩
  · show e.n + 1 = j + 1 + 1
    rw [hn]
  · show sU e.tn e.n (j + 1) e.n = j + 1
    exact sU_self _ _ _
theorem rf_step {e : ES} {j : Nat} (h : RF e j) (hj : j < 39) : (e_typ e 97).n ≠ 40 ∧ e_exl (e_typ e 97) (e_lo (e_typ e 97)) (e_hi (e_typ e 97)) (e_typ e 97).sn ≤ 160 ∧ RF (e_ins (e_typ e 97)) (j + 1) := by
  obtain ⟨h0, hm, hn, ht⟩ := h
  have s1 : (e_typ e 97).sn = 1 := by
    rw [rf_typ h0]
    show e.sn + 1 = 1
    rw [h0]
  have m1 : (e_typ e 97).mr = none := by
    rw [rf_typ h0]
    exact hm
  have n1 : (e_typ e 97).n = j + 1 := by
    rw [rf_typ h0]
    exact hn
  have t1 : (e_typ e 97).tn (e_typ e 97).p = j := by
    rw [rf_typ h0]
    exact ht
  exact rf_ins s1 m1 n1 t1 hj
theorem rf_end {e : ES} (h : RF e 39) : e.n = 40 ∧ ¬ e_edits e = true := by
  obtain ⟨h0, hm, hn, -⟩ := h
  refine ⟨hn, fun z => ?_⟩
  have y := of_decide_eq_true z
  rw [rf_lo hm, rf_hi hm, h0] at y
  omega
