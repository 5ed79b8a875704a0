theorem MRel.fr {e : ES} {t : Nat} {cf : Nat → Nat} {I I' : MI} {A A' : MA} (h : MRel e t cf I A) (hi : ∀ j, j ≠ 0 → j ≠ 15 → j ≠ 34 → j ≠ 35 → j ≠ 36 → I' j = I j) (ha : ∀ j, j ≠ 32 → j ≠ 33 → j ≠ 37 → A' j = A j) : MRel e t cf I' A' := by
  refine ⟨?_, ?_, ?_, ?_, ?_, ?_, ?_, ?_, ?_, ?_, ?_, ?_, h.cl, ?_, ?_, ?_, ?_⟩
  · rw [hi 1 (by decide) (by decide) (by decide) (by decide) (by decide)]; exact h.s1
  · rw [ha 2 (by decide) (by decide) (by decide)]; exact h.s2
  · rw [hi 3 (by decide) (by decide) (by decide) (by decide) (by decide)]; exact h.hn
  · rw [hi 4 (by decide) (by decide) (by decide) (by decide) (by decide)]; exact h.hp
  · rw [ha 6 (by decide) (by decide) (by decide)]; exact h.tl
  · rw [ha 5 (by decide) (by decide) (by decide)]; exact h.tc
  · rw [hi 11 (by decide) (by decide) (by decide) (by decide) (by decide)]; exact h.hc
  · rw [hi 12 (by decide) (by decide) (by decide) (by decide) (by decide)]; exact h.hm
  · rw [ha 7 (by decide) (by decide) (by decide)]; exact h.hpl
  · rw [ha 8 (by decide) (by decide) (by decide)]; exact h.hpa
  · rw [hi 10 (by decide) (by decide) (by decide) (by decide) (by decide)]; exact h.ck
  · rw [ha 9 (by decide) (by decide) (by decide)]; exact h.cm
  · rw [hi 13 (by decide) (by decide) (by decide) (by decide) (by decide)]; exact h.hh
  · rw [hi 14 (by decide) (by decide) (by decide) (by decide) (by decide)]; exact h.hf
  · rw [ha 16 (by decide) (by decide) (by decide)]; exact h.pv
  · intro hhas tn tx hT
    exact (h.pm hhas tn tx hT).frame (hi 17 (by decide) (by decide) (by decide) (by decide) (by decide)) (hi 23 (by decide) (by decide) (by decide) (by decide) (by decide)) (hi 24 (by decide) (by decide) (by decide) (by decide) (by decide)) (fun j h1 h2 => ha j (by omega) (by omega) (by omega))
theorem MRel.i0 {e : ES} {t : Nat} {cf : Nat → Nat} {I : MI} {A : MA} (h : MRel e t cf I A) (x : Int32) : MRel e t cf (upd I 0 x) A := h.fr (fun j h0 _ _ _ _ => upd_ne _ _ h0) (fun _ _ _ _ => rfl)
/-- the slip has another length -/
def e_sn (e : ES) (k : Nat) : ES := (ES.mk (k) e.sc e.n e.p e.c e.mr e.tn e.tx e.pl e.pa e.lc e.has e.pat e.fl)
theorem MRel.sn0 {e : ES} {t : Nat} {cf : Nat → Nat} {I : MI} {A : MA} (h : MRel e t cf I A) : MRel (e_sn e 0) t cf (upd I 1 0) A := by
  refine ⟨upd_self _ _ _, fun k hk => absurd hk (Nat.not_lt_zero _), ?_, ?_, h.tl, h.tc, ?_, ?_, h.hpl, h.hpa, ?_, h.cm, h.cl, ?_, ?_, h.pv, ?_⟩
  · rw [upd_ne _ _ (by decide)]; exact h.hn
  · rw [upd_ne _ _ (by decide)]; exact h.hp
  · rw [upd_ne _ _ (by decide)]; exact h.hc
  · rw [upd_ne _ _ (by decide)]; exact h.hm
  · rw [upd_ne _ _ (by decide)]; exact h.ck
  · rw [upd_ne _ _ (by decide)]; exact h.hh
  · rw [upd_ne _ _ (by decide)]; exact h.hf
  · intro hhas tn tx hT
    exact (h.pm hhas tn tx hT).frame (upd_ne _ _ (by decide)) (upd_ne _ _ (by decide)) (upd_ne _ _ (by decide)) (fun _ _ _ => rfl)
theorem EWf.sn0 {e : ES} (w : EWf e) : EWf (e_sn e 0) := ⟨Nat.zero_le _, fun k hk => absurd hk (Nat.not_lt_zero _), w.n1, w.n2, w.pb, w.tt, w.cb, w.mb, w.lb, w.p0, w.ps, w.l1, w.l0⟩
theorem B_wipe {e : ES} {t : Nat} {cf : Nat → Nat} {I : MI} {A : MA} (h : MRel e t cf I A) : Res (f_M_wipe I A) (fun z => z.1 = Int32.ofNat e.sn ∧ MRel (e_sn e 0) t cf z.2.1 z.2.2) := by
  unfold f_M_wipe
  simp only [wk_let]
  exact Res.mk ⟨by show upd I 0 0 1 = _; rw [upd_ne _ _ (by decide)]; exact h.s1, (h.i0 0).sn0⟩
/-- a character may be typed -/
def okCh (c : Int32) : Bool := decide (c = 10) || (!decide (c < 32) && !decide (126 < c))
def e_typ (e : ES) (c : Int32) : ES := if okCh c = true ∧ e.sn ≠ 24 then (ES.mk (e.sn + 1) (sU e.sc e.sn c.toNatClampNeg) e.n e.p e.c e.mr e.tn e.tx e.pl e.pa e.lc e.has e.pat e.fl) else e
theorem okCh_lt {c : Int32} (h : okCh c = true) : Int32.ofNat c.toNatClampNeg = c ∧ c.toNatClampNeg < 128 := by
  unfold okCh at h
  rw [Bool.or_eq_true, Bool.and_eq_true] at h
  rcases h with h | ⟨h1, h2⟩
  · rw [of_decide_eq_true h]; exact ⟨rfl, by decide⟩
  · have a : ¬ c < 32 := by simpa using h1
    have b : ¬ 126 < c := by simpa using h2
    rw [Int32.lt_iff_toInt_lt] at a b
    have a32 : (32 : Int32).toInt = 32 := by decide
    have b126 : (126 : Int32).toInt = 126 := by decide
    rw [a32] at a
    rw [b126] at b
    have hnn : ¬ c < 0 := by rw [Int32.lt_iff_toInt_lt, Int32.toInt_zero]; omega
    refine ⟨pn_ofclamp hnn, ?_⟩
    have : c.toNatClampNeg = c.toInt.toNat := rfl
    omega
theorem B_isCh (c : Int32) : f_M_isCharacter c = some (g_flag (okCh c)) := by
  have y : ∀ X : Nat → Int32, f_M_isCharacter_18 X = some 1 := fun X => by simp only [f_M_isCharacter_18, f_M_isCharacter_23, nar_bool1, if_true]
  have n : ∀ X : Nat → Int32, f_M_isCharacter_22 X = some 0 := fun X => by simp only [f_M_isCharacter_22, f_M_isCharacter_23, nar_bool0, if_true]
  unfold okCh f_M_isCharacter
  by_cases q : c = 10
  · rw [if_pos q, y, decide_eq_true q, Bool.true_or]; rfl
  · rw [if_neg q, decide_eq_false q, Bool.false_or]
    by_cases q1 : c < 32
    · rw [if_pos q1, n, decide_eq_true q1]; rfl
    · rw [if_neg q1, decide_eq_false q1]
      by_cases q2 : 126 < c
      · rw [if_pos q2, n, decide_eq_true q2]; rfl
      · rw [if_neg q2, y, decide_eq_false q2]; rfl
theorem MRel.sn1 {e : ES} {t : Nat} {cf : Nat → Nat} {I : MI} {A : MA} (h : MRel e t cf I A) (v : Nat) : MRel (ES.mk (e.sn + 1) (sU e.sc e.sn v) e.n e.p e.c e.mr e.tn e.tx e.pl e.pa e.lc e.has e.pat e.fl) t cf (upd I 1 (Int32.ofNat (e.sn + 1))) (va_up A 2 (upd (A 2) e.sn (Int32.ofNat v))) := by
  refine ⟨upd_self _ _ _, fun k hk => ?_, ?_, ?_, ?_, ?_, ?_, ?_, ?_, ?_, ?_, ?_, h.cl, ?_, ?_, ?_, ?_⟩
  · rw [va_up_self]
    refine ofsU rfl (fun q => h.s2 k ?_)
    have : k < e.sn + 1 := hk
    clear h; omega
  · rw [upd_ne _ _ (by decide)]; exact h.hn
  · rw [upd_ne _ _ (by decide)]; exact h.hp
  · rw [va_up_ne _ _ (by decide)]; exact h.tl
  · rw [va_up_ne _ _ (by decide)]; exact h.tc
  · rw [upd_ne _ _ (by decide)]; exact h.hc
  · rw [upd_ne _ _ (by decide)]; exact h.hm
  · rw [va_up_ne _ _ (by decide)]; exact h.hpl
  · rw [va_up_ne _ _ (by decide)]; exact h.hpa
  · rw [upd_ne _ _ (by decide)]; exact h.ck
  · rw [va_up_ne _ _ (by decide)]; exact h.cm
  · rw [upd_ne _ _ (by decide)]; exact h.hh
  · rw [upd_ne _ _ (by decide)]; exact h.hf
  · rw [va_up_ne _ _ (by decide)]; exact h.pv
  · intro hhas tn tx hT
    exact (h.pm hhas tn tx hT).frame (upd_ne _ _ (by decide)) (upd_ne _ _ (by decide)) (upd_ne _ _ (by decide)) (fun j h1 h2 => va_up_ne _ _ (by omega))
theorem EWf.typ {e : ES} (w : EWf e) (c : Int32) : EWf (e_typ e c) := by
  unfold e_typ
  by_cases q : okCh c = true ∧ e.sn ≠ 24
  · rw [if_pos q]
    have hsb := w.sb
    refine ⟨by show e.sn + 1 ≤ 24; clear w; omega, fun k hk => ?_, w.n1, w.n2, w.pb, w.tt, w.cb, w.mb, w.lb, w.p0, w.ps, w.l1, w.l0⟩
    show sU e.sc e.sn c.toNatClampNeg k < 128
    by_cases z : k = e.sn
    · rw [z, sU_self]; exact (okCh_lt q.1).2
    · rw [sU_ne _ _ z]; exact w.sv k (by have : k < e.sn + 1 := hk; clear w; omega)
  · rw [if_neg q]; exact w
theorem B_type {e : ES} {t : Nat} {cf : Nat → Nat} {I : MI} {A : MA} (h : MRel e t cf I A) (w : EWf e) (c : Int32) : Res (f_M_type I A c) (fun z => z.1 = g_flag (decide (okCh c = true ∧ e.sn ≠ 24)) ∧ MRel (e_typ e c) t cf z.2.1 z.2.2) := by
  have hsb := w.sb
  have i1 : upd I 0 0 1 = Int32.ofNat e.sn := by rw [upd_ne _ _ (by decide)]; exact h.s1
  have h10 : ¬ (1 : Int32) = 0 := by decide
  unfold f_M_type e_typ
  simp only [wk_let, B_isCh, Option.bind_some, i1, f_M_type_21]
  by_cases q : okCh c = true
  · rw [if_neg ((g_flag_ne _).mpr q)]
    by_cases q2 : e.sn = 24
    · rw [if_pos ((pn_eqc (x := 24) 24 rfl (by clear h w; omega) (by omega)).mpr q2), if_neg (fun z => z.2 q2), decide_eq_false (fun z => z.2 q2)]
      exact Res.mk ⟨rfl, h.i0 0⟩
    · obtain ⟨ec, hc⟩ := okCh_lt q
      have en : vp_nar .char c = Int32.ofNat c.toNatClampNeg := by
        have := nar_ch hc
        rw [ec] at this ⊢; exact this
      rw [if_neg (fun z => q2 ((pn_eqc (x := 24) 24 rfl (by clear h w; omega) (by omega)).mp z)), if_pos (pn_i24 (show e.sn < 24 by clear h w; omega)), if_pos ⟨q, q2⟩, decide_eq_true ⟨q, q2⟩, pn_nat (show e.sn < 2147483648 by clear h w; omega), en, pn_succ]
      exact Res.mk ⟨rfl, (h.i0 0).sn1 c.toNatClampNeg⟩
  · rw [if_pos (by rw [Bool.not_eq_true] at q; rw [q]; rfl), if_neg (fun z => q z.1), decide_eq_false (fun z => q z.1)]
    exact Res.mk ⟨rfl, h.i0 0⟩
/-- undo, redo, jump -/
theorem B_undo {e : ES} {t : Nat} {cf : Nat → Nat} {I : MI} {A : MA} (h : MRel e t cf I A) (w : EWf e) : Res (f_M_undo I A) (fun z => match e.pa e.p with
    | none => z.2.1 0 = 1 ∧ MRel e t cf z.2.1 z.2.2
    | some q => z.2.1 0 = 0 ∧ z.1 = Int32.ofNat q ∧ MRel (e_come e q) (t + 1) (sU cf q (t + 1)) z.2.1 z.2.2) := by
  have hpb := w.pb
  have hn2 := w.n2
  have h10 : ¬ (1 : Int32) = 0 := by decide
  unfold f_M_undo
  rw [h.hp]
  by_cases q0 : e.p = 0
  · have hp : e.pa e.p = none := by rw [q0]; exact w.p0
    rw [if_pos ((pn_eqc (x := 0) 0 rfl (by clear h w; omega) (by omega)).mpr q0), hp]
    unfold f_M_undo_13 f_M_undo_36 f_M_undo_51
    simp only [wk_let, upd_self, if_neg h10]
    exact Res.mk ⟨upd_self I 0 1, h.i0 1⟩
  · obtain ⟨q, hq, hlt⟩ := w.ps e.p (by clear h w; omega) hpb
    rw [if_neg (fun z => q0 ((pn_eqc (x := 0) 0 rfl (by clear h w; omega) (by omega)).mp z)), hq]
    have i40 : wk_inb (Int32.ofNat e.p) 40 = true := (pn_inb (by clear h w; omega)).mpr (by clear h w; omega)
    have i4 : upd I 0 0 4 = Int32.ofNat e.p := by rw [upd_ne _ _ (by decide)]; exact h.hp
    have e8 : A 8 e.p = Int32.ofNat q := by rw [h.hpa _ hpb, hq]; rfl
    unfold f_M_undo_13
    simp only [wk_let, upd_self, if_true, i4, i40, pn_nat (show e.p < 2147483648 by clear h w; omega), e8]
    obtain ⟨I', A', e0, hr, h0⟩ := (h.i0 0).come w (show q < e.n by clear h w; omega)
    rw [e0]
    have h0' : I' 0 = 0 := by rw [h0]; exact upd_self _ _ _
    simp only [Option.bind_some, f_M_undo_36, f_M_undo_51, h0', if_true]
    exact Res.mk ⟨h0', hr.hp, hr⟩
theorem B_jump {e : ES} {t : Nat} {cf : Nat → Nat} {I : MI} {A : MA} (h : MRel e t cf I A) (w : EWf e) (k : Int32) : Res (f_M_jump I A k) (fun z => (k < 0 ∨ ¬ k < Int32.ofNat e.n → z.2.1 0 = 1 ∧ MRel e t cf z.2.1 z.2.2) ∧ (∀ s, s < e.n → k = Int32.ofNat s → z.2.1 0 = 0 ∧ MRel (e_come e s) (t + 1) (sU cf s (t + 1)) z.2.1 z.2.2)) := by
  have hn2 := w.n2
  have h10 : ¬ (1 : Int32) = 0 := by decide
  have bad : (k < 0 ∨ ¬ k < Int32.ofNat e.n) → Res (f_M_jump_13 I A (upd (fun _ => 0) 1 k)) (fun z => (k < 0 ∨ ¬ k < Int32.ofNat e.n → z.2.1 0 = 1 ∧ MRel e t cf z.2.1 z.2.2) ∧ (∀ s, s < e.n → k = Int32.ofNat s → z.2.1 0 = 0 ∧ MRel (e_come e s) (t + 1) (sU cf s (t + 1)) z.2.1 z.2.2)) := by
    intro hb
    unfold f_M_jump_13 f_M_jump_18 f_M_jump_33
    simp only [wk_let, upd_self, if_neg h10]
    refine Res.mk ⟨fun _ => ⟨upd_self I 0 1, h.i0 1⟩, fun s hs ek => ?_⟩
    exfalso
    rcases hb with z | z
    · rw [ek] at z; exact pn_nneg (by clear h w; omega) z
    · exact z (by rw [ek]; exact (pn_lt (by clear h w; omega) (by clear h w; omega)).mpr hs)
  unfold f_M_jump
  by_cases q1 : k < 0
  · rw [if_pos q1]; exact bad (Or.inl q1)
  rw [if_neg q1, h.hn]
  by_cases q2 : k < Int32.ofNat e.n
  · rw [if_pos q2]
    have ek := pn_ofclamp q1
    have hk := pn_clamp_lt k
    have hs : k.toNatClampNeg < e.n := by
      rw [← ek] at q2
      exact (pn_lt hk (by clear h w; omega)).mp q2
    obtain ⟨I', A', e0, hr, h0⟩ := (h.i0 0).come w hs
    rw [ek] at e0
    have h0' : I' 0 = 0 := by rw [h0]; exact upd_self _ _ _
    have x1 : upd (fun _ => (0 : Int32)) 1 k 1 = k := upd_self _ _ _
    unfold f_M_jump_18 f_M_jump_33
    simp only [wk_let, upd_self, if_true, e0, Option.bind_some]
    refine Res.mk ⟨fun z => ?_, fun s hs' es => ?_⟩
    · exfalso
      rcases z with z | z
      · exact q1 z
      · exact z q2
    · have : s = k.toNatClampNeg := by rw [es, pn_nat (show s < 2147483648 by clear h w; omega)]
      subst this
      exact ⟨h0', hr⟩
  · rw [if_neg q2]; exact bad (Or.inr q2)
theorem rd_go (g : Nat) (I : MI) (A : MA) (X : Nat → Int32) : f_M_redo_go (g + 1) 4 I A X = f_M_redo_4 (f_M_redo_go g) I A X := rfl
/-- of the children up to k the one to which one came last -/
def BestCh (e : ES) (cf : Nat → Nat) (k : Nat) (b : Option Nat) : Prop := match b with
  | none => ∀ j, j < k → e.pa j ≠ some e.p
  | some j => j < k ∧ e.pa j = some e.p ∧ ∀ j', j' < k → e.pa j' = some e.p → cf j' ≤ cf j
theorem mkI_eq {o : Option Nat} {v : Nat} (ho : ∀ q, o = some q → q < 1000) (hv : v < 1000) : mkI o = Int32.ofNat v ↔ o = some v := by
  cases o with
  | none =>
    constructor
    · intro z
      have z' : (-1 : Int32) = Int32.ofNat v := z
      exact (pn_ne1 (show v < 2147483648 by omega) z'.symm).elim
    · intro z; cases z
  | some q =>
    have hq := ho q rfl
    constructor
    · intro z
      have z' : Int32.ofNat q = Int32.ofNat v := z
      rw [(pn_eq (by omega) (by omega)).mp z']
    · intro z; cases z; rfl
theorem B_redo {e : ES} {t : Nat} {cf : Nat → Nat} {I : MI} {A : MA} (h : MRel e t cf I A) (w : EWf e) (ht : t < 100000) : Res (f_M_redo I A) (fun z => match e.lc e.p with
    | none => z.2.1 0 = 1 ∧ MRel e t cf z.2.1 z.2.2
    | some q => z.2.1 0 = 0 ∧ z.1 = Int32.ofNat q ∧ MRel (e_come e q) (t + 1) (sU cf q (t + 1)) z.2.1 z.2.2) := by
  have hpb := w.pb
  have hn2 := w.n2
  have fu := wk_FUEL_big
  have h10 : ¬ (1 : Int32) = 0 := by decide
  have hm1 : (-1 : Int32) < 0 := by decide
  have hm0 : ¬ (0 : Int32) ≤ -1 := by decide
  have hpq : ∀ s, s < e.n → ∀ q, e.pa s = some q → q < 1000 := fun s hs q hq => by
    by_cases s0 : s = 0
    · rw [s0, w.p0] at hq; cases hq
    · obtain ⟨q', hq', hlt⟩ := w.ps s (by clear h w; omega) hs
      rw [hq'] at hq; cases hq; clear h w; omega
  have go : ∀ (d k fuel : Nat) (b : Option Nat) (X : Nat → Int32), e.n - k = d → k ≤ e.n → d < fuel → X 1 = mkI b → X 2 = Int32.ofNat k → BestCh e cf k b → Res (f_M_redo_go fuel 4 I A X) (fun z => match e.lc e.p with
    | none => z.2.1 0 = 1 ∧ MRel e t cf z.2.1 z.2.2
    | some q => z.2.1 0 = 0 ∧ z.1 = Int32.ofNat q ∧ MRel (e_come e q) (t + 1) (sU cf q (t + 1)) z.2.1 z.2.2) := by
    intro d
    induction d with
    | zero =>
      intro k fuel b X hd hk hf x1 x2 hb
      have ek : k = e.n := by clear h w; omega
      subst ek
      obtain ⟨g, rfl⟩ : ∃ g, fuel = g + 1 := ⟨fuel - 1, by clear h w; omega⟩
      rw [rd_go]
      unfold f_M_redo_4
      rw [h.hn, x2, if_pos ((pn_le (by clear h w; omega) (by clear h w; omega)).mpr (Nat.le_refl _)), x1]
      cases b with
      | none =>
        have hl : e.lc e.p = none := by
          cases hl : e.lc e.p with
          | none => rfl
          | some j => obtain ⟨a1, a2⟩ := w.l1 _ j hpb hl; exact (hb j a1 a2).elim
        rw [hl]
        have em : mkI none = -1 := rfl
        rw [em, if_neg hm0]
        unfold f_M_redo_66 f_M_redo_81 f_M_redo_96
        simp only [wk_let, upd_self, if_neg h10]
        exact Res.mk ⟨upd_self I 0 1, h.i0 1⟩
      | some j =>
        obtain ⟨b1, b2, b3⟩ := hb
        have hl : e.lc e.p = some j := by
          cases hl : e.lc e.p with
          | none => exact (w.l0 _ hpb hl j b1 b2).elim
          | some j2 =>
            obtain ⟨a1, a2⟩ := w.l1 _ j2 hpb hl
            by_cases q : j = j2
            · rw [q]
            · have c1 := h.cl e.p j2 j hpb hl b1 b2 q
              have c2 := b3 j2 a1 a2
              clear h w; omega
        rw [hl]
        have em : mkI (some j) = Int32.ofNat j := rfl
        rw [em, if_pos (pn_0le (by clear h w; omega))]
        obtain ⟨I', A', e0, hr, h0⟩ := (h.i0 0).come w b1
        have h0' : I' 0 = 0 := by rw [h0]; exact upd_self _ _ _
        unfold f_M_redo_66 f_M_redo_81 f_M_redo_96
        simp only [wk_let, upd_self, if_true, x1, em, e0, Option.bind_some, h0']
        exact Res.mk ⟨h0', hr.hp, hr⟩
    | succ d ih =>
      intro k fuel b X hd hk hf x1 x2 hb
      obtain ⟨g, rfl⟩ : ∃ g, fuel = g + 1 := ⟨fuel - 1, by clear h w; omega⟩
      have hkn : k < e.n := by clear h w; omega
      have i40 : wk_inb (Int32.ofNat k) 40 = true := (pn_inb (by clear h w; omega)).mpr (by clear h w; omega)
      have nk : (Int32.ofNat k).toNatClampNeg = k := pn_nat (by clear h w; omega)
      have nxt : ∀ b' : Option Nat, BestCh e cf (k + 1) b' → Res (f_M_redo_49 (f_M_redo_go g) I A X (mkI b')) (fun z => match e.lc e.p with
          | none => z.2.1 0 = 1 ∧ MRel e t cf z.2.1 z.2.2
          | some q => z.2.1 0 = 0 ∧ z.1 = Int32.ofNat q ∧ MRel (e_come e q) (t + 1) (sU cf q (t + 1)) z.2.1 z.2.2) := by
        intro b' hb'
        unfold f_M_redo_49
        exact ih (k + 1) g b' _ (by clear h w; omega) (by clear h w; omega) (by clear h w; omega) (by rw [upd_ne _ _ (by decide), upd_self]) (by rw [upd_self, x2]; exact pn_succ _) hb'
      have stay : (e.pa k ≠ some e.p ∨ ∃ j, b = some j ∧ cf k ≤ cf j) → BestCh e cf (k + 1) b := by
        intro hs
        cases b with
        | none =>
          intro j hj
          by_cases q : j = k
          · rw [q]
            rcases hs with z | ⟨j, z, _⟩
            · exact z
            · cases z
          · exact hb j (by clear h w; omega)
        | some j =>
          obtain ⟨b1, b2, b3⟩ := hb
          refine ⟨by clear h w; omega, b2, fun j' hj' hp' => ?_⟩
          by_cases q : j' = k
          · rcases hs with z | ⟨j2, z, z2⟩
            · rw [q] at hp'; exact (z hp').elim
            · cases z; rw [q]; exact z2
          · exact b3 j' (by clear h w; omega) hp'
      rw [rd_go]
      unfold f_M_redo_4 f_M_redo_48 f_M_redo_44
      rw [h.hn, x2, if_neg (fun z => by have := (pn_le (a := e.n) (b := k) (by clear h w; omega) (by clear h w; omega)).mp z; clear h w; omega), if_pos i40, nk, h.hpa k hkn, h.hp, x1]
      by_cases qp : e.pa k = some e.p
      · rw [if_pos ((mkI_eq (hpq k hkn) (by clear h w; omega)).mpr qp)]
        cases b with
        | none =>
          have em : mkI none = -1 := rfl
          rw [em, if_pos hm1]
          exact nxt (some k) ⟨Nat.lt_succ_self _, qp, fun j' hj' hp' => by
            by_cases q : j' = k
            · rw [q]; exact Nat.le_refl _
            · exact (hb j' (by clear h w; omega) hp').elim⟩
        | some j =>
          obtain ⟨b1, b2, b3⟩ := hb
          have em : mkI (some j) = Int32.ofNat j := rfl
          have ij : wk_inb (Int32.ofNat j) 40 = true := (pn_inb (by clear h w; omega)).mpr (by clear h w; omega)
          obtain ⟨c1, c2⟩ := h.cm k hkn
          obtain ⟨c3, c4⟩ := h.cm j (by clear h w; omega)
          rw [em, if_neg (pn_nneg (by clear h w; omega)), if_pos i40, if_pos ij, pn_nat (show j < 2147483648 by clear h w; omega), c1, c3]
          by_cases qc : cf k ≤ cf j
          · rw [if_pos ((pn_le (by clear h w; omega) (by clear h w; omega)).mpr qc)]
            exact nxt (some j) (stay (Or.inr ⟨j, rfl, qc⟩))
          · rw [if_neg (fun z => qc ((pn_le (by clear h w; omega) (by clear h w; omega)).mp z))]
            exact nxt (some k) ⟨Nat.lt_succ_self _, qp, fun j' hj' hp' => by
              by_cases q : j' = k
              · rw [q]; exact Nat.le_refl _
              · have := b3 j' (by clear h w; omega) hp'; clear h w; omega⟩
      · rw [if_neg (fun z => qp ((mkI_eq (hpq k hkn) (by clear h w; omega)).mp z))]
        exact nxt b (stay (Or.inl qp))
  unfold f_M_redo f_M_redo_e
  generalize wk_FUEL = F at fu ⊢
  exact go e.n 0 F none _ (Nat.sub_zero _) (Nat.zero_le _) (by clear h w; omega) (by rw [upd_ne _ _ (by decide), upd_self]; rfl) (upd_self _ _ _) (fun j hj => absurd hj (Nat.not_lt_zero _))
