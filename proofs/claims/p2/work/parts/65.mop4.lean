/-- go -/
def e_mk2 (m0 : Option Nat) (k : Nat) : Option Nat := match m0 with
  | none => none
  | some m => if m = k then none else some m
def e_go (e : ES) (k : Nat) (keep : Bool) : ES := (ES.mk e.sn e.sc e.n e.p (k) ((if keep = true then e_mk2 (some (e.mr.getD e.c)) k else none)) e.tn e.tx e.pl e.pa e.lc e.has e.pat e.fl)
theorem EWf.go {e : ES} (w : EWf e) {k : Nat} (hk : k ≤ e.tn e.p) (keep : Bool) : EWf (e_go e k keep) := by
  refine ⟨w.sb, w.sv, w.n1, w.n2, w.pb, w.tt, hk, fun m hm => ?_, w.lb, w.p0, w.ps, w.l1, w.l0⟩
  have hm' : (if keep = true then e_mk2 (some (e.mr.getD e.c)) k else none) = some m := hm
  cases keep with
  | false => cases hm'
  | true =>
    rw [if_pos rfl] at hm'
    unfold e_mk2 at hm'
    simp only at hm'
    split at hm'
    · cases hm'
    · cases hm'
      cases hr : e.mr with
      | none => exact w.cb
      | some m0 => exact w.mb _ hr
theorem MRel.cm2 {e : ES} {t : Nat} {cf : Nat → Nat} {I I' : MI} {A : MA} (h : MRel e t cf I A) {c' : Nat} {m' : Option Nat} (i11 : I' 11 = Int32.ofNat c') (i12 : I' 12 = mkI m') (hi : ∀ j, j ≠ 0 → j ≠ 11 → j ≠ 12 → j ≠ 34 → j ≠ 35 → I' j = I j) : MRel (ES.mk e.sn e.sc e.n e.p (c') (m') e.tn e.tx e.pl e.pa e.lc e.has e.pat e.fl) t cf I' A := by
  refine ⟨?_, h.s2, ?_, ?_, h.tl, h.tc, i11, i12, h.hpl, h.hpa, ?_, h.cm, h.cl, ?_, ?_, h.pv, ?_⟩
  · rw [hi 1 (by decide) (by decide) (by decide) (by decide) (by decide)]; exact h.s1
  · rw [hi 3 (by decide) (by decide) (by decide) (by decide) (by decide)]; exact h.hn
  · rw [hi 4 (by decide) (by decide) (by decide) (by decide) (by decide)]; exact h.hp
  · rw [hi 10 (by decide) (by decide) (by decide) (by decide) (by decide)]; exact h.ck
  · rw [hi 13 (by decide) (by decide) (by decide) (by decide) (by decide)]; exact h.hh
  · rw [hi 14 (by decide) (by decide) (by decide) (by decide) (by decide)]; exact h.hf
  · intro hhas tn tx hT
    exact (h.pm hhas tn tx hT).frame (hi 17 (by decide) (by decide) (by decide) (by decide) (by decide)) (hi 23 (by decide) (by decide) (by decide) (by decide) (by decide)) (hi 24 (by decide) (by decide) (by decide) (by decide) (by decide)) (fun _ _ _ => rfl)
/-- the last words of go -/
theorem B_go56 {e : ES} {t : Nat} {cf : Nat → Nat} {I : MI} {A : MA} (h : MRel e t cf I A) (w : EWf e) {k : Nat} (hk : k ≤ e.tn e.p) {X : Nat → Int32} (x1 : X 1 = Int32.ofNat k) {m0 : Option Nat} (hm0 : ∀ m, m0 = some m → m ≤ e.tn e.p) :
    Res (f_M_go_56 I A X (mkI m0)) (fun z => z.2.1 0 = I 0 ∧ MRel (ES.mk e.sn e.sc e.n e.p (k) (e_mk2 m0 k) e.tn e.tx e.pl e.pa e.lc e.has e.pat e.fl) t cf z.2.1 z.2.2) := by
  have ht := (w.tt _ w.pb).nb
  unfold f_M_go_56
  simp only [wk_let]
  obtain ⟨I1, hI1⟩ : ∃ I1, I1 = upd I 12 (mkI m0) := ⟨_, rfl⟩
  obtain ⟨I2, hI2⟩ : ∃ I2, I2 = upd I1 11 (X 1) := ⟨_, rfl⟩
  rw [← hI1, ← hI2]
  have a11 : I2 11 = Int32.ofNat k := by rw [hI2, upd_self]; exact x1
  have a12 : I2 12 = mkI m0 := by rw [hI2, upd_ne _ _ (by decide), hI1, upd_self]
  have ao : ∀ j, j ≠ 11 → j ≠ 12 → I2 j = I j := fun j h1 h2 => by rw [hI2, upd_ne _ _ h1, hI1, upd_ne _ _ h2]
  have fin : ∀ m' : Option Nat, Res (f_M_go_84 I2 A X (mkI m')) (fun z => z.2.1 0 = I 0 ∧ MRel (ES.mk e.sn e.sc e.n e.p (k) (m') e.tn e.tx e.pl e.pa e.lc e.has e.pat e.fl) t cf z.2.1 z.2.2) := by
    intro m'
    unfold f_M_go_84
    simp only [wk_let]
    refine Res.mk ⟨?_, h.cm2 (I' := upd I2 12 (mkI m')) (by rw [upd_ne _ _ (by decide)]; exact a11) (upd_self _ _ _) (fun j _ h1 h2 _ _ => by rw [upd_ne _ _ h2]; exact ao j h1 h2)⟩
    show upd I2 12 (mkI m') 0 = I 0
    rw [upd_ne _ _ (by decide), ao 0 (by decide) (by decide)]
  rw [a11, a12]
  cases m0 with
  | none =>
    have : ¬ mkI none = Int32.ofNat k := fun z => pn_ne1 (show k < 2147483648 by clear h w; omega) z.symm
    rw [if_neg this]
    exact fin none
  | some m =>
    have hmb := hm0 m rfl
    have em : mkI (some m) = Int32.ofNat m := rfl
    rw [em]
    unfold e_mk2
    simp only
    by_cases q : m = k
    · rw [if_pos ((pn_eq (by clear h w; omega) (by clear h w; omega)).mpr q), if_pos q]
      exact fin none
    · rw [if_neg (fun z => q ((pn_eq (by clear h w; omega) (by clear h w; omega)).mp z)), if_neg q]
      exact fin (some m)
theorem B_go {e : ES} {t : Nat} {cf : Nat → Nat} {I : MI} {A : MA} (h : MRel e t cf I A) (w : EWf e) (k1 k2 : Int32) : Res (f_M_go I A k1 k2) (fun z => (k1 < 0 ∨ ¬ k1 ≤ Int32.ofNat (e.tn e.p) → z.2.1 0 = 1 ∧ MRel e t cf z.2.1 z.2.2) ∧ (∀ k, k ≤ e.tn e.p → k1 = Int32.ofNat k → z.2.1 0 = 0 ∧ MRel (e_go e k (decide (k2 ≠ 0))) t cf z.2.1 z.2.2)) := by
  have ht := (w.tt _ w.pb).nb
  have hcb := w.cb
  have h1le : ¬ (1 : Int32) ≤ 0 := by decide
  have h0le : (0 : Int32) ≤ 0 := by decide
  obtain ⟨X, hX⟩ : ∃ X, X = upd (upd (fun _ => (0 : Int32)) 1 k1) 2 k2 := ⟨_, rfl⟩
  have x1 : X 1 = k1 := by rw [hX, upd_ne _ _ (by decide), upd_self]
  have x2 : X 2 = k2 := by rw [hX, upd_self]
  have bad : (k1 < 0 ∨ ¬ k1 ≤ Int32.ofNat (e.tn e.p)) → Res (f_M_go_13 I A X) (fun z => (k1 < 0 ∨ ¬ k1 ≤ Int32.ofNat (e.tn e.p) → z.2.1 0 = 1 ∧ MRel e t cf z.2.1 z.2.2) ∧ (∀ k, k ≤ e.tn e.p → k1 = Int32.ofNat k → z.2.1 0 = 0 ∧ MRel (e_go e k (decide (k2 ≠ 0))) t cf z.2.1 z.2.2)) := by
    intro hb
    unfold f_M_go_13 f_M_go_18
    simp only [wk_let, upd_self, if_neg h1le]
    refine Res.mk ⟨fun _ => ⟨upd_self I 0 1, h.i0 1⟩, fun k hk ek => ?_⟩
    exfalso
    rcases hb with z | z
    · rw [ek] at z; exact pn_nneg (by clear h w; omega) z
    · exact z (by rw [ek]; exact (pn_le (by clear h w; omega) (by clear h w; omega)).mpr hk)
  unfold f_M_go
  rw [← hX]
  by_cases q1 : k1 < 0
  · rw [if_pos q1]; exact bad (Or.inl q1)
  rw [if_neg q1, B_len (h.txt w)]
  simp only [Option.bind_some]
  by_cases q2 : k1 ≤ Int32.ofNat (e.tn e.p)
  · rw [if_pos q2]
    have ek := pn_ofclamp q1
    have hk2 := pn_clamp_lt k1
    have hk : k1.toNatClampNeg ≤ e.tn e.p := by
      rw [← ek] at q2
      exact (pn_le hk2 (by clear h w; omega)).mp q2
    have x1' : X 1 = Int32.ofNat k1.toNatClampNeg := by rw [x1, ek]
    have h0 := h.i0 0
    unfold f_M_go_18
    simp only [wk_let, upd_self, if_pos h0le]
    rw [x2]
    have a12 : upd I 0 0 12 = mkI e.mr := by rw [upd_ne _ _ (by decide)]; exact h.hm
    have a11 : upd I 0 0 11 = Int32.ofNat e.c := by rw [upd_ne _ _ (by decide)]; exact h.hc
    have done_ : ∀ (m0 : Option Nat), (∀ m, m0 = some m → m ≤ e.tn e.p) → ((ES.mk e.sn e.sc e.n e.p (k1.toNatClampNeg) (e_mk2 m0 k1.toNatClampNeg) e.tn e.tx e.pl e.pa e.lc e.has e.pat e.fl) : ES) = e_go e k1.toNatClampNeg (decide (k2 ≠ 0)) → Res (f_M_go_56 (upd I 0 0) A X (mkI m0)) (fun z => (k1 < 0 ∨ ¬ k1 ≤ Int32.ofNat (e.tn e.p) → z.2.1 0 = 1 ∧ MRel e t cf z.2.1 z.2.2) ∧ (∀ k, k ≤ e.tn e.p → k1 = Int32.ofNat k → z.2.1 0 = 0 ∧ MRel (e_go e k (decide (k2 ≠ 0))) t cf z.2.1 z.2.2)) := by
      intro m0 hm0 he
      refine (B_go56 h0 w hk x1' hm0).imp (fun z hz => ⟨fun hb => ?_, fun k hk' es => ?_⟩)
      · exfalso
        rcases hb with z | z
        · exact q1 z
        · exact z q2
      · have : k = k1.toNatClampNeg := by rw [es, pn_nat (show k < 2147483648 by clear h w h0; omega)]
        subst this
        rw [he] at hz
        exact ⟨by rw [hz.1]; exact upd_self _ _ _, hz.2⟩
    by_cases qk : k2 = 0
    · rw [if_pos qk]
      refine done_ none (fun m z => by cases z) ?_
      unfold e_go
      rw [decide_eq_false (fun z => z qk)]; rfl
    · rw [if_neg qk]
      have dk : decide (k2 ≠ 0) = true := decide_eq_true qk
      rw [a12, a11]
      cases hm : e.mr with
      | none =>
        have hm0 : ¬ (0 : Int32) ≤ mkI none := by decide
        rw [if_neg hm0]
        refine done_ (some e.c) (fun m z => by cases z; exact hcb) ?_
        unfold e_go
        rw [dk, hm]; rfl
      | some m =>
        have hmb := w.mb m hm
        have hm0 : (0 : Int32) ≤ mkI (some m) := pn_0le (show m < 2147483648 by clear h w h0; omega)
        rw [if_pos hm0]
        refine done_ (some m) (fun m' z => by cases z; exact hmb) ?_
        unfold e_go
        rw [dk, hm]; rfl
  · rw [if_neg q2]; exact bad (Or.inr q2)
/-- the questions that change nothing -/
theorem B_length {e : ES} {t : Nat} {cf : Nat → Nat} {I : MI} {A : MA} (h : MRel e t cf I A) (w : EWf e) : f_M_length I A = some (Int32.ofNat (e.tn e.p), upd I 0 0, A) := by
  unfold f_M_length
  simp only [wk_let]
  rw [B_len ((h.i0 0).txt w)]
  rfl
theorem B_fault {e : ES} {t : Nat} {cf : Nat → Nat} {I : MI} {A : MA} (h : MRel e t cf I A) : f_M_fault I A = some (mkI e.fl, upd I 0 0, A) := by
  unfold f_M_fault
  simp only [wk_let]
  rw [upd_ne _ _ (by decide), h.hf]
theorem B_at {e : ES} {t : Nat} {cf : Nat → Nat} {I : MI} {A : MA} (h : MRel e t cf I A) (w : EWf e) (k : Int32) : Res (f_M_at I A k) (fun z => (k < 0 ∨ ¬ k < Int32.ofNat (e.tn e.p) → z.2.1 0 = 1) ∧ (∀ p, p < e.tn e.p → k = Int32.ofNat p → z.2.1 0 = 0 ∧ z.1 = e.tx e.p p) ∧ MRel e t cf z.2.1 z.2.2) := by
  have tt := w.tt _ w.pb
  have ht := tt.nb
  have h10 : ¬ (1 : Int32) = 0 := by decide
  have nc0 : vp_nar .char 0 = 0 := by decide
  have bad : (k < 0 ∨ ¬ k < Int32.ofNat (e.tn e.p)) → Res (f_M_at_13 I A (upd (fun _ => 0) 1 k)) (fun z => (k < 0 ∨ ¬ k < Int32.ofNat (e.tn e.p) → z.2.1 0 = 1) ∧ (∀ p, p < e.tn e.p → k = Int32.ofNat p → z.2.1 0 = 0 ∧ z.1 = e.tx e.p p) ∧ MRel e t cf z.2.1 z.2.2) := by
    intro hb
    unfold f_M_at_13 f_M_at_18 f_M_at_37
    simp only [wk_let, upd_self, if_neg h10, nc0, if_true]
    refine Res.mk ⟨fun _ => upd_self I 0 1, fun p hp ep => ?_, h.i0 1⟩
    exfalso
    rcases hb with z | z
    · rw [ep] at z; exact pn_nneg (by clear h w tt; omega) z
    · exact z (by rw [ep]; exact (pn_lt (by clear h w tt; omega) (by clear h w tt; omega)).mpr hp)
  unfold f_M_at
  by_cases q1 : k < 0
  · rw [if_pos q1]; exact bad (Or.inl q1)
  rw [if_neg q1, B_len (h.txt w)]
  simp only [Option.bind_some]
  by_cases q2 : k < Int32.ofNat (e.tn e.p)
  · rw [if_pos q2]
    have ek := pn_ofclamp q1
    have hk2 := pn_clamp_lt k
    have hk : k.toNatClampNeg < e.tn e.p := by
      rw [← ek] at q2
      exact (pn_lt hk2 (by clear h w tt; omega)).mp q2
    have hch := B_char ((h.i0 0).txt w) hk
    rw [ek] at hch
    obtain ⟨c, hc, ec⟩ := tt.ch _ hk
    unfold f_M_at_18 f_M_at_37
    simp only [wk_let, upd_self, if_true, hch, Option.bind_some, ec, nar_ch hc]
    refine Res.mk ⟨fun hb => ?_, fun p hp ep => ?_, h.i0 0⟩
    · exfalso
      rcases hb with z | z
      · exact q1 z
      · exact z q2
    · have : p = k.toNatClampNeg := by rw [ep, pn_nat (show p < 2147483648 by clear h w tt; omega)]
      subst this
      exact ⟨upd_self I 0 0, ec.symm⟩
  · rw [if_neg q2]; exact bad (Or.inr q2)
/-- figure's answers -/
def e_fig (e : ES) (k : Int32) : Int32 := if k = 0 then Int32.ofNat e.p else if k = 1 then Int32.ofNat e.n else if k = 2 then Int32.ofNat e.c else if k = 3 then mkI e.mr else Int32.ofNat e.sn
theorem B_figure {e : ES} {t : Nat} {cf : Nat → Nat} {I : MI} {A : MA} (h : MRel e t cf I A) (k : Int32) : Res (f_M_figure I A k) (fun z => (k < 0 ∨ ¬ k ≤ 4 → z.2.1 0 = 1) ∧ (¬ (k < 0 ∨ ¬ k ≤ 4) → z.2.1 0 = 0 ∧ z.1 = e_fig e k) ∧ MRel e t cf z.2.1 z.2.2) := by
  have h1le : ¬ (1 : Int32) ≤ 0 := by decide
  have h0le : (0 : Int32) ≤ 0 := by decide
  have bad : (k < 0 ∨ ¬ k ≤ 4) → Res (f_M_figure_10 I A (upd (fun _ => 0) 1 k)) (fun z => (k < 0 ∨ ¬ k ≤ 4 → z.2.1 0 = 1) ∧ (¬ (k < 0 ∨ ¬ k ≤ 4) → z.2.1 0 = 0 ∧ z.1 = e_fig e k) ∧ MRel e t cf z.2.1 z.2.2) := by
    intro hb
    unfold f_M_figure_10 f_M_figure_15 f_M_figure_80
    simp only [wk_let, upd_self, if_neg h1le]
    exact Res.mk ⟨fun _ => upd_self I 0 1, fun z => (z hb).elim, h.i0 1⟩
  unfold f_M_figure
  by_cases q1 : k < 0
  · rw [if_pos q1]; exact bad (Or.inl q1)
  rw [if_neg q1]
  by_cases q2 : k ≤ 4
  · rw [if_pos q2]
    have hno : ¬ (k < 0 ∨ ¬ k ≤ 4) := fun z => z.elim q1 (fun y => y q2)
    have j4 : upd I 0 0 4 = Int32.ofNat e.p := by rw [upd_ne _ _ (by decide)]; exact h.hp
    have j3 : upd I 0 0 3 = Int32.ofNat e.n := by rw [upd_ne _ _ (by decide)]; exact h.hn
    have j11 : upd I 0 0 11 = Int32.ofNat e.c := by rw [upd_ne _ _ (by decide)]; exact h.hc
    have j12 : upd I 0 0 12 = mkI e.mr := by rw [upd_ne _ _ (by decide)]; exact h.hm
    have j1 : upd I 0 0 1 = Int32.ofNat e.sn := by rw [upd_ne _ _ (by decide)]; exact h.s1
    unfold f_M_figure_15 f_M_figure_80
    simp only [wk_let, upd_self, if_pos h0le, j4, j3, j11, j12, j1]
    unfold e_fig
    by_cases k0 : k = 0
    · rw [if_pos k0, if_pos k0]; exact Res.mk ⟨fun z => (hno z).elim, fun _ => ⟨upd_self I 0 0, rfl⟩, h.i0 0⟩
    rw [if_neg k0, if_neg k0]
    by_cases k1 : k = 1
    · rw [if_pos k1, if_pos k1]; exact Res.mk ⟨fun z => (hno z).elim, fun _ => ⟨upd_self I 0 0, rfl⟩, h.i0 0⟩
    rw [if_neg k1, if_neg k1]
    by_cases k2 : k = 2
    · rw [if_pos k2, if_pos k2]; exact Res.mk ⟨fun z => (hno z).elim, fun _ => ⟨upd_self I 0 0, rfl⟩, h.i0 0⟩
    rw [if_neg k2, if_neg k2]
    by_cases k3 : k = 3
    · rw [if_pos k3, if_pos k3]; exact Res.mk ⟨fun z => (hno z).elim, fun _ => ⟨upd_self I 0 0, rfl⟩, h.i0 0⟩
    rw [if_neg k3, if_neg k3]
    exact Res.mk ⟨fun z => (hno z).elim, fun _ => ⟨upd_self I 0 0, rfl⟩, h.i0 0⟩
  · rw [if_neg q2]; exact bad (Or.inr q2)
theorem B_parent {e : ES} {t : Nat} {cf : Nat → Nat} {I : MI} {A : MA} (h : MRel e t cf I A) (w : EWf e) (k : Int32) : Res (f_M_parent I A k) (fun z => (k < 0 ∨ ¬ k < Int32.ofNat e.n → z.2.1 0 = 1) ∧ (∀ s, s < e.n → k = Int32.ofNat s → z.2.1 0 = 0 ∧ z.1 = mkI (e.pa s)) ∧ MRel e t cf z.2.1 z.2.2) := by
  have hn2 := w.n2
  have h10 : ¬ (1 : Int32) = 0 := by decide
  have bad : (k < 0 ∨ ¬ k < Int32.ofNat e.n) → Res (f_M_parent_13 I A (upd (fun _ => 0) 1 k)) (fun z => (k < 0 ∨ ¬ k < Int32.ofNat e.n → z.2.1 0 = 1) ∧ (∀ s, s < e.n → k = Int32.ofNat s → z.2.1 0 = 0 ∧ z.1 = mkI (e.pa s)) ∧ MRel e t cf z.2.1 z.2.2) := by
    intro hb
    unfold f_M_parent_13 f_M_parent_18 f_M_parent_38
    simp only [wk_let, upd_self, if_neg h10]
    refine Res.mk ⟨fun _ => upd_self I 0 1, fun s hs es => ?_, h.i0 1⟩
    exfalso
    rcases hb with z | z
    · rw [es] at z; exact pn_nneg (by clear h w; omega) z
    · exact z (by rw [es]; exact (pn_lt (by clear h w; omega) (by clear h w; omega)).mpr hs)
  unfold f_M_parent
  by_cases q1 : k < 0
  · rw [if_pos q1]; exact bad (Or.inl q1)
  rw [if_neg q1, h.hn]
  by_cases q2 : k < Int32.ofNat e.n
  · rw [if_pos q2]
    have ek := pn_ofclamp q1
    have hk2 := pn_clamp_lt k
    have hs : k.toNatClampNeg < e.n := by
      rw [← ek] at q2
      exact (pn_lt hk2 (by clear h w; omega)).mp q2
    have i40 : wk_inb k 40 = true := by
      rw [← ek]; exact (pn_inb hk2).mpr (by clear h w; omega)
    unfold f_M_parent_18 f_M_parent_38
    simp only [wk_let, upd_self, if_true, i40, h.hpa _ hs]
    refine Res.mk ⟨fun hb => ?_, fun s hs' es => ?_, h.i0 0⟩
    · exfalso
      rcases hb with z | z
      · exact q1 z
      · exact z q2
    · have : s = k.toNatClampNeg := by rw [es, pn_nat (show s < 2147483648 by clear h w; omega)]
      subst this
      exact ⟨upd_self I 0 0, rfl⟩
  · rw [if_neg q2]; exact bad (Or.inr q2)
