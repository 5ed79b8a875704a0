/-- what the pattern means on the present text -/
def e_R (e : ES) : Rl := e.pat (e.tn e.p) (e.tx e.p)
def e_fnd (e : ES) (a b : Nat) : ES := (ES.mk e.sn e.sc e.n e.p (b) (some a) e.tn e.tx e.pl e.pa e.lc e.has e.pat e.fl)
theorem EWf.fnd {e : ES} (w : EWf e) {p a b : Nat} (h : Found (e_R e) (e.tn e.p) p a b) : EWf (e_fnd e a b) := by
  obtain ⟨h1, h2, h3, h4, h5⟩ := h
  exact ⟨w.sb, w.sv, w.n1, w.n2, w.pb, w.tt, h3, (fun m hm => by cases hm; exact Nat.le_of_lt h2), w.lb, w.p0, w.ps, w.l1, w.l0⟩
theorem MRel.lk {e : ES} {t : Nat} {cf : Nat → Nat} {I I' : MI} {A A' : MA} (h : MRel e t cf I A) (hF : LkFr I I' A A') : MRel e t cf I' A' := h.fr (fun j _ _ h1 h2 _ => hF.1 j h1 h2) (fun j h1 h2 _ => hF.2 j h1 h2)
theorem B_find {e : ES} {t : Nat} {cf : Nat → Nat} {I : MI} {A : MA} (h : MRel e t cf I A) (w : EWf e) (k : Int32) : Res (f_M_find I A k) (fun z => (e.has = false → z.2.1 0 = 1 ∧ MRel e t cf z.2.1 z.2.2) ∧ (e.has = true → (k < 0 ∨ ¬ k ≤ Int32.ofNat (e.tn e.p)) → z.2.1 0 = 2 ∧ MRel e t cf z.2.1 z.2.2) ∧
    (e.has = true → ∀ p, p ≤ e.tn e.p → k = Int32.ofNat p → (NotFound (e_R e) (e.tn e.p) p ∧ z.2.1 0 = 3 ∧ MRel e t cf z.2.1 z.2.2) ∨ (∃ a b, Found (e_R e) (e.tn e.p) p a b ∧ z.2.1 0 = 0 ∧ z.1 = Int32.ofNat a ∧ MRel (e_fnd e a b) t cf z.2.1 z.2.2))) := by
  have tt := w.tt _ w.pb
  have ht := tt.nb
  have h10 : ¬ (1 : Int32) = 0 := by decide
  have h20 : ¬ (2 : Int32) = 0 := by decide
  have h1le : ¬ (1 : Int32) ≤ 0 := by decide
  have h2le : ¬ (2 : Int32) ≤ 0 := by decide
  have h3le : ¬ (3 : Int32) ≤ 0 := by decide
  have h0le : (0 : Int32) ≤ 0 := by decide
  obtain ⟨X, hX⟩ : ∃ X, X = upd (fun _ => (0 : Int32)) 1 k := ⟨_, rfl⟩
  have x1 : X 1 = k := by rw [hX, upd_self]
  unfold f_M_find
  rw [← hX, h.hh]
  cases hh : e.has with
  | false =>
    rw [if_pos (show g_flag false = 0 from rfl)]
    unfold f_M_find_29 f_M_find_52
    simp only [wk_let, upd_self, if_neg h10, if_neg h1le]
    exact Res.mk ⟨fun _ => ⟨upd_self I 0 1, h.i0 1⟩, (fun z => by cases z), (fun z => by cases z)⟩
  | true =>
    rw [if_neg (show ¬ g_flag true = 0 from h10)]
    have bad : (k < 0 ∨ ¬ k ≤ Int32.ofNat (e.tn e.p)) → Res (f_M_find_24 I A X) (fun z => (true = false → z.2.1 0 = 1 ∧ MRel e t cf z.2.1 z.2.2) ∧ (true = true → (k < 0 ∨ ¬ k ≤ Int32.ofNat (e.tn e.p)) → z.2.1 0 = 2 ∧ MRel e t cf z.2.1 z.2.2) ∧
        (true = true → ∀ p, p ≤ e.tn e.p → k = Int32.ofNat p → (NotFound (e_R e) (e.tn e.p) p ∧ z.2.1 0 = 3 ∧ MRel e t cf z.2.1 z.2.2) ∨ (∃ a b, Found (e_R e) (e.tn e.p) p a b ∧ z.2.1 0 = 0 ∧ z.1 = Int32.ofNat a ∧ MRel (e_fnd e a b) t cf z.2.1 z.2.2))) := by
      intro hb
      unfold f_M_find_24 f_M_find_29 f_M_find_52
      simp only [wk_let, upd_self, if_neg h20, if_neg h2le]
      refine Res.mk ⟨(fun z => by cases z), fun _ _ => ⟨upd_self I 0 2, h.i0 2⟩, fun _ p hp ep => ?_⟩
      exfalso
      rcases hb with z | z
      · rw [ep] at z; exact pn_nneg (by clear h w tt; omega) z
      · exact z (by rw [ep]; exact (pn_le (by clear h w tt; omega) (by clear h w tt; omega)).mpr hp)
    by_cases q1 : k < 0
    · rw [if_pos q1]; exact bad (Or.inl q1)
    rw [if_neg q1, B_len (h.txt w)]
    simp only [Option.bind_some]
    by_cases q2 : k ≤ Int32.ofNat (e.tn e.p)
    · rw [if_pos q2]
      have ek := pn_ofclamp q1
      have hk2 := pn_clamp_lt k
      have hk : k.toNatClampNeg ≤ e.tn e.p := by
        rw [← ek] at q2
        exact (pn_le hk2 (by clear h w tt; omega)).mp q2
      have h0 := h.i0 0
      have hR : RMean (e.tn e.p) (e.tx e.p) (upd I 0 0) A (e_R e) := h0.pm hh _ _ tt
      have hlk := B_look hR (h0.txt w) hk
      rw [ek] at hlk
      unfold f_M_find_29
      simp only [wk_let, upd_self, if_true]
      rw [x1]
      have same : ∀ p, p ≤ e.tn e.p → k = Int32.ofNat p → p = k.toNatClampNeg := fun p hp ep => by rw [ep, pn_nat (show p < 2147483648 by clear h w tt h0; omega)]
      rcases hlk with ⟨I1, A1, e1, hF, hnf⟩ | ⟨I1, A1, a, b, e1, hF, i34, i35, hfd⟩
      · rw [e1]
        simp only [Option.bind_some, if_true]
        unfold f_M_find_52
        simp only [wk_let, upd_self, if_neg h3le]
        refine Res.mk ⟨(fun z => by cases z), fun _ hb => ?_, fun _ p hp ep => Or.inl ⟨?_, upd_self I1 0 3, ((h0.lk hF).i0 3)⟩⟩
        · exfalso
          rcases hb with z | z
          · exact q1 z
          · exact z q2
        · rw [same p hp ep]; exact hnf
      · rw [e1]
        simp only [Option.bind_some]
        rw [if_neg h10]
        have i0 : I1 0 = 0 := by rw [hF.1 0 (by decide) (by decide)]; exact upd_self _ _ _
        unfold f_M_find_52
        simp only [wk_let]
        rw [i0, if_pos h0le]
        obtain ⟨I2, hI2⟩ : ∃ I2, I2 = upd I1 12 (I1 34) := ⟨_, rfl⟩
        obtain ⟨I3, hI3⟩ : ∃ I3, I3 = upd I2 11 (I2 35) := ⟨_, rfl⟩
        rw [← hI2, ← hI3]
        have a12 : I3 12 = Int32.ofNat a := by rw [hI3, upd_ne _ _ (by decide), hI2, upd_self]; exact i34
        have a11 : I3 11 = Int32.ofNat b := by rw [hI3, upd_self, hI2, upd_ne _ _ (by decide)]; exact i35
        have ao : ∀ j, j ≠ 11 → j ≠ 12 → I3 j = I1 j := fun j z1 z2 => by rw [hI3, upd_ne _ _ z1, hI2, upd_ne _ _ z2]
        refine Res.mk ⟨(fun z => by cases z), fun _ hb => ?_, fun _ p hp ep => Or.inr ⟨a, b, ?_, ?_, a12, (h0.lk hF).cm2 (I' := I3) a11 a12 (fun j _ z1 z2 _ _ => ao j z1 z2)⟩⟩
        · exfalso
          rcases hb with z | z
          · exact q1 z
          · exact z q2
        · rw [same p hp ep]; exact hfd
        · show I3 0 = 0
          rw [ao 0 (by decide) (by decide)]; exact i0
    · rw [if_neg q2]; exact (bad (Or.inr q2)).imp (fun z hz => ⟨hz.1, fun _ => hz.2.1 rfl, fun _ => hz.2.2 rfl⟩)
/-- what a slip means as a pattern -/
def c_pat (s : Nat → Nat) (n : Nat) : Nat → (Nat → Int32) → Rl := fun tn tx => match rd tn tx s n (n + 1) 0 (st_open []) with
  | Sum.inr (x :: _) => rl_all x
  | _ => rl_no
def c_rd (s : Nat → Nat) (n : Nat) : Rd := rd 0 (fun _ => 0) s n (n + 1) 0 (st_open [])
def e_cf (e : ES) (p : Nat) : ES := (ES.mk e.sn e.sc e.n e.p e.c e.mr e.tn e.tx e.pl e.pa e.lc e.has e.pat (some p))
def e_cd (e : ES) (s : Nat → Nat) : ES := (ES.mk (0) e.sc e.n e.p e.c e.mr e.tn e.tx e.pl e.pa e.lc (true) (c_pat s e.sn) (none))
theorem EWf.cf {e : ES} (w : EWf e) (p : Nat) : EWf (e_cf e p) := ⟨w.sb, w.sv, w.n1, w.n2, w.pb, w.tt, w.cb, w.mb, w.lb, w.p0, w.ps, w.l1, w.l0⟩
theorem EWf.cd {e : ES} (w : EWf e) (s : Nat → Nat) : EWf (e_cd e s) := ⟨Nat.zero_le _, fun k hk => absurd hk (Nat.not_lt_zero _), w.n1, w.n2, w.pb, w.tt, w.cb, w.mb, w.lb, w.p0, w.ps, w.l1, w.l0⟩
theorem Txt0 : Txt 0 (fun _ => 0) := ⟨Nat.zero_le _, fun k hk => absurd hk (Nat.not_lt_zero _)⟩
theorem B_compileE {e : ES} {t : Nat} {cf : Nat → Nat} {I : MI} {A : MA} (h : MRel e t cf I A) (w : EWf e) : ∃ s : Nat → Nat, (∀ k, k < e.sn → s k = e.sc k) ∧ Res (f_M_compile I A) (fun z => match c_rd s e.sn with
    | Sum.inl p => z.2.1 0 = 1 ∧ MRel (e_cf e p) t cf z.2.1 z.2.2
    | Sum.inr _ => z.2.1 0 = 0 ∧ MRel (e_cd e s) t cf z.2.1 z.2.2) := by
  have hsb := w.sb
  have hpv : ∀ k, ∃ c, c < 128 ∧ (k < 24 → A 16 k = Int32.ofNat c) := fun k => by
    by_cases q : k < 24
    · obtain ⟨c, hc, ec⟩ := h.pv k q; exact ⟨c, hc, fun _ => ec⟩
    · exact ⟨0, by decide, fun z => (q z).elim⟩
  obtain ⟨old, hold⟩ := Classical.axiomOfChoice hpv
  refine ⟨fun k => if k < e.sn then e.sc k else old k, fun k hk => if_pos hk, ?_⟩
  obtain ⟨s, hs⟩ : ∃ s : Nat → Nat, s = fun k => if k < e.sn then e.sc k else old k := ⟨_, rfl⟩
  rw [← hs]
  have s1 : ∀ k, k < 24 → s k < 128 := fun k _ => by
    rw [hs]
    show (if k < e.sn then e.sc k else old k) < 128
    split
    · rename_i q; exact w.sv k q
    · exact (hold k).1
  have s2 : ∀ j, j < e.sn → A 2 j = Int32.ofNat (s j) := fun j hj => by
    rw [h.s2 j hj, hs]
    show Int32.ofNat (e.sc j) = Int32.ofNat (if j < e.sn then e.sc j else old j)
    rw [if_pos hj]
  have s3 : ∀ j, j < 24 → e.sn ≤ j → A 16 j = Int32.ofNat (s j) := fun j hj hn => by
    rw [(hold j).2 hj, hs]
    show Int32.ofNat (old j) = Int32.ofNat (if j < e.sn then e.sc j else old j)
    rw [if_neg (by clear h w; omega)]
  have all : ∀ tn tx, Txt tn tx → Res (f_M_compile I A) (MCOut tn tx e.sn I A (rd tn tx s e.sn (e.sn + 1) 0 (st_open []))) := fun tn tx hT => B_compile hT hsb s1 s2 s3 h.s1
  obtain ⟨z, ez, hz⟩ := all 0 (fun _ => 0) Txt0
  refine ⟨z, ez, ?_⟩
  have all' : ∀ tn tx, Txt tn tx → MCOut tn tx e.sn I A (rd tn tx s e.sn (e.sn + 1) 0 (st_open [])) z := fun tn tx hT => by
    obtain ⟨z', ez', hz'⟩ := all tn tx hT
    rw [ez] at ez'
    cases ez'
    exact hz'
  rcases ho : c_rd s e.sn with p | st
  · have ho' : rd 0 (fun _ => 0) s e.sn (e.sn + 1) 0 (st_open []) = Sum.inl p := ho
    rw [ho'] at hz
    obtain ⟨e1, e2⟩ := hz
    refine ⟨by rw [e1, upd_ne _ _ (by decide), upd_self], ?_⟩
    rw [e1, e2]
    have h1 := h.i0 1
    refine ⟨?_, h.s2, ?_, ?_, h.tl, h.tc, ?_, ?_, h.hpl, h.hpa, ?_, h.cm, h.cl, ?_, upd_self _ _ _, h.pv, ?_⟩
    · rw [upd_ne _ _ (by decide)]; exact h1.s1
    · rw [upd_ne _ _ (by decide)]; exact h1.hn
    · rw [upd_ne _ _ (by decide)]; exact h1.hp
    · rw [upd_ne _ _ (by decide)]; exact h1.hc
    · rw [upd_ne _ _ (by decide)]; exact h1.hm
    · rw [upd_ne _ _ (by decide)]; exact h1.ck
    · rw [upd_ne _ _ (by decide)]; exact h1.hh
    · intro hhas tn tx hT
      exact (h1.pm hhas tn tx hT).frame (upd_ne _ _ (by decide)) (upd_ne _ _ (by decide)) (upd_ne _ _ (by decide)) (fun _ _ _ => rfl)
  · have ho' : rd 0 (fun _ => 0) s e.sn (e.sn + 1) 0 (st_open []) = Sum.inr st := ho
    rw [ho'] at hz
    obtain ⟨a0, a1, a13, a14, ai, aa, x, ex, hx⟩ := hz
    refine ⟨a0, a1, fun k hk => absurd hk (Nat.not_lt_zero _), ?_, ?_, ?_, ?_, ?_, ?_, ?_, ?_, ?_, ?_, h.cl, a13, a14, ?_, fun _ tn tx hT => ?_⟩
    · rw [ai 3 (by omega)]; exact h.hn
    · rw [ai 4 (by omega)]; exact h.hp
    · rw [aa 6 (by omega)]; exact h.tl
    · rw [aa 5 (by omega)]; exact h.tc
    · rw [ai 11 (by omega)]; exact h.hc
    · rw [ai 12 (by omega)]; exact h.hm
    · rw [aa 7 (by omega)]; exact h.hpl
    · rw [aa 8 (by omega)]; exact h.hpa
    · rw [ai 10 (by omega)]; exact h.ck
    · rw [aa 9 (by omega)]; exact h.cm
    · obtain ⟨s', n', on', tw', lab', fs', ls', hD⟩ := hx
      exact fun k hk => ⟨s' k, (hD.hpat k hk).2, (hD.hpat k hk).1⟩
    · have hT' := all' tn tx hT
      show RMean tn tx z.2.1 z.2.2 (c_pat s e.sn tn tx)
      unfold c_pat
      rcases hr : rd tn tx s e.sn (e.sn + 1) 0 (st_open []) with p | st2
      · rw [hr] at hT'
        obtain ⟨e1, _⟩ := hT'
        rw [e1, upd_ne _ _ (by decide), upd_self] at a0
        exact absurd a0 (by decide)
      · rw [hr] at hT'
        obtain ⟨_, _, _, _, _, _, x2, ex2, hx2⟩ := hT'
        rw [ex2]; exact hx2
