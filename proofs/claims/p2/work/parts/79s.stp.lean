-- own rows: one call on both sides
theorem oU0 (ov : Nat → Int64) (v : Int64) : vp_updL ov 0 v 0 = v := if_pos rfl
theorem no10 {P : Prop} : (1 : Int32) = 0 → P := fun z => absurd z (by decide)
theorem no20 {P : Prop} : (2 : Int32) = 0 → P := fun z => absurd z (by decide)
theorem no30 {P : Prop} : (3 : Int32) = 0 → P := fun z => absurd z (by decide)
theorem i_ltN {k1 : Int32} {n : Nat} (hn : n ≤ 160) (h : ¬ (k1 < 0 ∨ ¬ k1 < Int32.ofNat n)) : ∃ s, s < n ∧ k1 = Int32.ofNat s := by
  have h1 : ¬ k1 < 0 := fun z => h (Or.inl z)
  have h2 : k1 < Int32.ofNat n := Classical.not_not.mp (fun z => h (Or.inr z))
  have h0 : 0 ≤ k1 := by
    rw [Int32.lt_iff_toInt_lt, Int32.toInt_zero] at h1
    rw [Int32.le_iff_toInt_le, Int32.toInt_zero]
    omega
  obtain ⟨q1, q2⟩ := er_nat h0
  refine ⟨k1.toNatClampNeg, ?_, q1⟩
  rw [q1] at h2
  exact (pn_lt q2 (by omega)).mp h2
theorem S_insert (l : Launch) (hfl : l.flags = flags0) (x : FX) {k : CK} {e : ES} {t : Nat} {cf : Nat → Nat} {I : MI} {A : MA} (h : CRel e k) (w : EWf e) (hM : MRel e t cf I A) (ov : Nat → Int64) :
    ∃ c e' ov' r I' A' t' cf', HRet l x y_L_insert w_L_insert [.ref x.h, .ref x.ob] k e ov c e' ov' ∧ f_M_insert I A = some (r, I', A') ∧ EWf e' ∧ MRel e' t' cf' I' A' ∧ t' ≤ t + 1 := by
  obtain ⟨⟨r, I', A'⟩, ez, t', cf', ht, hm, -⟩ := B_insert hM w
  by_cases q : e.n = 40 ∨ 160 < e_exl e (e_lo e) (e_hi e) e.sn
  · have he : e_ins e = e := by
      unfold e_ins
      by_cases q2 : e_edits e = true
      · rw [if_pos q2, if_pos (show e_full e = true from decide_eq_true q.symm)]
      · rw [if_neg q2]
    refine ⟨1, e_ins e, ov, r, I', A', t', cf', ?_, ez, w.ins, hm, ht⟩
    rw [he]
    exact H_insert_1 l hfl x ov (Kt_insert l hfl x h w q)
  · exact ⟨0, e_ins e, _, r, I', A', t', cf', H_insert_0 l hfl x ov (K_insert l x h w (fun z => q (Or.inl z)) (Nat.le_of_not_lt (fun z => q (Or.inr z)))), ez, w.ins, hm, ht⟩
theorem S_erase (l : Launch) (hfl : l.flags = flags0) (x : FX) {k : CK} {e : ES} {t : Nat} {cf : Nat → Nat} {I : MI} {A : MA} (h : CRel e k) (w : EWf e) (hM : MRel e t cf I A) (ov : Nat → Int64) (k1 : Int32) :
    ∃ c e' ov' r I' A' t' cf', HRet l x y_L_erase w_L_erase [.ref x.h, .int k1, .ref x.ob] k e ov c e' ov' ∧ f_M_erase I A k1 = some (r, I', A') ∧ EWf e' ∧ MRel e' t' cf' I' A' ∧ t' ≤ t + 1 ∧ I' 0 = c ∧ (c = 0 → ov' 0 = r.toInt64) := by
  obtain ⟨⟨r, I', A'⟩, ez, t', cf', ht, hm, hb1, hb2⟩ := B_erase hM w k1
  by_cases q : e_ea e k1 < e_eb e k1 ∧ e.n = 40
  · have he : e_era e k1 = e := if_neg (fun z => z.2 q.2)
    refine ⟨1, e_era e k1, ov, r, I', A', t', cf', ?_, ez, w.era k1, hm, ht, hb1 q, no10⟩
    rw [he]
    exact H_erase_1 l hfl x ov (Kt_erase l hfl x h w q.1 q.2)
  · have zr : r = Int32.ofNat (e_eb e k1 - e_ea e k1) := (hb2 q).2
    exact ⟨0, e_era e k1, _, r, I', A', t', cf', H_erase_0 l hfl x ov (K_erase l x h w (fun z y => q ⟨z, y⟩)), ez, w.era k1, hm, ht, (hb2 q).1, fun _ => by rw [zr]; exact oU0 _ _⟩
theorem S_go (l : Launch) (hfl : l.flags = flags0) (x : FX) {k : CK} {e : ES} {t : Nat} {cf : Nat → Nat} {I : MI} {A : MA} (h : CRel e k) (w : EWf e) (hM : MRel e t cf I A) (ov : Nat → Int64) (k1 k2 : Int32) :
    ∃ c e' ov' r I' A' t' cf', HRet l x y_L_go w_L_go [.ref x.h, .int k1, .int k2] k e ov c e' ov' ∧ f_M_go I A k1 k2 = some (r, I', A') ∧ EWf e' ∧ MRel e' t' cf' I' A' ∧ t' ≤ t + 1 ∧ I' 0 = c := by
  obtain ⟨⟨r, I', A'⟩, ez, hb1, hb2⟩ := B_go hM w k1 k2
  by_cases q : okPl k1 (e.tn e.p) = true
  · obtain ⟨p, hp, ep⟩ := okPl_nat (w.tt _ w.pb).nb q
    obtain ⟨z0, hm⟩ := hb2 p hp ep
    exact ⟨0, _, ov, r, I', A', t, cf, H_go_0 l hfl x ov (K_go l x h w hp ep), ez, w.go hp _, hm, Nat.le_succ _, z0⟩
  · obtain ⟨z0, hm⟩ := hb1 (okPl_bad q)
    exact ⟨1, e, ov, r, I', A', t, cf, H_go_1 l hfl x ov (Kt_go l hfl x h w q), ez, w, hm, Nat.le_succ _, z0⟩
theorem S_compile (l : Launch) (hfl : l.flags = flags0) (x : FX) {k : CK} {e : ES} {t : Nat} {cf : Nat → Nat} {I : MI} {A : MA} (h : CRel e k) (w : EWf e) (hM : MRel e t cf I A) (ov : Nat → Int64) :
    ∃ c e' ov' r I' A' t' cf', HRet l x y_L_compile w_L_compile [.ref x.h] k e ov c e' ov' ∧ f_M_compile I A = some (r, I', A') ∧ EWf e' ∧ MRel e' t' cf' I' A' ∧ t' ≤ t + 1 ∧ I' 0 = c := by
  obtain ⟨s, hs, ⟨r, I', A'⟩, ez, hz⟩ := B_compileE hM w
  cases ho : c_rd s e.sn with
  | inl p =>
    rw [ho] at hz
    exact ⟨1, e_cf e p, ov, r, I', A', t, cf, H_compile_1 l hfl x ov (Kt_compile l hfl x h w hs ho), ez, w.cf p, hz.2, Nat.le_succ _, hz.1⟩
  | inr st =>
    rw [ho] at hz
    exact ⟨0, e_cd e s, ov, r, I', A', t, cf, H_compile_0 l hfl x ov (K_compile l x h w hs ho), ez, w.cd s, hz.2, Nat.le_succ _, hz.1⟩
theorem S_find (l : Launch) (hfl : l.flags = flags0) (x : FX) {k : CK} {e : ES} {t : Nat} {cf : Nat → Nat} {I : MI} {A : MA} (h : CRel e k) (w : EWf e) (hM : MRel e t cf I A) (ov : Nat → Int64) (k1 : Int32) :
    ∃ c e' ov' r I' A' t' cf', HRet l x y_L_find w_L_find [.ref x.h, .int k1, .ref x.ob] k e ov c e' ov' ∧ f_M_find I A k1 = some (r, I', A') ∧ EWf e' ∧ MRel e' t' cf' I' A' ∧ t' ≤ t + 1 ∧ I' 0 = c ∧ (c = 0 → ov' 0 = r.toInt64) := by
  obtain ⟨⟨r, I', A'⟩, ez, b1, b2, b3⟩ := B_find hM w k1
  obtain ⟨c1, c2, c3⟩ := Kt_find l hfl x h w k1
  cases hh : e.has with
  | false =>
    obtain ⟨z0, hm⟩ := b1 hh
    exact ⟨1, e, ov, r, I', A', t, cf, H_find_1 l hfl x ov (c1 hh), ez, w, hm, Nat.le_succ _, z0, no10⟩
  | true =>
    by_cases q : okPl k1 (e.tn e.p) = true
    · obtain ⟨p, hp, ep⟩ := okPl_nat (w.tt _ w.pb).nb q
      rcases c3 hh p hp ep with ⟨n1, kt⟩ | ⟨a, b, f1, kr⟩
      · rcases b3 hh p hp ep with ⟨-, z0, hm⟩ | ⟨a, b, f1, -⟩
        · exact ⟨3, e, ov, r, I', A', t, cf, H_find_3 l hfl x ov kt, ez, w, hm, Nat.le_succ _, z0, no30⟩
        · exact (f1.not n1).elim
      · rcases b3 hh p hp ep with ⟨n1, -⟩ | ⟨a', b', f2, z0, zr, hm⟩
        · exact (f1.not n1).elim
        · obtain ⟨ea, eb⟩ := f2.uniq f1
          subst ea
          subst eb
          have zr : r = Int32.ofNat a' := zr
          exact ⟨0, e_fnd e a' b', _, r, I', A', t, cf, H_find_0 l hfl x ov kr, ez, w.fnd f1, hm, Nat.le_succ _, z0, fun _ => by rw [zr]; exact oU0 _ _⟩
    · obtain ⟨z0, hm⟩ := b2 hh (okPl_bad q)
      exact ⟨2, e, ov, r, I', A', t, cf, H_find_2 l hfl x ov (c2 hh q), ez, w, hm, Nat.le_succ _, z0, no20⟩
theorem S_replace (l : Launch) (hfl : l.flags = flags0) (x : FX) {k : CK} {e : ES} {t : Nat} {cf : Nat → Nat} {I : MI} {A : MA} (h : CRel e k) (w : EWf e) (hM : MRel e t cf I A) (ov : Nat → Int64) :
    ∃ c e' ov' r I' A' t' cf', HRet l x y_L_replace w_L_replace [.ref x.h, .ref x.ob] k e ov c e' ov' ∧ f_M_replace I A = some (r, I', A') ∧ EWf e' ∧ MRel e' t' cf' I' A' ∧ t' ≤ t + 1 ∧ I' 0 = c ∧ (c = 0 → ov' 0 = r.toInt64) := by
  obtain ⟨⟨r, I', A'⟩, ez, b1, b2⟩ := B_replace hM w
  cases hh : e.has with
  | false =>
    obtain ⟨z0, hm⟩ := b1 hh
    exact ⟨1, e, ov, r, I', A', t, cf, H_replace_1 l hfl x ov (Kt_replace1 l hfl x h w hh), ez, w, hm, Nat.le_succ _, z0, no10⟩
  | true =>
    obtain ⟨ms, t', cf', ht, hms, hm, g1, g2⟩ := b2 hh
    cases q : e_rok e ms with
    | true =>
      have zr : r = Int32.ofNat ms.length := (g1 q).2
      exact ⟨0, e_rep e ms, _, r, I', A', t', cf', H_replace_0 l hfl x ov (K_replace l x h w hh hms q), ez, w.rep hms, hm, ht, (g1 q).1, fun _ => by rw [zr]; exact oU0 _ _⟩
    | false =>
      have hq := of_decide_eq_false q
      have he : e_rep e ms = e := (if_neg (fun z => hq (Or.inl z))).trans (if_pos (Classical.not_not.mp (fun z => hq (Or.inr z))))
      refine ⟨1, e_rep e ms, ov, r, I', A', t', cf', ?_, ez, w.rep hms, hm, ht, g2 q, no10⟩
      rw [he]
      exact H_replace_1 l hfl x ov (Kt_replace2 l hfl x h w hh hms q)
theorem S_undo (l : Launch) (hfl : l.flags = flags0) (x : FX) {k : CK} {e : ES} {t : Nat} {cf : Nat → Nat} {I : MI} {A : MA} (h : CRel e k) (w : EWf e) (hM : MRel e t cf I A) (ov : Nat → Int64) :
    ∃ c e' ov' r I' A' t' cf', HRet l x y_L_undo w_L_undo [.ref x.h, .ref x.ob] k e ov c e' ov' ∧ f_M_undo I A = some (r, I', A') ∧ EWf e' ∧ MRel e' t' cf' I' A' ∧ t' ≤ t + 1 ∧ I' 0 = c ∧ (c = 0 → ov' 0 = r.toInt64) := by
  obtain ⟨⟨r, I', A'⟩, ez, hz⟩ := B_undo hM w
  cases hp : e.pa e.p with
  | none =>
    rw [hp] at hz
    exact ⟨1, e, ov, r, I', A', t, cf, H_undo_1 l hfl x ov (Kt_undo l hfl x h w hp), ez, w, hz.2, Nat.le_succ _, hz.1, no10⟩
  | some q =>
    rw [hp] at hz
    have zr : r = Int32.ofNat q := hz.2.1
    exact ⟨0, e_come e q, _, r, I', A', t + 1, _, H_undo_0 l hfl x ov (K_undo l x h w hp), ez, w.come (w.pn w.pb hp), hz.2.2, Nat.le_refl _, hz.1, fun _ => by rw [zr]; exact oU0 _ _⟩
theorem S_redo (l : Launch) (hfl : l.flags = flags0) (x : FX) {k : CK} {e : ES} {t : Nat} {cf : Nat → Nat} {I : MI} {A : MA} (h : CRel e k) (w : EWf e) (hM : MRel e t cf I A) (ov : Nat → Int64) (ht : t < 100000) :
    ∃ c e' ov' r I' A' t' cf', HRet l x y_L_redo w_L_redo [.ref x.h, .ref x.ob] k e ov c e' ov' ∧ f_M_redo I A = some (r, I', A') ∧ EWf e' ∧ MRel e' t' cf' I' A' ∧ t' ≤ t + 1 ∧ I' 0 = c ∧ (c = 0 → ov' 0 = r.toInt64) := by
  obtain ⟨⟨r, I', A'⟩, ez, hz⟩ := B_redo hM w ht
  cases hp : e.lc e.p with
  | none =>
    rw [hp] at hz
    exact ⟨1, e, ov, r, I', A', t, cf, H_redo_1 l hfl x ov (Kt_redo l hfl x h w hp), ez, w, hz.2, Nat.le_succ _, hz.1, no10⟩
  | some q =>
    rw [hp] at hz
    have zr : r = Int32.ofNat q := hz.2.1
    exact ⟨0, e_come e q, _, r, I', A', t + 1, _, H_redo_0 l hfl x ov (K_redo l x h w hp), ez, w.come (w.l1 e.p q w.pb hp).1, hz.2.2, Nat.le_refl _, hz.1, fun _ => by rw [zr]; exact oU0 _ _⟩
theorem S_jump (l : Launch) (hfl : l.flags = flags0) (x : FX) {k : CK} {e : ES} {t : Nat} {cf : Nat → Nat} {I : MI} {A : MA} (h : CRel e k) (w : EWf e) (hM : MRel e t cf I A) (ov : Nat → Int64) (k1 : Int32) :
    ∃ c e' ov' r I' A' t' cf', HRet l x y_L_jump w_L_jump [.ref x.h, .int k1] k e ov c e' ov' ∧ f_M_jump I A k1 = some (r, I', A') ∧ EWf e' ∧ MRel e' t' cf' I' A' ∧ t' ≤ t + 1 ∧ I' 0 = c := by
  obtain ⟨⟨r, I', A'⟩, ez, b1, b2⟩ := B_jump hM w k1
  have hn2 := w.n2
  by_cases q : k1 < 0 ∨ ¬ k1 < Int32.ofNat e.n
  · obtain ⟨z0, hm⟩ := b1 q
    exact ⟨1, e, ov, r, I', A', t, cf, H_jump_1 l hfl x ov (Kt_jump l hfl x h w q), ez, w, hm, Nat.le_succ _, z0⟩
  · obtain ⟨s, hs, es⟩ := i_ltN (by clear w h hM; omega) q
    obtain ⟨z0, hm⟩ := b2 s hs es
    exact ⟨0, e_come e s, ov, r, I', A', t + 1, _, H_jump_0 l hfl x ov (K_jump l x h w hs es), ez, w.come hs, hm, Nat.le_refl _, z0⟩
theorem S_at (l : Launch) (hfl : l.flags = flags0) (x : FX) {k : CK} {e : ES} {t : Nat} {cf : Nat → Nat} {I : MI} {A : MA} (h : CRel e k) (w : EWf e) (hM : MRel e t cf I A) (ov : Nat → Int64) (k1 : Int32) :
    ∃ c e' ov' r I' A' t' cf', HRet l x y_L_at w_L_at [.ref x.h, .int k1, .ref x.ob] k e ov c e' ov' ∧ f_M_at I A k1 = some (r, I', A') ∧ EWf e' ∧ MRel e' t' cf' I' A' ∧ t' ≤ t + 1 ∧ I' 0 = c ∧ (c = 0 → ov' 0 = r.toInt64) := by
  obtain ⟨⟨r, I', A'⟩, ez, b1, b2, hm⟩ := B_at hM w k1
  by_cases q : k1 < 0 ∨ ¬ k1 < Int32.ofNat (e.tn e.p)
  · exact ⟨1, e, ov, r, I', A', t, cf, H_at_1 l hfl x ov (Kt_at l hfl x h w q), ez, w, hm, Nat.le_succ _, b1 q, no10⟩
  · obtain ⟨s, hs, es⟩ := i_ltN (w.tt _ w.pb).nb q
    obtain ⟨z0, zr⟩ := b2 s hs es
    have zr : r = e.tx e.p s := zr
    exact ⟨0, e, _, r, I', A', t, cf, H_at_0 l hfl x ov (K_at l x h w hs es), ez, w, hm, Nat.le_succ _, z0, fun _ => by rw [zr]; exact oU0 _ _⟩
theorem S_figure (l : Launch) (hfl : l.flags = flags0) (x : FX) {k : CK} {e : ES} {t : Nat} {cf : Nat → Nat} {I : MI} {A : MA} (h : CRel e k) (w : EWf e) (hM : MRel e t cf I A) (ov : Nat → Int64) (k1 : Int32) :
    ∃ c e' ov' r I' A' t' cf', HRet l x y_L_figure w_L_figure [.ref x.h, .int k1, .ref x.ob] k e ov c e' ov' ∧ f_M_figure I A k1 = some (r, I', A') ∧ EWf e' ∧ MRel e' t' cf' I' A' ∧ t' ≤ t + 1 ∧ I' 0 = c ∧ (c = 0 → ov' 0 = r.toInt64) := by
  obtain ⟨⟨r, I', A'⟩, ez, b1, b2, hm⟩ := B_figure hM k1
  by_cases q : k1 < 0 ∨ ¬ k1 ≤ 4
  · exact ⟨1, e, ov, r, I', A', t, cf, H_figure_1 l hfl x ov (Kt_figure l hfl x h w q), ez, w, hm, Nat.le_succ _, b1 q, no10⟩
  · obtain ⟨z0, zr⟩ := b2 q
    have zr : r = e_fig e k1 := zr
    exact ⟨0, e, _, r, I', A', t, cf, H_figure_0 l hfl x ov (K_figure l x h w q), ez, w, hm, Nat.le_succ _, z0, fun _ => by rw [zr]; exact oU0 _ _⟩
theorem S_parent (l : Launch) (hfl : l.flags = flags0) (x : FX) {k : CK} {e : ES} {t : Nat} {cf : Nat → Nat} {I : MI} {A : MA} (h : CRel e k) (w : EWf e) (hM : MRel e t cf I A) (ov : Nat → Int64) (k1 : Int32) :
    ∃ c e' ov' r I' A' t' cf', HRet l x y_L_parent w_L_parent [.ref x.h, .int k1, .ref x.ob] k e ov c e' ov' ∧ f_M_parent I A k1 = some (r, I', A') ∧ EWf e' ∧ MRel e' t' cf' I' A' ∧ t' ≤ t + 1 ∧ I' 0 = c ∧ (c = 0 → ov' 0 = r.toInt64) := by
  obtain ⟨⟨r, I', A'⟩, ez, b1, b2, hm⟩ := B_parent hM w k1
  have hn2 := w.n2
  by_cases q : k1 < 0 ∨ ¬ k1 < Int32.ofNat e.n
  · exact ⟨1, e, ov, r, I', A', t, cf, H_parent_1 l hfl x ov (Kt_parent l hfl x h w q), ez, w, hm, Nat.le_succ _, b1 q, no10⟩
  · obtain ⟨s, hs, es⟩ := i_ltN (by clear w h hM; omega) q
    obtain ⟨z0, zr⟩ := b2 s hs es
    have zr : r = mkI (e.pa s) := zr
    exact ⟨0, e, _, r, I', A', t, cf, H_parent_0 l hfl x ov (K_parent l x h w hs es), ez, w, hm, Nat.le_succ _, z0, fun _ => by rw [zr]; exact oU0 _ _⟩
theorem l_tag_3 (tn : Nat) (tx : Nat → Int32) (k1 k2 : Int32) : l_tag tn tx k1 k2 = 0 ∨ l_tag tn tx k1 k2 = 2 ∨ l_tag tn tx k1 k2 = 3 := by
  unfold l_tag
  split
  · exact Or.inl rfl
  · split
    · split
      · exact Or.inl rfl
      · exact Or.inr (Or.inl rfl)
    · split
      · split
        · exact Or.inl rfl
        · exact Or.inr (Or.inl rfl)
      · split
        · split
          · exact Or.inl rfl
          · exact Or.inr (Or.inl rfl)
        · exact Or.inr (Or.inr rfl)
theorem S_line (l : Launch) (hfl : l.flags = flags0) (x : FX) {k : CK} {e : ES} {t : Nat} {cf : Nat → Nat} {I : MI} {A : MA} (h : CRel e k) (w : EWf e) (hM : MRel e t cf I A) (ov : Nat → Int64) (k1 k2 : Int32) :
    ∃ c e' ov' r I' A' t' cf', HRet l x y_L_line w_L_line [.ref x.h, .int k1, .int k2, .ref x.ob] k e ov c e' ov' ∧ f_M_line I A k1 k2 = some (r, I', A') ∧ EWf e' ∧ MRel e' t' cf' I' A' ∧ t' ≤ t + 1 ∧ I' 0 = c ∧ (c = 0 → ov' 0 = r.toInt64) := by
  obtain ⟨⟨r, I', A'⟩, ez, b1, b2, hm⟩ := B_line hM w k1 k2
  have b1 : I' 0 = l_code (l_tag (e.tn e.p) (e.tx e.p) k1 k2) := b1
  rcases l_tag_3 (e.tn e.p) (e.tx e.p) k1 k2 with q | q | q
  · have zr : r = l_val (e.tn e.p) (e.tx e.p) k1 k2 := b2 q
    exact ⟨0, e, _, r, I', A', t, cf, H_line_0 l hfl x ov (K_line l x h w q), ez, w, hm, Nat.le_succ _, by rw [b1, q]; rfl, fun _ => by rw [zr]; exact oU0 _ _⟩
  · exact ⟨2, e, ov, r, I', A', t, cf, H_line_2 l hfl x ov (Kt_line2 l hfl x h w q), ez, w, hm, Nat.le_succ _, by rw [b1, q]; rfl, no20⟩
  · exact ⟨1, e, ov, r, I', A', t, cf, H_line_1 l hfl x ov (Kt_line3 l hfl x h w q), ez, w, hm, Nat.le_succ _, by rw [b1, q]; rfl, no10⟩
theorem S_type (l : Launch) (x : FX) {k : CK} {e : ES} {t : Nat} {cf : Nat → Nat} {I : MI} {A : MA} (h : CRel e k) (w : EWf e) (hM : MRel e t cf I A) (k1 : Int32) :
    ∃ e' r I' A', KRetI l x y_D_type w_D_type ({ frames := 0, cells := 0, slots := 0, locals := 0 }) [.ref x.h, .int k1] k e 0 0 r e' ∧ f_M_type I A k1 = some (r, I', A') ∧ EWf e' ∧ MRel e' t cf I' A' := by
  obtain ⟨⟨r, I', A'⟩, ez, zr, hm⟩ := B_type hM w k1
  have zr : r = _ := zr
  exact ⟨e_typ e k1, r, I', A', by rw [zr]; exact K_type l x h w k1, ez, w.typ k1, hm⟩
theorem S_wipe (l : Launch) (x : FX) {k : CK} {e : ES} {t : Nat} {cf : Nat → Nat} {I : MI} {A : MA} (h : CRel e k) (w : EWf e) (hM : MRel e t cf I A) :
    ∃ e' r I' A', KRetI l x y_D_wipe w_D_wipe ({ frames := 0, cells := 0, slots := 0, locals := 0 }) [.ref x.h] k e 0 0 r e' ∧ f_M_wipe I A = some (r, I', A') ∧ EWf e' ∧ MRel e' t cf I' A' := by
  obtain ⟨⟨r, I', A'⟩, ez, zr, hm⟩ := B_wipe hM
  have zr : r = _ := zr
  exact ⟨e_sn e 0, r, I', A', by rw [zr]; exact K_wipe l x h w, ez, w.sn0, hm⟩
theorem S_fault (l : Launch) (x : FX) {k : CK} {e : ES} {t : Nat} {cf : Nat → Nat} {I : MI} {A : MA} (h : CRel e k) (w : EWf e) (hM : MRel e t cf I A) :
    ∃ e' r I' A', KRetI l x y_D_fault w_D_fault ({ frames := 0, cells := 0, slots := 0, locals := 0 }) [.ref x.h] k e 0 0 r e' ∧ f_M_fault I A = some (r, I', A') ∧ EWf e' ∧ MRel e' t cf I' A' :=
  ⟨e, _, _, _, K_fault l x h w, B_fault hM, w, hM.i0 0⟩
theorem S_length (l : Launch) (x : FX) {k : CK} {e : ES} {t : Nat} {cf : Nat → Nat} {I : MI} {A : MA} (h : CRel e k) (w : EWf e) (hM : MRel e t cf I A) :
    ∃ e' r I' A', KRetI l x y_D_length w_D_length ({ frames := 0, cells := 0, slots := 0, locals := 0 }) [.ref x.h] k e 0 0 r e' ∧ f_M_length I A = some (r, I', A') ∧ EWf e' ∧ MRel e' t cf I' A' :=
  ⟨e, _, _, _, K_length l x h w, B_length hM w, w, hM.i0 0⟩
/-- the law's world: the reference, the row for answers, the class -/
abbrev WL (x : FX) (k : CK) (e : ES) (ov : Nat → Int64) (I : MI) (A : MA) : va_W := mw_W x.hM x.qM x.gM I A ++ HW x k e ov
theorem perm_l (x : FX) (k : CK) (e : ES) (ov : Nat → Int64) (I : MI) (A : MA) : (WL x k e ov I A).Perm (HW x k e ov ++ mw_W x.hM x.qM x.gM I A) := List.perm_append_comm
theorem tin_mw (x : FX) : ∀ t ∈ mw_T x.gM, t ∈ kT x := by
  show ∀ t ∈ [(x.gc, .char), (x.gc, .char), (x.gi, .int), (x.gi, .int), (x.gi, .int), (x.gi, .int), (x.gc, .char), (x.gi, .int), (x.gi, .int), (x.gi, .int), (x.gi, .int), (x.gi, .int), (x.gi, .int), (x.gi, .int), (x.gi, .int), (x.gi, .int), (x.gi, .int), (x.gz, .boolean), (x.gz, .boolean), (x.gc, .char)], t ∈ kT x
  intro t ht
  simp only [List.mem_cons, List.not_mem_nil, or_false] at ht ⊢
  rcases ht with h | h | h | h | h | h | h | h | h | h | h | h | h | h | h | h | h | h | h | h <;> simp [h]
theorem Met.liftIT {l : Launch} {y : MethodName} {wl : List Cond} {rm : Room} {mc ms : Nat} {av : List Value} {D : va_G} {sz : Nat} {wc ws rs : va_W} {Tc Ts : List (ClassId × FieldType)} {S : Type} {post : Int32 → S → Prop} {C : S → State → Prop} {B : S → va_W} (B' : S → va_W)
    (hM : Met l y wl rm (va_Pc av (kPreT D sz wc Tc)) (va_Qi post C (va_A wc sz)) mc ms (va_A wc sz)) (hC : ∀ u t, C u t → va_P D vwCl (B u) t.heap ∧ va_D (va_A wc sz) (B u)) (p0 : ws.Perm (wc ++ rs)) (p1 : ∀ u, (B' u).Perm (B u ++ rs)) (hT : ∀ x ∈ Tc, x ∈ Ts) :
    Met l y wl rm (va_Pc av (kPreT D sz ws Ts)) (va_Qi post (fun u t => va_P D vwCl (B' u) t.heap ∧ va_D (va_A ws sz) (B' u)) (va_A ws sz)) mc ms (va_A ws sz) := by
  have hm : ∀ q ∈ wc, q ∈ ws := fun q hq => p0.mem_iff.mpr (List.mem_append_left _ hq)
  refine hM.conseq (fun a U h => ?_) (fun a st o t h hq => ?_) (va_A.mono hm)
  · obtain ⟨h0, h1, h2, h3, h4, h5⟩ := h
    exact ⟨h0, h1, h2.memb hm, h3.memb hT, (h4.perm p0.symm).lef, h5.mono (va_A.mono hm)⟩
  · obtain ⟨h0, h1, h2, h3, h4, -⟩ := h
    obtain ⟨⟨r, u, ho, hr, hB⟩, hF⟩ := hq
    obtain ⟨b1, b2⟩ := hC u t hB
    exact ⟨⟨r, u, ho, hr, va_lift h2 h1 h4 p0 (p1 u) hF.2 b1 b2⟩, hF.mono (va_A.mono hm)⟩
theorem HRet.up {l : Launch} {x : FX} {y : MethodName} {wl : List Cond} {av : List Value} {k : CK} {e : ES} {ov : Nat → Int64} {c : Int32} {e' : ES} {ov' : Nat → Int64} (h : HRet l x y wl av k e ov c e' ov') (I : MI) (A : MA) (sz : Nat) : Met l y wl hRm (va_Pc av (kPreT x.D sz (WL x k e ov I A) (kT x))) (va_Qi (fun (r9 : Int32) (k' : CK) => r9 = c ∧ CRel e' k') (fun k' t => va_P x.D vwCl (WL x k' e' ov' I A) t.heap ∧ va_D (va_A (WL x k e ov I A) sz) (WL x k' e' ov' I A)) (va_A (WL x k e ov I A) sz)) 3 170 (va_A (WL x k e ov I A) sz) :=
  Met.liftIT (rs := mw_W x.hM x.qM x.gM I A) (fun k' => WL x k' e' ov' I A) (h sz) (fun _ _ z => z) (perm_l x k e ov I A) (fun k' => perm_l x k' e' ov' I A) (fun _ z => z)
theorem KRetI.up2 {l : Launch} {x : FX} {y : MethodName} {wl : List Cond} {rm : Room} {av : List Value} {k : CK} {e : ES} {mc ms : Nat} {r : Int32} {e' : ES} (h : KRetI l x y wl rm av k e mc ms r e') (ov : Nat → Int64) (I : MI) (A : MA) (sz : Nat) : Met l y wl rm (va_Pc av (kPre x.D sz (WL x k e ov I A) (kT x))) (va_Qi (fun (r9 : Int32) (k' : CK) => r9 = r ∧ CRel e' k') (fun k' t => va_P x.D vwCl (WL x k' e' ov I A) t.heap ∧ va_D (va_A (WL x k e ov I A) sz) (WL x k' e' ov I A)) (va_A (WL x k e ov I A) sz)) mc ms (va_A (WL x k e ov I A) sz) :=
  Met.liftI (rs := mw_W x.hM x.qM x.gM I A) (fun k' => WL x k' e' ov I A) (h.up ov sz) (fun _ _ z => z) (perm_l x k e ov I A) (fun k' => perm_l x k' e' ov I A) (fun _ z => z)
theorem mUpI {l : Launch} {x : FX} {y : MethodName} {wl : List Cond} {rm : Room} {av : List Value} {mc ms : Nat} {r : Int32} {I : MI} {A : MA} {I' : MI} {A' : MA} {C : Unit → State → Prop} (k : CK) (e : ES) (ov : Nat → Int64) {sz : Nat} (h : Met l y wl rm (va_Pc av (kPre x.D sz (mw_W x.hM x.qM x.gM I A) (mw_T x.gM))) (va_Qi (fun (r9 : Int32) (_ : Unit) => r9 = r) C (va_A (mw_W x.hM x.qM x.gM I A) sz)) mc ms (va_A (mw_W x.hM x.qM x.gM I A) sz)) (hC : ∀ u t, C u t → va_P x.D vwCl (mw_W x.hM x.qM x.gM I' A') t.heap ∧ va_D (va_A (mw_W x.hM x.qM x.gM I A) sz) (mw_W x.hM x.qM x.gM I' A')) : Met l y wl rm (va_Pc av (kPre x.D sz (WL x k e ov I A) (kT x))) (va_Qi (fun (r9 : Int32) (_ : Unit) => r9 = r) (fun _ t => va_P x.D vwCl (WL x k e ov I' A') t.heap ∧ va_D (va_A (WL x k e ov I A) sz) (WL x k e ov I' A')) (va_A (WL x k e ov I A) sz)) mc ms (va_A (WL x k e ov I A) sz) :=
  Met.liftI (rs := HW x k e ov) (fun _ => WL x k e ov I' A') h hC (List.Perm.refl _) (fun _ => List.Perm.refl _) (tin_mw x)
theorem mUpV {l : Launch} {x : FX} {y : MethodName} {wl : List Cond} {rm : Room} {av : List Value} {mc ms : Nat} {I : MI} {A : MA} {I' : MI} {A' : MA} {C : Unit → State → Prop} (k : CK) (e : ES) (ov : Nat → Int64) {sz : Nat} (h : Met l y wl rm (va_Pc av (kPre x.D sz (mw_W x.hM x.qM x.gM I A) (mw_T x.gM))) (va_Qv (fun (u : Unit) => u = u) C (va_A (mw_W x.hM x.qM x.gM I A) sz)) mc ms (va_A (mw_W x.hM x.qM x.gM I A) sz)) (hC : ∀ u t, C u t → va_P x.D vwCl (mw_W x.hM x.qM x.gM I' A') t.heap ∧ va_D (va_A (mw_W x.hM x.qM x.gM I A) sz) (mw_W x.hM x.qM x.gM I' A')) : Met l y wl rm (va_Pc av (kPre x.D sz (WL x k e ov I A) (kT x))) (va_Qv (fun (u : Unit) => u = u) (fun _ t => va_P x.D vwCl (WL x k e ov I' A') t.heap ∧ va_D (va_A (WL x k e ov I A) sz) (WL x k e ov I' A')) (va_A (WL x k e ov I A) sz)) mc ms (va_A (WL x k e ov I A) sz) :=
  Met.liftV (rs := HW x k e ov) (fun _ => WL x k e ov I' A') h hC (List.Perm.refl _) (fun _ => List.Perm.refl _) (tin_mw x)
