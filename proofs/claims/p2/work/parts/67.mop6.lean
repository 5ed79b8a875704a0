/-- all matches from a place on -/
def Ms (R : Rl) (tn : Nat) : Nat → List (Nat × Nat) → Prop
  | p, [] => NotFound R tn p
  | p, (a, b) :: l => Found R tn p a b ∧ Ms R tn b l
def rp_len (sn tn : Nat) : Nat → List (Nat × Nat) → Nat
  | p, [] => tn - p
  | p, (a, b) :: l => (a - p) + sn + rp_len sn tn b l
def rp_tx (sn : Nat) (sc : Nat → Nat) (tx : Nat → Int32) : Nat → List (Nat × Nat) → Nat → Int32
  | p, [], k => tx (p + k)
  | p, (a, b) :: l, k => if k < a - p then tx (p + k) else if k < a - p + sn then Int32.ofNat (sc (k - (a - p))) else rp_tx sn sc tx b l (k - (a - p + sn))
def rp_pl (sn : Nat) : Nat → List (Nat × Nat) → Nat
  | _, [] => 0
  | p, (a, b) :: l => (a - p) + sn + rp_pl sn b l
theorem Found.uniq {R : Rl} {tn p a b a' b' : Nat} (h : Found R tn p a b) (h' : Found R tn p a' b') : a = a' ∧ b = b' := by
  obtain ⟨h1, h2, h3, h4, h5⟩ := h
  obtain ⟨g1, g2, g3, g4, g5⟩ := h'
  have ea : a = a' := by
    rcases Nat.lt_trichotomy a a' with z | z | z
    · exact (g5 a h1 z b h4.1 h4.2.1).elim
    · exact z
    · exact (h5 a' g1 z b' g4.1 g4.2.1).elim
  subst ea
  have q1 := h4.2.2 b' g4.2.1
  have q2 := g4.2.2 b h4.2.1
  exact ⟨rfl, by omega⟩
theorem Found.not {R : Rl} {tn p a b : Nat} (h : Found R tn p a b) (h' : NotFound R tn p) : False := h' a h.1 h.2.1 b h.2.2.2.1.1 h.2.2.2.1.2.1
theorem Ms.uniq {R : Rl} {tn : Nat} : ∀ (l l' : List (Nat × Nat)) (p : Nat), Ms R tn p l → Ms R tn p l' → l = l'
  | [], [], _, _, _ => rfl
  | [], (_, _) :: _, _, h, h' => (h'.1.not h).elim
  | (_, _) :: _, [], _, h, h' => (h.1.not h').elim
  | (a, b) :: l, (a', b') :: l', p, h, h' => by
    obtain ⟨e1, e2⟩ := h.1.uniq h'.1
    subst e1; subst e2
    rw [Ms.uniq l l' b h.2 h'.2]
theorem rp_pl_le {R : Rl} {tn sn : Nat} : ∀ (l : List (Nat × Nat)) (p : Nat), Ms R tn p l → rp_pl sn p l ≤ rp_len sn tn p l
  | [], _, _ => Nat.zero_le _
  | (a, b) :: l, p, h => by
    have := rp_pl_le (sn := sn) l b h.2
    simp only [rp_pl, rp_len]; omega
theorem rp_txt {R : Rl} {tn sn : Nat} {sc : Nat → Nat} {tx : Nat → Int32} (hT : Txt tn tx) (hs : ∀ k, k < sn → sc k < 128) : ∀ (l : List (Nat × Nat)) (p : Nat), Ms R tn p l → ∀ k, k < rp_len sn tn p l → ∃ c, c < 128 ∧ rp_tx sn sc tx p l k = Int32.ofNat c
  | [], p, _, k, hk => by
    have hk' : k < tn - p := hk
    exact hT.ch (p + k) (by clear hT; omega)
  | (a, b) :: l, p, h, k, hk => by
    have hk' : k < (a - p) + sn + rp_len sn tn b l := hk
    have h2 := h.1.2.1
    have h1 := h.1.1
    show ∃ c, c < 128 ∧ (if k < a - p then tx (p + k) else if k < a - p + sn then Int32.ofNat (sc (k - (a - p))) else rp_tx sn sc tx b l (k - (a - p + sn))) = Int32.ofNat c
    by_cases q1 : k < a - p
    · rw [if_pos q1]; exact hT.ch (p + k) (by clear hT h; omega)
    · rw [if_neg q1]
      by_cases q2 : k < a - p + sn
      · rw [if_pos q2]; exact ⟨_, hs _ (by clear hT h; omega), rfl⟩
      · rw [if_neg q2]; exact rp_txt hT hs l b h.2 _ (by clear hT h; omega)
theorem rp_go (g : Nat) (I : MI) (A : MA) (X : Nat → Int32) : f_M_replace_go (g + 1) 36 I A X = f_M_replace_36 (f_M_replace_go g) I A X := rfl
/-- the end of replace -/
def rp_tail (rc : Nat → MI → MA → (Nat → Int32) → Option (Int32 × MI × MA)) (I3 : MI) (A3 : MA) (X : Nat → Int32) : Option (Int32 × MI × MA) :=
  if (X 1) ≤ 0 then f_M_replace_110 rc I3 A3 X else if 160 < (I3 36) then f_M_replace_106 rc I3 A3 X else if (I3 3) = 40 then f_M_replace_106 rc I3 A3 X else f_M_replace_110 rc I3 A3 X
theorem B_rep_go {e : ES} {t : Nat} {cf : Nat → Nat} (w : EWf e) (hh : e.has = true) {Q : Int32 × MI × MA → Prop} : ∀ (d p m cnt fuel : Nat) (I : MI) (A : MA) (X : Nat → Int32), MRel e t cf I A → e.tn e.p - p ≤ d → p ≤ e.tn e.p → m ≤ 25 * p → cnt ≤ p → d < fuel → I 36 = Int32.ofNat m → X 1 = Int32.ofNat cnt → X 2 = Int32.ofNat p →
    (∀ (rc : Nat → MI → MA → (Nat → Int32) → Option (Int32 × MI × MA)) (ms : List (Nat × Nat)) (I3 : MI) (A3 : MA) (X3 : Nat → Int32), Ms (e_R e) (e.tn e.p) p ms → MRel e t cf I3 A3 → I3 36 = Int32.ofNat (m + rp_len e.sn (e.tn e.p) p ms) → (∀ k, m ≤ k → k < m + rp_len e.sn (e.tn e.p) p ms → A3 37 k = rp_tx e.sn e.sc (e.tx e.p) p ms (k - m)) → (∀ k, k < m → A3 37 k = A 37 k) → X3 1 = Int32.ofNat (cnt + ms.length) → cnt + ms.length ≤ e.tn e.p → m + rp_len e.sn (e.tn e.p) p ms ≤ 4000 → (ms = [] → X3 3 = X 3) → (ms ≠ [] → X3 3 = Int32.ofNat (m + rp_pl e.sn p ms)) → I3 0 = I 0 → Res (rp_tail rc I3 A3 X3) Q) →
    Res (f_M_replace_go fuel 36 I A X) Q := by
  have tt := w.tt _ w.pb
  have ht := tt.nb
  have hsb := w.sb
  have h10 : ¬ (1 : Int32) = 0 := by decide
  intro d
  induction d with
  | zero =>
    intro p m cnt fuel I A X h hd hp hm hc hf i36 x1 x2 hQ
    obtain ⟨g, rfl⟩ : ∃ g, fuel = g + 1 := ⟨fuel - 1, by clear h w tt; omega⟩
    have hR : RMean (e.tn e.p) (e.tx e.p) I A (e_R e) := h.pm hh _ _ tt
    rw [rp_go]
    unfold f_M_replace_36
    rw [x2]
    rcases B_look hR (h.txt w) hp with ⟨I1, A1, e1, hF, hnf⟩ | ⟨I1, A1, a, b, e1, hF, i34, i35, hfd⟩
    · rw [e1]
      simp only [Option.bind_some, if_true]
      have r1 := h.lk hF
      rw [B_len (r1.txt w)]
      simp only [Option.bind_some]
      refine (B_addText (r1.txt w) hp (Nat.le_refl _) (show m + (e.tn e.p - p) ≤ 4000 by clear h w tt r1; omega) (by rw [hF.1 36 (by decide) (by decide)]; exact i36)).bind ?_
      rintro ⟨c0, I3, A3⟩ ⟨c36, ci, ca, cd⟩
      simp only at c36 ci ca cd
      have r3 : MRel e t cf I3 A3 := r1.fr (fun j _ _ _ _ q => ci j q) (fun j _ _ q => ca j q)
      refine hQ _ [] I3 A3 X hnf r3 c36 (fun k k1 k2 => ?_) (fun k hk => ?_) x1 (by show cnt + 0 ≤ _; clear h w tt r1 r3; omega) (by show m + (e.tn e.p - p) ≤ 4000; clear h w tt r1 r3; omega) (fun _ => rfl) (fun z => (z rfl).elim) (by rw [ci 0 (by decide), hF.1 0 (by decide) (by decide)])
      · have k2' : k < m + (e.tn e.p - p) := k2
        rw [cd k, if_pos ⟨k1, k2'⟩]; rfl
      · rw [cd k, if_neg (by clear h w tt r1 r3; omega), hF.2 37 (by decide) (by decide)]
    · have z1 := hfd.1
      have z2 := hfd.2.1
      clear h w tt; omega
  | succ d ih =>
    intro p m cnt fuel I A X h hd hp hm hc hf i36 x1 x2 hQ
    obtain ⟨g, rfl⟩ : ∃ g, fuel = g + 1 := ⟨fuel - 1, by clear h w tt; omega⟩
    have hR : RMean (e.tn e.p) (e.tx e.p) I A (e_R e) := h.pm hh _ _ tt
    rw [rp_go]
    unfold f_M_replace_36
    rw [x2]
    rcases B_look hR (h.txt w) hp with ⟨I1, A1, e1, hF, hnf⟩ | ⟨I1, A1, a, b, e1, hF, i34, i35, hfd⟩
    · rw [e1]
      simp only [Option.bind_some, if_true]
      have r1 := h.lk hF
      rw [B_len (r1.txt w)]
      simp only [Option.bind_some]
      refine (B_addText (r1.txt w) hp (Nat.le_refl _) (show m + (e.tn e.p - p) ≤ 4000 by clear h w tt r1; omega) (by rw [hF.1 36 (by decide) (by decide)]; exact i36)).bind ?_
      rintro ⟨c0, I3, A3⟩ ⟨c36, ci, ca, cd⟩
      simp only at c36 ci ca cd
      have r3 : MRel e t cf I3 A3 := r1.fr (fun j _ _ _ _ q => ci j q) (fun j _ _ q => ca j q)
      refine hQ _ [] I3 A3 X hnf r3 c36 (fun k k1 k2 => ?_) (fun k hk => ?_) x1 (by show cnt + 0 ≤ _; clear h w tt r1 r3; omega) (by show m + (e.tn e.p - p) ≤ 4000; clear h w tt r1 r3; omega) (fun _ => rfl) (fun z => (z rfl).elim) (by rw [ci 0 (by decide), hF.1 0 (by decide) (by decide)])
      · have k2' : k < m + (e.tn e.p - p) := k2
        rw [cd k, if_pos ⟨k1, k2'⟩]; rfl
      · rw [cd k, if_neg (by clear h w tt r1 r3; omega), hF.2 37 (by decide) (by decide)]
    · have z1 := hfd.1
      have z2 := hfd.2.1
      have z3 := hfd.2.2.1
      have z4 := hfd.2.2.2.1.1
      rw [e1]
      simp only [Option.bind_some]
      rw [if_neg h10, i34]
      have r1 := h.lk hF
      refine (B_addText (r1.txt w) z1 (Nat.le_of_lt z2) (show m + (a - p) ≤ 4000 by clear h w tt r1 hfd; omega) (by rw [hF.1 36 (by decide) (by decide)]; exact i36)).bind ?_
      rintro ⟨c0, I2, A2⟩ ⟨c36, ci, ca, cd⟩
      simp only at c36 ci ca cd
      have r2 : MRel e t cf I2 A2 := r1.fr (fun j _ _ _ _ q => ci j q) (fun j _ _ q => ca j q)
      simp only
      refine (B_addSlip (sc := e.sc) hsb (show m + (a - p) + e.sn ≤ 4000 by clear h w tt r1 r2 hfd; omega) r2.s1 c36 (fun j hj => ⟨r2.s2 j hj, w.sv j hj⟩)).bind ?_
      rintro ⟨b0, I3, A3⟩ ⟨b36, bi, ba, bd⟩
      simp only at b36 bi ba bd
      have r3 : MRel e t cf I3 A3 := r2.fr (fun j _ _ _ _ q => bi j q) (fun j _ _ q => ba j q)
      simp only
      have j35 : I3 35 = Int32.ofNat b := by rw [bi 35 (by decide), ci 35 (by decide)]; exact i35
      rw [j35, b36, x1, pn_succ]
      refine ih b (m + (a - p) + e.sn) (cnt + 1) g I3 A3 _ r3 (by clear h w tt r1 r2 r3 hfd; omega) z3 (by clear h w tt r1 r2 r3 hfd; omega) (by clear h w tt r1 r2 r3 hfd; omega) (by clear h w tt r1 r2 r3 hfd; omega) b36 (by rw [upd_ne _ _ (by decide), upd_ne _ _ (by decide), upd_self]) (by rw [upd_ne _ _ (by decide), upd_self]) (fun rc ms I4 A4 X4 k1 k2 k3 k4 k5 k6 k7 k8 k9 k10 k11 => ?_)
      have el : m + (a - p) + e.sn + rp_len e.sn (e.tn e.p) b ms = m + rp_len e.sn (e.tn e.p) p ((a, b) :: ms) := by simp only [rp_len]; clear h w tt r1 r2 r3 hfd k2; omega
      refine hQ rc ((a, b) :: ms) I4 A4 X4 ⟨hfd, k1⟩ k2 (by rw [k3, el]) (fun k q1 q2 => ?_) (fun k hk => ?_) (by rw [k6]; show Int32.ofNat (cnt + 1 + ms.length) = Int32.ofNat (cnt + (ms.length + 1)); rw [show cnt + 1 + ms.length = cnt + (ms.length + 1) by clear h w tt r1 r2 r3 hfd k2; omega]) (by show cnt + (ms.length + 1) ≤ _; clear h w tt r1 r2 r3 hfd k2; omega) (by rw [← el]; exact k8) (fun z => by cases z) (fun _ => ?_) (by rw [k11, bi 0 (by decide), ci 0 (by decide), hF.1 0 (by decide) (by decide)])
      · rw [← el] at q2
        show A4 37 k = if k - m < a - p then e.tx e.p (p + (k - m)) else if k - m < a - p + e.sn then Int32.ofNat (e.sc (k - m - (a - p))) else rp_tx e.sn e.sc (e.tx e.p) b ms (k - m - (a - p + e.sn))
        by_cases s3 : m + (a - p) + e.sn ≤ k
        · rw [k4 k s3 q2, if_neg (by clear h w tt r1 r2 r3 hfd k2; omega), if_neg (by clear h w tt r1 r2 r3 hfd k2; omega), show k - m - (a - p + e.sn) = k - (m + (a - p) + e.sn) by clear h w tt r1 r2 r3 hfd k2; omega]
        · rw [k5 k (by clear h w tt r1 r2 r3 hfd k2; omega), bd k]
          by_cases s2 : m + (a - p) ≤ k
          · rw [if_pos (by clear h w tt r1 r2 r3 hfd k2; omega), if_neg (by clear h w tt r1 r2 r3 hfd k2; omega), if_pos (by clear h w tt r1 r2 r3 hfd k2; omega)]
            show Int32.ofNat (e.sc (k - (m + (a - p)))) = _
            rw [show k - (m + (a - p)) = k - m - (a - p) by clear h w tt r1 r2 r3 hfd k2; omega]
          · rw [if_neg (by clear h w tt r1 r2 r3 hfd k2; omega), cd k, if_pos (by clear h w tt r1 r2 r3 hfd k2; omega), if_pos (by clear h w tt r1 r2 r3 hfd k2; omega)]
      · rw [k5 k (by clear h w tt r1 r2 r3 hfd k2; omega), bd k, if_neg (by clear h w tt r1 r2 r3 hfd k2; omega), cd k, if_neg (by clear h w tt r1 r2 r3 hfd k2; omega), hF.2 37 (by decide) (by decide)]
      · cases ms with
        | nil =>
          rw [k9 rfl, upd_self]
          show Int32.ofNat (m + (a - p) + e.sn) = Int32.ofNat (m + ((a - p) + e.sn + 0))
          rw [show m + (a - p) + e.sn = m + ((a - p) + e.sn + 0) by clear h w tt r1 r2 r3 hfd k2; omega]
        | cons y ms =>
          rw [k10 (List.cons_ne_nil _ _)]
          show Int32.ofNat (m + (a - p) + e.sn + rp_pl e.sn b (y :: ms)) = Int32.ofNat (m + ((a - p) + e.sn + rp_pl e.sn b (y :: ms)))
          rw [show m + (a - p) + e.sn + rp_pl e.sn b (y :: ms) = m + ((a - p) + e.sn + rp_pl e.sn b (y :: ms)) by clear h w tt r1 r2 r3 hfd k2; omega]
/-- replace, when all matches are known -/
def e_rep (e : ES) (ms : List (Nat × Nat)) : ES := if ms = [] then e_sn e 0 else if 160 < rp_len e.sn (e.tn e.p) 0 ms ∨ e.n = 40 then e else e_sn (e_edit e (rp_len e.sn (e.tn e.p) 0 ms) (rp_tx e.sn e.sc (e.tx e.p) 0 ms) (rp_pl e.sn 0 ms)) 0
def e_rok (e : ES) (ms : List (Nat × Nat)) : Bool := decide (ms = [] ∨ ¬ (160 < rp_len e.sn (e.tn e.p) 0 ms ∨ e.n = 40))
theorem EWf.rep {e : ES} (w : EWf e) {ms : List (Nat × Nat)} (h : Ms (e_R e) (e.tn e.p) 0 ms) : EWf (e_rep e ms) := by
  unfold e_rep
  by_cases q : ms = []
  · rw [if_pos q]; exact w.sn0
  · rw [if_neg q]
    by_cases q2 : 160 < rp_len e.sn (e.tn e.p) 0 ms ∨ e.n = 40
    · rw [if_pos q2]; exact w
    · rw [if_neg q2]
      have hn2 := w.n2
      exact (w.edit (by clear w; omega) ⟨by clear w; omega, rp_txt (w.tt _ w.pb) w.sv ms 0 h⟩ (rp_pl_le ms 0 h)).sn0
theorem B_replace {e : ES} {t : Nat} {cf : Nat → Nat} {I : MI} {A : MA} (h : MRel e t cf I A) (w : EWf e) : Res (f_M_replace I A) (fun z => (e.has = false → z.2.1 0 = 1 ∧ MRel e t cf z.2.1 z.2.2) ∧ (e.has = true → ∃ ms t' cf', t' ≤ t + 1 ∧ Ms (e_R e) (e.tn e.p) 0 ms ∧ MRel (e_rep e ms) t' cf' z.2.1 z.2.2 ∧ (e_rok e ms = true → z.2.1 0 = 0 ∧ z.1 = Int32.ofNat ms.length) ∧ (e_rok e ms = false → z.2.1 0 = 1))) := by
  have fu := wk_FUEL_big
  have tt := w.tt _ w.pb
  have ht := tt.nb
  have hn2 := w.n2
  have h10 : ¬ (1 : Int32) = 0 := by decide
  have h1le : ¬ (1 : Int32) ≤ 0 := by decide
  have h0le : (0 : Int32) ≤ 0 := by decide
  unfold f_M_replace f_M_replace_e
  generalize wk_FUEL = F at fu ⊢
  rw [h.hh]
  cases hh : e.has with
  | false =>
    rw [if_pos (show g_flag false = 0 from rfl)]
    unfold f_M_replace_13
    simp only [wk_let, upd_self, if_neg h1le]
    exact Res.mk ⟨fun _ => ⟨upd_self I 0 1, h.i0 1⟩, (fun z => by cases z)⟩
  | true =>
    rw [if_neg (show ¬ g_flag true = 0 from h10)]
    unfold f_M_replace_13
    simp only [wk_let, upd_self, if_pos h0le]
    have r0 : MRel e t cf (upd (upd I 0 0) 36 0) A := (h.i0 0).fr (fun j _ _ _ _ q => upd_ne _ _ q) (fun _ _ _ _ => rfl)
    obtain ⟨I0, hI0⟩ : ∃ I0, I0 = upd (upd I 0 0) 36 0 := ⟨_, rfl⟩
    rw [← hI0] at r0 ⊢
    have i36 : I0 36 = Int32.ofNat 0 := by rw [hI0]; exact upd_self _ _ _
    have z00 : I0 0 = 0 := by rw [hI0, upd_ne _ _ (by decide), upd_self]
    refine B_rep_go w hh (e.tn e.p) 0 0 0 F I0 A _ r0 (by clear h w tt r0; omega) (Nat.zero_le _) (Nat.le_refl _) (Nat.le_refl _) (by clear h w tt r0; omega) i36 rfl rfl (fun rc ms I3 A3 X3 k1 k2 k3 k4 k5 k6 k7 k8 k9 k10 k11 => ?_)
    rw [Nat.zero_add] at k3 k6 k7 k8
    have i30 : I3 0 = 0 := by rw [k11]; exact z00
    refine Res.imp (P := fun z => ∃ t' cf', t' ≤ t + 1 ∧ MRel (e_rep e ms) t' cf' z.2.1 z.2.2 ∧ (e_rok e ms = true → z.2.1 0 = 0 ∧ z.1 = Int32.ofNat ms.length) ∧ (e_rok e ms = false → z.2.1 0 = 1)) ?_ (fun z hz => ⟨(fun z => by cases z), fun _ => by obtain ⟨t', cf', q1, q2, q3⟩ := hz; exact ⟨ms, t', cf', q1, k1, q2, q3⟩⟩)
    unfold rp_tail
    rw [k6]
    have bad : ms ≠ [] → (160 < rp_len e.sn (e.tn e.p) 0 ms ∨ e.n = 40) → Res (f_M_replace_106 rc I3 A3 X3) (fun z => ∃ t' cf', t' ≤ t + 1 ∧ MRel (e_rep e ms) t' cf' z.2.1 z.2.2 ∧ (e_rok e ms = true → z.2.1 0 = 0 ∧ z.1 = Int32.ofNat ms.length) ∧ (e_rok e ms = false → z.2.1 0 = 1)) := by
      intro q0 q1
      unfold f_M_replace_106 f_M_replace_111
      simp only [wk_let, upd_self, if_neg h1le]
      have ee : e_rep e ms = e := by unfold e_rep; rw [if_neg q0, if_pos q1]
      rw [ee]
      refine Res.mk ⟨t, cf, Nat.le_succ _, k2.i0 1, fun z => ?_, fun _ => upd_self I3 0 1⟩
      exact ((of_decide_eq_true z).elim q0 (fun y => y q1)).elim
    by_cases q0 : ms = []
    · have e0 : ms.length = 0 := by rw [q0]; rfl
      rw [e0, if_pos (show Int32.ofNat 0 ≤ 0 from h0le)]
      unfold f_M_replace_110 f_M_replace_111 f_M_replace_132
      simp only [wk_let, upd_self, if_pos h0le]
      rw [k6, e0, if_pos (show Int32.ofNat 0 ≤ 0 from h0le)]
      have ee : e_rep e ms = e_sn e 0 := by unfold e_rep; rw [if_pos q0]
      rw [ee]
      refine Res.mk ⟨t, cf, Nat.le_succ _, (k2.i0 0).sn0, fun _ => ⟨?_, rfl⟩, fun z => ?_⟩
      · show upd (upd I3 0 0) 1 0 0 = 0
        rw [upd_ne _ _ (by decide), upd_self]
      · exact (of_decide_eq_false z (Or.inl q0)).elim
    · have hl0 : 0 < ms.length := List.length_pos_iff.mpr q0
      have nl : ¬ Int32.ofNat ms.length ≤ 0 := fun z => by have := (pn_lec (x := 0) 0 rfl (by clear h w tt r0 k2; omega) (by omega)).mp z; clear h w tt r0 k2; omega
      rw [if_neg nl, k3, k2.hn]
      by_cases q1 : 160 < rp_len e.sn (e.tn e.p) 0 ms
      · rw [if_pos ((pn_clt (x := 160) 160 rfl (by clear h w tt r0 k2; omega) (by omega)).mpr q1)]
        exact bad q0 (Or.inl q1)
      · rw [if_neg (fun z => q1 ((pn_clt (x := 160) 160 rfl (by clear h w tt r0 k2; omega) (by omega)).mp z))]
        by_cases q2 : e.n = 40
        · rw [if_pos ((pn_eqc (x := 40) 40 rfl (by clear h w tt r0 k2; omega) (by omega)).mpr q2)]
          exact bad q0 (Or.inr q2)
        · rw [if_neg (fun z => q2 ((pn_eqc (x := 40) 40 rfl (by clear h w tt r0 k2; omega) (by omega)).mp z))]
          have hnf : ¬ (160 < rp_len e.sn (e.tn e.p) 0 ms ∨ e.n = 40) := fun z => z.elim q1 q2
          have ee : e_rep e ms = e_sn (e_edit e (rp_len e.sn (e.tn e.p) 0 ms) (rp_tx e.sn e.sc (e.tx e.p) 0 ms) (rp_pl e.sn 0 ms)) 0 := by unfold e_rep; rw [if_neg q0, if_neg hnf]
          rw [ee]
          have x3 : X3 3 = Int32.ofNat (rp_pl e.sn 0 ms) := by rw [k10 q0, Nat.zero_add]
          unfold f_M_replace_110 f_M_replace_111
          simp only [wk_let, upd_self, if_pos h0le]
          rw [k6, if_neg nl, x3]
          have k20 := k2.i0 0
          refine (k20.edit w (m := rp_len e.sn (e.tn e.p) 0 ms) (tf := rp_tx e.sn e.sc (e.tx e.p) 0 ms) (place := rp_pl e.sn 0 ms) (by clear h w tt r0 k2 k20; omega) (by rw [upd_ne _ _ (by decide)]; exact k3) (fun k hk => ?_) ⟨by clear h w tt r0 k2 k20; omega, rp_txt tt w.sv ms 0 k1⟩).bind ?_
          · have := k4 k (Nat.zero_le _) (by rw [Nat.zero_add]; exact hk)
            rw [Nat.sub_zero] at this; exact this
          · rintro ⟨d0, I4, A4⟩ ⟨d1, d2⟩
            simp only at d1 d2
            simp only [f_M_replace_132, wk_let]
            rw [k6]
            refine Res.mk ⟨t + 1, _, Nat.le_refl _, d1.sn0, fun _ => ⟨?_, rfl⟩, fun z => ?_⟩
            · show upd I4 1 0 0 = 0
              rw [upd_ne _ _ (by decide), d2]; exact upd_self _ _ _
            · exact (of_decide_eq_false z (Or.inr hnf)).elim
