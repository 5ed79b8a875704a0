-- own rows: the class's methods against the editor
abbrev CRel (e : ES) (k : CK) : Prop := (k.I 1 = Int32.ofNat e.sn) ∧ (∀ j, j < e.sn → k.A 0 j = Int32.ofNat (e.sc j)) ∧ (k.I 3 = Int32.ofNat e.n) ∧ (k.I 4 = Int32.ofNat e.p) ∧ (k.I 6 = Int32.ofNat e.c) ∧ (k.I 7 = mkI e.mr) ∧ (k.I 10 = g_flag e.has) ∧ (k.I 11 = mkI e.fl) ∧ (e.has = true → ∀ tn tx, Txt tn tx → CMean tn tx k.M k.MB k.L (e.pat tn tx))
theorem CRel.s1 {e : ES} {k : CK} (h_ : CRel e k) : k.I 1 = Int32.ofNat e.sn := h_.1
theorem CRel.s2 {e : ES} {k : CK} (h_ : CRel e k) : ∀ j, j < e.sn → k.A 0 j = Int32.ofNat (e.sc j) := h_.2.1
theorem CRel.hn {e : ES} {k : CK} (h_ : CRel e k) : k.I 3 = Int32.ofNat e.n := h_.2.2.1
theorem CRel.hp {e : ES} {k : CK} (h_ : CRel e k) : k.I 4 = Int32.ofNat e.p := h_.2.2.2.1
theorem CRel.hc {e : ES} {k : CK} (h_ : CRel e k) : k.I 6 = Int32.ofNat e.c := h_.2.2.2.2.1
theorem CRel.hm {e : ES} {k : CK} (h_ : CRel e k) : k.I 7 = mkI e.mr := h_.2.2.2.2.2.1
theorem CRel.hh {e : ES} {k : CK} (h_ : CRel e k) : k.I 10 = g_flag e.has := h_.2.2.2.2.2.2.1
theorem CRel.hf {e : ES} {k : CK} (h_ : CRel e k) : k.I 11 = mkI e.fl := h_.2.2.2.2.2.2.2.1
theorem CRel.pm {e : ES} {k : CK} (h_ : CRel e k) : e.has = true → ∀ tn tx, Txt tn tx → CMean tn tx k.M k.MB k.L (e.pat tn tx) := h_.2.2.2.2.2.2.2.2
/-- the slip's length has changed -/
theorem CRel.i1 {e e' : ES} {k : CK} (h : CRel e k) {v : Int32} {A' : MA} (hs : v = Int32.ofNat e'.sn) (h2 : ∀ j, j < e'.sn → A' 0 j = Int32.ofNat (e'.sc j)) (q3 : e'.n = e.n) (q4 : e'.p = e.p) (q5 : e'.c = e.c) (q6 : e'.mr = e.mr) (q7 : e'.has = e.has) (q8 : e'.fl = e.fl) (q9 : e'.pat = e.pat) : CRel e' (k.dw (upd k.I 1 v) A' k.M k.MB k.L) := by
  refine ⟨?_, h2, ?_, ?_, ?_, ?_, ?_, ?_, ?_⟩
  · show upd k.I 1 v 1 = _; rw [upd_self]; exact hs
  · show upd k.I 1 v 3 = _; rw [upd_ne _ _ (by decide), q3]; exact h.hn
  · show upd k.I 1 v 4 = _; rw [upd_ne _ _ (by decide), q4]; exact h.hp
  · show upd k.I 1 v 6 = _; rw [upd_ne _ _ (by decide), q5]; exact h.hc
  · show upd k.I 1 v 7 = _; rw [upd_ne _ _ (by decide), q6]; exact h.hm
  · show upd k.I 1 v 10 = _; rw [upd_ne _ _ (by decide), q7]; exact h.hh
  · show upd k.I 1 v 11 = _; rw [upd_ne _ _ (by decide), q8]; exact h.hf
  · intro hh tn tx hT
    rw [q7] at hh
    rw [q9]
    exact h.pm hh tn tx hT
theorem CRel.cm {e : ES} {k : CK} (h : CRel e k) {c' : Nat} {m' : Option Nat} {I' : MI} {A' : MA} {M' : MI} (i6 : I' 6 = Int32.ofNat c') (i7 : I' 7 = mkI m') (hi : ∀ j, j ≠ 6 → j ≠ 7 → I' j = k.I j) (hA : A' 0 = k.A 0) (hM : ∀ tn tx R, CMean tn tx k.M k.MB k.L R → CMean tn tx M' k.MB k.L R) : CRel (ES.mk e.sn e.sc e.n e.p (c') (m') e.tn e.tx e.pl e.pa e.lc e.has e.pat e.fl) (k.dw I' A' M' k.MB k.L) := by
  refine ⟨?_, ?_, ?_, ?_, i6, i7, ?_, ?_, ?_⟩
  · show I' 1 = _; rw [hi 1 (by decide) (by decide)]; exact h.s1
  · intro j hj
    show A' 0 j = _
    rw [hA]; exact h.s2 j hj
  · show I' 3 = _; rw [hi 3 (by decide) (by decide)]; exact h.hn
  · show I' 4 = _; rw [hi 4 (by decide) (by decide)]; exact h.hp
  · show I' 10 = _; rw [hi 10 (by decide) (by decide)]; exact h.hh
  · show I' 11 = _; rw [hi 11 (by decide) (by decide)]; exact h.hf
  · exact fun hh tn tx hT => hM _ _ _ (h.pm hh tn tx hT)
theorem CRel.self {e : ES} {k : CK} (h : CRel e k) : CRel e (k.dw k.I k.A k.M k.MB k.L) := h
theorem C_wipe {e : ES} {k : CK} (h : CRel e k) (tn : Nat) (tx : Nat → Int32) : f_D_wipe tn tx k.I k.A k.M k.MB k.L = some (Int32.ofNat e.sn, upd k.I 1 0, k.A, k.M, k.MB, k.L) ∧ CRel (e_sn e 0) (k.dw (upd k.I 1 0) k.A k.M k.MB k.L) := by
  refine ⟨?_, h.i1 rfl (fun j hj => absurd hj (Nat.not_lt_zero _)) rfl rfl rfl rfl rfl rfl rfl⟩
  unfold f_D_wipe
  simp only [wk_let]
  rw [h.s1]
theorem C_type_y {tn : Nat} {tx : Nat → Int32} {I : MI} {A : MA} {M : MI} {MB : MA} {L : ML} {c : Int32} (h : okCh c = true) : f_D_type tn tx I A M MB L c = f_D_type_23 tn tx I A M MB L (upd (fun _ => 0) 1 c) (fun _ => 0) 1 := by
  unfold okCh at h
  rw [Bool.or_eq_true, Bool.and_eq_true] at h
  unfold f_D_type f_D_type_18
  by_cases a : c = 10
  · rw [if_pos a]
  · rw [if_neg a]
    rcases h with h | ⟨h1, h2⟩
    · exact absurd (of_decide_eq_true h) a
    · rw [if_neg (show ¬ c < 32 by simpa using h1), if_neg (show ¬ 126 < c by simpa using h2)]
theorem C_type_n {tn : Nat} {tx : Nat → Int32} {I : MI} {A : MA} {M : MI} {MB : MA} {L : ML} {c : Int32} (h : ¬ okCh c = true) : f_D_type tn tx I A M MB L c = f_D_type_23 tn tx I A M MB L (upd (fun _ => 0) 1 c) (fun _ => 0) 0 := by
  unfold okCh at h
  rw [Bool.or_eq_true, Bool.and_eq_true] at h
  unfold f_D_type f_D_type_22
  have a : ¬ c = 10 := fun z => h (Or.inl (decide_eq_true z))
  rw [if_neg a]
  by_cases b : c < 32
  · rw [if_pos b]
  · rw [if_neg b]
    by_cases d : 126 < c
    · rw [if_pos d]
    · exact absurd (Or.inr ⟨by simpa using b, by simpa using d⟩) h
theorem C_type {e : ES} {k : CK} (h : CRel e k) (w : EWf e) (tn : Nat) (tx : Nat → Int32) (c : Int32) : ∃ I' A', f_D_type tn tx k.I k.A k.M k.MB k.L c = some (g_flag (decide (okCh c = true ∧ e.sn ≠ 24)), I', A', k.M, k.MB, k.L) ∧ CRel (e_typ e c) (k.dw I' A' k.M k.MB k.L) := by
  have hsb := w.sb
  have h10 : ¬ (1 : Int32) = 0 := by decide
  unfold e_typ
  by_cases q : okCh c = true
  · rw [C_type_y q]
    unfold f_D_type_23 f_D_type_37
    rw [if_neg h10, h.s1]
    by_cases q2 : e.sn = 24
    · rw [if_pos ((pn_eqc (x := 24) 24 rfl (by clear h w; omega) (by omega)).mpr q2), if_neg (fun z => z.2 q2), decide_eq_false (fun z => z.2 q2)]
      exact ⟨k.I, k.A, rfl, h⟩
    · obtain ⟨ec, hc⟩ := okCh_lt q
      have en : vp_nar .char (upd (fun _ => (0 : Int32)) 1 c 1) = Int32.ofNat c.toNatClampNeg := by
        have := nar_ch hc
        rw [upd_self]
        rw [ec] at this ⊢; exact this
      rw [if_neg (fun z => q2 ((pn_eqc (x := 24) 24 rfl (by clear h w; omega) (by omega)).mp z)), if_pos (pn_i24 (show e.sn < 24 by clear h w; omega)), if_pos ⟨q, q2⟩, decide_eq_true ⟨q, q2⟩, pn_nat (show e.sn < 2147483648 by clear h w; omega), en, pn_succ]
      simp only [wk_let]
      refine ⟨_, _, rfl, h.i1 rfl (fun j hj => ?_) rfl rfl rfl rfl rfl rfl rfl⟩
      rw [va_up_self]
      refine ofsU rfl (fun q => h.s2 j ?_)
      have : j < e.sn + 1 := hj
      clear h; omega
  · rw [C_type_n q]
    unfold f_D_type_23 f_D_type_37
    rw [if_pos rfl, if_neg (fun z => q z.1), decide_eq_false (fun z => q z.1)]
    exact ⟨k.I, k.A, rfl, h⟩
/-- a place that may be gone to, or not -/
def okPl (k1 : Int32) (tn : Nat) : Bool := !decide (k1 < 0) && decide (k1 ≤ Int32.ofNat tn)
theorem C_place {tn : Nat} {tx : Nat → Int32} {I : MI} {A : MA} {M : MI} {MB : MA} {L : ML} (k1 : Int32) : f_D_requirePlace tn tx I A M MB L k1 = some (if okPl k1 tn = true then 0 else 2, 0, I, A, M, MB, L) := by
  unfold f_D_requirePlace f_D_requirePlace_13 okPl
  by_cases a : k1 < 0
  · rw [if_pos a, decide_eq_true a]; rfl
  · rw [if_neg a, decide_eq_false a]
    by_cases b : k1 ≤ Int32.ofNat tn
    · rw [if_pos b, decide_eq_true b]; rfl
    · rw [if_neg b, decide_eq_false b]; rfl
theorem okPl_nat {k1 : Int32} {tn : Nat} (ht : tn ≤ 160) (h : okPl k1 tn = true) : ∃ p, p ≤ tn ∧ k1 = Int32.ofNat p := by
  unfold okPl at h
  rw [Bool.and_eq_true] at h
  have a : ¬ k1 < 0 := by simpa using h.1
  have b : k1 ≤ Int32.ofNat tn := of_decide_eq_true h.2
  have ek := pn_ofclamp a
  refine ⟨k1.toNatClampNeg, ?_, ek.symm⟩
  rw [← ek] at b
  exact (pn_le (pn_clamp_lt k1) (by omega)).mp b
theorem okPl_bad {k1 : Int32} {tn : Nat} (h : ¬ okPl k1 tn = true) : k1 < 0 ∨ ¬ k1 ≤ Int32.ofNat tn := by
  by_cases a : k1 < 0
  · exact Or.inl a
  · refine Or.inr (fun b => h ?_)
    unfold okPl
    rw [decide_eq_false a, decide_eq_true b]; rfl
theorem C_go33 {tn : Nat} {tx : Nat → Int32} {I : MI} {A : MA} {M : MI} {MB : MA} {L : ML} {X : Nat → Int32} {Y : Nat → Int64} {p : Nat} {m0 : Option Nat} (hp : p ≤ 160) (hm0 : ∀ m, m0 = some m → m ≤ 160) (x1 : X 1 = Int32.ofNat p) (i7 : I 7 = mkI m0) :
    ∃ I', f_D_go_33 tn tx I A M MB L X Y = some (0, 0, I', A, M, MB, L) ∧ I' 6 = Int32.ofNat p ∧ I' 7 = mkI (e_mk2 m0 p) ∧ ∀ j, j ≠ 6 → j ≠ 7 → I' j = I j := by
  unfold f_D_go_33 f_D_go_54
  simp only [wk_let]
  obtain ⟨I1, hI1⟩ : ∃ I1, I1 = upd I 6 (X 1) := ⟨_, rfl⟩
  rw [← hI1]
  have a6 : I1 6 = Int32.ofNat p := by rw [hI1, upd_self]; exact x1
  have a7 : I1 7 = mkI m0 := by rw [hI1, upd_ne _ _ (by decide)]; exact i7
  have ao : ∀ j, j ≠ 6 → j ≠ 7 → I1 j = I j := fun j h1 _ => by rw [hI1, upd_ne _ _ h1]
  rw [a7, a6]
  cases m0 with
  | none =>
    rw [if_neg (show ¬ mkI none = Int32.ofNat p from fun z => pn_ne1 (show p < 2147483648 by omega) z.symm)]
    exact ⟨I1, rfl, a6, a7, ao⟩
  | some m =>
    have hmb := hm0 m rfl
    have em : mkI (some m) = Int32.ofNat m := rfl
    rw [em]
    unfold e_mk2
    simp only
    by_cases q : m = p
    · rw [if_pos ((pn_eq (by omega) (by omega)).mpr q), if_pos q]
      exact ⟨upd I1 7 (-1), rfl, by rw [upd_ne _ _ (by decide)]; exact a6, upd_self _ _ _, fun j h1 h2 => by rw [upd_ne _ _ h2]; exact ao j h1 h2⟩
    · rw [if_neg (fun z => q ((pn_eq (by omega) (by omega)).mp z)), if_neg q]
      exact ⟨I1, rfl, a6, a7, ao⟩
theorem C_go {e : ES} {k : CK} (h : CRel e k) (w : EWf e) (tx : Nat → Int32) (k1 k2 : Int32) : (¬ okPl k1 (e.tn e.p) = true → f_D_go (e.tn e.p) tx k.I k.A k.M k.MB k.L k1 k2 = some (2, 0, k.I, k.A, k.M, k.MB, k.L)) ∧
    (∀ p, p ≤ e.tn e.p → k1 = Int32.ofNat p → ∃ I', f_D_go (e.tn e.p) tx k.I k.A k.M k.MB k.L k1 k2 = some (0, 0, I', k.A, k.M, k.MB, k.L) ∧ CRel (e_go e p (decide (k2 ≠ 0))) (k.dw I' k.A k.M k.MB k.L)) := by
  have ht := (w.tt _ w.pb).nb
  have hcb := w.cb
  have h20 : ¬ (2 : Nat) = 0 := by decide
  constructor
  · intro hb
    unfold f_D_go
    simp only [C_place, if_neg hb, Option.bind_some, if_neg h20, if_true]
  · intro p hp ep
    have ok : okPl k1 (e.tn e.p) = true := by
      unfold okPl
      rw [ep, decide_eq_false (pn_nneg (show p < 2147483648 by clear h w; omega)), decide_eq_true ((pn_le (show p < 2147483648 by clear h w; omega) (by clear h w; omega)).mpr hp)]; rfl
    have fin : ∀ (m0 : Option Nat) (I : MI), (∀ m, m0 = some m → m ≤ e.tn e.p) → I 7 = mkI m0 → (∀ j, j ≠ 7 → I j = k.I j) → ((ES.mk e.sn e.sc e.n e.p (p) (e_mk2 m0 p) e.tn e.tx e.pl e.pa e.lc e.has e.pat e.fl) : ES) = e_go e p (decide (k2 ≠ 0)) → ∃ I', f_D_go_33 (e.tn e.p) tx I k.A k.M k.MB k.L (upd (upd (fun _ => 0) 1 k1) 2 k2) (fun _ => 0) = some (0, 0, I', k.A, k.M, k.MB, k.L) ∧ CRel (e_go e p (decide (k2 ≠ 0))) (k.dw I' k.A k.M k.MB k.L) := by
      intro m0 I hm0 i7 io he
      obtain ⟨I', e0, a6, a7, ao⟩ := C_go33 (tn := e.tn e.p) (tx := tx) (I := I) (A := k.A) (M := k.M) (MB := k.MB) (L := k.L) (X := upd (upd (fun _ => 0) 1 k1) 2 k2) (Y := fun _ => 0) (p := p) (m0 := m0) (by clear h w; omega) (fun m hm => Nat.le_trans (hm0 m hm) ht) (by rw [upd_ne _ _ (by decide), upd_self]; exact ep) i7
      refine ⟨I', e0, ?_⟩
      rw [← he]
      exact h.cm a6 a7 (fun j h1 h2 => by rw [ao j h1 h2, io j h2]) rfl (fun _ _ _ z => z)
    unfold f_D_go
    simp only [C_place, if_pos ok, Option.bind_some, if_true, wk_let]
    by_cases qk : k2 = 0
    · rw [if_pos qk]
      refine fin none _ (fun m z => by cases z) (upd_self _ _ _) (fun j hj => upd_ne _ _ hj) ?_
      unfold e_go
      rw [decide_eq_false (fun z => z qk)]; rfl
    · rw [if_neg qk, h.hm]
      have dk : decide (k2 ≠ 0) = true := decide_eq_true qk
      cases hm : e.mr with
      | none =>
        rw [if_pos (show mkI none = -1 from rfl)]
        refine fin (some e.c) _ (fun m z => by cases z; exact hcb) (by rw [upd_self]; exact h.hc) (fun j hj => upd_ne _ _ hj) ?_
        unfold e_go
        rw [dk, hm]; rfl
      | some m =>
        have hmb := w.mb m hm
        rw [if_neg (show ¬ mkI (some m) = -1 from pn_ne1 (show m < 2147483648 by clear h w fin; omega))]
        refine fin (some m) _ (fun m' z => by cases z; exact hmb) (by rw [h.hm, hm]) (fun j _ => rfl) ?_
        unfold e_go
        rw [dk, hm]; rfl
theorem C_selS {e : ES} {k : CK} (h : CRel e k) (w : EWf e) (tn : Nat) (tx : Nat → Int32) : f_D_selectionStart tn tx k.I k.A k.M k.MB k.L = some (Int32.ofNat (e_lo e), k.I, k.A, k.M, k.MB, k.L) := by
  have hc := w.cb
  have ht := (w.tt _ w.pb).nb
  unfold f_D_selectionStart f_D_selectionStart_26 e_lo
  rw [h.hm, h.hc]
  cases hm : e.mr with
  | none => rw [if_pos (show mkI none = -1 from rfl)]
  | some m =>
    have hmb := w.mb m hm
    have em : mkI (some m) = Int32.ofNat m := rfl
    rw [em, if_neg (pn_ne1 (by clear h w; omega))]
    simp only
    by_cases q : m < e.c
    · rw [if_neg (fun z => by have := (pn_lt (a := e.c) (b := m) (by clear h w; omega) (by clear h w; omega)).mp z; clear h w; omega), if_pos q]
    · by_cases q2 : e.c < m
      · rw [if_pos ((pn_lt (by clear h w; omega) (by clear h w; omega)).mpr q2), if_neg q]
      · rw [if_neg (fun z => q2 ((pn_lt (by clear h w; omega) (by clear h w; omega)).mp z)), if_neg q, show m = e.c by clear h w; omega]
theorem C_selE {e : ES} {k : CK} (h : CRel e k) (w : EWf e) (tn : Nat) (tx : Nat → Int32) : f_D_selectionEnd tn tx k.I k.A k.M k.MB k.L = some (Int32.ofNat (e_hi e), k.I, k.A, k.M, k.MB, k.L) := by
  have hc := w.cb
  have ht := (w.tt _ w.pb).nb
  unfold f_D_selectionEnd f_D_selectionEnd_26 e_hi
  rw [h.hm, h.hc]
  cases hm : e.mr with
  | none => rw [if_pos (show mkI none = -1 from rfl)]
  | some m =>
    have hmb := w.mb m hm
    have em : mkI (some m) = Int32.ofNat m := rfl
    rw [em, if_neg (pn_ne1 (by clear h w; omega))]
    simp only
    by_cases q : e.c < m
    · rw [if_neg (fun z => by have := (pn_lt (a := m) (b := e.c) (by clear h w; omega) (by clear h w; omega)).mp z; clear h w; omega), if_pos q]
    · by_cases q2 : m < e.c
      · rw [if_pos ((pn_lt (by clear h w; omega) (by clear h w; omega)).mpr q2), if_neg q]
      · rw [if_neg (fun z => q2 ((pn_lt (by clear h w; omega) (by clear h w; omega)).mp z)), if_neg q, show m = e.c by clear h w; omega]
theorem C_fault {e : ES} {k : CK} (h : CRel e k) (tn : Nat) (tx : Nat → Int32) : f_D_fault tn tx k.I k.A k.M k.MB k.L = some (mkI e.fl, k.I, k.A, k.M, k.MB, k.L) := by
  unfold f_D_fault
  rw [h.hf]
theorem C_figure {e : ES} {k : CK} (h : CRel e k) (tn : Nat) (tx : Nat → Int32) (k1 : Int32) : f_D_figure tn tx k.I k.A k.M k.MB k.L k1 = if k1 < 0 ∨ ¬ k1 ≤ 4 then some (3, 0, k.I, k.A, k.M, k.MB, k.L) else some (0, e_fig e k1, k.I, k.A, k.M, k.MB, k.L) := by
  unfold f_D_figure e_fig
  rw [h.hp, h.hn, h.hc, h.hm, h.s1]
  by_cases a0 : k1 = 0
  · rw [if_pos a0, if_pos a0, if_neg (by rw [a0]; decide)]
  rw [if_neg a0, if_neg a0]
  by_cases a1 : k1 = 1
  · rw [if_pos a1, if_pos a1, if_neg (by rw [a1]; decide)]
  rw [if_neg a1, if_neg a1]
  by_cases a2 : k1 = 2
  · rw [if_pos a2, if_pos a2, if_neg (by rw [a2]; decide)]
  rw [if_neg a2, if_neg a2]
  by_cases a3 : k1 = 3
  · rw [if_pos a3, if_pos a3, if_neg (by rw [a3]; decide)]
  rw [if_neg a3, if_neg a3]
  by_cases a4 : k1 = 4
  · rw [if_pos a4, if_neg (by rw [a4]; decide)]
  rw [if_neg a4, if_pos ?_]
  by_cases b : k1 < 0
  · exact Or.inl b
  · refine Or.inr (fun c => ?_)
    have ek := pn_ofclamp b
    rw [← ek] at c a0 a1 a2 a3 a4
    have hb := pn_clamp_lt k1
    have c' := (pn_lec (x := 4) 4 rfl hb (by omega)).mp c
    have d0 : ¬ k1.toNatClampNeg = 0 := fun z => a0 ((pn_eqc (x := 0) 0 rfl hb (by omega)).mpr z)
    have d1 : ¬ k1.toNatClampNeg = 1 := fun z => a1 ((pn_eqc (x := 1) 1 rfl hb (by omega)).mpr z)
    have d2 : ¬ k1.toNatClampNeg = 2 := fun z => a2 ((pn_eqc (x := 2) 2 rfl hb (by omega)).mpr z)
    have d3 : ¬ k1.toNatClampNeg = 3 := fun z => a3 ((pn_eqc (x := 3) 3 rfl hb (by omega)).mpr z)
    have d4 : ¬ k1.toNatClampNeg = 4 := fun z => a4 ((pn_eqc (x := 4) 4 rfl hb (by omega)).mpr z)
    omega
theorem C_at {e : ES} (w : EWf e) (I : MI) (A : MA) (M : MI) (MB : MA) (L : ML) (k1 : Int32) : ((k1 < 0 ∨ ¬ k1 < Int32.ofNat (e.tn e.p)) → f_D_at (e.tn e.p) (e.tx e.p) I A M MB L k1 = some (2, 0, I, A, M, MB, L)) ∧ (∀ p, p < e.tn e.p → k1 = Int32.ofNat p → f_D_at (e.tn e.p) (e.tx e.p) I A M MB L k1 = some (0, e.tx e.p p, I, A, M, MB, L)) := by
  have tt := w.tt _ w.pb
  have ht := tt.nb
  unfold f_D_at f_D_at_13
  constructor
  · rintro (a | a)
    · rw [if_pos a]
    · by_cases b : k1 < 0
      · rw [if_pos b]
      · rw [if_neg b, if_neg a]
  · intro p hp ep
    obtain ⟨c, hc, ec⟩ := tt.ch p hp
    rw [ep, if_neg (pn_nneg (by clear w; omega)), if_pos ((pn_lt (by clear w tt; omega) (by clear w tt; omega)).mpr hp), if_pos ((pn_inb (by clear w tt; omega)).mpr hp), pn_nat (show p < 2147483648 by clear w tt; omega), ec, if_pos (nar_ch hc)]
theorem C_find {e : ES} {k : CK} (h : CRel e k) (w : EWf e) (k1 : Int32) : (e.has = false → f_D_find (e.tn e.p) (e.tx e.p) k.I k.A k.M k.MB k.L k1 = some (1, 0, k.I, k.A, k.M, k.MB, k.L)) ∧
    (e.has = true → ¬ okPl k1 (e.tn e.p) = true → f_D_find (e.tn e.p) (e.tx e.p) k.I k.A k.M k.MB k.L k1 = some (2, 0, k.I, k.A, k.M, k.MB, k.L)) ∧
    (e.has = true → ∀ p, p ≤ e.tn e.p → k1 = Int32.ofNat p → (NotFound (e_R e) (e.tn e.p) p ∧ f_D_find (e.tn e.p) (e.tx e.p) k.I k.A k.M k.MB k.L k1 = some (4, 0, k.I, k.A, k.M, k.MB, k.L)) ∨
      (∃ a b I' M', Found (e_R e) (e.tn e.p) p a b ∧ f_D_find (e.tn e.p) (e.tx e.p) k.I k.A k.M k.MB k.L k1 = some (0, Int32.ofNat a, I', k.A, M', k.MB, k.L) ∧ CRel (e_fnd e a b) (k.dw I' k.A M' k.MB k.L))) := by
  have tt := w.tt _ w.pb
  have ht := tt.nb
  have h20 : ¬ (2 : Nat) = 0 := by decide
  have h10 : ¬ (1 : Int32) = 0 := by decide
  refine ⟨fun hh => ?_, fun hh hb => ?_, fun hh p hp ep => ?_⟩
  · unfold f_D_find
    rw [h.hh, hh, if_pos (show g_flag false = 0 from rfl)]
  · unfold f_D_find
    rw [h.hh, hh, if_neg (show ¬ g_flag true = 0 by decide)]
    simp only [C_place, if_neg hb, Option.bind_some, if_neg h20, if_true]
  · have ok : okPl k1 (e.tn e.p) = true := by
      unfold okPl
      rw [ep, decide_eq_false (pn_nneg (show p < 2147483648 by clear h w tt; omega)), decide_eq_true ((pn_le (show p < 2147483648 by clear h w tt; omega) (by clear h w tt; omega)).mpr hp)]; rfl
    have hM := h.pm hh _ _ tt
    rcases A_seek tt hM hp with ⟨es, hN⟩ | ⟨a, b, es, hF⟩
    · refine Or.inl ⟨hN, ?_⟩
      unfold f_D_find
      rw [h.hh, hh, if_neg (show ¬ g_flag true = 0 by decide)]
      simp only [C_place, if_pos ok, Option.bind_some, if_true]
      rw [ep, es]
      simp only [Option.bind_some, if_true]
    · refine Or.inr ⟨a, b, upd (upd k.I 7 (Int32.ofNat a)) 6 (Int32.ofNat b), upd (upd k.M 8 (Int32.ofNat a)) 9 (Int32.ofNat b), hF, ?_, ?_⟩
      · unfold f_D_find
        rw [h.hh, hh, if_neg (show ¬ g_flag true = 0 by decide)]
        simp only [C_place, if_pos ok, Option.bind_some, if_true]
        rw [ep, es]
        have m8 : upd (upd k.M 8 (Int32.ofNat a)) 9 (Int32.ofNat b) 8 = Int32.ofNat a := by rw [upd_ne _ _ (by decide), upd_self]
        have m9 : upd (upd k.M 8 (Int32.ofNat a)) 9 (Int32.ofNat b) 9 = Int32.ofNat b := upd_self _ _ _
        have i7 : upd (upd k.I 7 (Int32.ofNat a)) 6 (Int32.ofNat b) 7 = Int32.ofNat a := by rw [upd_ne _ _ (by decide), upd_self]
        simp only [Option.bind_some, if_neg h10, wk_let, m8, m9, i7]
      · exact h.cm (upd_self _ _ _) (by rw [upd_ne _ _ (by decide), upd_self]; rfl) (fun j h1 h2 => by rw [upd_ne _ _ h1, upd_ne _ _ h2]) rfl (fun _ _ _ z => z.found _ _)
/-- moving to a state -/
theorem kL_come (e : ES) (s : Nat) : upd (kL e) e.p (Int32.ofNat e.c) = kL (e_come e s) := by
  funext i
  show _ = Int32.ofNat (sU e.pl e.p e.c i)
  by_cases q : i = e.p
  · rw [q, upd_self, sU_self]
  · rw [upd_ne _ _ q, sU_ne _ _ q]; rfl
theorem kC_come0 {e : ES} {s : Nat} (h : e.pa s = none) : kC e = kC (e_come e s) := by
  unfold kC
  rw [e_come_lc0 h]
theorem kC_come1 {e : ES} {s q : Nat} (h : e.pa s = some q) : upd (kC e) q (Int32.ofNat s) = kC (e_come e s) := by
  unfold kC
  rw [e_come_lc1 h]
  funext i
  by_cases z : i = q
  · rw [z, upd_self, sU_self]; rfl
  · rw [upd_ne _ _ z, sU_ne _ _ z]
theorem CRel.come {e : ES} {k : CK} (h : CRel e k) {s : Nat} {I' : MI} (i4 : I' 4 = Int32.ofNat s) (i6 : I' 6 = Int32.ofNat (sU e.pl e.p e.c s)) (i7 : I' 7 = -1) (hi : ∀ j, j ≠ 4 → j ≠ 6 → j ≠ 7 → I' j = k.I j) : CRel (e_come e s) (k.tw I') := by
  refine ⟨?_, h.s2, ?_, i4, i6, i7, ?_, ?_, h.pm⟩
  · show I' 1 = _; rw [hi 1 (by decide) (by decide) (by decide)]; exact h.s1
  · show I' 3 = _; rw [hi 3 (by decide) (by decide) (by decide)]; exact h.hn
  · show I' 10 = _; rw [hi 10 (by decide) (by decide) (by decide)]; exact h.hh
  · show I' 11 = _; rw [hi 11 (by decide) (by decide) (by decide)]; exact h.hf
theorem C_moveTo0 {e : ES} {k : CK} (h : CRel e k) (hpb : e.p < e.n) (hn2 : e.n ≤ 40) {s : Nat} (hs : s < e.n) (w : ∀ q, e.pa s = some q → q < e.n) : ∃ I', f_D_moveTo e.n (kO e) k.I e.p (kL e) (kC e) (Int32.ofNat s) = some (0, I', s, kL (e_come e s), kC (e_come e s)) ∧ CRel (e_come e s) (k.tw I') ∧ I' 4 = Int32.ofNat s ∧ ∀ j, j ≠ 4 → j ≠ 6 → j ≠ 7 → I' j = k.I j := by
  have hs0 : s < 2147483648 := by clear h w; omega
  have hp0 : e.p < 2147483648 := by clear h w; omega
  obtain ⟨I1, hI1⟩ : ∃ I1, I1 = upd k.I 4 (Int32.ofNat s) := ⟨_, rfl⟩
  obtain ⟨I2, hI2⟩ : ∃ I2, I2 = upd I1 6 (Int32.ofNat (sU e.pl e.p e.c s)) := ⟨_, rfl⟩
  obtain ⟨I3, hI3⟩ : ∃ I3, I3 = upd I2 7 (-1) := ⟨_, rfl⟩
  have a4 : I3 4 = Int32.ofNat s := by rw [hI3, upd_ne _ _ (by decide), hI2, upd_ne _ _ (by decide), hI1, upd_self]
  have a6 : I3 6 = Int32.ofNat (sU e.pl e.p e.c s) := by rw [hI3, upd_ne _ _ (by decide), hI2, upd_self]
  have a7 : I3 7 = -1 := by rw [hI3, upd_self]
  have ao : ∀ j, j ≠ 4 → j ≠ 6 → j ≠ 7 → I3 j = k.I j := fun j h1 h2 h3 => by rw [hI3, upd_ne _ _ h3, hI2, upd_ne _ _ h2, hI1, upd_ne _ _ h1]
  refine ⟨I3, ?_, h.come a4 a6 a7 ao, a4, ao⟩
  unfold f_D_moveTo f_D_moveTo_70
  have n40 : ∀ {i : Nat}, i < e.n → wk_inb (Int32.ofNat i) 40 = true := fun {i} hi => (pn_inb (by clear h w; omega)).mpr (by clear h w; omega)
  have nn : ∀ {i : Nat}, i < e.n → wk_inb (Int32.ofNat i) e.n = true := fun {i} hi => (pn_inb (by clear h w; omega)).mpr hi
  rw [h.hp, if_pos (n40 hpb), if_pos (nn hpb), h.hc, pn_nat hp0, kL_come e s]
  simp only [wk_let]
  rw [if_pos (n40 hs), if_pos (nn hs), pn_nat hs0]
  have eL : kL (e_come e s) s = Int32.ofNat (sU e.pl e.p e.c s) := rfl
  rw [eL, ← hI1, ← hI2, ← hI3]
  have eO : kO e s = mkI (e.pa s) := rfl
  rw [eO]
  cases hq : e.pa s with
  | none => rw [if_pos (show mkI none = -1 from rfl), ← kC_come0 hq]
  | some q =>
    have hqn : q < e.n := w q hq
    have em : mkI (some q) = Int32.ofNat q := rfl
    rw [em, if_neg (pn_ne1 (by clear h w; omega)), if_pos (n40 hqn), if_pos (nn hqn), pn_nat (show q < 2147483648 by clear h w; omega), kC_come1 hq]
theorem EWf.pn {e : ES} (w : EWf e) {s q : Nat} (hs : s < e.n) (hq : e.pa s = some q) : q < e.n := by
  rcases Nat.eq_zero_or_pos s with z | z
  · rw [z, w.p0] at hq; cases hq
  · obtain ⟨q', h1, h2⟩ := w.ps s z hs
    rw [hq] at h1
    cases h1
    clear w; omega
theorem C_moveTo {e : ES} {k : CK} (h : CRel e k) (w : EWf e) {s : Nat} (hs : s < e.n) : ∃ I', f_D_moveTo e.n (kO e) k.I e.p (kL e) (kC e) (Int32.ofNat s) = some (0, I', s, kL (e_come e s), kC (e_come e s)) ∧ CRel (e_come e s) (k.tw I') ∧ I' 4 = Int32.ofNat s ∧ ∀ j, j ≠ 4 → j ≠ 6 → j ≠ 7 → I' j = k.I j := C_moveTo0 h w.pb w.n2 hs (fun _ hq => w.pn hs hq)
theorem C_undo {e : ES} {k : CK} (h : CRel e k) (w : EWf e) : (e.pa e.p = none → f_D_undo e.n (kO e) k.I e.p (kL e) (kC e) = some (4, 0, k.I, e.p, kL e, kC e)) ∧ (∀ q, e.pa e.p = some q → ∃ I', f_D_undo e.n (kO e) k.I e.p (kL e) (kC e) = some (0, Int32.ofNat q, I', q, kL (e_come e q), kC (e_come e q)) ∧ CRel (e_come e q) (k.tw I')) := by
  have hpb := w.pb
  have hn2 := w.n2
  have hp0 : e.p < 2147483648 := by clear h w; omega
  have i40 : wk_inb (Int32.ofNat e.p) 40 = true := (pn_inb hp0).mpr (by clear h w; omega)
  have inn : wk_inb (Int32.ofNat e.p) e.n = true := (pn_inb hp0).mpr hpb
  have eO : kO e e.p = mkI (e.pa e.p) := rfl
  unfold f_D_undo
  rw [h.hp, if_pos i40, if_pos inn, pn_nat hp0, eO]
  refine ⟨fun hq => ?_, fun q hq => ?_⟩
  · rw [hq, if_pos (show mkI none = -1 from rfl)]
  · have hqn : q < e.n := by
      rcases Nat.eq_zero_or_pos e.p with z | z
      · rw [z, w.p0] at hq; cases hq
      · obtain ⟨q', h1, h2⟩ := w.ps e.p z hpb
        rw [hq] at h1
        cases h1
        clear h w; omega
    have em : mkI (some q) = Int32.ofNat q := rfl
    obtain ⟨I', e0, hr, i4, -⟩ := C_moveTo h w hqn
    rw [hq, em, if_neg (pn_ne1 (by clear h w hr; omega)), e0]
    simp only [Option.bind_some, i4]
    exact ⟨I', rfl, hr⟩
theorem C_redo {e : ES} {k : CK} (h : CRel e k) (w : EWf e) : (e.lc e.p = none → f_D_redo e.n (kO e) k.I e.p (kL e) (kC e) = some (4, 0, k.I, e.p, kL e, kC e)) ∧ (∀ q, e.lc e.p = some q → ∃ I', f_D_redo e.n (kO e) k.I e.p (kL e) (kC e) = some (0, Int32.ofNat q, I', q, kL (e_come e q), kC (e_come e q)) ∧ CRel (e_come e q) (k.tw I')) := by
  have hpb := w.pb
  have hn2 := w.n2
  have hp0 : e.p < 2147483648 := by clear h w; omega
  have i40 : wk_inb (Int32.ofNat e.p) 40 = true := (pn_inb hp0).mpr (by clear h w; omega)
  have inn : wk_inb (Int32.ofNat e.p) e.n = true := (pn_inb hp0).mpr hpb
  have eO : kC e e.p = mkI (e.lc e.p) := rfl
  unfold f_D_redo
  rw [h.hp, if_pos i40, if_pos inn, pn_nat hp0, eO]
  refine ⟨fun hq => ?_, fun q hq => ?_⟩
  · rw [hq, if_pos (show mkI none = -1 from rfl)]
  · have hqn : q < e.n := (w.l1 e.p q hpb hq).1
    have em : mkI (some q) = Int32.ofNat q := rfl
    obtain ⟨I', e0, hr, i4, -⟩ := C_moveTo h w hqn
    rw [hq, em, if_neg (pn_ne1 (by clear h w hr; omega)), e0]
    simp only [Option.bind_some, i4]
    exact ⟨I', rfl, hr⟩
theorem C_state {e : ES} {k : CK} (h : CRel e k) (SO : Nat → Int32) (cx : Nat) (SP SL : MI) (k1 : Int32) : f_D_requireState e.n SO k.I cx SP SL k1 = some (if k1 < 0 ∨ ¬ k1 < Int32.ofNat e.n then 3 else 0, 0, k.I, cx, SP, SL) := by
  unfold f_D_requireState f_D_requireState_12
  rw [h.hn]
  by_cases a : k1 < 0
  · rw [if_pos a, if_pos (Or.inl a)]
  · rw [if_neg a]
    by_cases b : k1 < Int32.ofNat e.n
    · rw [if_pos b, if_neg (fun z => z.elim a (fun y => y b))]
    · rw [if_neg b, if_pos (Or.inr b)]
theorem st_ok {e : ES} (w : EWf e) {s : Nat} (hs : s < e.n) : ¬ (Int32.ofNat s < 0 ∨ ¬ Int32.ofNat s < Int32.ofNat e.n) := by
  have hn2 := w.n2
  rintro (a | a)
  · exact pn_nneg (by clear w; omega) a
  · exact a ((pn_lt (by clear w; omega) (by clear w; omega)).mpr hs)
theorem C_jump {e : ES} {k : CK} (h : CRel e k) (w : EWf e) (k1 : Int32) : ((k1 < 0 ∨ ¬ k1 < Int32.ofNat e.n) → f_D_jump e.n (kO e) k.I e.p (kL e) (kC e) k1 = some (3, 0, k.I, e.p, kL e, kC e)) ∧ (∀ s, s < e.n → k1 = Int32.ofNat s → ∃ I', f_D_jump e.n (kO e) k.I e.p (kL e) (kC e) k1 = some (0, 0, I', s, kL (e_come e s), kC (e_come e s)) ∧ CRel (e_come e s) (k.tw I')) := by
  have h30 : ¬ (3 : Nat) = 0 := by decide
  unfold f_D_jump
  refine ⟨fun hb => ?_, fun s hs es => ?_⟩
  · simp only [C_state h, if_pos hb, Option.bind_some, if_neg h30, if_true]
  · have ok := st_ok w hs
    rw [← es] at ok
    obtain ⟨I', e0, hr, i4, -⟩ := C_moveTo h w hs
    simp only [C_state h, if_neg ok, Option.bind_some, if_true]
    rw [es, e0]
    exact ⟨I', rfl, hr⟩
theorem C_parent {e : ES} {k : CK} (h : CRel e k) (w : EWf e) (k1 : Int32) : ((k1 < 0 ∨ ¬ k1 < Int32.ofNat e.n) → f_D_parent e.n (kO e) k.I e.p (kL e) (kC e) k1 = some (3, 0, k.I, e.p, kL e, kC e)) ∧ (∀ s, s < e.n → k1 = Int32.ofNat s → f_D_parent e.n (kO e) k.I e.p (kL e) (kC e) k1 = some (0, mkI (e.pa s), k.I, e.p, kL e, kC e)) := by
  have h30 : ¬ (3 : Nat) = 0 := by decide
  have hn2 := w.n2
  unfold f_D_parent
  refine ⟨fun hb => ?_, fun s hs es => ?_⟩
  · simp only [C_state h, if_pos hb, Option.bind_some, if_neg h30, if_true]
  · have ok := st_ok w hs
    rw [← es] at ok
    simp only [C_state h, if_neg ok, Option.bind_some, if_true]
    rw [es, if_pos ((pn_inb (by clear h w; omega)).mpr (by clear h w; omega)), if_pos ((pn_inb (by clear h w; omega)).mpr hs), pn_nat (show s < 2147483648 by clear h w; omega)]
    rfl
