/-- what is selected, or the cursor's place twice -/
def e_lo (e : ES) : Nat := match e.mr with
  | none => e.c
  | some m => if m < e.c then m else e.c
def e_hi (e : ES) : Nat := match e.mr with
  | none => e.c
  | some m => if e.c < m then m else e.c
theorem e_lo_le {e : ES} (w : EWf e) : e_lo e ≤ e_hi e ∧ e_hi e ≤ e.tn e.p := by
  have hc := w.cb
  unfold e_lo e_hi
  cases hm : e.mr with
  | none => exact ⟨Nat.le_refl _, hc⟩
  | some m =>
    have hmb := w.mb m hm
    simp only
    constructor
    · split <;> split <;> omega
    · split <;> omega
theorem B_low {e : ES} {t : Nat} {cf : Nat → Nat} {I : MI} {A : MA} (h : MRel e t cf I A) (w : EWf e) : f_M_low I A = some (Int32.ofNat (e_lo e), I, A) := by
  have hc := w.cb
  have ht := (w.tt _ w.pb).nb
  unfold f_M_low f_M_low_25 f_M_low_29 e_lo
  rw [h.hm, h.hc]
  cases hm : e.mr with
  | none => rw [if_pos (show mkI none < 0 by decide)]
  | some m =>
    have hmb := w.mb m hm
    have em : mkI (some m) = Int32.ofNat m := rfl
    rw [em, if_neg (pn_nneg (by clear h w; omega))]
    simp only
    by_cases q : m < e.c
    · rw [if_neg (fun z => by have := (pn_le (a := e.c) (b := m) (by clear h w; omega) (by clear h w; omega)).mp z; clear h w; omega), if_pos q]
    · rw [if_pos ((pn_le (by clear h w; omega) (by clear h w; omega)).mpr (by clear h w; omega)), if_neg q]
theorem B_high {e : ES} {t : Nat} {cf : Nat → Nat} {I : MI} {A : MA} (h : MRel e t cf I A) (w : EWf e) : f_M_high I A = some (Int32.ofNat (e_hi e), I, A) := by
  have hc := w.cb
  have ht := (w.tt _ w.pb).nb
  unfold f_M_high f_M_high_22 e_hi
  rw [h.hm, h.hc]
  cases hm : e.mr with
  | none =>
    have : mkI none ≤ Int32.ofNat e.c := by
      have e1 : mkI none = -1 := rfl
      rw [e1, Int32.le_iff_toInt_le, pn_m1, pn_toInt (by clear h w; omega)]; omega
    rw [if_pos this]
  | some m =>
    have hmb := w.mb m hm
    have em : mkI (some m) = Int32.ofNat m := rfl
    rw [em]
    simp only
    by_cases q : e.c < m
    · rw [if_neg (fun z => by have := (pn_le (a := m) (b := e.c) (by clear h w; omega) (by clear h w; omega)).mp z; clear h w; omega), if_pos q]
    · rw [if_pos ((pn_le (by clear h w; omega) (by clear h w; omega)).mpr (by clear h w; omega)), if_neg q]
/-- a text with the slip's first u characters in the place of what lies between a and b -/
def e_ext (e : ES) (a b u : Nat) : Nat → Int32 := fun k => if k < a then e.tx e.p k else if k < a + u then Int32.ofNat (e.sc (k - a)) else e.tx e.p (k - (a + u) + b)
def e_exl (e : ES) (a b u : Nat) : Nat := e.tn e.p - (b - a) + u
theorem e_ext_txt {e : ES} (w : EWf e) {a b u : Nat} (hab : a ≤ b) (hb : b ≤ e.tn e.p) (hu : u ≤ e.sn) (hl : e_exl e a b u ≤ 160) : Txt (e_exl e a b u) (e_ext e a b u) := by
  refine ⟨hl, fun k hk => ?_⟩
  have hk' : k < e.tn e.p - (b - a) + u := hk
  have tt := w.tt _ w.pb
  unfold e_ext
  by_cases q1 : k < a
  · rw [if_pos q1]; exact tt.ch k (by clear w tt; omega)
  · rw [if_neg q1]
    by_cases q2 : k < a + u
    · rw [if_pos q2]; exact ⟨_, w.sv _ (by clear w tt; omega), rfl⟩
    · rw [if_neg q2]; exact tt.ch _ (by clear w tt; omega)
def e_edits (e : ES) : Bool := decide (e_lo e < e_hi e ∨ 0 < e.sn)
def e_full (e : ES) : Bool := decide (160 < e_exl e (e_lo e) (e_hi e) e.sn ∨ e.n = 40)
/-- insert: refused, or done, or nothing to do -/
def e_ins (e : ES) : ES := if e_edits e = true then (if e_full e = true then e else e_sn (e_edit e (e_exl e (e_lo e) (e_hi e) e.sn) (e_ext e (e_lo e) (e_hi e) e.sn) (e_lo e + e.sn)) 0) else e
theorem EWf.ins {e : ES} (w : EWf e) : EWf (e_ins e) := by
  unfold e_ins
  by_cases q : e_edits e = true
  · rw [if_pos q]
    by_cases q2 : e_full e = true
    · rw [if_pos q2]; exact w
    · rw [if_neg q2]
      have hf : ¬ (160 < e_exl e (e_lo e) (e_hi e) e.sn ∨ e.n = 40) := fun z => q2 (decide_eq_true z)
      obtain ⟨l1, l2⟩ := e_lo_le w
      have hn2 := w.n2
      have hp : e_lo e + e.sn ≤ e_exl e (e_lo e) (e_hi e) e.sn := by unfold e_exl; clear w; omega
      exact (w.edit (by clear w; omega) (e_ext_txt w l1 l2 (Nat.le_refl _) (by clear w; omega)) hp).sn0
  · rw [if_neg q]; exact w
theorem MRel.snz {e : ES} {t : Nat} {cf : Nat → Nat} {I : MI} {A : MA} (h : MRel e t cf I A) (h0 : e.sn = 0) : MRel e t cf (upd I 1 0) A := by
  have := h.sn0
  have ee : e_sn e 0 = e := by unfold e_sn; rw [← h0]; rfl
  rw [ee] at this; exact this
theorem B_insert {e : ES} {t : Nat} {cf : Nat → Nat} {I : MI} {A : MA} (h : MRel e t cf I A) (w : EWf e) : Res (f_M_insert I A) (fun z => ∃ t' cf', t' ≤ t + 1 ∧ MRel (e_ins e) t' cf' z.2.1 z.2.2 ∧ (z.2.1 0 = 0 ∨ z.2.1 0 = 1)) := by
  have hsb := w.sb
  have hn2 := w.n2
  have hpb := w.pb
  have tt := w.tt _ w.pb
  have htb := tt.nb
  obtain ⟨l1, l2⟩ := e_lo_le w
  have h10 : ¬ (1 : Int32) = 0 := by decide
  have h1le : ¬ (1 : Int32) ≤ 0 := by decide
  have h0le : (0 : Int32) ≤ 0 := by decide
  obtain ⟨X, hX⟩ : ∃ X, X = upd (upd (fun _ => (0 : Int32)) 1 (Int32.ofNat (e_lo e))) 2 (Int32.ofNat (e_hi e)) := ⟨_, rfl⟩
  have x1 : X 1 = Int32.ofNat (e_lo e) := by rw [hX, upd_ne _ _ (by decide), upd_self]
  have x2 : X 2 = Int32.ofNat (e_hi e) := by rw [hX, upd_self]
  unfold f_M_insert
  rw [B_low h w]
  simp only [Option.bind_some]
  rw [B_high h w]
  simp only [Option.bind_some]
  rw [← hX, h.s1]
  -- with something to do
  have yes : e_edits e = true → Res (f_M_insert_22 I A X) (fun z => ∃ t' cf', t' ≤ t + 1 ∧ MRel (e_ins e) t' cf' z.2.1 z.2.2 ∧ (z.2.1 0 = 0 ∨ z.2.1 0 = 1)) := by
    intro hed
    unfold f_M_insert_22 f_M_insert_27
    rw [if_neg h10, B_len (h.txt w)]
    simp only [Option.bind_some]
    rw [x1, x2, h.s1, h.hn, pn_sub l1, pn_sub (show e_hi e - e_lo e ≤ e.tn e.p by clear h w tt; omega), pn_add, show e.tn e.p - (e_hi e - e_lo e) + e.sn = e_exl e (e_lo e) (e_hi e) e.sn from rfl]
    have hxb : e_exl e (e_lo e) (e_hi e) e.sn ≤ 200 := by unfold e_exl; clear h w tt; omega
    have bad : e_full e = true → Res (f_M_insert_61 I A (upd X 3 1)) (fun z => ∃ t' cf', t' ≤ t + 1 ∧ MRel (e_ins e) t' cf' z.2.1 z.2.2 ∧ (z.2.1 0 = 0 ∨ z.2.1 0 = 1)) := by
      intro hfull
      unfold f_M_insert_61 f_M_insert_66
      simp only [wk_let, upd_self, if_neg h1le]
      have ee : e_ins e = e := by unfold e_ins; rw [if_pos hed, if_pos hfull]
      rw [ee]
      exact Res.mk ⟨t, cf, Nat.le_succ _, h.i0 1, Or.inr (upd_self I 0 1)⟩
    by_cases q160 : 160 < e_exl e (e_lo e) (e_hi e) e.sn
    · rw [if_pos ((pn_clt (x := 160) 160 rfl (by clear h w tt; omega) (by omega)).mpr q160)]
      exact bad (decide_eq_true (Or.inl q160))
    · rw [if_neg (fun z => q160 ((pn_clt (x := 160) 160 rfl (by clear h w tt; omega) (by omega)).mp z))]
      by_cases q40 : e.n = 40
      · rw [if_pos ((pn_eqc (x := 40) 40 rfl (by clear h w tt; omega) (by omega)).mpr q40)]
        exact bad (decide_eq_true (Or.inr q40))
      · rw [if_neg (fun z => q40 ((pn_eqc (x := 40) 40 rfl (by clear h w tt; omega) (by omega)).mp z))]
        have hnf : ¬ e_full e = true := fun z => (of_decide_eq_true z).elim q160 q40
        have ee : e_ins e = e_sn (e_edit e (e_exl e (e_lo e) (e_hi e) e.sn) (e_ext e (e_lo e) (e_hi e) e.sn) (e_lo e + e.sn)) 0 := by unfold e_ins; rw [if_pos hed, if_neg hnf]
        rw [ee]
        unfold f_M_insert_65 f_M_insert_66
        have y1 : upd X 3 1 1 = Int32.ofNat (e_lo e) := by rw [upd_ne _ _ (by decide)]; exact x1
        have y2 : upd X 3 1 2 = Int32.ofNat (e_hi e) := by rw [upd_ne _ _ (by decide)]; exact x2
        have y3 : upd X 3 1 3 = 1 := upd_self _ _ _
        simp only [wk_let, upd_self, if_pos h0le, if_neg h10, y1, y2]
        have h0 := h.i0 0
        have r0 : MRel e t cf (upd (upd I 0 0) 36 0) A := h0.fr (fun j _ _ _ _ q => upd_ne _ _ q) (fun _ _ _ _ => rfl)
        obtain ⟨I0, hI0⟩ : ∃ I0, I0 = upd (upd I 0 0) 36 0 := ⟨_, rfl⟩
        rw [← hI0] at r0 ⊢
        have i36 : I0 36 = Int32.ofNat 0 := by rw [hI0]; exact upd_self _ _ _
        have z00 : I0 0 = 0 := by rw [hI0, upd_ne _ _ (by decide), upd_self]
        refine (B_addText (lo := 0) (r0.txt w) (Nat.zero_le _) (show e_lo e ≤ e.tn e.p by clear h w tt r0 h0; omega) (by clear h w tt r0 h0; omega) i36).bind ?_
        rintro ⟨a0, I1, A1⟩ ⟨a36, ai, aa, ad⟩
        simp only at a36 ai aa ad
        have r1 : MRel e t cf I1 A1 := r0.fr (fun j _ _ _ _ q => ai j q) (fun j _ _ q => aa j q)
        simp only
        refine (B_addSlip (sc := e.sc) hsb (by clear h w tt r0 h0 r1; omega) r1.s1 a36 (fun j hj => ⟨r1.s2 j hj, w.sv j hj⟩)).bind ?_
        rintro ⟨b0, I2, A2⟩ ⟨b36, bi, ba, bd⟩
        simp only at b36 bi ba bd
        have r2 : MRel e t cf I2 A2 := r1.fr (fun j _ _ _ _ q => bi j q) (fun j _ _ q => ba j q)
        simp only
        rw [B_len (r2.txt w)]
        simp only [Option.bind_some]
        refine (B_addText (r2.txt w) l2 (Nat.le_refl _) (by clear h w tt r0 h0 r1 r2; omega) b36).bind ?_
        rintro ⟨c0, I3, A3⟩ ⟨c36, ci, ca, cd⟩
        simp only at c36 ci ca cd
        have r3 : MRel e t cf I3 A3 := r2.fr (fun j _ _ _ _ q => ci j q) (fun j _ _ q => ca j q)
        simp only
        have elen : 0 + (e_lo e - 0) + e.sn + (e.tn e.p - e_hi e) = e_exl e (e_lo e) (e_hi e) e.sn := by unfold e_exl; clear h w tt r0 h0 r1 r2 r3; omega
        have epl : 0 + (e_lo e - 0) + e.sn = e_lo e + e.sn := by clear h w tt r0 h0 r1 r2 r3; omega
        rw [b36, epl]
        rw [elen] at c36
        have hT := e_ext_txt w l1 l2 (Nat.le_refl e.sn) (show e_exl e (e_lo e) (e_hi e) e.sn ≤ 160 by clear h w tt r0 h0 r1 r2 r3; omega)
        refine (r3.edit w (tf := e_ext e (e_lo e) (e_hi e) e.sn) (by clear h w tt r0 h0 r1 r2 r3; omega) c36 (fun k hk => ?_) hT).bind ?_
        · have hk' : k < e.tn e.p - (e_hi e - e_lo e) + e.sn := hk
          unfold e_ext
          rw [cd k]
          by_cases q3 : e_lo e + e.sn ≤ k
          · rw [if_pos (by clear h w tt r0 h0 r1 r2 r3; omega), if_neg (by clear h w tt r0 h0 r1 r2 r3; omega), if_neg (by clear h w tt r0 h0 r1 r2 r3; omega)]
            show e.tx e.p (e_hi e + (k - (0 + (e_lo e - 0) + e.sn))) = _
            rw [show e_hi e + (k - (0 + (e_lo e - 0) + e.sn)) = k - (e_lo e + e.sn) + e_hi e by clear h w tt r0 h0 r1 r2 r3; omega]
          · rw [if_neg (by clear h w tt r0 h0 r1 r2 r3; omega), bd k]
            by_cases q2 : e_lo e ≤ k
            · rw [if_pos (by clear h w tt r0 h0 r1 r2 r3; omega), if_neg (by clear h w tt r0 h0 r1 r2 r3; omega), if_pos (by clear h w tt r0 h0 r1 r2 r3; omega)]
              show Int32.ofNat (e.sc (k - (0 + (e_lo e - 0)))) = _
              rw [show k - (0 + (e_lo e - 0)) = k - e_lo e by clear h w tt r0 h0 r1 r2 r3; omega]
            · rw [if_neg (by clear h w tt r0 h0 r1 r2 r3; omega), ad k, if_pos (by clear h w tt r0 h0 r1 r2 r3; omega), if_pos (by clear h w tt r0 h0 r1 r2 r3; omega)]
              show e.tx e.p (0 + (k - 0)) = _
              rw [Nat.zero_add, Nat.sub_zero]
        · rintro ⟨d0, I4, A4⟩ ⟨d1, d2⟩
          simp only at d1 d2
          simp only [f_M_insert_118, wk_let]
          refine Res.mk ⟨t + 1, _, Nat.le_refl _, d1.sn0, Or.inl ?_⟩
          show upd I4 1 0 0 = 0
          rw [upd_ne _ _ (by decide), d2, ci 0 (by decide), bi 0 (by decide), ai 0 (by decide)]; exact z00
  by_cases q1 : e_lo e < e_hi e
  · rw [if_pos ((pn_lt (by clear h w tt; omega) (by clear h w tt; omega)).mpr q1)]
    exact yes (decide_eq_true (Or.inl q1))
  · rw [if_neg (fun z => q1 ((pn_lt (by clear h w tt; omega) (by clear h w tt; omega)).mp z))]
    by_cases q2 : e.sn = 0
    · rw [if_pos ((pn_lec (x := 0) 0 rfl (by clear h w tt; omega) (by omega)).mpr (by clear h w tt; omega))]
      have hned : ¬ e_edits e = true := fun z => by have := of_decide_eq_true z; clear h w tt; omega
      have ee : e_ins e = e := by unfold e_ins; rw [if_neg hned]
      rw [ee]
      unfold f_M_insert_27 f_M_insert_65 f_M_insert_66 f_M_insert_118
      have y3 : upd X 3 0 3 = 0 := upd_self _ _ _
      simp only [if_true, wk_let, upd_self, if_pos h0le]
      refine Res.mk ⟨t, cf, Nat.le_succ _, (h.i0 0).snz q2, Or.inl ?_⟩
      show upd (upd I 0 0) 1 0 0 = 0
      rw [upd_ne _ _ (by decide), upd_self]
    · rw [if_neg (fun z => by have := (pn_lec (x := 0) 0 rfl (by clear h w tt; omega) (by omega)).mp z; clear h w tt; omega)]
      exact yes (decide_eq_true (Or.inr (by clear h w tt; omega)))
