theorem pn_addI {a b : Int32} (h1 : -2147483648 ≤ a.toInt + b.toInt) (h2 : a.toInt + b.toInt < 2147483648) : (a + b).toInt = a.toInt + b.toInt := by
  rw [Int32.toInt_add]; exact Int.bmod_eq_of_le (by omega) (by omega)
theorem pn_negI {a : Nat} (h : a < 2147483648) : (-(Int32.ofNat a)).toInt = -(a : Int) := by
  rw [Int32.toInt_neg, pn_toInt h]; exact Int.bmod_eq_of_le (by omega) (by omega)
theorem pn_addneg {c : Nat} {k : Int32} (hk : k < 0) (hc : c < 2147483648) (h : -(c : Int) ≤ k.toInt) : Int32.ofNat c + k = Int32.ofNat ((c : Int) + k.toInt).toNat := by
  rw [Int32.lt_iff_toInt_lt, Int32.toInt_zero] at hk
  rw [← Int32.toInt_inj, pn_addI (by rw [pn_toInt hc]; omega) (by rw [pn_toInt hc]; omega), pn_toInt hc, pn_toInt (by omega)]
  omega
/-- what erase takes away -/
def e_ea (e : ES) (k : Int32) : Nat := if e_lo e < e_hi e then e_lo e else if k < 0 then ((e.c : Int) + k.toInt).toNat else e.c
def e_eb (e : ES) (k : Int32) : Nat := if e_lo e < e_hi e then e_hi e else if k < 0 then e.c else if e.c + k.toNatClampNeg ≤ e.tn e.p then e.c + k.toNatClampNeg else e.tn e.p
theorem e_eq_c {e : ES} (h : ¬ e_lo e < e_hi e) : e_lo e = e.c ∧ e_hi e = e.c := by
  unfold e_lo e_hi at h ⊢
  cases hm : e.mr with
  | none => exact ⟨rfl, rfl⟩
  | some m =>
    rw [hm] at h
    simp only at h ⊢
    by_cases q1 : m < e.c
    · rw [if_pos q1, if_neg (show ¬ e.c < m by omega)] at h; omega
    · by_cases q2 : e.c < m
      · rw [if_neg q1, if_pos q2] at h; omega
      · rw [if_neg q1, if_neg q2]; exact ⟨rfl, rfl⟩
theorem e_ea_le {e : ES} (w : EWf e) (k : Int32) : e_ea e k ≤ e_eb e k ∧ e_eb e k ≤ e.tn e.p := by
  obtain ⟨l1, l2⟩ := e_lo_le w
  have hc := w.cb
  unfold e_ea e_eb
  by_cases q : e_lo e < e_hi e
  · rw [if_pos q, if_pos q]; exact ⟨l1, l2⟩
  · rw [if_neg q, if_neg q]
    by_cases q2 : k < 0
    · rw [if_pos q2, if_pos q2]
      rw [Int32.lt_iff_toInt_lt, Int32.toInt_zero] at q2
      exact ⟨by clear w; omega, hc⟩
    · rw [if_neg q2, if_neg q2]
      split
      · exact ⟨by clear w; omega, by clear w; omega⟩
      · exact ⟨hc, Nat.le_refl _⟩
def e_era (e : ES) (k : Int32) : ES := if e_ea e k < e_eb e k ∧ e.n ≠ 40 then e_edit e (e_exl e (e_ea e k) (e_eb e k) 0) (e_ext e (e_ea e k) (e_eb e k) 0) (e_ea e k) else e
theorem EWf.era {e : ES} (w : EWf e) (k : Int32) : EWf (e_era e k) := by
  obtain ⟨l1, l2⟩ := e_ea_le w k
  have hn2 := w.n2
  have ht := (w.tt _ w.pb).nb
  unfold e_era
  by_cases q : e_ea e k < e_eb e k ∧ e.n ≠ 40
  · rw [if_pos q]
    have hl : e_exl e (e_ea e k) (e_eb e k) 0 ≤ 160 := by unfold e_exl; clear w; omega
    exact w.edit (by clear w; omega) (e_ext_txt w l1 l2 (Nat.zero_le _) hl) (by unfold e_exl; clear w; omega)
  · rw [if_neg q]; exact w
theorem B_erase88 {e : ES} {t : Nat} {cf : Nat → Nat} {I : MI} {A : MA} (h : MRel e t cf I A) (w : EWf e) (k : Int32) {X : Nat → Int32} (x2 : X 2 = Int32.ofNat (e_ea e k)) (x3 : X 3 = Int32.ofNat (e_eb e k)) :
    Res (f_M_erase_88 I A X) (fun z => ∃ t' cf', t' ≤ t + 1 ∧ MRel (e_era e k) t' cf' z.2.1 z.2.2 ∧ (e_ea e k < e_eb e k ∧ e.n = 40 → z.2.1 0 = 1) ∧ (¬ (e_ea e k < e_eb e k ∧ e.n = 40) → z.2.1 0 = 0 ∧ z.1 = Int32.ofNat (e_eb e k - e_ea e k))) := by
  obtain ⟨l1, l2⟩ := e_ea_le w k
  have hn2 := w.n2
  have tt := w.tt _ w.pb
  have htb := tt.nb
  have h10 : ¬ (1 : Int32) = 0 := by decide
  have h01 : (0 : Int32) < 1 := by decide
  have h00 : ¬ (0 : Int32) < 0 := by decide
  -- with no refusal
  have f107 : ¬ (e_ea e k < e_eb e k ∧ e.n = 40) → Res (f_M_erase_107 I A X) (fun z => ∃ t' cf', t' ≤ t + 1 ∧ MRel (e_era e k) t' cf' z.2.1 z.2.2 ∧ (e_ea e k < e_eb e k ∧ e.n = 40 → z.2.1 0 = 1) ∧ (¬ (e_ea e k < e_eb e k ∧ e.n = 40) → z.2.1 0 = 0 ∧ z.1 = Int32.ofNat (e_eb e k - e_ea e k))) := by
    intro hno
    unfold f_M_erase_107 f_M_erase_108
    simp only [wk_let, upd_self, if_neg h00]
    rw [x2, x3]
    by_cases q : e_ea e k = e_eb e k
    · rw [if_pos ((pn_eq (by clear h w tt; omega) (by clear h w tt; omega)).mpr q)]
      have ee : e_era e k = e := by unfold e_era; rw [if_neg (by clear h w tt; omega)]
      rw [ee]
      unfold f_M_erase_123
      refine Res.mk ⟨t, cf, Nat.le_succ _, h.i0 0, fun z => (hno z).elim, fun _ => ⟨upd_self I 0 0, ?_⟩⟩
      show (0 : Int32) = Int32.ofNat (e_eb e k - e_ea e k)
      rw [q, Nat.sub_self]; rfl
    · rw [if_neg (fun z => q ((pn_eq (by clear h w tt; omega) (by clear h w tt; omega)).mp z))]
      have hlt : e_ea e k < e_eb e k := by clear h w tt; omega
      have hn40 : e.n ≠ 40 := fun z => hno ⟨hlt, z⟩
      have ee : e_era e k = e_edit e (e_exl e (e_ea e k) (e_eb e k) 0) (e_ext e (e_ea e k) (e_eb e k) 0) (e_ea e k) := by unfold e_era; rw [if_pos ⟨hlt, hn40⟩]
      rw [ee]
      have r0 : MRel e t cf (upd (upd I 0 0) 36 0) A := (h.i0 0).fr (fun j _ _ _ _ q => upd_ne _ _ q) (fun _ _ _ _ => rfl)
      obtain ⟨I0, hI0⟩ : ∃ I0, I0 = upd (upd I 0 0) 36 0 := ⟨_, rfl⟩
      rw [← hI0] at r0 ⊢
      have i36 : I0 36 = Int32.ofNat 0 := by rw [hI0]; exact upd_self _ _ _
      have z00 : I0 0 = 0 := by rw [hI0, upd_ne _ _ (by decide), upd_self]
      refine (B_addText (lo := 0) (r0.txt w) (Nat.zero_le _) (show e_ea e k ≤ e.tn e.p by clear h w tt r0; omega) (by clear h w tt r0; omega) i36).bind ?_
      rintro ⟨a0, I1, A1⟩ ⟨a36, ai, aa, ad⟩
      simp only at a36 ai aa ad
      have r1 : MRel e t cf I1 A1 := r0.fr (fun j _ _ _ _ q => ai j q) (fun j _ _ q => aa j q)
      simp only
      rw [B_len (r1.txt w)]
      simp only [Option.bind_some]
      refine (B_addText (r1.txt w) l2 (Nat.le_refl _) (by clear h w tt r0 r1; omega) a36).bind ?_
      rintro ⟨c0, I3, A3⟩ ⟨c36, ci, ca, cd⟩
      simp only at c36 ci ca cd
      have r3 : MRel e t cf I3 A3 := r1.fr (fun j _ _ _ _ q => ci j q) (fun j _ _ q => ca j q)
      simp only
      have elen : 0 + (e_ea e k - 0) + (e.tn e.p - e_eb e k) = e_exl e (e_ea e k) (e_eb e k) 0 := by unfold e_exl; clear h w tt r0 r1 r3; omega
      rw [elen] at c36
      have hl : e_exl e (e_ea e k) (e_eb e k) 0 ≤ 160 := by unfold e_exl; clear h w tt r0 r1 r3; omega
      have hT := e_ext_txt w l1 l2 (Nat.zero_le e.sn) hl
      refine (r3.edit w (tf := e_ext e (e_ea e k) (e_eb e k) 0) (place := e_ea e k) (by clear h w tt r0 r1 r3; omega) c36 (fun j hj => ?_) hT).bind ?_
      · have hj' : j < e.tn e.p - (e_eb e k - e_ea e k) + 0 := hj
        unfold e_ext
        rw [cd j]
        by_cases q3 : e_ea e k ≤ j
        · rw [if_pos (by clear h w tt r0 r1 r3; omega), if_neg (by clear h w tt r0 r1 r3; omega), if_neg (by clear h w tt r0 r1 r3; omega)]
          show e.tx e.p (e_eb e k + (j - (0 + (e_ea e k - 0)))) = _
          rw [show e_eb e k + (j - (0 + (e_ea e k - 0))) = j - (e_ea e k + 0) + e_eb e k by clear h w tt r0 r1 r3; omega]
        · rw [if_neg (by clear h w tt r0 r1 r3; omega), ad j, if_pos (by clear h w tt r0 r1 r3; omega), if_pos (by clear h w tt r0 r1 r3; omega)]
          show e.tx e.p (0 + (j - 0)) = _
          rw [Nat.zero_add, Nat.sub_zero]
      · rintro ⟨d0, I4, A4⟩ ⟨d1, d2⟩
        simp only at d1 d2
        simp only
        refine Res.mk ⟨t + 1, _, Nat.le_refl _, d1, fun z => (hno z).elim, fun _ => ⟨?_, ?_⟩⟩
        · show I4 0 = 0
          rw [d2, ci 0 (by decide), ai 0 (by decide)]; exact z00
        · show Int32.ofNat (e_eb e k) - Int32.ofNat (e_ea e k) = _
          exact pn_sub l1
  unfold f_M_erase_88
  rw [x2, x3, h.hn]
  by_cases q1 : e_eb e k ≤ e_ea e k
  · rw [if_pos ((pn_le (by clear h w tt; omega) (by clear h w tt; omega)).mpr q1)]
    exact f107 (by clear h w tt; omega)
  · rw [if_neg (fun z => q1 ((pn_le (by clear h w tt; omega) (by clear h w tt; omega)).mp z))]
    by_cases q40 : e.n = 40
    · rw [if_pos ((pn_eqc (x := 40) 40 rfl (by clear h w tt; omega) (by omega)).mpr q40)]
      have ee : e_era e k = e := by unfold e_era; rw [if_neg (by clear h w tt; omega)]
      rw [ee]
      unfold f_M_erase_108 f_M_erase_123
      simp only [wk_let, upd_self, if_pos h01]
      exact Res.mk ⟨t, cf, Nat.le_succ _, h.i0 1, fun _ => upd_self I 0 1, fun z => (z ⟨by clear h w tt; omega, q40⟩).elim⟩
    · rw [if_neg (fun z => q40 ((pn_eqc (x := 40) 40 rfl (by clear h w tt; omega) (by omega)).mp z))]
      exact f107 (fun z => q40 z.2)
theorem B_erase {e : ES} {t : Nat} {cf : Nat → Nat} {I : MI} {A : MA} (h : MRel e t cf I A) (w : EWf e) (k : Int32) :
    Res (f_M_erase I A k) (fun z => ∃ t' cf', t' ≤ t + 1 ∧ MRel (e_era e k) t' cf' z.2.1 z.2.2 ∧ (e_ea e k < e_eb e k ∧ e.n = 40 → z.2.1 0 = 1) ∧ (¬ (e_ea e k < e_eb e k ∧ e.n = 40) → z.2.1 0 = 0 ∧ z.1 = Int32.ofNat (e_eb e k - e_ea e k))) := by
  obtain ⟨l1, l2⟩ := e_lo_le w
  have hc := w.cb
  have tt := w.tt _ w.pb
  have htb := tt.nb
  unfold f_M_erase
  rw [B_low h w]
  simp only [Option.bind_some]
  rw [B_high h w]
  simp only [Option.bind_some]
  by_cases q : e_lo e = e_hi e
  · have hnl : ¬ e_lo e < e_hi e := by clear h w tt; omega
    obtain ⟨c1, c2⟩ := e_eq_c hnl
    rw [if_pos ((pn_eq (by clear h w tt; omega) (by clear h w tt; omega)).mpr q), B_len (h.txt w)]
    simp only [Option.bind_some]
    rw [h.hc, pn_sub hc, c1, c2]
    unfold f_M_erase_56 f_M_erase_87
    obtain ⟨X, hX⟩ : ∃ X, X = upd (upd (upd (upd (fun _ => (0 : Int32)) 1 k) 2 (Int32.ofNat e.c)) 3 (Int32.ofNat e.c)) 4 (Int32.ofNat (e.tn e.p - e.c)) := ⟨_, rfl⟩
    have x1 : X 1 = k := by rw [hX]; rfl
    have x4 : X 4 = Int32.ofNat (e.tn e.p - e.c) := by rw [hX]; exact upd_self _ _ _
    rw [← hX]
    by_cases qk : k < 0
    · have hk' := qk
      rw [Int32.lt_iff_toInt_lt, Int32.toInt_zero] at hk'
      have n0 : ¬ (0 : Int32) ≤ k := by rw [Int32.not_le]; exact qk
      have eb : e_eb e k = e.c := by unfold e_eb; rw [if_neg hnl, if_pos qk]
      have ea : e_ea e k = ((e.c : Int) + k.toInt).toNat := by unfold e_ea; rw [if_neg hnl, if_pos qk]
      rw [if_pos qk, x1, if_neg n0]
      by_cases qm : -(Int32.ofNat e.c) ≤ k
      · have qm' := qm
        rw [Int32.le_iff_toInt_le, pn_negI (by clear h w tt; omega)] at qm'
        rw [if_pos qm, pn_addneg qk (by clear h w tt; omega) qm', h.hc]
        exact B_erase88 h w k (by rw [upd_ne _ _ (by decide), upd_self, ea]) (by rw [upd_self, eb])
      · have qm' := qm
        rw [Int32.le_iff_toInt_le, pn_negI (by clear h w tt; omega)] at qm'
        have e0 : ((e.c : Int) + k.toInt).toNat = 0 := by clear h w tt; omega
        rw [if_neg qm, if_neg n0, h.hc]
        exact B_erase88 (X := upd (upd X 2 0) 3 (Int32.ofNat e.c)) h w k (by rw [upd_ne _ _ (by decide), upd_self, ea, e0]; rfl) (by rw [upd_self, eb])
    · have ek := pn_ofclamp qk
      have hk2 := pn_clamp_lt k
      have n0 : (0 : Int32) ≤ k := Int32.not_lt.mp qk
      have ea : e_ea e k = e.c := by unfold e_ea; rw [if_neg hnl, if_neg qk]
      rw [if_neg qk, x1, if_pos n0, x4]
      by_cases ql : k.toNatClampNeg ≤ e.tn e.p - e.c
      · have eb : e_eb e k = e.c + k.toNatClampNeg := by unfold e_eb; rw [if_neg hnl, if_neg qk, if_pos (by clear h w tt; omega)]
        have hle : k ≤ Int32.ofNat (e.tn e.p - e.c) := by
          rw [← ek]; exact (pn_le hk2 (by clear h w tt; omega)).mpr ql
        have hadd : Int32.ofNat e.c + k = Int32.ofNat (e.c + k.toNatClampNeg) := by
          conv => lhs; rw [← ek]
          exact pn_add _ _
        rw [if_pos hle, h.hc, hadd]
        exact B_erase88 h w k (by rw [upd_ne _ _ (by decide), upd_self, ea]) (by rw [upd_self, eb])
      · have eb : e_eb e k = e.tn e.p := by unfold e_eb; rw [if_neg hnl, if_neg qk, if_neg (by clear h w tt; omega)]
        have hle : ¬ k ≤ Int32.ofNat (e.tn e.p - e.c) := by
          rw [← ek]; exact fun z => ql ((pn_le hk2 (by clear h w tt; omega)).mp z)
        rw [if_neg hle, B_len (h.txt w)]
        simp only [Option.bind_some]
        exact B_erase88 h w k (by rw [upd_ne _ _ (by decide), upd_self, ea]) (by rw [upd_self, eb])
  · have hlt : e_lo e < e_hi e := by clear h w tt; omega
    rw [if_neg (fun z => q ((pn_eq (by clear h w tt; omega) (by clear h w tt; omega)).mp z))]
    have ea : e_ea e k = e_lo e := by unfold e_ea; rw [if_pos hlt]
    have eb : e_eb e k = e_hi e := by unfold e_eb; rw [if_pos hlt]
    exact B_erase88 h w k (by rw [upd_ne _ _ (by decide), upd_self, ea]) (by rw [upd_self, eb])
