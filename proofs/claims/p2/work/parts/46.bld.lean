theorem RAbs.grow {tn : Nat} {tx : Nat → Int32} {s : Nat → Nat} {I : MI} {A : MA} {r : RR} (h : RAbs tn tx s I A r) (hk : r.k + 1 ≤ 10) (c : nd r.np (A 29 r.k) (r.ch r.k)) (w : A 30 r.k = Int32.ofNat (r.rw r.k) ∧ r.rw r.k < r.np) (p : nd r.np (A 31 r.k) (r.pt r.k)) : RAbs tn tx s (upd I 28 (Int32.ofNat (r.k + 1))) A (RR.mk r.n r.on r.tw r.lab r.np r.hd r.tl (r.k + 1) r.ch r.rw r.pt) := by
  have hlt : ∀ i, i < r.k + 1 → i ≠ r.k → i < r.k := fun i h1 h2 => by omega
  refine ⟨?_, h.nb, h.on, h.tw, h.lab, ?_, h.pb, h.hd, h.tl, h.tk, h.of, upd_self _ _ _, hk, fun i hi => ?_, fun i hi => ?_, fun i hi => ?_, h.se, h.oo⟩
  · rw [upd_ne _ _ (by decide)]; exact h.n
  · rw [upd_ne _ _ (by decide)]; exact h.np
  · by_cases e : i = r.k
    · rw [e]; exact c
    · exact h.ch i (hlt i hi e)
  · by_cases e : i = r.k
    · rw [e]; exact w
    · exact h.rw i (hlt i hi e)
  · by_cases e : i = r.k
    · rw [e]; exact p
    · exact h.pt i (hlt i hi e)
theorem RAbs.openG {tn : Nat} {tx : Nat → Int32} {s : Nat → Nat} {I : MI} {A : MA} {r : RR} (h : RAbs tn tx s I A r) (hk : r.k + 1 ≤ 10) (hn : r.n < 160) (hnp : r.np < 160) :
    Res (f_M_openGroup I A) (fun z => RAbs tn tx s z.2.1 z.2.2 (r_open r) ∧ MFr I z.2.1 A z.2.2) := by
  have n1 : (Int32.ofNat r.k).toNatClampNeg = r.k := pn_nat (by omega)
  simp only [f_M_openGroup, h.k, pn_i26 (show r.k < 26 by omega), if_true, wk_let, n1]
  have b0 := h.set29 (j := r.k) (x := -1) (v := none) rfl
  refine (b0.nothing hn hnp).bind ?_
  rintro ⟨z0, z1, z2⟩ ⟨a1, a2, a3, a9⟩
  simp only at a1 a2 a3 a9
  have a1' : z0 = Int32.ofNat r.np := a1
  subst a1'
  have i28 : z1 28 = Int32.ofNat r.k := a2.k
  simp only [i28, pn_i26 (show r.k < 26 by omega), if_true, n1, pn_succ]
  have b2 := a2.set30 (j := r.k) (v := r.np) (Nat.lt_succ_self _)
  have b3 := b2.set31 (j := r.k) (x := -1) (v := none) rfl
  have b4 := b3.grow hk ?_ ?_ ?_
  · exact Res.mk ⟨b4, ((((MFr.refl I A).ua (by omega) _).trans a3).ua (by omega) _ |>.ua (by omega) _).ui (by omega) _⟩
  · show nd _ (va_up (va_up z2 30 _) 31 _ 29 r.k) (sU r.ch r.k none r.k)
    rw [va_up_ne _ _ (by decide), va_up_ne _ _ (by decide), sU_self]
    rw [a9, va_up_self, upd_self]; rfl
  · show va_up (va_up z2 30 _) 31 _ 30 r.k = Int32.ofNat (sU r.rw r.k r.np r.k) ∧ sU r.rw r.k r.np r.k < _
    rw [va_up_ne _ _ (by decide), va_up_self, upd_self, sU_self]
    exact ⟨rfl, Nat.lt_succ_self _⟩
  · show nd _ (va_up (va_up z2 30 _) 31 _ 31 r.k) (sU r.pt r.k none r.k)
    rw [va_up_self, upd_self, sU_self]; rfl

theorem B_isTimes {c : Nat} (hc : c < 128) : f_M_isTimes (Int32.ofNat c) = some (if c = 42 ∨ c = 43 ∨ c = 63 then 1 else 0) := by
  have h : ∀ c : Fin 128, f_M_isTimes (Int32.ofNat c.val) = some (if c.val = 42 ∨ c.val = 43 ∨ c.val = 63 then 1 else 0) := by decide +kernel
  exact h ⟨c, hc⟩
theorem rLab_one {tn : Nat} {tx : Nat → Int32} {s : Nat → Nat} (hT : Txt tn tx) {c : Nat} (hc : c < 128) (b : Int32) : rLab tn tx s 1 (Int32.ofNat c) b = ls_rl tn tx (LSp.con (fun x => decide (x = c))) := by
  show tl_con tn tx (fun x => x = Int32.ofNat c) = tl_con tn tx (fun x => decide (x.toNatClampNeg = c) = true)
  funext i j
  apply propext
  refine and_congr_right (fun _ => and_congr_right (fun hi => ?_))
  obtain ⟨d, hd, e⟩ := hT.ch i hi
  rw [e]
  show Int32.ofNat d = Int32.ofNat c ↔ decide ((Int32.ofNat d).toNatClampNeg = c) = true
  rw [pn_nat (show d < 2147483648 by omega), decide_eq_true_iff]
  exact pn_eq (by omega) (by omega)
theorem rLab_any {tn : Nat} {tx : Nat → Int32} {s : Nat → Nat} (hT : Txt tn tx) (a b : Int32) : rLab tn tx s 2 a b = ls_rl tn tx (LSp.con (fun x => decide (x ≠ 10))) := by
  show tl_con tn tx (fun x => x ≠ 10) = tl_con tn tx (fun x => decide (x.toNatClampNeg ≠ 10) = true)
  funext i j
  apply propext
  refine and_congr_right (fun _ => and_congr_right (fun hi => ?_))
  obtain ⟨d, hd, e⟩ := hT.ch i hi
  rw [e]
  show Int32.ofNat d ≠ 10 ↔ decide ((Int32.ofNat d).toNatClampNeg ≠ 10) = true
  rw [pn_nat (show d < 2147483648 by omega), decide_eq_true_iff]
  exact not_congr (pn_eqc (x := 10) 10 rfl (by omega) (by omega))
theorem rLab_set {tn : Nat} {tx : Nat → Int32} {s : Nat → Nat} {b e : Nat} (hb : b < 100) (he : e < 100) : rLab tn tx s 3 (Int32.ofNat b) (Int32.ofNat e) = ls_rl tn tx (LSp.con (fun c => m_set s b e c)) := by
  show tl_con tn tx (fun x => m_set s (Int32.ofNat b).toNatClampNeg (Int32.ofNat e).toNatClampNeg x.toNatClampNeg = true) = _
  rw [pn_nat (show b < 2147483648 by omega), pn_nat (show e < 2147483648 by omega)]
  rfl
/-- what building one token leaves -/
def BldOut (tn : Nat) (tx : Nat → Int32) (s : Nat → Nat) (I : MI) (A : MA) (k' : Nat) (st' : List RLv) (z : Int32 × MI × MA) : Prop := z.1 = Int32.ofNat k' ∧ MFr I z.2.1 A z.2.2 ∧ ∃ r own, RAbs tn tx s z.2.1 z.2.2 r ∧ RInv r own st' ∧ r.n ≤ 1 + 3 * k' ∧ r.np ≤ 1 + 3 * k'
/-- a single part -/
theorem B_single {tn : Nat} {tx : Nat → Int32} {s : Nat → Nat} {I : MI} {A : MA} {r : RR} {own : Nat → Nat} {st : List RLv} (h : RAbs tn tx s I A r) (hR : RInv r own st) (hne : st ≠ []) (hn : r.n + 2 ≤ 150) (hnp : r.np + 2 ≤ 150) (k a b : Int32) (hse : k = 3 → SE a b) {β : Type} {g : Int32 → MI → MA → Option β} {Q : β → Prop}
    (hg : ∀ I' A' r' own', MFr I I' A A' → RAbs tn tx s I' A' r' → RInv r' own' (st_single (rLab tn tx s k a b) st) → r'.n = r.n + 2 → r'.np ≤ r.np + 2 → Res (g 0 I' A') Q) :
    Res ((f_M_single I A k a b).bind (fun z1 => (f_M_newPart z1.2.1 z1.2.2 z1.1).bind (fun z2 => g 0 z2.2.1 z2.2.2))) Q := by
  cases st with
  | nil => exact (hne rfl).elim
  | cons x st =>
    refine (h.single (by omega) (by omega) k a b hse).bind ?_
    rintro ⟨z0, z1, z2⟩ ⟨a1, a2, a3⟩
    simp only at a1 a2 a3
    subst a1
    have hw := hR.l.1.w.frame (r_single_fr r (rLab tn tx s k a b)) (fun u hu => hu.1) (fun _ => Iff.rfl)
    have hkk : (r_single r (rLab tn tx s k a b)).k = st.length + 1 := hR.k
    have hon : (r_single r (rLab tn tx s k a b)).on ((r_single r (rLab tn tx s k a b)).tl ((r_single r (rLab tn tx s k a b)).rw ((r_single r (rLab tn tx s k a b)).k - 1))) = none := by
      rw [hkk]; exact hw.tn
    simp only
    refine (a2.newPart (by rw [hkk]; omega) (Nat.lt_succ_self _) hon (by show r.np + 1 < 160; omega)).bind ?_
    rintro ⟨y0, y1, y2⟩ ⟨b1, b2, b3, b4⟩
    simp only at b1 b2 b3 b4
    obtain ⟨own', hinv⟩ := r_single_inv hR hne (rLab tn tx s k a b)
    exact hg y1 y2 _ own' (a3.trans b2) b1 hinv b4 b3
