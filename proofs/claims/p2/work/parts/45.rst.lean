theorem RAbs.set29 {tn : Nat} {tx : Nat → Int32} {s : Nat → Nat} {I : MI} {A : MA} {r : RR} (h : RAbs tn tx s I A r) {j : Nat} {x : Int32} {v : Option Nat} (hv : nd r.np x v) : RAbs tn tx s I (va_up A 29 (upd (A 29) j x)) (RR.mk r.n r.on r.tw r.lab r.np r.hd r.tl r.k (sU r.ch j v) r.rw r.pt) := by
  refine ⟨h.n, h.nb, fun u hu => ?_, fun u hu => ?_, fun u hu => ?_, h.np, h.pb, fun p hp => ?_, fun p hp => ?_, fun p hp => ?_, fun u hu => ?_, h.k, h.kb, fun i hi => ?_, fun i hi => ?_, fun i hi => ?_, fun u hu => ?_, fun u hu => ?_⟩
  · rw [va_up_ne _ _ (by decide)]; exact h.on u hu
  · rw [va_up_ne _ _ (by decide)]; exact h.tw u hu
  · rw [va_up_ne _ _ (by decide), va_up_ne _ _ (by decide), va_up_ne _ _ (by decide)]; exact h.lab u hu
  · rw [va_up_ne _ _ (by decide)]; exact h.hd p hp
  · rw [va_up_ne _ _ (by decide)]; exact h.tl p hp
  · rw [va_up_ne _ _ (by decide)]; exact h.tk p hp
  · rw [va_up_ne _ _ (by decide)]; exact h.of u hu
  · rw [va_up_self]; exact nd_upd (fun _ => h.ch i hi) hv
  · rw [va_up_ne _ _ (by decide)]; exact h.rw i hi
  · rw [va_up_ne _ _ (by decide)]; exact h.pt i hi
  · rw [va_up_ne _ _ (by decide), va_up_ne _ _ (by decide), va_up_ne _ _ (by decide)]; exact h.se u hu
  · rw [va_up_ne _ _ (by decide)]; exact h.oo u hu
theorem RAbs.set31 {tn : Nat} {tx : Nat → Int32} {s : Nat → Nat} {I : MI} {A : MA} {r : RR} (h : RAbs tn tx s I A r) {j : Nat} {x : Int32} {v : Option Nat} (hv : nd r.np x v) : RAbs tn tx s I (va_up A 31 (upd (A 31) j x)) (RR.mk r.n r.on r.tw r.lab r.np r.hd r.tl r.k r.ch r.rw (sU r.pt j v)) := by
  refine ⟨h.n, h.nb, fun u hu => ?_, fun u hu => ?_, fun u hu => ?_, h.np, h.pb, fun p hp => ?_, fun p hp => ?_, fun p hp => ?_, fun u hu => ?_, h.k, h.kb, fun i hi => ?_, fun i hi => ?_, fun i hi => ?_, fun u hu => ?_, fun u hu => ?_⟩
  · rw [va_up_ne _ _ (by decide)]; exact h.on u hu
  · rw [va_up_ne _ _ (by decide)]; exact h.tw u hu
  · rw [va_up_ne _ _ (by decide), va_up_ne _ _ (by decide), va_up_ne _ _ (by decide)]; exact h.lab u hu
  · rw [va_up_ne _ _ (by decide)]; exact h.hd p hp
  · rw [va_up_ne _ _ (by decide)]; exact h.tl p hp
  · rw [va_up_ne _ _ (by decide)]; exact h.tk p hp
  · rw [va_up_ne _ _ (by decide)]; exact h.of u hu
  · rw [va_up_ne _ _ (by decide)]; exact h.ch i hi
  · rw [va_up_ne _ _ (by decide)]; exact h.rw i hi
  · rw [va_up_self]; exact nd_upd (fun _ => h.pt i hi) hv
  · rw [va_up_ne _ _ (by decide), va_up_ne _ _ (by decide), va_up_ne _ _ (by decide)]; exact h.se u hu
  · rw [va_up_ne _ _ (by decide)]; exact h.oo u hu
theorem RAbs.set30 {tn : Nat} {tx : Nat → Int32} {s : Nat → Nat} {I : MI} {A : MA} {r : RR} (h : RAbs tn tx s I A r) {j v : Nat} (hv : v < r.np) : RAbs tn tx s I (va_up A 30 (upd (A 30) j (Int32.ofNat v))) (RR.mk r.n r.on r.tw r.lab r.np r.hd r.tl r.k r.ch (sU r.rw j v) r.pt) := by
  refine ⟨h.n, h.nb, fun u hu => ?_, fun u hu => ?_, fun u hu => ?_, h.np, h.pb, fun p hp => ?_, fun p hp => ?_, fun p hp => ?_, fun u hu => ?_, h.k, h.kb, fun i hi => ?_, fun i hi => ?_, fun i hi => ?_, fun u hu => ?_, fun u hu => ?_⟩
  · rw [va_up_ne _ _ (by decide)]; exact h.on u hu
  · rw [va_up_ne _ _ (by decide)]; exact h.tw u hu
  · rw [va_up_ne _ _ (by decide), va_up_ne _ _ (by decide), va_up_ne _ _ (by decide)]; exact h.lab u hu
  · rw [va_up_ne _ _ (by decide)]; exact h.hd p hp
  · rw [va_up_ne _ _ (by decide)]; exact h.tl p hp
  · rw [va_up_ne _ _ (by decide)]; exact h.tk p hp
  · rw [va_up_ne _ _ (by decide)]; exact h.of u hu
  · rw [va_up_ne _ _ (by decide)]; exact h.ch i hi
  · rw [va_up_self]; exact of_upd (fun _ => h.rw i hi) hv
  · rw [va_up_ne _ _ (by decide)]; exact h.pt i hi
  · rw [va_up_ne _ _ (by decide), va_up_ne _ _ (by decide), va_up_ne _ _ (by decide)]; exact h.se u hu
  · rw [va_up_ne _ _ (by decide)]; exact h.oo u hu
/-- the depth goes one down -/
theorem RAbs.setK {tn : Nat} {tx : Nat → Int32} {s : Nat → Nat} {I : MI} {A : MA} {r : RR} (h : RAbs tn tx s I A r) {k : Nat} (hk : k ≤ r.k) : RAbs tn tx s (upd I 28 (Int32.ofNat k)) A (RR.mk r.n r.on r.tw r.lab r.np r.hd r.tl (k) r.ch r.rw r.pt) := by
  have hkb := h.kb
  refine ⟨?_, h.nb, h.on, h.tw, h.lab, ?_, h.pb, h.hd, h.tl, h.tk, h.of, upd_self _ _ _, by show k ≤ 10; omega, fun i hi => h.ch i (Nat.lt_of_lt_of_le hi hk), fun i hi => h.rw i (Nat.lt_of_lt_of_le hi hk), fun i hi => h.pt i (Nat.lt_of_lt_of_le hi hk), h.se, h.oo⟩
  · rw [upd_ne _ _ (by decide)]; exact h.n
  · rw [upd_ne _ _ (by decide)]; exact h.np
theorem RAbs.behindO {tn : Nat} {tx : Nat → Int32} {s : Nat → Nat} {I : MI} {A : MA} {r : RR} (h : RAbs tn tx s I A r) {p : Nat} {x : Int32} {q : Option Nat} (hp : p < r.np) (hq : nd r.np x q) (hon : r.on (r.tl p) = none) (hnp : r.np < 160) :
    Res (f_M_behind I A (Int32.ofNat p) x) (fun z => z.1 = Int32.ofNat (r_behind r p q).2 ∧ RAbs tn tx s z.2.1 z.2.2 (r_behind r p q).1 ∧ MFr I z.2.1 A z.2.2 ∧ (r_behind r p q).2 < (r_behind r p q).1.np ∧ (r_behind r p q).1.np ≤ r.np + 1 ∧ (r_behind r p q).1.n = r.n) := by
  cases q with
  | none =>
    have e : x = -1 := hq
    rw [e, B_behind0]
    exact Res.mk ⟨rfl, h, MFr.refl I A, hp, Nat.le_succ _, rfl⟩
  | some q =>
    obtain ⟨hq1, e⟩ := hq
    rw [e]
    refine (h.behind hp hq1 hon hnp).imp (fun z hz => ?_)
    exact ⟨hz.1, hz.2.1, hz.2.2, Nat.lt_succ_self _, Nat.le_refl _, rfl⟩
theorem B_either0 {I : MI} {A : MA} (q : Int32) : f_M_either I A (-1) q = some (q, I, A) := by
  have h0 : ¬ (0 : Int32) ≤ -1 := by decide
  simp only [f_M_either, if_neg h0]
/-- a piece becomes the latest part -/
theorem RAbs.newPart {tn : Nat} {tx : Nat → Int32} {s : Nat → Nat} {I : MI} {A : MA} {r : RR} (h : RAbs tn tx s I A r) (hk : 0 < r.k) {p : Nat} (hp : p < r.np) (hon : r.on (r.tl (r.rw (r.k - 1))) = none) (hnp : r.np < 160) :
    Res (f_M_newPart I A (Int32.ofNat p)) (fun z => RAbs tn tx s z.2.1 z.2.2 (r_newPart r p) ∧ MFr I z.2.1 A z.2.2 ∧ (r_newPart r p).np ≤ r.np + 1 ∧ (r_newPart r p).n = r.n) := by
  have hkb := h.kb
  have e1 : Int32.ofNat r.k - 1 = Int32.ofNat (r.k - 1) := pn_sub (a := r.k) (b := 1) hk
  obtain ⟨w1, w2⟩ := h.rw (r.k - 1) (by omega)
  have n1 : (Int32.ofNat (r.k - 1)).toNatClampNeg = r.k - 1 := pn_nat (by omega)
  simp only [f_M_newPart, h.k, e1, pn_i26 (show r.k - 1 < 26 by omega), if_true, n1, w1]
  refine (h.behindO w2 (h.pt (r.k - 1) (by omega)) hon hnp).bind ?_
  rintro ⟨z0, z1, z2⟩ ⟨a1, a2, a3, a4, a5, a6⟩
  simp only at a1 a2 a3
  subst a1
  simp only [wk_let]
  have b1 := a2.set30 (j := r.k - 1) a4
  have b2 := b1.set31 (j := r.k - 1) (x := Int32.ofNat p) (v := some p) ⟨by show p < (r_behind r (r.rw (r.k - 1)) (r.pt (r.k - 1))).1.np; revert a4; cases r.pt (r.k - 1) <;> (intro a4; first | exact hp | exact Nat.lt_succ_of_lt hp), rfl⟩
  refine Res.mk ⟨b2, (a3.ua (by omega) _).ua (by omega) _, a5, a6⟩
/-- the open row and with it the choice -/
theorem RAbs.endRow {tn : Nat} {tx : Nat → Int32} {s : Nat → Nat} {I : MI} {A : MA} {r : RR} (h : RAbs tn tx s I A r) {own : Nat → Nat} {x : RLv} {st : List RLv} (hR : RInv r own (x :: st)) (hn : r.n + 1 < 160) (hnp : r.np + 1 < 160) {r' : RR} {p' : Nat} (he : r_end r = (r', p')) :
    Res (f_M_endRow I A) (fun z => RAbs tn tx s z.2.1 z.2.2 (RR.mk (RR.n (r')) (RR.on (r')) (RR.tw (r')) (RR.lab (r')) (RR.np (r')) (RR.hd (r')) (RR.tl (r')) (RR.k (r')) (sU r'.ch (r.k - 1) (some p')) (RR.rw (r')) (sU r'.pt (r.k - 1) none)) ∧ MFr I z.2.1 A z.2.2 ∧ r'.np ≤ r.np + 2 ∧ r'.n ≤ r.n + 2 ∧ p' < r'.np) := by
  have hkl : r.k = st.length + 1 := hR.k
  have hk : r.k - 1 = st.length := by omega
  have hkb := h.kb
  have e1 : Int32.ofNat r.k - 1 = Int32.ofNat (r.k - 1) := pn_sub (a := r.k) (b := 1) (by omega)
  obtain ⟨w1, w2⟩ := h.rw (r.k - 1) (by omega)
  have n1 : (Int32.ofNat (r.k - 1)).toNatClampNeg = r.k - 1 := pn_nat (by omega)
  obtain ⟨r1, p1, hz⟩ : ∃ r1 p1, r_behind r (r.rw st.length) (r.pt st.length) = (r1, p1) := ⟨_, _, rfl⟩
  obtain ⟨hRP, hF, en, ek, ec, ew, ep⟩ := r_behind_ok hR.l.1 hz
  have hw : r.on (r.tl (r.rw (r.k - 1))) = none := by rw [hk]; exact hR.l.1.w.tn
  simp only [f_M_endRow, h.k, e1, pn_i26 (show r.k - 1 < 26 by omega), if_true, n1, w1]
  refine (h.behindO w2 (h.pt (r.k - 1) (by omega)) hw (by omega)).bind ?_
  rintro ⟨z0, z1, z2⟩ ⟨a1, a2, a3, a4, a5, a6⟩
  simp only at a1 a2 a3
  rw [hk, hz] at a1 a2 a4 a5 a6
  simp only at a1 a2 a4 a5 a6
  subst a1
  unfold r_end at he
  rw [hk, hz] at he
  have hch := a2.ch (r.k - 1) (by rw [ek]; omega)
  rw [ec] at hch
  have hc := hR.l.1.c
  have i26 : wk_inb (Int32.ofNat (r.k - 1)) 26 = true := pn_i26 (show r.k - 1 < 26 by omega)
  simp only
  obtain ⟨cc, y⟩ := x
  cases cc with
  | none =>
    obtain ⟨c1, _⟩ := hc
    rw [c1] at he
    cases he
    rw [hk, c1] at hch
    have e : z2 29 st.length = -1 := hch
    rw [hk] at *
    rw [e, B_either0]
    simp only [Option.bind_some, wk_let]
    have b1 := a2.set29 (j := st.length) (x := Int32.ofNat p') (v := some p') ⟨a4, rfl⟩
    have b2 := b1.set31 (j := st.length) (x := -1) (v := none) rfl
    exact Res.mk ⟨b2, (a3.ua (by omega) _).ua (by omega) _, by omega, by omega, a4⟩
  | some cR =>
    obtain ⟨q, c1, c2⟩ := hc
    rw [c1] at he
    cases he
    rw [hk, c1] at hch
    obtain ⟨hq1, e⟩ := hch
    have hq : RP r1 (rU r own (3 * st.length)) q cR := c2.frame hF (fun u a b => by have := a.2; have := b.2; omega) (fun _ => Iff.rfl)
    have hne : r1.tl p1 ≠ r1.tl q := fun e => by
      have t1 := hq.fr.tU
      have t2 := hRP.fr.tU
      rw [← e] at t1
      have := t1.2
      rcases t2 with t2 | t2 <;> (have := t2.2; omega)
    rw [hk] at *
    rw [e]
    refine (a2.alt hq1 a4 hq.tn hRP.tn hne (by omega) (by omega)).bind ?_
    rintro ⟨y0, y1, y2⟩ ⟨f1, f2, f3⟩
    simp only at f1 f2 f3
    subst f1
    simp only [wk_let]
    have b1 := f2.set29 (j := st.length) (x := Int32.ofNat r1.np) (v := some r1.np) ⟨Nat.lt_succ_self _, rfl⟩
    have b2 := b1.set31 (j := st.length) (x := -1) (v := none) rfl
    exact Res.mk ⟨b2, ((a3.trans f3).ua (by omega) _).ua (by omega) _, by show r1.np + 1 ≤ _; omega, by show r1.n + 2 ≤ _; omega, Nat.lt_succ_self _⟩
