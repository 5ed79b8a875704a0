theorem RInv.pos {r : RR} {own : Nat → Nat} {st : List RLv} (h : RInv r own st) (hne : st ≠ []) : 0 < r.k := by
  rw [h.k]
  cases st with
  | nil => exact (hne rfl).elim
  | cons x s => exact Nat.succ_pos _
/-- the walk to a set's bracket -/
theorem B_set_go {tn : Nat} {tx : Nat → Int32} {s : Nat → Nat} {n e : Nat} {I : MI} {A : MA} {r : RR} {own : Nat → Nat} {st : List RLv} (hS : Slip (A 16) s n) (he : e < n) (h93 : s e = 93) (h : RAbs tn tx s I A r) (hR : RInv r own st) (hne : st ≠ []) (hn : r.n + 2 ≤ 150) (hnp : r.np + 2 ≤ 150) {k : Nat} (hke : k + 1 < e) {Q : Int32 × MI × MA → Prop}
    (hQ : ∀ I' A' r' own', MFr I I' A A' → RAbs tn tx s I' A' r' → RInv r' own' (st_single (rLab tn tx s 3 (Int32.ofNat (k + 1)) (Int32.ofNat e)) st) → r'.n = r.n + 2 → r'.np ≤ r.np + 2 → Q (Int32.ofNat (e + 1), I', A')) :
    ∀ (m p fuel : Nat) (X : Nat → Int32), e - p ≤ m → p ≤ e → m < fuel → (∀ j, p ≤ j → j < e → s j ≠ 93) → X 1 = Int32.ofNat k → X 4 = Int32.ofNat p → Res (f_M_build_go fuel 150 I A X) Q := by
  have hnb := hS.nb
  intro m
  induction m with
  | zero =>
    intro p fuel X hm hp hf hno h1 h4
    obtain ⟨g, rfl⟩ : ∃ g, fuel = g + 1 := ⟨fuel - 1, by omega⟩
    have epe : p = e := by omega
    subst epe
    obtain ⟨e0, c0⟩ := hS.ch p he
    simp only [f_M_build_go, f_M_build_150, if_true, h4, pn_i24 (show p < 24 by omega), pn_nat (show p < 2147483648 by omega), e0]
    rw [if_pos ((pn_eqc (x := 93) 93 rfl (by omega) (by omega)).mpr h93), h1, pn_succ]
    refine B_single h hR hne hn hnp 3 (Int32.ofNat (k + 1)) (Int32.ofNat p) (fun _ => ⟨k + 1, p, rfl, rfl, hke, by omega⟩) (g := fun _ I' A' => f_M_build_273 (f_M_build_go g) I' A' (upd X 4 (Int32.ofNat p + 1))) (fun I' A' r' own' a1 a2 a3 a4 a5 => ?_)
    unfold f_M_build_273
    rw [upd_self, pn_succ]
    exact Res.mk (hQ I' A' r' own' a1 a2 a3 a4 a5)
  | succ m ih =>
    intro p fuel X hm hp hf hno h1 h4
    by_cases q : p = e
    · exact ih p fuel X (by omega) hp (by omega) hno h1 h4
    · obtain ⟨g, rfl⟩ : ∃ g, fuel = g + 1 := ⟨fuel - 1, by omega⟩
      obtain ⟨e0, c0⟩ := hS.ch p (by omega)
      have hn93 := hno p (Nat.le_refl _) (by omega)
      simp only [f_M_build_go, f_M_build_150, if_true, h4, pn_i24 (show p < 24 by omega), pn_nat (show p < 2147483648 by omega), e0]
      rw [if_neg (fun z => hn93 ((pn_eqc (x := 93) 93 rfl (by omega) (by omega)).mp z)), pn_succ]
      refine ih (p + 1) g _ (by omega) (by omega) (by omega) (fun j h1 h2 => hno j (by omega) h2) ?_ (upd_self _ _ _)
      rw [upd_ne _ _ (by decide)]; exact h1
theorem BldOut.of {tn : Nat} {tx : Nat → Int32} {s : Nat → Nat} {I : MI} {A : MA} {k' : Nat} {st' : List RLv} {I' : MI} {A' : MA} {r : RR} {own : Nat → Nat} (h1 : MFr I I' A A') (h2 : RAbs tn tx s I' A' r) (h3 : RInv r own st') (h4 : r.n ≤ 1 + 3 * k') (h5 : r.np ≤ 1 + 3 * k') : BldOut tn tx s I A k' st' (Int32.ofNat k', I', A') := ⟨rfl, h1, r, own, h2, h3, h4, h5⟩
/-- '*', '+', '?' -/
theorem B_times {tn : Nat} {tx : Nat → Int32} {s : Nat → Nat} {I : MI} {A : MA} {r : RR} {own : Nat → Nat} {st st' : List RLv} (h : RAbs tn tx s I A r) (hR : RInv r own st) (hn : r.n + 2 ≤ 150) (hnp : r.np + 2 ≤ 150) {k : Nat} (hrn : r.n ≤ 1 + 3 * k) (hrp : r.np ≤ 1 + 3 * k) (leave again : Bool) (hst : st_rep leave again st = some st') {a0 l0 : Int32} (hl0 : l0 = 0 ↔ leave = false) (ha0 : a0 = 0 ↔ again = false)
    (rc : Nat → MI → MA → (Nat → Int32) → Option (Int32 × MI × MA)) {X : Nat → Int32} (h4 : X 4 = Int32.ofNat (k + 1)) :
    Res (f_M_build_132 rc I A X a0 l0 (A 31 (r.k - 1)) (Int32.ofNat (r.k - 1))) (BldOut tn tx s I A (k + 1) st') := by
  have hkb := h.kb
  cases st with
  | nil => cases hst
  | cons x st =>
    obtain ⟨c, q, p⟩ := x
    cases p with
    | none => cases hst
    | some pr =>
      have hkk : r.k = st.length + 1 := hR.k
      obtain ⟨p, e1, e2⟩ := hR.l.1.p
      have hpt := h.pt (r.k - 1) (by omega)
      have hk1 : r.k - 1 = st.length := by omega
      rw [hk1, e1] at hpt
      obtain ⟨hp, e3⟩ := hpt
      unfold f_M_build_132
      rw [hk1, e3]
      refine (h.times hp e2.tn (by omega) (by omega) leave again hl0 ha0).bind ?_
      rintro ⟨z0, z1, z2⟩ ⟨a1, a2, a3⟩
      simp only at a1 a2 a3
      subst a1
      simp only [pn_i26 (show st.length < 26 by omega), if_true, wk_let, pn_nat (show st.length < 2147483648 by omega), f_M_build_273, h4]
      have b1 := a2.set31 (j := st.length) (x := Int32.ofNat r.np) (v := some r.np) ⟨Nat.lt_succ_self _, rfl⟩
      obtain ⟨own', hinv⟩ := r_rep_inv hR e1 leave again
      have es : st' = st_times leave again ((c, q, some pr) :: st) := by
        have : some (st_times leave again ((c, q, some pr) :: st)) = some st' := hst
        exact (Option.some.inj this).symm
      rw [es]
      refine Res.mk (BldOut.of (r := r_rep r p leave again) (a3.ua (by omega) _) ?_ hinv (by show r.n + 2 ≤ _; omega) (by show r.np + 1 ≤ _; omega))
      unfold r_rep
      rw [hk1]
      exact b1
