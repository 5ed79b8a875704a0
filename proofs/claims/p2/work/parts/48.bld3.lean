theorem lx_tok_inj {t t' : Tk} {k k' : Nat} (h : Lx.tok t k = Lx.tok t' k') : t = t' ∧ k = k' := by
  have h1 := Sum.inr.inj h
  exact ⟨congrArg Prod.fst h1, congrArg Prod.snd h1⟩
theorem B_build {tn : Nat} {tx : Nat → Int32} {s : Nat → Nat} {n k k' : Nat} {I : MI} {A : MA} {r : RR} {own : Nat → Nat} {st st' : List RLv} {t : Tk} (hT : Txt tn tx) (hS : Slip (A 16) s n) (hk : k < n) (h : RAbs tn tx s I A r) (hR : RInv r own st) (hne : st ≠ []) (hlen : st.length ≤ 9) (hrn : r.n ≤ 1 + 3 * k) (hrp : r.np ≤ 1 + 3 * k)
    (hl : lx s n k = Lx.tok t k') (hst : stk tn tx t st = some st') : Res (f_M_build I A (Int32.ofNat k)) (BldOut tn tx s I A k' st') := by
  have hn24 := hS.nb
  obtain ⟨e0, c0⟩ := hS.ch k hk
  have hkl := hR.k
  have hkp := hR.pos hne
  have fu := wk_FUEL_big
  have heq : ∀ (l : Nat) (x : Int32), x = Int32.ofNat l → l < 128 → (Int32.ofNat (s k) = x ↔ s k = l) := fun l x hx hl => pn_eqc l hx (by omega) (by omega)
  have ek : Int32.ofNat r.k - 1 = Int32.ofNat (r.k - 1) := pn_sub (a := r.k) (b := 1) hkp
  have nk : (Int32.ofNat (r.k - 1)).toNatClampNeg = r.k - 1 := pn_nat (by omega)
  unfold f_M_build f_M_build_e
  simp only [pn_i24 (show k < 24 by omega), if_true, pn_nat (show k < 2147483648 by omega), e0, h.k, pn_succ]
  unfold lx at hl
  by_cases q40 : s k = 40
  · rw [if_pos q40] at hl
    obtain ⟨ht, hk'⟩ := lx_tok_inj hl
    subst ht; subst hk'
    rw [stk_opn] at hst
    have hl9 : st.length ≠ 9 := fun e => by rw [if_pos e] at hst; cases hst
    rw [if_neg hl9] at hst
    cases hst
    rw [if_pos ((heq 40 40 rfl (by omega)).mpr q40)]
    refine (h.openG (by omega) (by omega) (by omega)).bind ?_
    rintro ⟨z0, z1, z2⟩ ⟨a1, a2⟩
    simp only at a1 a2
    obtain ⟨own', hinv⟩ := r_open_inv hR
    exact Res.mk (BldOut.of a2 a1 hinv (by show r.n + 1 ≤ _; omega) (by show r.np + 1 ≤ _; omega))
  rw [if_neg q40] at hl
  rw [if_neg (fun z => q40 ((heq 40 40 rfl (by omega)).mp z))]
  by_cases q41 : s k = 41
  · rw [if_pos q41] at hl
    obtain ⟨ht, hk'⟩ := lx_tok_inj hl
    subst ht; subst hk'
    rw [stk_cls] at hst
    have hl1 : ¬ st.length ≤ 1 := fun e => by rw [if_pos e] at hst; cases hst
    rw [if_neg hl1] at hst
    cases hst
    rw [if_pos ((heq 41 41 rfl (by omega)).mpr q41)]
    cases st with
    | nil => exact (hne rfl).elim
    | cons x st => cases st with
      | nil => exact (hl1 (Nat.le_refl _)).elim
      | cons y st =>
        obtain ⟨r1, p1, hz⟩ : ∃ r1 p1, r_end r = (r1, p1) := ⟨_, _, rfl⟩
        obtain ⟨hRP, hF, e_k, e_c, e_w, e_p⟩ := r_end_ok hR hz
        have hkk : r.k = st.length + 2 := hkl
        refine (h.endRow hR (by omega) (by omega) hz).bind ?_
        rintro ⟨z0, z1, z2⟩ ⟨a1, a2, a3, a4, a5⟩
        simp only at a1 a2
        have i28 : z1 28 = Int32.ofNat r.k := by rw [← e_k]; exact a1.k
        simp only [i28, ek, wk_let, upd_self, pn_i26 (show r.k - 1 < 26 by omega), if_true, nk]
        have hc := a1.ch (r.k - 1) (by show r.k - 1 < r1.k; rw [e_k]; omega)
        have hc2 : nd r1.np (z2 29 (r.k - 1)) (some p1) := by
          have e : sU r1.ch (r.k - 1) (some p1) (r.k - 1) = some p1 := sU_self _ _ _
          rw [← e]; exact hc
        rw [hc2.2]
        have b1 := a1.setK (k := r.k - 1) (by show r.k - 1 ≤ r1.k; rw [e_k]; omega)
        have hw := hR.l.2.1.w.frame hF (fun u hu => ⟨hu.1, by have := hu.2; show own u < 3 * (y :: st).length; rw [this]; show 3 * st.length + 1 < 3 * (st.length + 1); omega⟩) (fun _ => Iff.rfl)
        have hon : r1.on (r1.tl (r1.rw (r.k - 1 - 1))) = none := by
          rw [e_w, show r.k - 1 - 1 = st.length by omega]; exact hw.tn
        refine (b1.newPart (p := p1) (by show 0 < r.k - 1; omega) a5 hon (by show r1.np < 160; omega)).bind ?_
        rintro ⟨y0, y1, y2⟩ ⟨b2, b3, b4, b5⟩
        simp only at b2 b3
        obtain ⟨own', hinv⟩ := r_close_inv hR
        have er : r_close r = r_newPart (RR.mk r1.n r1.on r1.tw r1.lab r1.np r1.hd r1.tl (r.k - 1) (sU r1.ch (r.k - 1) (some p1)) r1.rw (sU r1.pt (r.k - 1) none)) p1 := by
          unfold r_close
          rw [hz]
        rw [er] at hinv
        refine Res.mk (BldOut.of ((a2.ui (by omega) _).trans b3) b2 hinv ?_ ?_)
        · exact Nat.le_trans (Nat.le_of_eq b5) (by show r1.n ≤ _; omega)
        · have b4' : (r_newPart (RR.mk r1.n r1.on r1.tw r1.lab r1.np r1.hd r1.tl (r.k - 1) (sU r1.ch (r.k - 1) (some p1)) r1.rw (sU r1.pt (r.k - 1) none)) p1).np ≤ r1.np + 1 := b4
          exact Nat.le_trans b4' (by omega)
  rw [if_neg q41] at hl
  rw [if_neg (fun z => q41 ((heq 41 41 rfl (by omega)).mp z))]
  by_cases q124 : s k = 124
  · rw [if_neg (by omega), if_neg (by omega), if_neg (by omega), if_neg (by omega), if_neg (by omega), if_neg (by omega), if_pos q124] at hl
    obtain ⟨ht, hk'⟩ := lx_tok_inj hl
    subst ht; subst hk'
    rw [stk_bar] at hst
    cases hst
    rw [if_pos ((heq 124 124 rfl (by omega)).mpr q124)]
    cases st with
    | nil => exact (hne rfl).elim
    | cons x st =>
      obtain ⟨r1, p1, hz⟩ : ∃ r1 p1, r_end r = (r1, p1) := ⟨_, _, rfl⟩
      obtain ⟨hRP, hF, e_k, e_c, e_w, e_p⟩ := r_end_ok hR hz
      refine (h.endRow hR (by omega) (by omega) hz).bind ?_
      rintro ⟨z0, z1, z2⟩ ⟨a1, a2, a3, a4, a5⟩
      simp only at a1 a2
      simp only
      refine (a1.nothing (by show r1.n < 160; omega) (by show r1.np < 160; omega)).bind ?_
      rintro ⟨y0, y1, y2⟩ ⟨b1, b2, b3, b4⟩
      simp only at b1 b2 b3
      have b1' : y0 = Int32.ofNat r1.np := b1
      subst b1'
      simp only [ek, pn_i26 (show r.k - 1 < 26 by omega), if_true, nk, wk_let]
      have c1 := b2.set30 (j := r.k - 1) (v := r1.np) (Nat.lt_succ_self _)
      obtain ⟨own', hinv⟩ := r_bar_inv hR hne
      have er : r_bar r = (let q : RR := RR.mk r1.n r1.on r1.tw r1.lab r1.np r1.hd r1.tl r1.k (sU r1.ch (r.k - 1) (some p1)) r1.rw (sU r1.pt (r.k - 1) none)
          RR.mk (RR.n (r_nothing q)) (RR.on (r_nothing q)) (RR.tw (r_nothing q)) (RR.lab (r_nothing q)) (RR.np (r_nothing q)) (RR.hd (r_nothing q)) (RR.tl (r_nothing q)) (RR.k (r_nothing q)) (RR.ch (r_nothing q)) (sU q.rw (r.k - 1) q.np) (RR.pt (r_nothing q))) := by
        unfold r_bar
        rw [hz]
      rw [er] at hinv
      exact Res.mk (BldOut.of ((a2.trans b3).ua (by omega) _) c1 hinv (by show r1.n + 1 ≤ _; omega) (by show r1.np + 1 ≤ _; omega))
  rw [if_neg (fun z => q124 ((heq 124 124 rfl (by omega)).mp z)), B_isTimes c0]
  simp only [Option.bind_some]
  by_cases qt : s k = 42 ∨ s k = 43 ∨ s k = 63
  · rw [if_pos qt]
    have h10 : ¬ (1 : Int32) = 0 := by decide
    rw [if_neg h10, ek, if_pos (pn_i26 (show r.k - 1 < 26 by omega)), nk]
    have x2 : upd (upd (upd (upd (fun _ => (0 : Int32)) 1 (Int32.ofNat k)) 2 (Int32.ofNat (s k))) 3 (Int32.ofNat (r.k - 1))) 4 (Int32.ofNat (k + 1)) 2 = Int32.ofNat (s k) := rfl
    have x4 : upd (upd (upd (upd (fun _ => (0 : Int32)) 1 (Int32.ofNat k)) 2 (Int32.ofNat (s k))) 3 (Int32.ofNat (r.k - 1))) 4 (Int32.ofNat (k + 1)) 4 = Int32.ofNat (k + 1) := rfl
    by_cases q43 : s k = 43
    · rw [if_neg (by omega), if_pos q43] at hl
      obtain ⟨ht, hk'⟩ := lx_tok_inj hl
      subst ht; subst hk'
      rw [if_pos ((heq 43 43 rfl (by omega)).mpr q43)]
      unfold f_M_build_121
      rw [x2, if_neg (fun z => by have := (heq 63 63 rfl (by omega)).mp z; omega)]
      exact B_times h hR (by omega) (by omega) hrn hrp false true hst (by decide) (by decide) _ x4
    · rw [if_neg (fun z => q43 ((heq 43 43 rfl (by omega)).mp z))]
      unfold f_M_build_121
      rw [x2]
      by_cases q63 : s k = 63
      · rw [if_neg (by omega), if_neg q43, if_pos q63] at hl
        obtain ⟨ht, hk'⟩ := lx_tok_inj hl
        subst ht; subst hk'
        rw [if_pos ((heq 63 63 rfl (by omega)).mpr q63)]
        exact B_times h hR (by omega) (by omega) hrn hrp true false hst (by decide) (by decide) _ x4
      · rw [if_pos (by omega)] at hl
        obtain ⟨ht, hk'⟩ := lx_tok_inj hl
        subst ht; subst hk'
        rw [if_neg (fun z => q63 ((heq 63 63 rfl (by omega)).mp z))]
        exact B_times h hR (by omega) (by omega) hrn hrp true true hst (by decide) (by decide) _ x4
  rw [if_neg qt, if_pos rfl]
  rw [if_neg (by omega), if_neg (by omega), if_neg (by omega)] at hl
  -- the singles
  have one : ∀ (kd a : Int32) (l : LSp) (kk : Nat) (X : Nat → Int32), kd ≠ 3 → k < kk → t = Tk.sing l → k' = kk → rLab tn tx s kd a 0 = ls_rl tn tx l → X 4 = Int32.ofNat kk → Res ((f_M_single I A kd a 0).bind (fun z1 => (f_M_newPart z1.2.1 z1.2.2 z1.1).bind (fun z2 => f_M_build_273 (f_M_build_go wk_FUEL) z2.2.1 z2.2.2 X))) (BldOut tn tx s I A k' st') := by
    intro kd a l kk X hkd hkk ht hk' hlab h4
    subst ht; subst hk'
    rw [stk_sing] at hst
    cases hst
    refine B_single h hR hne (by omega) (by omega) kd a 0 (fun z => (hkd z).elim) (g := fun _ I' A' => f_M_build_273 (f_M_build_go wk_FUEL) I' A' X) (fun I' A' r' own' a1 a2 a3 a4 a5 => ?_)
    unfold f_M_build_273
    rw [h4]
    rw [hlab] at a3
    exact Res.mk (BldOut.of a1 a2 a3 (by omega) (by omega))
  by_cases q91 : s k = 91
  · rw [if_pos q91] at hl
    rw [if_pos ((heq 91 91 rfl (by omega)).mpr q91), pn_add2]
    unfold lxSet at hl
    by_cases qb : lxE s n k = n ∨ lxE s n k = lxB s n k
    · rw [if_pos qb] at hl; cases hl
    rw [if_neg qb] at hl
    obtain ⟨ht, hk'⟩ := lx_tok_inj hl
    subst ht; subst hk'
    rw [stk_sing] at hst
    cases hst
    obtain ⟨f1, f2, f3, f4⟩ := fbr_ok s (n - lxB s n k) (lxB s n k)
    have e1 : fbr s (n - lxB s n k) (lxB s n k) = lxE s n k := rfl
    rw [e1] at f1 f2 f3 f4
    have hb1 : k + 1 ≤ lxB s n k ∧ lxB s n k ≤ k + 2 := by unfold lxB; split <;> omega
    have hb2 : lxB s n k ≤ n := by
      unfold lxB
      split
      · rename_i hh
        have := of_decide_eq_true hh
        omega
      · omega
    have hen : lxE s n k < n := by
      have : lxE s n k ≠ n := fun z => qb (Or.inl z)
      omega
    have h93 : s (lxE s n k) = 93 := by
      rcases f4 with z | z
      · omega
      · exact z
    have hbe : lxB s n k < lxE s n k := by
      have : lxE s n k ≠ lxB s n k := fun z => qb (Or.inr z)
      omega
    have hneg : m_neg s (k + 1) = lxNeg s n k := by
      unfold m_neg lxNeg
      apply decide_eq_decide.mpr
      exact ⟨fun z => ⟨by omega, z⟩, fun z => z.2⟩
    have hlab : rLab tn tx s 3 (Int32.ofNat (k + 1)) (Int32.ofNat (lxE s n k)) = ls_rl tn tx (LSp.con (fun c => inset s (lxE s n k) 24 (lxB s n k) c != lxNeg s n k)) := by
      rw [rLab_set (by omega) (by omega)]
      unfold m_set
      rw [hneg]
      have : (if lxNeg s n k = true then k + 1 + 1 else k + 1) = lxB s n k := by unfold lxB; split <;> rfl
      rw [this]
    refine B_set_go hS hen h93 h hR hne (by omega) (by omega) (k := k) (by omega) (fun I' A' r' own' a1 a2 a3 a4 a5 => ?_) (lxE s n k - (k + 2)) (k + 2) wk_FUEL _ (Nat.le_refl _) (by omega) (by omega) (fun j h1 h2 => f3 j (by omega) h2) rfl rfl
    rw [hlab] at a3
    exact BldOut.of a1 a2 a3 (by omega) (by omega)
  rw [if_neg q91] at hl
  rw [if_neg (fun z => q91 ((heq 91 91 rfl (by omega)).mp z))]
  by_cases q92 : s k = 92
  · rw [if_pos q92] at hl
    by_cases qe : k + 1 = n
    · rw [if_pos qe] at hl; cases hl
    rw [if_neg qe] at hl
    obtain ⟨ht, hk'⟩ := lx_tok_inj hl
    obtain ⟨e1, c1⟩ := hS.ch (k + 1) (by omega)
    rw [if_pos ((heq 92 92 rfl (by omega)).mpr q92), if_pos (pn_i24 (show k + 1 < 24 by omega)), pn_nat (show k + 1 < 2147483648 by omega), e1, pn_add2]
    exact one 1 (Int32.ofNat (s (k + 1))) _ (k + 2) _ (by decide) (by omega) ht.symm hk'.symm (rLab_one hT c1 0) rfl
  rw [if_neg q92] at hl
  rw [if_neg (fun z => q92 ((heq 92 92 rfl (by omega)).mp z))]
  by_cases q93 : s k = 93
  · rw [if_pos q93] at hl; cases hl
  rw [if_neg q93, if_neg q124] at hl
  unfold f_M_build_260
  by_cases q46 : s k = 46
  · rw [if_neg (by omega), if_pos q46] at hl
    obtain ⟨ht, hk'⟩ := lx_tok_inj hl
    rw [if_pos ((heq 46 46 rfl (by omega)).mpr q46)]
    exact one 2 _ _ (k + 1) _ (by decide) (by omega) ht.symm hk'.symm (rLab_any hT _ 0) rfl
  rw [if_neg (fun z => q46 ((heq 46 46 rfl (by omega)).mp z))]
  by_cases q94 : s k = 94
  · rw [if_neg (by omega), if_neg q46, if_pos q94] at hl
    obtain ⟨ht, hk'⟩ := lx_tok_inj hl
    rw [if_pos ((heq 94 94 rfl (by omega)).mpr q94)]
    exact one 4 _ _ (k + 1) _ (by decide) (by omega) ht.symm hk'.symm rfl rfl
  rw [if_neg (fun z => q94 ((heq 94 94 rfl (by omega)).mp z))]
  by_cases q36 : s k = 36
  · rw [if_pos q36] at hl
    obtain ⟨ht, hk'⟩ := lx_tok_inj hl
    rw [if_pos ((heq 36 36 rfl (by omega)).mpr q36)]
    exact one 5 _ _ (k + 1) _ (by decide) (by omega) ht.symm hk'.symm rfl rfl
  rw [if_neg (fun z => q36 ((heq 36 36 rfl (by omega)).mp z))]
  rw [if_neg q36, if_neg q46, if_neg q94] at hl
  obtain ⟨ht, hk'⟩ := lx_tok_inj hl
  exact one 1 _ _ (k + 1) _ (by decide) (by omega) ht.symm hk'.symm (rLab_one hT c0 0) rfl
