theorem nar_ch {c : Nat} (hc : c < 128) : vp_nar .char (Int32.ofNat c) = Int32.ofNat c := by
  have h : ∀ c : Fin 128, vp_nar .char (Int32.ofNat c.val) = Int32.ofNat c.val := by decide +kernel
  exact h ⟨c, hc⟩
/-- an automaton of the reference that means a relation on the places of a text -/
abbrev RDone (tn : Nat) (tx : Nat → Int32) (I : MI) (A : MA) (s : Nat → Nat) (n : Nat) (on tw : Nat → Option Nat) (lab : Nat → Rl) (fs ls : Nat) (R : Rl) : Prop := (I 17 = Int32.ofNat n) ∧ (n ≤ 160) ∧ (∀ u, u < n → nd n (A 21 u) (on u)) ∧ (∀ u, u < n → nd n (A 22 u) (tw u)) ∧ (∀ u, u < n → lab u = rLab tn tx s (A 18 u) (A 19 u) (A 20 u)) ∧ (I 23 = Int32.ofNat fs) ∧ (I 24 = Int32.ofNat ls) ∧ (Fr (cF on tw) lab (fun u => u < n) fs ls R) ∧ (lab ls = rl_id) ∧ (∀ u, u < n → tw u ≠ none → A 18 u = 0) ∧ (∀ u, u < n → A 18 u = 3 → SE (A 19 u) (A 20 u)) ∧ (∀ u, u < n → A 18 u ≠ 0 → on u ≠ none) ∧ (∀ k, k < 24 → A 16 k = Int32.ofNat (s k) ∧ s k < 128)
theorem RDone.hn {tn : Nat} {tx : Nat → Int32} {I : MI} {A : MA} {s : Nat → Nat} {n : Nat} {on tw : Nat → Option Nat} {lab : Nat → Rl} {fs ls : Nat} {R : Rl} (h_ : RDone tn tx I A s n on tw lab fs ls R) : I 17 = Int32.ofNat n := h_.1
theorem RDone.hnb {tn : Nat} {tx : Nat → Int32} {I : MI} {A : MA} {s : Nat → Nat} {n : Nat} {on tw : Nat → Option Nat} {lab : Nat → Rl} {fs ls : Nat} {R : Rl} (h_ : RDone tn tx I A s n on tw lab fs ls R) : n ≤ 160 := h_.2.1
theorem RDone.hon {tn : Nat} {tx : Nat → Int32} {I : MI} {A : MA} {s : Nat → Nat} {n : Nat} {on tw : Nat → Option Nat} {lab : Nat → Rl} {fs ls : Nat} {R : Rl} (h_ : RDone tn tx I A s n on tw lab fs ls R) : ∀ u, u < n → nd n (A 21 u) (on u) := h_.2.2.1
theorem RDone.htw {tn : Nat} {tx : Nat → Int32} {I : MI} {A : MA} {s : Nat → Nat} {n : Nat} {on tw : Nat → Option Nat} {lab : Nat → Rl} {fs ls : Nat} {R : Rl} (h_ : RDone tn tx I A s n on tw lab fs ls R) : ∀ u, u < n → nd n (A 22 u) (tw u) := h_.2.2.2.1
theorem RDone.hlab {tn : Nat} {tx : Nat → Int32} {I : MI} {A : MA} {s : Nat → Nat} {n : Nat} {on tw : Nat → Option Nat} {lab : Nat → Rl} {fs ls : Nat} {R : Rl} (h_ : RDone tn tx I A s n on tw lab fs ls R) : ∀ u, u < n → lab u = rLab tn tx s (A 18 u) (A 19 u) (A 20 u) := h_.2.2.2.2.1
theorem RDone.hfs {tn : Nat} {tx : Nat → Int32} {I : MI} {A : MA} {s : Nat → Nat} {n : Nat} {on tw : Nat → Option Nat} {lab : Nat → Rl} {fs ls : Nat} {R : Rl} (h_ : RDone tn tx I A s n on tw lab fs ls R) : I 23 = Int32.ofNat fs := h_.2.2.2.2.2.1
theorem RDone.hls {tn : Nat} {tx : Nat → Int32} {I : MI} {A : MA} {s : Nat → Nat} {n : Nat} {on tw : Nat → Option Nat} {lab : Nat → Rl} {fs ls : Nat} {R : Rl} (h_ : RDone tn tx I A s n on tw lab fs ls R) : I 24 = Int32.ofNat ls := h_.2.2.2.2.2.2.1
theorem RDone.fr {tn : Nat} {tx : Nat → Int32} {I : MI} {A : MA} {s : Nat → Nat} {n : Nat} {on tw : Nat → Option Nat} {lab : Nat → Rl} {fs ls : Nat} {R : Rl} (h_ : RDone tn tx I A s n on tw lab fs ls R) : Fr (cF on tw) lab (fun u => u < n) fs ls R := h_.2.2.2.2.2.2.2.1
theorem RDone.hid {tn : Nat} {tx : Nat → Int32} {I : MI} {A : MA} {s : Nat → Nat} {n : Nat} {on tw : Nat → Option Nat} {lab : Nat → Rl} {fs ls : Nat} {R : Rl} (h_ : RDone tn tx I A s n on tw lab fs ls R) : lab ls = rl_id := h_.2.2.2.2.2.2.2.2.1
theorem RDone.hof {tn : Nat} {tx : Nat → Int32} {I : MI} {A : MA} {s : Nat → Nat} {n : Nat} {on tw : Nat → Option Nat} {lab : Nat → Rl} {fs ls : Nat} {R : Rl} (h_ : RDone tn tx I A s n on tw lab fs ls R) : ∀ u, u < n → tw u ≠ none → A 18 u = 0 := h_.2.2.2.2.2.2.2.2.2.1
theorem RDone.hse {tn : Nat} {tx : Nat → Int32} {I : MI} {A : MA} {s : Nat → Nat} {n : Nat} {on tw : Nat → Option Nat} {lab : Nat → Rl} {fs ls : Nat} {R : Rl} (h_ : RDone tn tx I A s n on tw lab fs ls R) : ∀ u, u < n → A 18 u = 3 → SE (A 19 u) (A 20 u) := h_.2.2.2.2.2.2.2.2.2.2.1
theorem RDone.hoo {tn : Nat} {tx : Nat → Int32} {I : MI} {A : MA} {s : Nat → Nat} {n : Nat} {on tw : Nat → Option Nat} {lab : Nat → Rl} {fs ls : Nat} {R : Rl} (h_ : RDone tn tx I A s n on tw lab fs ls R) : ∀ u, u < n → A 18 u ≠ 0 → on u ≠ none := h_.2.2.2.2.2.2.2.2.2.2.2.1
theorem RDone.hpat {tn : Nat} {tx : Nat → Int32} {I : MI} {A : MA} {s : Nat → Nat} {n : Nat} {on tw : Nat → Option Nat} {lab : Nat → Rl} {fs ls : Nat} {R : Rl} (h_ : RDone tn tx I A s n on tw lab fs ls R) : ∀ k, k < 24 → A 16 k = Int32.ofNat (s k) ∧ s k < 128 := h_.2.2.2.2.2.2.2.2.2.2.2.2
def RMean (tn : Nat) (tx : Nat → Int32) (I : MI) (A : MA) (R : Rl) : Prop := ∃ s n on tw lab fs ls, RDone tn tx I A s n on tw lab fs ls R
theorem stk_len {tn : Nat} {tx : Nat → Int32} {t : Tk} {st st' : List RLv} (h : stk tn tx t st = some st') (hlen : st.length ≤ 9) (hne : st ≠ []) : st'.length ≤ 9 ∧ st' ≠ [] := by
  unfold stk at h
  by_cases q0 : t.1 = 0
  · rw [if_pos q0] at h
    by_cases q9 : st.length = 9
    · rw [if_pos q9] at h; cases h
    · rw [if_neg q9] at h; cases h
      exact ⟨by show st.length + 1 ≤ 9; omega, List.cons_ne_nil _ _⟩
  rw [if_neg q0] at h
  by_cases q1 : t.1 = 1
  · rw [if_pos q1] at h
    by_cases q9 : st.length ≤ 1
    · rw [if_pos q9] at h; cases h
    · rw [if_neg q9] at h; cases h
      cases st with
      | nil => exact (hne rfl).elim
      | cons x st => cases st with
        | nil => exact (q9 (Nat.le_refl _)).elim
        | cons y st => exact ⟨by show st.length + 1 ≤ 9; have : st.length + 2 ≤ 9 := hlen; omega, List.cons_ne_nil _ _⟩
  rw [if_neg q1] at h
  by_cases q2 : t.1 = 2
  · rw [if_pos q2] at h; cases h
    cases st with
    | nil => exact (hne rfl).elim
    | cons x st => exact ⟨hlen, List.cons_ne_nil _ _⟩
  rw [if_neg q2] at h
  by_cases q3 : t.1 = 3
  · rw [if_pos q3] at h
    cases st with
    | nil => exact (hne rfl).elim
    | cons x st =>
      obtain ⟨c, q, p⟩ := x
      cases p with
      | none => cases h
      | some p => cases h; exact ⟨hlen, List.cons_ne_nil _ _⟩
  rw [if_neg q3] at h
  cases h
  exact ⟨by rw [st_len_single]; exact hlen, st_single_ne _ hne⟩
theorem lx_tok_lt {s : Nat → Nat} {n k k' : Nat} {t : Tk} (hk : k < n) (h : lx s n k = Lx.tok t k') : k < k' ∧ k' ≤ n := by
  unfold lx at h
  by_cases q40 : s k = 40
  · rw [if_pos q40] at h; have := (lx_tok_inj h).2; omega
  rw [if_neg q40] at h
  by_cases q41 : s k = 41
  · rw [if_pos q41] at h; have := (lx_tok_inj h).2; omega
  rw [if_neg q41] at h
  by_cases q42 : s k = 42
  · rw [if_pos q42] at h; have := (lx_tok_inj h).2; omega
  rw [if_neg q42] at h
  by_cases q43 : s k = 43
  · rw [if_pos q43] at h; have := (lx_tok_inj h).2; omega
  rw [if_neg q43] at h
  by_cases q63 : s k = 63
  · rw [if_pos q63] at h; have := (lx_tok_inj h).2; omega
  rw [if_neg q63] at h
  by_cases q91 : s k = 91
  · rw [if_pos q91] at h
    unfold lxSet at h
    by_cases qb : lxE s n k = n ∨ lxE s n k = lxB s n k
    · rw [if_pos qb] at h; cases h
    rw [if_neg qb] at h
    obtain ⟨f1, f2, f3, f4⟩ := fbr_ok s (n - lxB s n k) (lxB s n k)
    have e1 : fbr s (n - lxB s n k) (lxB s n k) = lxE s n k := rfl
    rw [e1] at f1 f2
    have hb1 : k + 1 ≤ lxB s n k := by unfold lxB; split <;> omega
    have hb2 : lxB s n k ≤ n := by
      unfold lxB
      split
      · rename_i hh
        have := of_decide_eq_true hh
        omega
      · omega
    have := (lx_tok_inj h).2
    have hne : lxE s n k ≠ n := fun z => qb (Or.inl z)
    omega
  rw [if_neg q91] at h
  by_cases q92 : s k = 92
  · rw [if_pos q92] at h
    by_cases qe : k + 1 = n
    · rw [if_pos qe] at h; cases h
    · rw [if_neg qe] at h; have := (lx_tok_inj h).2; omega
  rw [if_neg q92] at h
  by_cases q93 : s k = 93
  · rw [if_pos q93] at h; cases h
  rw [if_neg q93] at h
  by_cases q124 : s k = 124
  · rw [if_pos q124] at h; have := (lx_tok_inj h).2; omega
  rw [if_neg q124] at h
  by_cases q36 : s k = 36
  · rw [if_pos q36] at h; have := (lx_tok_inj h).2; omega
  rw [if_neg q36] at h
  by_cases q46 : s k = 46
  · rw [if_pos q46] at h; have := (lx_tok_inj h).2; omega
  rw [if_neg q46] at h
  by_cases q94 : s k = 94
  · rw [if_pos q94] at h; have := (lx_tok_inj h).2; omega
  rw [if_neg q94] at h
  have := (lx_tok_inj h).2; omega
/-- what a good compile leaves in the reference -/
def MComp (tn : Nat) (tx : Nat → Int32) (I : MI) (A : MA) (x : RLv) (z : Int32 × MI × MA) : Prop :=
  z.2.1 13 = 1 ∧ (∀ j, (j < 13 ∨ j = 14 ∨ j = 15 ∨ 29 ≤ j) → z.2.1 j = I j) ∧ (∀ j, (j < 18 ∨ 32 ≤ j) → z.2.2 j = A j) ∧ RMean tn tx z.2.1 z.2.2 (rl_all x)
theorem B_comp122 {tn : Nat} {tx : Nat → Int32} {s : Nat → Nat} {n : Nat} (hT : Txt tn tx) (hn24 : n ≤ 24) : ∀ (m k fuel : Nat) (I : MI) (A : MA) (X : Nat → Int32) (r : RR) (own : Nat → Nat) (st st' : List RLv), n - k < m → n - k + 1 ≤ fuel → k ≤ n → (∀ k, k < 24 → A 16 k = Int32.ofNat (s k) ∧ s k < 128) → RAbs tn tx s I A r → RInv r own st → st ≠ [] → st.length ≤ 9 → r.n ≤ 1 + 3 * k → r.np ≤ 1 + 3 * k →
    I 15 = Int32.ofNat n → X 3 = Int32.ofNat k → rd tn tx s n m k st = Rd.done st' → ∃ x, st' = [x] ∧ Res (f_M_compile_go fuel 122 I A X) (MComp tn tx I A x) := by
  intro m
  induction m with
  | zero => intros; omega
  | succ m ih =>
    intro k fuel I A X r own st st' hm hf hkn hpat h hR hne hlen hrn hrp h15 x3 hrd
    obtain ⟨g, rfl⟩ : ∃ g, fuel = g + 1 := ⟨fuel - 1, by omega⟩
    have hS : Slip (A 16) s n := ⟨hn24, fun j hj => hpat j (by omega)⟩
    have t122 : ¬ (122 : Nat) = 70 := by decide
    by_cases qk : n ≤ k
    · unfold rd at hrd
      rw [if_pos qk] at hrd
      by_cases q1 : 1 < st.length
      · rw [if_pos q1] at hrd; cases hrd
      rw [if_neg q1] at hrd
      have est : st = st' := Sum.inr.inj hrd
      subst est
      cases st with
      | nil => exact (hne rfl).elim
      | cons x st => cases st with
        | cons y st => exact (q1 (by show 1 < st.length + 2; omega)).elim
        | nil =>
          refine ⟨x, rfl, ?_⟩
          simp only [f_M_compile_go, f_M_compile_122, if_neg t122, if_true, h15, x3]
          rw [if_pos ((pn_le (by omega) (by omega)).mpr qk)]
          obtain ⟨r1, p1, hz⟩ : ∃ r1 p1, r_end r = (r1, p1) := ⟨_, _, rfl⟩
          have hP := r_fin_inv hR hz
          have hk1 : r.k - 1 = 0 := by rw [hR.k]; rfl
          refine (h.endRow hR (by omega) (by omega) hz).bind ?_
          rintro ⟨z0, z1, z2⟩ ⟨a1, a2, a3, a4, a5⟩
          simp only at a1 a2
          have hc := a1.ch 0 (by show 0 < r1.k; rw [(r_end_ok hR hz).2.2.1, hR.k]; exact Nat.succ_pos _)
          have hc2 : nd r1.np (z2 29 0) (some p1) := by
            have e : sU r1.ch (r.k - 1) (some p1) 0 = some p1 := by rw [hk1]; exact sU_self _ _ _
            rw [← e]; exact hc
          obtain ⟨hp1, e29⟩ := hc2
          have hpb := a1.pb
          have hpb' : r1.np ≤ 160 := hpb
          obtain ⟨d1, d2⟩ := a1.hd p1 hp1
          obtain ⟨u1, u2⟩ := a1.tl p1 hp1
          have z00 : (0 : Int32).toNatClampNeg = 0 := rfl
          have i0 : wk_inb 0 26 = true := rfl
          simp only [i0, if_true, z00, e29, pn_i160 (show p1 < 160 by omega), wk_let, pn_nat (show p1 < 2147483648 by omega)]
          refine Res.mk ⟨by dsimp only; rw [upd_self], fun j hj => ?_, fun j hj => a2.a j hj, s, r1.n, r1.on, r1.tw, r1.lab, r1.hd p1, r1.tl p1, ?_, a1.nb, a1.on, a1.tw, a1.lab, ?_, ?_, hP.fr, hP.tl, a1.of, a1.se, a1.oo, fun j hj => ?_⟩
          · dsimp only
            rw [upd_ne _ _ (by omega), upd_ne _ _ (by omega), upd_ne _ _ (by omega)]; exact a2.i j (by omega)
          · dsimp only
            rw [upd_ne _ _ (by decide), upd_ne _ _ (by decide), upd_ne _ _ (by decide)]; exact a1.n
          · dsimp only
            rw [upd_ne _ _ (by decide), upd_ne _ _ (by decide), upd_self]; exact d1
          · dsimp only
            rw [upd_ne _ _ (by decide), upd_self]; exact u1
          · dsimp only
            rw [a2.a 16 (by omega)]; exact hpat j hj
    · have hk : k < n := by omega
      rcases hl : lx s n k with p | ⟨t, k'⟩
      · rw [rd_bad hk hl] at hrd; cases hrd
      · obtain ⟨l1, l2⟩ := lx_tok_lt hk hl
        cases hs : stk tn tx t st with
        | none => rw [rd_none hk hl hs] at hrd; cases hrd
        | some st1 =>
          rw [rd_some hk hl hs] at hrd
          obtain ⟨len1, ne1⟩ := stk_len hs hlen hne
          obtain ⟨⟨y0, y1, y2⟩, ey, hy⟩ := B_build hT hS hk h hR hne hlen hrn hrp hl hs
          obtain ⟨hy0, hy1, r', own', b1, b2, b3, b4⟩ := hy
          simp only at hy0 hy1 b1
          obtain ⟨x, ex, hx⟩ := ih k' g y1 y2 (upd X 3 y0) r' own' st1 st' (by omega) (by omega) l2 (fun j hj => by rw [hy1.a 16 (by omega)]; exact hpat j hj) b1 b2 ne1 len1 b3 b4 (by rw [hy1.i 15 (by omega)]; exact h15) (by rw [upd_self]; exact hy0) hrd
          refine ⟨x, ex, ?_⟩
          have step : f_M_compile_go (g + 1) 122 I A X = f_M_compile_go g 122 y1 y2 (upd X 3 y0) := by
            conv => lhs; unfold f_M_compile_go
            simp only [f_M_compile_122, if_neg t122, if_true, h15, x3]
            rw [if_neg (fun z => qk ((pn_le (by omega) (by omega)).mp z)), ey]
            rfl
          rw [step]
          refine hx.imp (fun z hz => ?_)
          obtain ⟨w1, w2, w3, w4⟩ := hz
          exact ⟨w1, fun j hj => (w2 j hj).trans (hy1.i j (by omega)), fun j hj => (w3 j hj).trans (hy1.a j hj), w4⟩
