theorem CAbs.pos {tn : Nat} {tx : Nat → Int32} {I : MI} {A : MA} {M : MI} {MB : MA} {L : ML} {r : CR} (h : CAbs tn tx I A M MB L r) {I' : MI} (h8 : I' 8 = I 8) (h10 : I' 10 = I 10) (h11 : I' 11 = I 11) (h12 : I' 12 = I 12) : CAbs tn tx I' A M MB L r :=
  ⟨h.n, h.nb, h.nx, h.ot, h.lab, by rw [h8]; exact h.d, h.db, h.cs, h.ce, h.rh, h.ou, by rw [h11]; exact h.fi, by rw [h10]; exact h.le, by rw [h12]; exact h.ta, h.tb, h.of, h.rk⟩
/-- what a set leaves -/
def SetOut (tn : Nat) (tx : Nat → Int32) (I : MI) (r : CR) (o : Lx) (z : Int32 × MI × MA × MI × MA × ML) : Prop := z.2.1 6 = I 6 ∧ match o with
  | Sum.inl p => z.2.1 9 = Int32.ofNat p
  | Sum.inr (t, k) => 0 < k ∧ z.2.1 7 = Int32.ofNat (k - 1) ∧ z.2.1 9 = I 9 ∧ CAbs tn tx z.2.1 z.2.2.1 z.2.2.2.1 z.2.2.2.2.1 z.2.2.2.2.2 (c_single r (ls_rl tn tx t.2.2.2))
theorem A_readSet_49 {tn : Nat} {tx : Nat → Int32} {sx : Nat → Int32} {s : Nat → Nat} {n b e : Nat} (hT : Txt tn tx) (hS : Slip sx s n) (hb : b ≤ n) (he : e = fbr s (n - b) b) (neg : Bool) {I : MI} {A : MA} {M : MI} {MB : MA} {L : ML} {r : CR} (h : CAbs tn tx I A M MB L r) (hn : r.n < 50)
    (h6 : I 6 = Int32.ofNat n) {s0 s1 : Int32} (hs : s1 + s0 = Int32.ofNat b) {X : Nat → Int32} {Y : Nat → Int64} (hX : X 1 = if neg then 1 else 0) :
    Res (f_P_readSet_49 sx (f_P_readSet_go sx wk_FUEL) I A M MB L X Y s0 s1) (SetOut tn tx I r (if e = n ∨ e = b then Lx.bad e else Lx.tok (Tk.sing (LSp.con (fun c => inset s e 24 b c != neg))) (e + 1))) := by
  have hnb := hS.nb
  obtain ⟨f1, f2, f3, f4⟩ := fbr_ok s (n - b) b
  rw [← he] at f1 f2 f3 f4
  have hen : e ≤ n := by omega
  have hee : e = n ∨ s e = 93 := by
    rcases f4 with z | z
    · exact Or.inl (by omega)
    · exact Or.inr z
  have htb := h.tb
  have hh : CAbs tn tx (upd I 7 (Int32.ofNat b)) A M MB L r := h.pos (upd_ne _ _ (by decide)) (upd_ne _ _ (by decide)) (upd_ne _ _ (by decide)) (upd_ne _ _ (by decide))
  have fu := wk_FUEL_big
  simp only [f_P_readSet_49, wk_let, hs, A_addNodeAsPart 1 hh.n hn hh.ta (show r.tail < 50 by omega), Option.bind_some, upd_self]
  refine A_readSet_go hS hen hee hn (e - b) b 0 wk_FUEL _ _ _ Y (Nat.le_refl _) f1 (by omega) (Nat.zero_le _) f3 ?_ ?_ ?_ ?_ ?_
  · simp only [upd, if_true, if_false, Nat.reduceEqDiff]; exact h6
  · simp only [upd, if_true, if_false, Nat.reduceEqDiff]
  · simp only [upd, if_true, if_false, Nat.reduceEqDiff]
  · simp only [upd, if_true, if_false, Nat.reduceEqDiff]; rfl
  · intro rc I' L' X' lo hi a1 a2 a3 a4 a5 a6 a7
    have i6 : I' 6 = Int32.ofNat n := by rw [a2 6 (by decide)]; simp only [upd, if_true, if_false, Nat.reduceEqDiff]; exact h6
    have i9 : I' 9 = I 9 := by rw [a2 9 (by decide)]; simp only [upd, if_true, if_false, Nat.reduceEqDiff]
    have x1 : X' 1 = if neg then 1 else 0 := by rw [a3 1 (by decide)]; simp only [upd, if_true, if_false, Nat.reduceEqDiff]; exact hX
    have x2 : X' 2 = Int32.ofNat b := by rw [a3 2 (by decide)]; simp only [upd, if_true, if_false, Nat.reduceEqDiff]
    have x3 : X' 3 = Int32.ofNat r.n := by rw [a3 3 (by decide)]; simp only [upd, if_true, if_false, Nat.reduceEqDiff]
    simp only [f_P_readSet_112, a1, i6, x1, x2, x3]
    have hbad : (e = n ∨ e = b) → Res (f_P_readSet_131 sx rc I' A (upd M 5 (Int32.ofNat (r.n + 1))) (va_up (va_up (va_up (va_up MB 0 (upd (MB 0) r.n 1)) 1 (upd (MB 1) r.n (-1))) 2 (upd (MB 2) r.n (-1))) 1 (upd (upd (MB 1) r.n (-1)) r.tail (Int32.ofNat r.n))) L' X' Y) (SetOut tn tx I r (if e = n ∨ e = b then Lx.bad e else Lx.tok (Tk.sing (LSp.con (fun c => inset s e 24 b c != neg))) (e + 1))) := by
      intro hz
      rw [if_pos hz]
      simp only [f_P_readSet_131, wk_let, a1]
      refine Res.mk ⟨?_, ?_⟩
      · simp only [upd, if_true, if_false, Nat.reduceEqDiff]; rw [i6, h6]
      · show upd I' 9 (Int32.ofNat e) 9 = _; exact upd_self _ _ _
    by_cases q1 : e = n
    · rw [if_pos ((pn_eq (by omega) (by omega)).mpr q1)]; exact hbad (Or.inl q1)
    · rw [if_neg (fun z => q1 ((pn_eq (by omega) (by omega)).mp z))]
      by_cases q2 : e = b
      · rw [if_pos ((pn_eq (by omega) (by omega)).mpr q2)]; exact hbad (Or.inr q2)
      · rw [if_neg (fun z => q2 ((pn_eq (by omega) (by omega)).mp z))]
        rw [if_neg (show ¬ (e = n ∨ e = b) from fun z => z.elim q1 q2)]
        have l3 : va_up (va_up L 3 (vp_updL (L 3) r.n 0)) 4 (vp_updL (L 4) r.n 0) 3 = vp_updL (L 3) r.n 0 := by simp only [va_up, if_true, if_false, Nat.reduceEqDiff]
        have l4 : va_up (va_up L 3 (vp_updL (L 3) r.n 0)) 4 (vp_updL (L 4) r.n 0) 4 = vp_updL (L 4) r.n 0 := by simp only [va_up, if_true, if_false, Nat.reduceEqDiff]
        rw [l3, vpl_vpl] at a4
        rw [l4, vpl_vpl] at a5
        have b6 : ∀ k, k < 64 → lb lo k = inset s e 24 b k := fun k hk => by rw [a6 k hk, l3, vpl_self, lb_zero, Bool.false_or]
        have b7 : ∀ k, k < 64 → lb hi k = inset s e 24 b (k + 64) := fun k hk => by rw [a7 k hk, l4, vpl_self, lb_zero, Bool.false_or]
        have hI' : ∀ {j : Nat}, j ≠ 7 → I' j = upd (upd (upd I 10 (Int32.ofNat r.tail)) 11 (Int32.ofNat r.n)) 12 (Int32.ofNat r.n) j := by
          intro j hj
          rw [a2 j hj]
          by_cases j12 : j = 12
          · rw [j12, upd_self, upd_self]
          · rw [upd_ne _ _ j12, upd_ne _ _ j12]
            by_cases j11 : j = 11
            · rw [j11, upd_self, upd_self]
            · rw [upd_ne _ _ j11, upd_ne _ _ j11]
              by_cases j10 : j = 10
              · rw [j10, upd_self, upd_self]
              · rw [upd_ne _ _ j10, upd_ne _ _ j10, upd_ne _ _ hj]
        cases neg
        · simp only [Bool.false_eq_true, if_false, if_true, f_P_readSet_152]
          refine Res.mk ⟨by show I' 6 = I 6; rw [i6, h6], by omega, a1, i9, ?_⟩
          rw [← tl_con_eq hT (lo := lo) (hi := hi) (P := fun c => inset s e 24 b c != false) (fun k hk => by rw [b6 k hk]; exact (Bool.bne_false _).symm) (fun k hk => by rw [b7 k hk]; exact (Bool.bne_false _).symm)]
          exact (h.single hn 1 lo hi rfl rfl rfl a4 a5).pos (hI' (by decide)) (hI' (by decide)) (hI' (by decide)) (hI' (by decide))
        · have h10 : ¬ (1 : Int32) = 0 := by decide
          simp only [if_true, if_neg h10]
          refine (A_takeOther hn).bind ?_
          rintro ⟨y0, y1, y2, y3⟩ ⟨g0, g1, g2, lo', hi', hlo', hhi', blo', bhi'⟩
          simp only at g0 g1 g2 hlo' hhi' blo' bhi'
          simp only [f_P_readSet_152]
          refine Res.mk ⟨by show I' 6 = I 6; rw [i6, h6], by omega, a1, i9, ?_⟩
          rw [← tl_con_eq hT (lo := lo') (hi := hi') (P := fun c => inset s e 24 b c != true) (fun k hk => by rw [blo' k hk, a4, vpl_self, b6 k hk]; exact (Bool.bne_true _).symm) (fun k hk => by rw [bhi' k hk, a5, vpl_self, b7 k hk]; exact (Bool.bne_true _).symm)]
          exact (h.single hn 1 lo' hi' rfl g1 g2 (by show y3 3 = _; rw [hlo', a4, vpl_vpl]) (by show y3 4 = _; rw [hhi', a5, vpl_vpl])).pos (hI' (by decide)) (hI' (by decide)) (hI' (by decide)) (hI' (by decide))
theorem A_readSet {tn : Nat} {tx : Nat → Int32} {sx : Nat → Int32} {s : Nat → Nat} {n k : Nat} (hT : Txt tn tx) (hS : Slip sx s n) (hk : k < n) {I : MI} {A : MA} {M : MI} {MB : MA} {L : ML} {r : CR} (h : CAbs tn tx I A M MB L r) (hn : r.n < 50)
    (h6 : I 6 = Int32.ofNat n) (h7 : I 7 = Int32.ofNat k) : Res (f_P_readSet sx I A M MB L) (SetOut tn tx I r (lxSet s n k)) := by
  have hnb := hS.nb
  have h10 : ¬ (1 : Int32) = 0 := by decide
  have no : lxNeg s n k = false → Res (f_P_readSet_33 sx (f_P_readSet_go sx wk_FUEL) I A M MB L (fun _ => 0) (fun _ => 0)) (SetOut tn tx I r (lxSet s n k)) := by
    intro hneg
    have hb : lxB s n k = k + 1 := by unfold lxB; rw [hneg]; rfl
    simp only [f_P_readSet_33, f_P_readSet_34, if_true]
    unfold lxSet
    rw [hneg]
    refine A_readSet_49 hT hS (by omega) rfl false h hn h6 (by rw [h7, hb]; exact pn_succ _) (upd_self _ _ _)
  unfold f_P_readSet f_P_readSet_e
  simp only [h6, h7, pn_succ]
  by_cases q : n ≤ k + 1
  · rw [if_pos ((pn_le (by omega) (by omega)).mpr q)]
    exact no (decide_eq_false (by omega))
  · rw [if_neg (fun z => q ((pn_le (by omega) (by omega)).mp z)), if_pos (pn_i24 (show k + 1 < 24 by omega)), pn_nat (show k + 1 < 2147483648 by omega)]
    obtain ⟨e1, c1⟩ := hS.ch (k + 1) (by omega)
    rw [e1]
    by_cases q2 : s (k + 1) = 94
    · rw [if_pos ((pn_eqc (x := 94) 94 rfl (by omega) (by omega)).mpr q2)]
      have hneg : lxNeg s n k = true := decide_eq_true ⟨by omega, q2⟩
      have hb : lxB s n k = k + 2 := by unfold lxB; rw [hneg]; rfl
      simp only [f_P_readSet_34, if_neg h10]
      unfold lxSet
      rw [hneg]
      refine A_readSet_49 hT hS (by omega) rfl true h hn h6 (by rw [h7, hb]; exact pn_add2 _) (upd_self _ _ _)
    · rw [if_neg (fun z => q2 ((pn_eqc (x := 94) 94 rfl (by omega) (by omega)).mp z))]
      exact no (decide_eq_false (fun z => q2 z.2))
def NextOut (tn : Nat) (tx : Nat → Int32) (s : Nat → Nat) (n k : Nat) (st : List RLv) (z : Int32 × MI × MA × MI × MA × ML) : Prop := z.2.1 6 = Int32.ofNat n ∧ match lx s n k with
  | Sum.inl p => z.2.1 9 = Int32.ofNat p
  | Sum.inr (t, k') => match stk tn tx t st with
    | none => z.2.1 9 = Int32.ofNat k
    | some st' => z.2.1 9 = -1 ∧ z.2.1 7 = Int32.ofNat k' ∧ k < k' ∧ k' ≤ n ∧ ∃ r own, CAbs tn tx z.2.1 z.2.2.1 z.2.2.2.1 z.2.2.2.2.1 z.2.2.2.2.2 r ∧ CInv r own st' ∧ r.n ≤ 2 + 2 * k'
/-- a step that read one character -/
theorem next_one {tn : Nat} {tx : Nat → Int32} {sx : Nat → Int32} {s : Nat → Nat} {n k : Nat} {st st' : List RLv} {t : Tk} (hkn : k < n) (hl : lx s n k = Lx.tok t (k + 1)) (hst : stk tn tx t st = some st') {I : MI} (h6 : I 6 = Int32.ofNat n) (h7 : I 7 = Int32.ofNat k) (h9 : I 9 = -1)
    {r' : CR} (hr : ∃ own', CInv r' own' st') (hrn : r'.n ≤ 2 + 2 * (k + 1)) {z : Int32 × MI × MA × MI × MA × ML} (h : CStep tn tx I r' z) (X : Nat → Int32) (Y : Nat → Int64) :
    Res (f_P_readNext_151 sx z.2.1 z.2.2.1 z.2.2.2.1 z.2.2.2.2.1 z.2.2.2.2.2 X Y) (NextOut tn tx s n k st) := by
  obtain ⟨hC, e6, e7, e9⟩ := h
  obtain ⟨own', hr⟩ := hr
  simp only [f_P_readNext_151, wk_let]
  refine Res.mk ⟨?_, ?_⟩
  · dsimp only; rw [upd_ne _ _ (by decide), e6]; exact h6
  · rw [hl]
    simp only [hst]
    refine ⟨?_, ?_, by omega, by omega, r', own', ?_, hr, hrn⟩
    · rw [upd_ne _ _ (by decide), e9]; exact h9
    · rw [upd_self, e7, h7]; exact pn_succ _
    · exact hC.pos (upd_ne _ _ (by decide)) (upd_ne _ _ (by decide)) (upd_ne _ _ (by decide)) (upd_ne _ _ (by decide))
/-- a step that was refused at its place -/
theorem next_bad {tn : Nat} {tx : Nat → Int32} {sx : Nat → Int32} {s : Nat → Nat} {n k p : Nat} {st : List RLv} (hl : lx s n k = Lx.bad p ∨ (p = k ∧ ∃ t k', lx s n k = Lx.tok t k' ∧ stk tn tx t st = none)) {I' : MI} (h6 : I' 6 = Int32.ofNat n) (h9 : I' 9 = Int32.ofNat p)
    {A : MA} {M : MI} {MB : MA} {L : ML} (X : Nat → Int32) (Y : Nat → Int64) : Res (f_P_readNext_151 sx I' A M MB L X Y) (NextOut tn tx s n k st) := by
  simp only [f_P_readNext_151, wk_let]
  refine Res.mk ⟨?_, ?_⟩
  · dsimp only; rw [upd_ne _ _ (by decide)]; exact h6
  · rcases hl with hl | ⟨e, t, k', hl, hs⟩
    · rw [hl]
      simp only
      rw [upd_ne _ _ (by decide)]; exact h9
    · rw [hl]
      simp only [hs]
      rw [upd_ne _ _ (by decide), h9, e]
theorem CInv.len {r : CR} {own : Nat → Nat} {st : List RLv} (h : CInv r own st) : st.length = r.d + 1 := by
  cases st with
  | nil => exact h.elim
  | cons x s => rw [h.1]; rfl
theorem A_repeatNone {sx : Nat → Int32} {I : MI} {A : MA} {M : MI} {MB : MA} {L : ML} {k : Int32} (h : I 11 = -1) : f_P_repeatPart sx I A M MB L k = some (0, upd I 9 (I 7), A, M, MB, L) := by
  simp only [f_P_repeatPart, if_pos h, wk_let]
theorem A_repeat {tn : Nat} {tx : Nat → Int32} {sx : Nat → Int32} {s : Nat → Nat} {n k : Nat} {I : MI} {A : MA} {M : MI} {MB : MA} {L : ML} {r : CR} {own : Nat → Nat} {st : List RLv} (h : CAbs tn tx I A M MB L r) (hC : CInv r own st) (hrn : r.n ≤ 2 + 2 * k) (hn24 : n ≤ 24) (hk : k < n)
    (h6 : I 6 = Int32.ofNat n) (h7 : I 7 = Int32.ofNat k) (h9 : I 9 = -1) (leave again : Bool) (c : Int32) (hc : c = if leave then (if again then 42 else 63) else 43) (hla : leave = false → again = true) (hl : lx s n k = Lx.tok (Tk.rep leave again) (k + 1)) (X : Nat → Int32) (Y : Nat → Int64) :
    Res ((f_P_repeatPart sx I A M MB L c).bind (fun z1 => f_P_readNext_151 sx z1.2.1 z1.2.2.1 z1.2.2.2.1 z1.2.2.2.2.1 z1.2.2.2.2.2 X Y)) (NextOut tn tx s n k st) := by
  cases st with
  | nil => exact hC.elim
  | cons x s' =>
    obtain ⟨cc, q, p⟩ := x
    cases p with
    | none =>
      have hf : r.first = none := (hC.2.1.pn rfl).1
      have hfi := h.fi
      rw [hf] at hfi
      rw [A_repeatNone hfi]
      exact next_bad (sx := sx) (I' := upd I 9 (I 7)) (p := k) (Or.inr ⟨rfl, _, _, hl, rfl⟩) (by rw [upd_ne _ _ (by decide)]; exact h6) (by rw [upd_self]; exact h7) X Y
    | some p =>
      obtain ⟨f, hf, _⟩ := hC.2.1.ps p rfl
      cases leave with
      | false =>
        have ha := hla rfl
        subst ha
        subst hc
        refine (h.loop (by omega) hf 43 (by decide)).bind (fun z hz => ?_)
        exact next_one (sx := sx) hk hl rfl h6 h7 h9 (c_loop_inv hC hf false) (show r.n + 1 ≤ _ by omega) hz X Y
      | true =>
        cases again with
        | true =>
          subst hc
          refine (h.loop (by omega) hf 42 (by decide)).bind (fun z hz => ?_)
          exact next_one (sx := sx) hk hl rfl h6 h7 h9 (c_loop_inv hC hf true) (show r.n + 1 ≤ _ by omega) hz X Y
        | false =>
          subst hc
          refine (h.opt (by omega) hf).bind (fun z hz => ?_)
          exact next_one (sx := sx) hk hl rfl h6 h7 h9 (c_opt_inv hC hf) (show r.n + 2 ≤ _ by omega) hz X Y
theorem A_readNext {tn : Nat} {tx : Nat → Int32} {sx : Nat → Int32} {s : Nat → Nat} {n k : Nat} (hT : Txt tn tx) (hS : Slip sx s n) (hk : k < n) {I : MI} {A : MA} {M : MI} {MB : MA} {L : ML} {r : CR} {own : Nat → Nat} {st : List RLv} (h : CAbs tn tx I A M MB L r) (hC : CInv r own st) (hrn : r.n ≤ 2 + 2 * k)
    (h6 : I 6 = Int32.ofNat n) (h7 : I 7 = Int32.ofNat k) (h9 : I 9 = -1) : Res (f_P_readNext sx I A M MB L) (NextOut tn tx s n k st) := by
  have hn24 := hS.nb
  obtain ⟨e0, c0⟩ := hS.ch k hk
  have hlen := hC.len
  simp only [f_P_readNext, h7, pn_i24 (show k < 24 by omega), if_true, pn_nat (show k < 2147483648 by omega), e0]
  have heq : ∀ (l : Nat) (x : Int32), x = Int32.ofNat l → l < 128 → (Int32.ofNat (s k) = x ↔ s k = l) := fun l x hx hl => pn_eqc l hx (by omega) (by omega)
  by_cases q40 : s k = 40
  · rw [if_pos ((heq 40 40 rfl (by omega)).mpr q40)]
    have hl : lx s n k = Lx.tok Tk.opn (k + 1) := by unfold lx; rw [if_pos q40]
    by_cases hd : r.d = 8
    · have : f_P_openGroup sx I A M MB L = some (0, upd I 9 (I 7), A, M, MB, L) := by
        have : Int32.ofNat r.d = 8 := (pn_eqc 8 rfl (by omega) (by omega)).mpr hd
        simp only [f_P_openGroup, h.d, if_pos this, wk_let]
      rw [this]
      refine next_bad (sx := sx) (I' := upd I 9 (I 7)) (p := k) (Or.inr ⟨rfl, _, _, hl, ?_⟩) (by rw [upd_ne _ _ (by decide)]; exact h6) (by rw [upd_self]; exact h7) (fun _ => 0) (fun _ => 0)
      rw [stk_opn, if_pos (by omega)]
    · have hdb := h.db
      refine (h.openG (by omega) (by omega)).bind (fun z hz => ?_)
      refine next_one (sx := sx) hk hl ?_ h6 h7 h9 (c_open_inv hC) (show r.n + 2 ≤ _ by omega) hz (fun _ => 0) (fun _ => 0)
      rw [stk_opn, if_neg (by omega)]
  rw [if_neg (fun z => q40 ((heq 40 40 rfl (by omega)).mp z))]
  by_cases q41 : s k = 41
  · rw [if_pos ((heq 41 41 rfl (by omega)).mpr q41)]
    have hl : lx s n k = Lx.tok Tk.cls (k + 1) := by unfold lx; rw [if_neg q40, if_pos q41]
    by_cases hd : r.d = 0
    · have : f_P_closeGroup sx I A M MB L = some (0, upd I 9 (I 7), A, M, MB, L) := by
        have : Int32.ofNat r.d = 0 := (pn_eqc 0 rfl (by omega) (by omega)).mpr hd
        simp only [f_P_closeGroup, h.d, if_pos this, wk_let]
      rw [this]
      refine next_bad (sx := sx) (I' := upd I 9 (I 7)) (p := k) (Or.inr ⟨rfl, _, _, hl, ?_⟩) (by rw [upd_ne _ _ (by decide)]; exact h6) (by rw [upd_self]; exact h7) (fun _ => 0) (fun _ => 0)
      rw [stk_cls, if_pos (by omega)]
    · cases st with
      | nil => exact hC.elim
      | cons x s' => cases s' with
        | nil => simp only [List.length_cons, List.length_nil] at hlen; omega
        | cons y s' =>
          refine (h.closeG (by omega)).bind (fun z hz => ?_)
          refine next_one (sx := sx) hk hl ?_ h6 h7 h9 (c_close_inv hC) (show r.n ≤ _ by omega) hz (fun _ => 0) (fun _ => 0)
          rw [stk_cls, if_neg (by simp only [List.length_cons]; omega)]
  rw [if_neg (fun z => q41 ((heq 41 41 rfl (by omega)).mp z))]
  by_cases q42 : s k = 42
  · rw [if_pos ((heq 42 42 rfl (by omega)).mpr q42)]
    have hl : lx s n k = Lx.tok (Tk.rep true true) (k + 1) := by unfold lx; rw [if_neg q40, if_neg q41, if_pos q42]
    exact A_repeat h hC hrn hn24 hk h6 h7 h9 true true _ (by rw [q42]; rfl) (fun z => by cases z) hl _ _
  rw [if_neg (fun z => q42 ((heq 42 42 rfl (by omega)).mp z))]
  by_cases q43 : s k = 43
  · rw [if_pos ((heq 43 43 rfl (by omega)).mpr q43)]
    have hl : lx s n k = Lx.tok (Tk.rep false true) (k + 1) := by unfold lx; rw [if_neg q40, if_neg q41, if_neg q42, if_pos q43]
    exact A_repeat h hC hrn hn24 hk h6 h7 h9 false true _ (by rw [q43]; rfl) (fun z => rfl) hl _ _
  rw [if_neg (fun z => q43 ((heq 43 43 rfl (by omega)).mp z))]
  by_cases q63 : s k = 63
  · rw [if_pos ((heq 63 63 rfl (by omega)).mpr q63)]
    have hl : lx s n k = Lx.tok (Tk.rep true false) (k + 1) := by unfold lx; rw [if_neg q40, if_neg q41, if_neg q42, if_neg q43, if_pos q63]
    exact A_repeat h hC hrn hn24 hk h6 h7 h9 true false _ (by rw [q63]; rfl) (fun z => by cases z) hl _ _
  rw [if_neg (fun z => q63 ((heq 63 63 rfl (by omega)).mp z))]
  by_cases q91 : s k = 91
  · rw [if_pos ((heq 91 91 rfl (by omega)).mpr q91)]
    have hl : lx s n k = lxSet s n k := by unfold lx; rw [if_neg q40, if_neg q41, if_neg q42, if_neg q43, if_neg q63, if_pos q91]
    refine (A_readSet hT hS hk h (by omega) h6 h7).bind (fun z hz => ?_)
    obtain ⟨z6, hz⟩ := hz
    unfold lxSet at hl hz
    by_cases q : lxE s n k = n ∨ lxE s n k = lxB s n k
    · rw [if_pos q] at hl hz
      exact next_bad (sx := sx) (Or.inl hl) (by rw [z6]; exact h6) hz (fun _ => 0) (fun _ => 0)
    · rw [if_neg q] at hl hz
      obtain ⟨_, z7, z9, hz⟩ := hz
      simp only [f_P_readNext_151, wk_let]
      have hE : k < lxE s n k + 1 ∧ lxE s n k + 1 ≤ n := by
        obtain ⟨f1, f2, f3, f4⟩ := fbr_ok s (n - lxB s n k) (lxB s n k)
        have hb1 : k + 1 ≤ lxB s n k := by unfold lxB; split <;> omega
        have hb2 : lxB s n k ≤ n := by
          unfold lxB
          split
          · rename_i hh
            have := of_decide_eq_true hh
            omega
          · omega
        have e : lxE s n k = fbr s (n - lxB s n k) (lxB s n k) := rfl
        rw [← e] at f1 f2
        omega
      obtain ⟨own', hinv⟩ := c_single_inv hC (ls_rl tn tx (LSp.con (fun c => inset s (lxE s n k) 24 (lxB s n k) c != lxNeg s n k)))
      refine Res.mk ⟨?_, ?_⟩
      · dsimp only; rw [upd_ne _ _ (by decide), z6]; exact h6
      · rw [hl]
        simp only [stk_sing]
        refine ⟨?_, ?_, hE.1, hE.2, _, own', hz.pos (upd_ne _ _ (by decide)) (upd_ne _ _ (by decide)) (upd_ne _ _ (by decide)) (upd_ne _ _ (by decide)), hinv, ?_⟩
        · rw [upd_ne _ _ (by decide), z9]; exact h9
        · rw [upd_self, z7, Nat.add_sub_cancel]; exact pn_succ _
        · show r.n + 1 ≤ _; omega
  rw [if_neg (fun z => q91 ((heq 91 91 rfl (by omega)).mp z))]
  by_cases q92 : s k = 92
  · rw [if_pos ((heq 92 92 rfl (by omega)).mpr q92)]
    have hl0 : lx s n k = (if k + 1 = n then Lx.bad n else Lx.tok (Tk.sing (LSp.con (fun c => decide (c = s (k + 1))))) (k + 2)) := by unfold lx; rw [if_neg q40, if_neg q41, if_neg q42, if_neg q43, if_neg q63, if_neg q91, if_pos q92]
    have i6 : upd I 7 (Int32.ofNat (k + 1)) 6 = Int32.ofNat n := by rw [upd_ne _ _ (by decide)]; exact h6
    simp only [f_P_readEscaped, wk_let, h7, pn_succ, upd_self, i6]
    by_cases q : k + 1 = n
    · rw [if_pos q] at hl0
      rw [if_pos ((pn_eq (by omega) (by omega)).mpr q)]
      exact next_bad (sx := sx) (I' := upd (upd I 7 (Int32.ofNat (k + 1))) 9 (Int32.ofNat (k + 1))) (Or.inl hl0) (by rw [upd_ne _ _ (by decide), upd_ne _ _ (by decide)]; exact h6) (by rw [upd_self, q]) (fun _ => 0) (fun _ => 0)
    · rw [if_neg q] at hl0
      rw [if_neg (fun z => q ((pn_eq (by omega) (by omega)).mp z)), if_pos (pn_i24 (show k + 1 < 24 by omega)), pn_nat (show k + 1 < 2147483648 by omega)]
      obtain ⟨e1, c1⟩ := hS.ch (k + 1) (by omega)
      rw [e1]
      have h' : CAbs tn tx (upd I 7 (Int32.ofNat (k + 1))) A M MB L r := h.pos (upd_ne _ _ (by decide)) (upd_ne _ _ (by decide)) (upd_ne _ _ (by decide)) (upd_ne _ _ (by decide))
      obtain ⟨z, hz0, hz⟩ := A_readLiteral (sx := sx) hT h' (show r.n < 50 by omega) c1
      rw [hz0]
      simp only [Option.bind_some, f_P_readNext_151, wk_let]
      obtain ⟨hz, z6, z7, z9⟩ := hz
      obtain ⟨own', hinv⟩ := c_single_inv hC (ls_rl tn tx (LSp.con (fun c => decide (c = s (k + 1)))))
      refine Res.mk ⟨?_, ?_⟩
      · dsimp only; rw [upd_ne _ _ (by decide), z6, upd_ne _ _ (by decide)]; exact h6
      · rw [hl0]
        simp only [stk_sing]
        refine ⟨?_, ?_, by omega, by omega, _, own', hz.pos (upd_ne _ _ (by decide)) (upd_ne _ _ (by decide)) (upd_ne _ _ (by decide)) (upd_ne _ _ (by decide)), hinv, ?_⟩
        · rw [upd_ne _ _ (by decide), z9, upd_ne _ _ (by decide)]; exact h9
        · rw [upd_self, z7, upd_self]; exact pn_succ _
        · show r.n + 1 ≤ _; omega
  rw [if_neg (fun z => q92 ((heq 92 92 rfl (by omega)).mp z))]
  by_cases q93 : s k = 93
  · rw [if_pos ((heq 93 93 rfl (by omega)).mpr q93)]
    have hl : lx s n k = Lx.bad k := by unfold lx; rw [if_neg q40, if_neg q41, if_neg q42, if_neg q43, if_neg q63, if_neg q91, if_neg q92, if_pos q93]
    simp only [wk_let]
    exact next_bad (sx := sx) (Or.inl hl) (by rw [upd_ne _ _ (by decide)]; exact h6) (upd_self _ _ _) (fun _ => 0) (fun _ => 0)
  rw [if_neg (fun z => q93 ((heq 93 93 rfl (by omega)).mp z))]
  by_cases q124 : s k = 124
  · rw [if_pos ((heq 124 124 rfl (by omega)).mpr q124)]
    have hl : lx s n k = Lx.tok Tk.bar (k + 1) := by unfold lx; rw [if_neg q40, if_neg q41, if_neg q42, if_neg q43, if_neg q63, if_neg q91, if_neg q92, if_neg q93, if_pos q124]
    refine (h.bar (by omega)).bind (fun z hz => ?_)
    exact next_one (sx := sx) hk hl rfl h6 h7 h9 (c_bar_inv hC) (show r.n + 1 ≤ _ by omega) hz (fun _ => 0) (fun _ => 0)
  rw [if_neg (fun z => q124 ((heq 124 124 rfl (by omega)).mp z))]
  have hbase : ∀ o, (if s k = 36 then Lx.tok (Tk.sing LSp.fin) (k + 1) else if s k = 46 then Lx.tok (Tk.sing (LSp.con (fun c => decide (c ≠ 10)))) (k + 1) else if s k = 94 then Lx.tok (Tk.sing LSp.beg) (k + 1) else Lx.tok (Tk.sing (LSp.con (fun c => decide (c = s k)))) (k + 1)) = o → lx s n k = o := by
    intro o ho
    unfold lx; rw [if_neg q40, if_neg q41, if_neg q42, if_neg q43, if_neg q63, if_neg q91, if_neg q92, if_neg q93, if_neg q124]; exact ho
  simp only [f_P_readSingle]
  by_cases q36 : s k = 36
  · rw [if_pos ((heq 36 36 rfl (by omega)).mpr q36)]
    have htb := h.tb
    simp only [A_addNodeAsPart 3 h.n (show r.n < 50 by omega) h.ta (show r.tail < 50 by omega), Option.bind_some, f_P_readSingle_66]
    refine next_one (sx := sx) (r' := c_single r (ls_rl tn tx LSp.fin)) (z := (0, _, _, _, _, _)) hk (hbase _ (if_pos q36)) rfl h6 h7 h9 (c_single_inv hC _) (show r.n + 1 ≤ _ by omega) ⟨h.single (by omega) 3 0 0 rfl rfl rfl ?_ ?_, ?_, ?_, ?_⟩ (fun _ => 0) (fun _ => 0)
    all_goals rfl
  rw [if_neg (fun z => q36 ((heq 36 36 rfl (by omega)).mp z))]
  by_cases q46 : s k = 46
  · rw [if_pos ((heq 46 46 rfl (by omega)).mpr q46)]
    obtain ⟨z, hz0, hz⟩ := A_readDot (sx := sx) hT h (show r.n < 50 by omega)
    rw [hz0]
    simp only [Option.bind_some, f_P_readSingle_66]
    exact next_one (sx := sx) (z := (0, z.2.1, z.2.2.1, z.2.2.2.1, z.2.2.2.2.1, z.2.2.2.2.2)) hk (hbase _ (by rw [if_neg q36, if_pos q46])) rfl h6 h7 h9 (c_single_inv hC _) (show r.n + 1 ≤ _ by omega) hz (fun _ => 0) (fun _ => 0)
  rw [if_neg (fun z => q46 ((heq 46 46 rfl (by omega)).mp z))]
  by_cases q94 : s k = 94
  · rw [if_pos ((heq 94 94 rfl (by omega)).mpr q94)]
    have htb := h.tb
    simp only [A_addNodeAsPart 2 h.n (show r.n < 50 by omega) h.ta (show r.tail < 50 by omega), Option.bind_some, f_P_readSingle_66]
    refine next_one (sx := sx) (r' := c_single r (ls_rl tn tx LSp.beg)) (z := (0, _, _, _, _, _)) hk (hbase _ (by rw [if_neg q36, if_neg q46, if_pos q94])) rfl h6 h7 h9 (c_single_inv hC _) (show r.n + 1 ≤ _ by omega) ⟨h.single (by omega) 2 0 0 rfl rfl rfl ?_ ?_, ?_, ?_, ?_⟩ (fun _ => 0) (fun _ => 0)
    all_goals rfl
  rw [if_neg (fun z => q94 ((heq 94 94 rfl (by omega)).mp z))]
  obtain ⟨z, hz0, hz⟩ := A_readLiteral (sx := sx) hT h (show r.n < 50 by omega) c0
  rw [hz0]
  simp only [Option.bind_some, f_P_readSingle_66]
  exact next_one (sx := sx) (z := (0, z.2.1, z.2.2.1, z.2.2.2.1, z.2.2.2.2.1, z.2.2.2.2.2)) hk (hbase _ (by rw [if_neg q36, if_neg q46, if_neg q94])) rfl h6 h7 h9 (c_single_inv hC _) (show r.n + 1 ≤ _ by omega) hz (fun _ => 0) (fun _ => 0)
