/-- an automaton of the class that means a relation on the places of a text -/
abbrev CDone (tn : Nat) (tx : Nat → Int32) (M : MI) (MB : MA) (L : ML) (n : Nat) (nx ot : Nat → Option Nat) (lab : Nat → Rl) (cs ce : Nat) (R : Rl) : Prop := (M 5 = Int32.ofNat n) ∧ (n ≤ 50) ∧ (∀ u, u < n → nd n (MB 1 u) (nx u)) ∧ (∀ u, u < n → nd n (MB 2 u) (ot u)) ∧ (∀ u, u < n → lab u = cLab tn tx (MB 0 u) (L 3 u) (L 4 u)) ∧ (M 6 = Int32.ofNat cs) ∧ (M 7 = Int32.ofNat ce) ∧ (Fr (cF nx ot) lab (fun u => u < n) cs ce R) ∧ (lab ce = rl_id) ∧ (∀ u, u < n → ot u ≠ none → MB 0 u = 0)
theorem CDone.hn {tn : Nat} {tx : Nat → Int32} {M : MI} {MB : MA} {L : ML} {n : Nat} {nx ot : Nat → Option Nat} {lab : Nat → Rl} {cs ce : Nat} {R : Rl} (h_ : CDone tn tx M MB L n nx ot lab cs ce R) : M 5 = Int32.ofNat n := h_.1
theorem CDone.hnb {tn : Nat} {tx : Nat → Int32} {M : MI} {MB : MA} {L : ML} {n : Nat} {nx ot : Nat → Option Nat} {lab : Nat → Rl} {cs ce : Nat} {R : Rl} (h_ : CDone tn tx M MB L n nx ot lab cs ce R) : n ≤ 50 := h_.2.1
theorem CDone.hnx {tn : Nat} {tx : Nat → Int32} {M : MI} {MB : MA} {L : ML} {n : Nat} {nx ot : Nat → Option Nat} {lab : Nat → Rl} {cs ce : Nat} {R : Rl} (h_ : CDone tn tx M MB L n nx ot lab cs ce R) : ∀ u, u < n → nd n (MB 1 u) (nx u) := h_.2.2.1
theorem CDone.hot {tn : Nat} {tx : Nat → Int32} {M : MI} {MB : MA} {L : ML} {n : Nat} {nx ot : Nat → Option Nat} {lab : Nat → Rl} {cs ce : Nat} {R : Rl} (h_ : CDone tn tx M MB L n nx ot lab cs ce R) : ∀ u, u < n → nd n (MB 2 u) (ot u) := h_.2.2.2.1
theorem CDone.hlab {tn : Nat} {tx : Nat → Int32} {M : MI} {MB : MA} {L : ML} {n : Nat} {nx ot : Nat → Option Nat} {lab : Nat → Rl} {cs ce : Nat} {R : Rl} (h_ : CDone tn tx M MB L n nx ot lab cs ce R) : ∀ u, u < n → lab u = cLab tn tx (MB 0 u) (L 3 u) (L 4 u) := h_.2.2.2.2.1
theorem CDone.hcs {tn : Nat} {tx : Nat → Int32} {M : MI} {MB : MA} {L : ML} {n : Nat} {nx ot : Nat → Option Nat} {lab : Nat → Rl} {cs ce : Nat} {R : Rl} (h_ : CDone tn tx M MB L n nx ot lab cs ce R) : M 6 = Int32.ofNat cs := h_.2.2.2.2.2.1
theorem CDone.hce {tn : Nat} {tx : Nat → Int32} {M : MI} {MB : MA} {L : ML} {n : Nat} {nx ot : Nat → Option Nat} {lab : Nat → Rl} {cs ce : Nat} {R : Rl} (h_ : CDone tn tx M MB L n nx ot lab cs ce R) : M 7 = Int32.ofNat ce := h_.2.2.2.2.2.2.1
theorem CDone.fr {tn : Nat} {tx : Nat → Int32} {M : MI} {MB : MA} {L : ML} {n : Nat} {nx ot : Nat → Option Nat} {lab : Nat → Rl} {cs ce : Nat} {R : Rl} (h_ : CDone tn tx M MB L n nx ot lab cs ce R) : Fr (cF nx ot) lab (fun u => u < n) cs ce R := h_.2.2.2.2.2.2.2.1
theorem CDone.hid {tn : Nat} {tx : Nat → Int32} {M : MI} {MB : MA} {L : ML} {n : Nat} {nx ot : Nat → Option Nat} {lab : Nat → Rl} {cs ce : Nat} {R : Rl} (h_ : CDone tn tx M MB L n nx ot lab cs ce R) : lab ce = rl_id := h_.2.2.2.2.2.2.2.2.1
theorem CDone.hof {tn : Nat} {tx : Nat → Int32} {M : MI} {MB : MA} {L : ML} {n : Nat} {nx ot : Nat → Option Nat} {lab : Nat → Rl} {cs ce : Nat} {R : Rl} (h_ : CDone tn tx M MB L n nx ot lab cs ce R) : ∀ u, u < n → ot u ≠ none → MB 0 u = 0 := h_.2.2.2.2.2.2.2.2.2
def CMean (tn : Nat) (tx : Nat → Int32) (M : MI) (MB : MA) (L : ML) (R : Rl) : Prop := ∃ n nx ot lab cs ce, CDone tn tx M MB L n nx ot lab cs ce R
theorem lx_bad_le {s : Nat → Nat} {n k p : Nat} (hk : k < n) (h : lx s n k = Lx.bad p) : p ≤ n := by
  unfold lx at h
  by_cases q40 : s k = 40
  · rw [if_pos q40] at h; cases h
  rw [if_neg q40] at h
  by_cases q41 : s k = 41
  · rw [if_pos q41] at h; cases h
  rw [if_neg q41] at h
  by_cases q42 : s k = 42
  · rw [if_pos q42] at h; cases h
  rw [if_neg q42] at h
  by_cases q43 : s k = 43
  · rw [if_pos q43] at h; cases h
  rw [if_neg q43] at h
  by_cases q63 : s k = 63
  · rw [if_pos q63] at h; cases h
  rw [if_neg q63] at h
  by_cases q91 : s k = 91
  · rw [if_pos q91] at h
    unfold lxSet at h
    split at h
    · cases h
      obtain ⟨f1, f2, f3, f4⟩ := fbr_ok s (n - lxB s n k) (lxB s n k)
      have hb2 : lxB s n k ≤ n := by
        unfold lxB
        split
        · rename_i hh
          have := of_decide_eq_true hh
          omega
        · omega
      show fbr s (n - lxB s n k) (lxB s n k) ≤ n
      omega
    · cases h
  rw [if_neg q91] at h
  by_cases q92 : s k = 92
  · rw [if_pos q92] at h
    split at h
    · cases h; omega
    · cases h
  rw [if_neg q92] at h
  by_cases q93 : s k = 93
  · rw [if_pos q93] at h; cases h; omega
  rw [if_neg q93] at h
  by_cases q124 : s k = 124
  · rw [if_pos q124] at h; cases h
  rw [if_neg q124] at h
  by_cases q36 : s k = 36
  · rw [if_pos q36] at h; cases h
  rw [if_neg q36] at h
  by_cases q46 : s k = 46
  · rw [if_pos q46] at h; cases h
  rw [if_neg q46] at h
  by_cases q94 : s k = 94
  · rw [if_pos q94] at h; cases h
  rw [if_neg q94] at h
  cases h
/-- what the reading leaves -/
def ReadOut (tn : Nat) (tx : Nat → Int32) (n : Nat) (o : Rd) (z : Int32 × MI × MA × MI × MA × ML) : Prop := match o with
  | Sum.inl p => z.1 = Int32.ofNat p ∧ p ≤ n
  | Sum.inr st => z.1 = -1 ∧ ∃ x, st = [x] ∧ CMean tn tx z.2.2.2.1 z.2.2.2.2.1 z.2.2.2.2.2 (rl_all x)
theorem A_read_77bad {tn : Nat} {tx : Nat → Int32} {sx : Nat → Int32} {n p : Nat} (hp : p ≤ n) (hn : n ≤ 24) {I : MI} {A : MA} {M : MI} {MB : MA} {L : ML} {X : Nat → Int32} {Y : Nat → Int64} (h9 : I 9 = Int32.ofNat p) (rc : Nat → MI → MA → MI → MA → ML → (Nat → Int32) → (Nat → Int64) → Option (Int32 × MI × MA × MI × MA × ML)) :
    Res (f_P_read_77 sx rc I A M MB L X Y) (ReadOut tn tx n (Rd.fault p)) := by
  have h : ¬ Int32.ofNat p = -1 := pn_ne1 (by omega)
  simp only [f_P_read_77, f_P_read_100, f_P_read_112, h9, if_neg h]
  exact Res.mk ⟨rfl, hp⟩
theorem A_read_end {tn : Nat} {tx : Nat → Int32} {sx : Nat → Int32} {n : Nat} (hn : n ≤ 24) {I : MI} {A : MA} {M : MI} {MB : MA} {L : ML} {r : CR} {own : Nat → Nat} {st : List RLv} (h : CAbs tn tx I A M MB L r) (hC : CInv r own st) (h6 : I 6 = Int32.ofNat n) (h9 : I 9 = -1) {X : Nat → Int32} {Y : Nat → Int64}
    (rc : Nat → MI → MA → MI → MA → ML → (Nat → Int32) → (Nat → Int64) → Option (Int32 × MI × MA × MI × MA × ML)) :
    Res (f_P_read_77 sx rc I A M MB L X Y) (ReadOut tn tx n (if 1 < st.length then Rd.fault n else Rd.done st)) := by
  have hlen := hC.len
  have hdb := h.db
  by_cases q : 1 < st.length
  · rw [if_pos q]
    have h8 : ¬ Int32.ofNat r.d ≤ 0 := fun z => by have := (pn_lec (x := 0) 0 rfl (by omega) (by omega)).mp z; omega
    have hne : ¬ Int32.ofNat n = -1 := pn_ne1 (by omega)
    simp only [f_P_read_77, h9, if_true, h.d, if_neg h8, wk_let, f_P_read_100, f_P_read_112, upd_self, h6, if_neg hne]
    exact Res.mk ⟨rfl, Nat.le_refl _⟩
  · rw [if_neg q]
    cases st with
    | nil => exact hC.elim
    | cons x s' =>
      cases s' with
      | cons y s' => simp only [List.length_cons] at q; omega
      | nil =>
        simp only [List.length_cons, List.length_nil] at hlen
        have hd0 : r.d = 0 := by omega
        have h8 : Int32.ofNat r.d ≤ 0 := (pn_lec (x := 0) 0 rfl (by omega) (by omega)).mpr (by omega)
        obtain ⟨es, hs⟩ := h.cs 0 (by omega)
        obtain ⟨ec, hc⟩ := h.ce 0 (by omega)
        have htb := h.tb
        have hnb := h.nb
        have z0 : (0 : Int32).toNatClampNeg = 0 := rfl
        have i0 : wk_inb 0 9 = true := rfl
        simp only [f_P_read_77, h9, if_true, h.d, if_pos h8, f_P_read_100, f_P_finish, i0, h.ta, pn_i50 (show r.tail < 50 by omega), wk_let, z0, es, ec, Option.bind_some, f_P_read_112, pn_nat (show r.tail < 2147483648 by omega)]
        obtain ⟨hF, hid⟩ := c_fin_inv hC
        refine Res.mk ⟨rfl, x, rfl, r.n, sU r.nx r.tail (some (r.ce 0)), r.ot, r.lab, r.cs 0, r.ce 0, ?_, h.nb, fun u hu => ?_, fun u hu => ?_, fun u hu => ?_, ?_, ?_, hF, hid, fun u hu hne => ?_⟩
        · dsimp only; rw [upd_ne _ _ (by decide), upd_ne _ _ (by decide)]; exact h.n
        · dsimp only; rw [va_up_self]; exact nd_upd (fun _ => h.nx u hu) ⟨hc, rfl⟩
        · dsimp only; rw [va_up_ne _ _ (by decide)]; exact h.ot u hu
        · dsimp only; rw [va_up_ne _ _ (by decide)]; exact h.lab u hu
        · dsimp only; rw [upd_ne _ _ (by decide), upd_self]
        · dsimp only; rw [upd_self]
        · dsimp only; rw [va_up_ne _ _ (by decide)]; exact h.of u hu hne
theorem A_read_go {tn : Nat} {tx : Nat → Int32} {sx : Nat → Int32} {s : Nat → Nat} {n : Nat} (hT : Txt tn tx) (hS : Slip sx s n) :
    ∀ (m k t fuel : Nat) (I : MI) (A : MA) (M : MI) (MB : MA) (L : ML) (X : Nat → Int32) (Y : Nat → Int64) (r : CR) (own : Nat → Nat) (st : List RLv), n - k < m → m < fuel → k ≤ n → t ≤ k → CAbs tn tx I A M MB L r → CInv r own st → r.n ≤ 2 + 2 * k → I 6 = Int32.ofNat n → I 7 = Int32.ofNat k → I 9 = -1 → X 3 = Int32.ofNat t →
      Res (f_P_read_go sx fuel 40 I A M MB L X Y) (ReadOut tn tx n (rd tn tx s n m k st)) := by
  have hn := hS.nb
  intro m
  induction m with
  | zero => intros; omega
  | succ m ih =>
    intro k t fuel I A M MB L X Y r own st hm hf hkn htk h hC hrn h6 h7 h9 h3
    obtain ⟨g, rfl⟩ : ∃ g, fuel = g + 1 := ⟨fuel - 1, by omega⟩
    simp only [f_P_read_go, f_P_read_40, if_true, h6, h3, h7, h9]
    unfold rd
    by_cases q : n ≤ k
    · rw [if_pos q]
      split
      · exact A_read_end hn h hC h6 h9 _
      · rw [if_pos ((pn_le (by omega) (by omega)).mpr q)]
        exact A_read_end hn h hC h6 h9 _
    · rw [if_neg q, if_neg (fun z => by have := (pn_le (a := n) (b := t) (by omega) (by omega)).mp z; omega), if_neg (fun z => by have := (pn_le (a := n) (b := k) (by omega) (by omega)).mp z; omega)]
      refine (A_readNext hT hS (by omega) h hC hrn h6 h7 h9).bind (fun z hz => ?_)
      obtain ⟨z0, z1, z2, z3, z4, z5⟩ := z
      obtain ⟨z6, hz⟩ := hz
      simp only at z6 hz
      obtain ⟨g', rfl⟩ : ∃ g', g = g' + 1 := ⟨g - 1, by omega⟩
      have bad : ∀ p, p ≤ n → z1 9 = Int32.ofNat p → Res (f_P_read_go sx (g' + 1) 40 z1 z2 z3 z4 z5 (upd X 3 (Int32.ofNat t + 1)) Y) (ReadOut tn tx n (Rd.fault p)) := by
        intro p hp h9'
        have hne : ¬ Int32.ofNat p = -1 := pn_ne1 (by omega)
        simp only [f_P_read_go, f_P_read_40, if_true, h9', if_neg hne]
        split
        · exact A_read_77bad hp hn h9' _
        · split
          · exact A_read_77bad hp hn h9' _
          · exact A_read_77bad hp hn h9' _
      rcases hl : lx s n k with p | ⟨tt, k'⟩
      · rw [hl] at hz
        exact bad p (lx_bad_le (by omega) hl) hz
      · rw [hl] at hz
        simp only at hz ⊢
        cases hst : stk tn tx tt st with
        | none =>
          rw [hst] at hz
          exact bad k (by omega) hz
        | some st' =>
          rw [hst] at hz
          obtain ⟨y9, y7, hk1, hk2, r', own', hA, hI, hrn'⟩ := hz
          refine ih k' (t + 1) (g' + 1) z1 z2 z3 z4 z5 _ Y r' own' st' (by omega) (by omega) hk2 (by omega) hA hI hrn' z6 y7 y9 ?_
          rw [upd_self]; exact pn_succ _
theorem A_read {tn : Nat} {tx : Nat → Int32} {sx : Nat → Int32} {s : Nat → Nat} {n : Nat} (hT : Txt tn tx) (hS : Slip sx s n) (I : MI) (A : MA) (M : MI) (MB : MA) (L : ML) :
    Res (f_P_read sx I A M MB L (Int32.ofNat n)) (ReadOut tn tx n (rd tn tx s n (n + 1) 0 (st_open []))) := by
  have hn := hS.nb
  have fu := wk_FUEL_big
  have e8 : upd (upd (upd (upd I 6 (Int32.ofNat n)) 7 0) 9 (-1)) 8 0 8 = Int32.ofNat 0 := upd_self _ _ _
  have eM : upd M 5 0 5 = Int32.ofNat 0 := upd_self _ _ _
  unfold f_P_read f_P_read_e
  simp only [wk_let]
  refine (A_openChoice (-1) e8 (by omega) eM (by omega)).bind (fun z hz => ?_)
  obtain ⟨z0, z1, z2, z3, z4, z5⟩ := z
  obtain ⟨hI, a0, a1, a2, a3, hM, m0, m1, m2, l3, l4⟩ := hz
  simp only at hI a0 a1 a2 a3 hM m0 m1 m2 l3 l4
  let r : CR := (CR.mk (2) (fun _ => none) (fun _ => none) (fun _ => rl_id) (fun _ => 0) (fun _ => 1) (fun _ => 0) (fun _ => 0) (0) (0) (none) (0))
  obtain ⟨own, hC⟩ : ∃ own, CInv r own (st_open []) := c_start_inv rfl rfl rfl rfl rfl rfl rfl rfl rfl rfl rfl rfl
  refine A_read_go hT hS (n + 1) 0 0 wk_FUEL z1 z2 z3 z4 z5 _ _ r own _ (by omega) (by omega) (by omega) (by omega) ?_ hC (by show 2 ≤ 2 + 2 * 0; omega) ?_ ?_ ?_ ?_
  · refine ⟨hM, by show 2 ≤ 50; omega, fun u hu => ?_, fun u hu => ?_, fun u hu => ?_, ?_, by show 0 ≤ 8; omega, fun k hk => ?_, fun k hk => ?_, fun k hk => ?_, fun k hk0 hk => ?_, ?_, fun q => (q rfl).elim, ?_, by show 0 < 2; omega, fun u hu hne => (hne rfl).elim, fun k hk => ?_⟩
    · have hu' : u = 0 ∨ u = 1 := by have : u < 2 := hu; omega
      rw [m1]
      rcases hu' with e | e <;> (subst e; rfl)
    · have hu' : u = 0 ∨ u = 1 := by have : u < 2 := hu; omega
      rw [m2]
      rcases hu' with e | e <;> (subst e; rfl)
    · have hu' : u = 0 ∨ u = 1 := by have : u < 2 := hu; omega
      rw [m0]
      rcases hu' with e | e <;> (subst e; rfl)
    · rw [hI]; rfl
    · have e : k = 0 := by have : k ≤ 0 := hk; omega
      subst e; rw [a0]; exact ⟨rfl, by show 0 < 2; omega⟩
    · have e : k = 0 := by have : k ≤ 0 := hk; omega
      subst e; rw [a1]; exact ⟨rfl, by show 1 < 2; omega⟩
    · have e : k = 0 := by have : k ≤ 0 := hk; omega
      subst e; rw [a2]; exact ⟨rfl, by show 0 < 2; omega⟩
    · have : k ≤ 0 := hk; omega
    · rw [hI]; rfl
    · rw [hI]; rfl
    · rw [m0]; rfl
  · rw [hI]; rfl
  · rw [hI]; rfl
  · rw [hI]; rfl
  · rfl
