theorem sp_go10 (g : Nat) (I : MI) (A : MA) (X : Nat → Int32) : f_M_spread_go (g + 1) 10 I A X = f_M_spread_10 (f_M_spread_go g) I A X := rfl
theorem sp_go2 (g : Nat) (I : MI) (A : MA) (X : Nat → Int32) : f_M_spread_go (g + 1) 2 I A X = f_M_spread_2 (f_M_spread_go g) I A X := rfl
def inH (A : MA) (u : Nat) : Bool := decide (A 32 u ≠ 0)
theorem inH_t {A : MA} {u : Nat} : inH A u = true ↔ A 32 u ≠ 0 := decide_eq_true_iff
theorem inH_add {A : MA} {v u : Nat} : inH (va_up A 32 (upd (A 32) v 1)) u = true ↔ inH A u = true ∨ u = v := by
  rw [inH_t, inH_t, va_up_self]
  by_cases e : u = v
  · rw [e, upd_self]; exact ⟨fun _ => Or.inr rfl, fun _ => by decide⟩
  · rw [upd_ne _ _ e]; exact ⟨Or.inl, fun z => z.elim id (fun w => (e w).elim)⟩
theorem cn_add {A : MA} {v n : Nat} (hv : v < n) (h0 : A 32 v = 0) : cn (inH (va_up A 32 (upd (A 32) v 1))) n = cn (inH A) n + 1 := by
  refine cn_one (k := v) n hv (decide_eq_false (fun z => z h0)) ?_ (fun j hj => ?_)
  · exact inH_add.mpr (Or.inr rfl)
  · unfold inH; rw [va_up_self, upd_ne _ _ hj]
/-- what a walk over the nodes may have done to the set -/
def SpIn (tn : Nat) (tx : Nat → Int32) (on tw : Nat → Option Nat) (lab : Nat → Rl) (n p : Nat) (S : Nat → Prop) (A0 A : MA) : Prop :=
  (∀ j, j ≠ 32 → A j = A0 j) ∧ (∀ u, u < n → S u → inH A u = true) ∧ (∀ v, v < n → inH A v = true → ∃ u, S u ∧ Pa (cF on tw) lab u p v p)
theorem SpIn.add {tn : Nat} {tx : Nat → Int32} {on tw : Nat → Option Nat} {lab : Nat → Rl} {n p : Nat} {S : Nat → Prop} {A0 A : MA} (h : SpIn tn tx on tw lab n p S A0 A) {k v : Nat} (hk : k < n) (hkH : inH A k = true) (he : cF on tw k v) (hl : lab k p p) : SpIn tn tx on tw lab n p S A0 (va_up A 32 (upd (A 32) v 1)) := by
  obtain ⟨a, b, c⟩ := h
  refine ⟨fun j hj => by rw [va_up_ne _ _ hj]; exact a j hj, fun u hu hs => inH_add.mpr (Or.inl (b u hu hs)), fun w hw hH => ?_⟩
  rcases inH_add.mp hH with z | z
  · exact c w hw z
  · obtain ⟨u, hu, hp⟩ := c k hk hkH
    rw [z]; exact ⟨u, hu, hp.snoc he hl⟩
def ClTo (on tw : Nat → Option Nat) (lab : Nat → Rl) (p k : Nat) (A : MA) : Prop := ∀ j, j < k → inH A j = true → lab j p p → ∀ v, cF on tw j v → inH A v = true
def SpOut (tn : Nat) (tx : Nat → Int32) (on tw : Nat → Option Nat) (lab : Nat → Rl) (n p : Nat) (S : Nat → Prop) (I : MI) (A0 : MA) (o : Option (Int32 × MI × MA)) : Prop := ∃ A', o = some (0, I, A') ∧ SpIn tn tx on tw lab n p S A0 A' ∧ ClTo on tw lab p n A'
/-- one pass over the nodes, and what follows it -/
theorem B_pass {tn : Nat} {tx : Nat → Int32} {I : MI} {A0 : MA} {s : Nat → Nat} {n : Nat} {on tw : Nat → Option Nat} {lab : Nat → Rl} {fs ls : Nat} {R : Rl} {ps p : Nat} (hD : RDone tn tx I A0 s n on tw lab fs ls R) (hM : MTxt I A0 tn tx ps) (hp : p ≤ tn) {S : Nat → Prop} {c B : Nat}
    (IH : ∀ (fuel : Nat) (A : MA) (X : Nat → Int32), n - cn (inH A) n + 1 ≤ c → B ≤ fuel → X 1 = Int32.ofNat p → X 2 ≠ 0 → SpIn tn tx on tw lab n p S A0 A → SpOut tn tx on tw lab n p S I A0 (f_M_spread_go fuel 2 I A X)) :
    ∀ (d k fuel : Nat) (A : MA) (X : Nat → Int32), n - k = d → k ≤ n → d + 2 + B ≤ fuel → X 1 = Int32.ofNat p → X 3 = Int32.ofNat k → SpIn tn tx on tw lab n p S A0 A → ((X 2 = 0 ∧ ClTo on tw lab p k A ∧ n - cn (inH A) n ≤ c) ∨ (X 2 ≠ 0 ∧ n - cn (inH A) n + 1 ≤ c)) →
      SpOut tn tx on tw lab n p S I A0 (f_M_spread_go fuel 10 I A X) := by
  have hnb := hD.hnb
  have t10 : ¬ (10 : Nat) = 2 := by decide
  have h10 : ¬ (1 : Int32) = 0 := by decide
  intro d
  induction d with
  | zero =>
    intro k fuel A X hd hk hf x1 x3 hS hX
    obtain ⟨g, rfl⟩ : ∃ g, fuel = g + 1 := ⟨fuel - 1, by omega⟩
    have step : f_M_spread_go (g + 1) 10 I A X = f_M_spread_go g 2 I A X := by
      conv => lhs; unfold f_M_spread_go
      rw [if_neg t10, if_pos rfl]
      unfold f_M_spread_10
      rw [hD.hn, x3, if_pos ((pn_le (by omega) (by omega)).mpr (by omega))]
    rw [step]
    rcases hX with ⟨x2, hC, _⟩ | ⟨x2, hc⟩
    · obtain ⟨g', rfl⟩ : ∃ g', g = g' + 1 := ⟨g - 1, by omega⟩
      refine ⟨A, ?_, hS, fun j hj => hC j (by omega)⟩
      unfold f_M_spread_go f_M_spread_2
      rw [if_pos rfl, if_pos x2]
    · exact IH g A X hc (by omega) x1 x2 hS
  | succ d ih =>
    intro k fuel A X hd hk hf x1 x3 hS hX
    obtain ⟨g, rfl⟩ : ∃ g, fuel = g + 1 := ⟨fuel - 1, by omega⟩
    have hkn : k < n := by omega
    have n1 : (Int32.ofNat k).toNatClampNeg = k := pn_nat (by omega)
    have hcl : ∀ v, cF on tw k v → v < n := fun v hv => hD.fr.cl k v hkn hv
    -- to the next node
    have nxt : ∀ (A' : MA) (X' : Nat → Int32), X' 1 = Int32.ofNat p → X' 3 = Int32.ofNat k → SpIn tn tx on tw lab n p S A0 A' → ((X' 2 = 0 ∧ ClTo on tw lab p (k + 1) A' ∧ n - cn (inH A') n ≤ c) ∨ (X' 2 ≠ 0 ∧ n - cn (inH A') n + 1 ≤ c)) → SpOut tn tx on tw lab n p S I A0 (f_M_spread_82 (f_M_spread_go g) I A' X') := by
      intro A' X' y1 y3 hS' hX'
      unfold f_M_spread_82
      refine ih (k + 1) g A' _ (by omega) (by omega) (by omega) (by rw [upd_ne _ _ (by decide)]; exact y1) (by rw [upd_self, y3]; exact pn_succ _) hS' ?_
      rw [upd_ne _ _ (by decide)]; exact hX'
    have same : (inH A k = false ∨ ¬ lab k p p) → ((X 2 = 0 ∧ ClTo on tw lab p (k + 1) A ∧ n - cn (inH A) n ≤ c) ∨ (X 2 ≠ 0 ∧ n - cn (inH A) n + 1 ≤ c)) := by
      intro hno
      rcases hX with ⟨x2, hC, hc⟩ | z
      · refine Or.inl ⟨x2, fun j hj hH hl v hv => ?_, hc⟩
        by_cases e : j = k
        · subst e
          rcases hno with z | z
          · rw [z] at hH; cases hH
          · exact (z hl).elim
        · exact hC j (by omega) hH hl v hv
      · exact Or.inr z
    rw [sp_go10]
    unfold f_M_spread_10
    rw [hD.hn, x3, if_neg (fun z => by have := (pn_le (a := n) (b := k) (by omega) (by omega)).mp z; omega), if_pos (pn_i160 (show k < 160 by omega)), n1]
    by_cases q : A 32 k = 0
    · rw [if_pos q]
      exact nxt A X x1 x3 hS (same (Or.inl (decide_eq_false (fun z => z q))))
    rw [if_neg q]
    have hkH : inH A k = true := inH_t.mpr q
    have hA := hS.1
    have hM' : MTxt I A tn tx ps := hM.fr rfl (hA 5 (by decide)) (hA 6 (by decide))
    obtain ⟨b, eb, hb⟩ := B_passes (s := s) hM' (show k < 160 by omega) hp
    have hlab : (rLab tn tx s (A 18 k) (A 19 k) (A 20 k) p p) ↔ lab k p p := by
      rw [hA 18 (by decide), hA 19 (by decide), hA 20 (by decide), hD.hlab k hkn]
    rw [x1, eb]
    simp only [Option.bind_some]
    by_cases qb : b = 0
    · rw [if_pos qb]
      exact nxt A X x1 x3 hS (same (Or.inr (fun z => hb.mpr (hlab.mpr z) qb)))
    rw [if_neg qb, if_pos (pn_i160 (show k < 160 by omega))]
    have hl : lab k p p := hlab.mp (hb.mp qb)
    have hon : nd n (A 21 k) (on k) := by rw [hA 21 (by decide)]; exact hD.hon k hkn
    -- behind the first way
    have f58 : ∀ (A1 : MA) (s0 : Int32), SpIn tn tx on tw lab n p S A0 A1 → inH A1 k = true → (∀ v, on k = some v → inH A1 v = true) → ((s0 = 0 ∧ A1 = A ∧ X 2 = 0) ∨ (s0 = 1 ∧ n - cn (inH A1) n + 1 ≤ c)) → SpOut tn tx on tw lab n p S I A0 (f_M_spread_58 (f_M_spread_go g) I A1 X s0) := by
      intro A1 s0 hS1 hk1 hov hs
      have htw : nd n (A1 22 k) (tw k) := by rw [hS1.1 22 (by decide)]; exact hD.htw k hkn
      unfold f_M_spread_58
      rw [x3, if_pos (pn_i160 (show k < 160 by omega)), n1]
      have f76 : ∀ A2 : MA, SpIn tn tx on tw lab n p S A0 A2 → n - cn (inH A2) n + 1 ≤ c → SpOut tn tx on tw lab n p S I A0 (f_M_spread_76 (f_M_spread_go g) I A2 (upd X 2 s0)) := by
        intro A2 hS2 hc2
        unfold f_M_spread_76 f_M_spread_81
        refine nxt A2 _ (by rw [upd_ne _ _ (by decide), upd_ne _ _ (by decide)]; exact x1) (by rw [upd_ne _ _ (by decide), upd_ne _ _ (by decide)]; exact x3) hS2 (Or.inr ⟨by rw [upd_self]; exact h10, hc2⟩)
      rcases B_reach (I := I) (A := A1) hnb htw with ⟨er, hv⟩ | ⟨v, ev, hvn, hv0, er⟩
      · rw [er]
        simp only [Option.bind_some, if_true]
        rcases hs with ⟨s0e, eA, x2⟩ | ⟨s1, hc1⟩
        · rw [if_pos s0e]
          unfold f_M_spread_81
          refine nxt A1 _ (by rw [upd_ne _ _ (by decide), upd_ne _ _ (by decide)]; exact x1) (by rw [upd_ne _ _ (by decide), upd_ne _ _ (by decide)]; exact x3) hS1 (Or.inl ⟨upd_self _ _ _, ?_, ?_⟩)
          · subst eA
            rcases hX with ⟨_, hC, _⟩ | ⟨z, _⟩
            · intro j hj hH hl' w hw
              by_cases e : j = k
              · subst e
                rcases hw with hw | hw
                · exact hov w hw
                · exact inH_t.mpr (hv w hw)
              · exact hC j (by omega) hH hl' w hw
            · exact (z x2).elim
          · subst eA
            rcases hX with ⟨_, _, hc⟩ | ⟨z, _⟩
            · exact hc
            · exact (z x2).elim
        · rw [if_neg (by rw [s1]; exact h10)]
          exact f76 A1 hS1 hc1
      · rw [er]
        simp only [Option.bind_some]
        rw [if_neg h10]
        have hcc := cn_add hvn hv0
        have hle := cn_le (inH (va_up A1 32 (upd (A1 32) v 1))) n
        refine f76 _ (hS1.add hkn hk1 (Or.inr ev) hl) ?_
        rcases hs with ⟨_, eA, x2⟩ | ⟨_, hc1⟩
        · subst eA
          rcases hX with ⟨_, _, hc⟩ | ⟨z, _⟩
          · omega
          · exact (z x2).elim
        · omega
    rcases B_reach (I := I) (A := A) hnb hon with ⟨er, hv⟩ | ⟨v, ev, hvn, hv0, er⟩
    · rw [er]
      simp only [Option.bind_some, if_true]
      by_cases x2 : X 2 = 0
      · rw [if_pos x2]
        exact f58 A 0 hS hkH (fun v e => inH_t.mpr (hv v e)) (Or.inl ⟨rfl, rfl, x2⟩)
      · rw [if_neg x2]
        unfold f_M_spread_53
        refine f58 A 1 hS hkH (fun v e => inH_t.mpr (hv v e)) (Or.inr ⟨rfl, ?_⟩)
        rcases hX with ⟨z, _⟩ | ⟨_, hc⟩
        · exact (x2 z).elim
        · exact hc
    · rw [er]
      simp only [Option.bind_some]
      rw [if_neg h10]
      unfold f_M_spread_53
      have hcc := cn_add hvn hv0
      have hle := cn_le (inH (va_up A 32 (upd (A 32) v 1))) n
      refine f58 _ 1 (hS.add hkn hkH (Or.inl ev) hl) (inH_add.mpr (Or.inl hkH)) (fun w hw => ?_) (Or.inr ⟨rfl, ?_⟩)
      · rw [ev] at hw; cases hw; exact inH_add.mpr (Or.inr rfl)
      · rcases hX with ⟨_, _, hc⟩ | ⟨_, hc⟩ <;> omega
theorem B_spread_c {tn : Nat} {tx : Nat → Int32} {I : MI} {A0 : MA} {s : Nat → Nat} {n : Nat} {on tw : Nat → Option Nat} {lab : Nat → Rl} {fs ls : Nat} {R : Rl} {ps p : Nat} (hD : RDone tn tx I A0 s n on tw lab fs ls R) (hM : MTxt I A0 tn tx ps) (hp : p ≤ tn) {S : Nat → Prop} :
    ∀ (c fuel : Nat) (A : MA) (X : Nat → Int32), n - cn (inH A) n ≤ c → (c + 1) * (n + 4) ≤ fuel → X 1 = Int32.ofNat p → X 2 ≠ 0 → SpIn tn tx on tw lab n p S A0 A → SpOut tn tx on tw lab n p S I A0 (f_M_spread_go fuel 2 I A X) := by
  intro c
  induction c with
  | zero =>
    intro fuel A X hc hf x1 x2 hS
    obtain ⟨g, rfl⟩ : ∃ g, fuel = g + 1 := ⟨fuel - 1, by omega⟩
    rw [sp_go2]
    unfold f_M_spread_2
    rw [if_neg x2]
    refine B_pass hD hM hp (c := 0) (B := 0) (fun _ _ _ z => by omega) n 0 g A _ rfl (by omega) (by omega) (by rw [upd_ne _ _ (by decide), upd_ne _ _ (by decide)]; exact x1) (upd_self _ _ _) hS (Or.inl ⟨by rw [upd_ne _ _ (by decide), upd_self], fun j hj => by omega, hc⟩)
  | succ c ih =>
    intro fuel A X hc hf x1 x2 hS
    have hmul : (c + 1 + 1) * (n + 4) = (c + 1) * (n + 4) + (n + 4) := by rw [Nat.succ_mul]
    obtain ⟨g, rfl⟩ : ∃ g, fuel = g + 1 := ⟨fuel - 1, by omega⟩
    rw [sp_go2]
    unfold f_M_spread_2
    rw [if_neg x2]
    refine B_pass hD hM hp (c := c + 1) (B := (c + 1) * (n + 4)) (fun fuel' A' X' z1 z2 z3 z4 z5 => ih fuel' A' X' (by omega) z2 z3 z4 z5) n 0 g A _ rfl (by omega) (by omega) (by rw [upd_ne _ _ (by decide), upd_ne _ _ (by decide)]; exact x1) (upd_self _ _ _) hS (Or.inl ⟨by rw [upd_ne _ _ (by decide), upd_self], fun j hj => by omega, hc⟩)
/-- all that is reached from a set at a place -/
theorem B_spread {tn : Nat} {tx : Nat → Int32} {I : MI} {A : MA} {s : Nat → Nat} {n : Nat} {on tw : Nat → Option Nat} {lab : Nat → Rl} {fs ls : Nat} {R : Rl} {ps p : Nat} (hD : RDone tn tx I A s n on tw lab fs ls R) (hP : Prog lab) (hM : MTxt I A tn tx ps) (hp : p ≤ tn) :
    ∃ A', f_M_spread I A (Int32.ofNat p) = some (0, I, A') ∧ (∀ j, j ≠ 32 → A' j = A j) ∧ ∀ v, v < n → (inH A' v = true ↔ ∃ u, u < n ∧ inH A u = true ∧ Pa (cF on tw) lab u p v p) := by
  have hnb := hD.hnb
  have fu := wk_FUEL_big
  have hcl := cn_le (inH A) n
  have hb1 : (n + 1) * (n + 4) ≤ 161 * 164 := Nat.mul_le_mul (by omega) (by omega)
  unfold f_M_spread f_M_spread_e
  generalize wk_FUEL = F at fu ⊢
  obtain ⟨A', e, ⟨a1, a2, a3⟩, hC⟩ := B_spread_c hD hM hp (S := fun u => u < n ∧ inH A u = true) n F A (upd (upd (fun _ => 0) 1 (Int32.ofNat p)) 2 1) (by omega) (by omega) rfl (by rw [upd_self]; decide) ⟨fun _ _ => rfl, fun u _ hs => hs.2, fun v hv hH => ⟨v, ⟨hv, hH⟩, Pa.nil _ _⟩⟩
  refine ⟨A', e, a1, fun v hv => ⟨fun hH => ?_, ?_⟩⟩
  · obtain ⟨u, hu, hpa⟩ := a3 v hv hH
    exact ⟨u, hu.1, hu.2, hpa⟩
  · rintro ⟨u, hu, hH, hpa⟩
    exact (Pa.closed (C := fun v => v < n ∧ inH A' v = true) hP (fun u v hu he hl => ⟨hD.fr.cl u v hu.1 he, hC u hu.1 hu.2 hl v he⟩) hpa rfl rfl ⟨hu, a2 u hu ⟨hu, hH⟩⟩).2
