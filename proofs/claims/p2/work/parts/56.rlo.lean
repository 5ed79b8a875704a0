theorem ar_pred {n k d : Nat} (h : n - k = d + 1) : n - (k + 1) = d := by omega
theorem lo_go2 (g : Nat) (I : MI) (A : MA) (X : Nat → Int32) : f_M_longest_go (g + 1) 2 I A X = f_M_longest_2 (f_M_longest_go g) I A X := rfl
theorem lo_go42 (g : Nat) (I : MI) (A : MA) (X : Nat → Int32) : f_M_longest_go (g + 1) 42 I A X = f_M_longest_42 (f_M_longest_go g) I A X := rfl
theorem lo_go81 (g : Nat) (I : MI) (A : MA) (X : Nat → Int32) : f_M_longest_go (g + 1) 81 I A X = f_M_longest_81 (f_M_longest_go g) I A X := rfl
theorem lo_go107 (g : Nat) (I : MI) (A : MA) (X : Nat → Int32) : f_M_longest_go (g + 1) 107 I A X = f_M_longest_107 (f_M_longest_go g) I A X := rfl
theorem lo_go173 (g : Nat) (I : MI) (A : MA) (X : Nat → Int32) : f_M_longest_go (g + 1) 173 I A X = f_M_longest_173 (f_M_longest_go g) I A X := rfl
/-- only the two sets differ -/
def HFr (A A' : MA) : Prop := ∀ j, j ≠ 32 → j ≠ 33 → A' j = A j
theorem HFr.trans {A A' A'' : MA} (h : HFr A A') (h' : HFr A' A'') : HFr A A'' := fun j h1 h2 => (h' j h1 h2).trans (h j h1 h2)
theorem HFr.refl (A : MA) : HFr A A := fun _ _ _ => rfl
theorem HFr.done {tn : Nat} {tx : Nat → Int32} {I : MI} {A A' : MA} {s : Nat → Nat} {n : Nat} {on tw : Nat → Option Nat} {lab : Nat → Rl} {fs ls : Nat} {R : Rl} (h : HFr A A') (hD : RDone tn tx I A s n on tw lab fs ls R) : RDone tn tx I A' s n on tw lab fs ls R := hD.frame rfl rfl rfl (fun j _ hj => h j (by omega) (by omega))
theorem HFr.txt {tn : Nat} {tx : Nat → Int32} {I : MI} {A A' : MA} {ps : Nat} (h : HFr A A') (hM : MTxt I A tn tx ps) : MTxt I A' tn tx ps := hM.fr rfl (h 5 (by decide) (by decide)) (h 6 (by decide) (by decide))
theorem RDone.clean {tn : Nat} {tx : Nat → Int32} {I : MI} {A : MA} {s : Nat → Nat} {n : Nat} {on tw : Nat → Option Nat} {lab : Nat → Rl} {fs ls : Nat} {R : Rl} (h : RDone tn tx I A s n on tw lab fs ls R) : ∃ lab', RDone tn tx I A s n on tw lab' fs ls R ∧ ProgT tn lab' := by
  refine ⟨fun u => if u < n then lab u else rl_no, ⟨h.hn, h.hnb, h.hon, h.htw, fun u hu => ?_, h.hfs, h.hls, h.fr.congr (fun _ => Iff.rfl) (fun _ _ _ => Iff.rfl) (fun u hu => ?_), ?_, h.hof, h.hse, h.hoo, h.hpat⟩, fun u i j hl => ?_⟩
  · show (if u < n then lab u else rl_no) = _
    rw [if_pos hu]; exact h.hlab u hu
  · show _ = if u < n then lab u else rl_no
    rw [if_pos hu]
  · show (if ls < n then lab ls else rl_no) = _
    rw [if_pos h.fr.tU]; exact h.hid
  · simp only at hl
    by_cases q : u < n
    · rw [if_pos q, h.hlab u q] at hl
      unfold rLab at hl
      split at hl
      · exact Or.inl hl.symm
      · split at hl
        · exact Or.inr ⟨hl.1, hl.2.1⟩
        · split at hl
          · exact Or.inr ⟨hl.1, hl.2.1⟩
          · split at hl
            · exact Or.inr ⟨hl.1, hl.2.1⟩
            · split at hl
              · exact Or.inl hl.1.symm
              · split at hl
                · exact Or.inl hl.1.symm
                · exact hl.elim
    · rw [if_neg q] at hl; exact hl.elim
/-- what a consuming node leads to -/
theorem RDone.step {tn : Nat} {tx : Nat → Int32} {I : MI} {A : MA} {s : Nat → Nat} {n : Nat} {on tw : Nat → Option Nat} {lab : Nat → Rl} {fs ls : Nat} {R : Rl} (h : RDone tn tx I A s n on tw lab fs ls R) {u v p : Nat} (hu : u < n) (hl : lab u p (p + 1)) : (cF on tw u v ↔ on u = some v) ∧ on u ≠ none := by
  have hk : A 18 u ≠ 0 := by
    intro e
    rw [h.hlab u hu, e] at hl
    have : p = p + 1 := hl
    omega
  have ht : tw u = none := by
    cases ho : tw u with
    | none => rfl
    | some x => exact (hk (h.hof u hu (by rw [ho]; exact fun z => by cases z))).elim
  refine ⟨⟨fun z => ?_, Or.inl⟩, h.hoo u hu hk⟩
  rcases z with z | z
  · exact z
  · rw [ht] at z; cases z
/-- the other set is emptied -/
theorem B_lo81 {I : MI} {n : Nat} (hn : I 17 = Int32.ofNat n) (hnb : n ≤ 160) {Q : Option (Int32 × MI × MA) → Prop} {B : Nat} : ∀ (d k fuel : Nat) (A : MA) (X : Nat → Int32), n - k = d → k ≤ n → d + 1 + B ≤ fuel → X 5 = Int32.ofNat k → (∀ v, v < k → A 33 v = 0) →
    (∀ (fuel' : Nat) (A' : MA) (X' : Nat → Int32), B ≤ fuel' → HFr A A' → A' 32 = A 32 → (∀ v, v < n → A' 33 v = 0) → (∀ j, j ≠ 5 → X' j = X j) → X' 5 = 0 → Q (f_M_longest_go fuel' 107 I A' X')) → Q (f_M_longest_go fuel 81 I A X) := by
  intro d
  induction d with
  | zero =>
    intro k fuel A X hd hk hf x5 hz hQ
    obtain ⟨g, rfl⟩ : ∃ g, fuel = g + 1 := ⟨fuel - 1, by omega⟩
    rw [lo_go81]
    unfold f_M_longest_81
    rw [hn, x5, if_pos ((pn_le (by omega) (by omega)).mpr (by omega))]
    exact hQ g A _ (by omega) (HFr.refl A) rfl (fun v hv => hz v (by omega)) (fun j hj => upd_ne _ _ hj) (upd_self _ _ _)
  | succ d ih =>
    intro k fuel A X hd hk hf x5 hz hQ
    obtain ⟨g, rfl⟩ : ∃ g, fuel = g + 1 := ⟨fuel - 1, by omega⟩
    rw [lo_go81]
    unfold f_M_longest_81
    rw [hn, x5, if_neg (fun z => by have := (pn_le (a := n) (b := k) (by omega) (by omega)).mp z; omega), if_pos (pn_i160 (show k < 160 by omega)), pn_nat (show k < 2147483648 by omega), pn_succ]
    simp only [wk_let]
    refine ih (k + 1) g _ _ (by omega) (by omega) (by omega) (upd_self _ _ _) (fun v hv => ?_) (fun fuel' A' X' h1 h2 h3 h4 h5 h6 => hQ fuel' A' X' h1 (fun j q1 q2 => by rw [h2 j q1 q2, va_up_ne _ _ q2]) (by rw [h3, va_up_ne _ _ (by decide)]) h4 (fun j hj => by rw [h5 j hj, upd_ne _ _ hj]) h6)
    rw [va_up_self]
    by_cases e : v = k
    · rw [e, upd_self]
    · rw [upd_ne _ _ e]; exact hz v (by omega)
/-- the character is taken -/
theorem B_lo107 {tn : Nat} {tx : Nat → Int32} {I : MI} {s : Nat → Nat} {n : Nat} {on tw : Nat → Option Nat} {lab : Nat → Rl} {fs ls : Nat} {R : Rl} {ps p : Nat} (hp : p < tn) {Q : Option (Int32 × MI × MA) → Prop} {B : Nat} : ∀ (d k fuel : Nat) (A : MA) (X : Nat → Int32), RDone tn tx I A s n on tw lab fs ls R → MTxt I A tn tx ps → n - k = d → k ≤ n → d + 1 + B ≤ fuel → X 3 = Int32.ofNat p → X 5 = Int32.ofNat k →
    (∀ v, v < n → (A 33 v ≠ 0 ↔ ∃ u, u < k ∧ inH A u = true ∧ cF on tw u v ∧ lab u p (p + 1))) → (X 4 ≠ 0 ↔ ∃ u, u < k ∧ inH A u = true ∧ lab u p (p + 1)) → (∀ v, v < n → A 33 v = 0 ∨ A 33 v = 1) →
    (∀ (fuel' : Nat) (A' : MA) (X' : Nat → Int32), B ≤ fuel' → HFr A A' → A' 32 = A 32 → (∀ v, v < n → (A' 33 v ≠ 0 ↔ ∃ u, u < n ∧ inH A u = true ∧ cF on tw u v ∧ lab u p (p + 1))) → (X' 4 ≠ 0 ↔ ∃ u, u < n ∧ inH A u = true ∧ lab u p (p + 1)) → (∀ j, j ≠ 4 → j ≠ 5 → X' j = X j) → X' 5 = 0 → (∀ v, v < n → A' 33 v = 0 ∨ A' 33 v = 1) → Q (f_M_longest_go fuel' 173 I A' X')) → Q (f_M_longest_go fuel 107 I A X) := by
  intro d
  induction d with
  | zero =>
    intro k fuel A X hD hM hd hk hf x3 x5 h33 h4 h01 hQ
    have hnb := hD.hnb
    obtain ⟨g, rfl⟩ : ∃ g, fuel = g + 1 := ⟨fuel - 1, by omega⟩
    have ek : k = n := by omega
    rw [lo_go107]
    unfold f_M_longest_107 f_M_longest_170
    rw [hD.hn, x5, if_pos ((pn_le (by omega) (by omega)).mpr (by omega))]
    subst ek
    exact hQ g A _ (by omega) (HFr.refl A) rfl h33 (by rw [upd_ne _ _ (by decide)]; exact h4) (fun j _ hj => upd_ne _ _ hj) (upd_self _ _ _) h01
  | succ d ih =>
    intro k fuel A X hD hM hd hk hf x3 x5 h33 h4 h01 hQ
    have hnb := hD.hnb
    have ht := hM.t.nb
    have hkn : k < n := by omega
    obtain ⟨g, rfl⟩ : ∃ g, fuel = g + 1 := ⟨fuel - 1, by omega⟩
    have n1 : (Int32.ofNat k).toNatClampNeg = k := pn_nat (by omega)
    have h10 : ¬ (1 : Int32) = 0 := by decide
    -- nothing is taken
    have skip : ¬ (inH A k = true ∧ lab k p (p + 1)) → Q (f_M_longest_164 (f_M_longest_go g) I A X) := by
      intro hno
      unfold f_M_longest_164
      refine ih (k + 1) g A _ hD hM (ar_pred hd) (by omega) (by omega) (by rw [upd_ne _ _ (by decide)]; exact x3) (by rw [upd_self, x5]; exact pn_succ _) (fun v hv => ?_) ?_ h01 (fun fuel' A' X' q1 q2 q3 q4 q5 q6 q7 q8 => hQ fuel' A' X' q1 q2 q3 q4 q5 (fun j j4 j5 => by rw [q6 j j4 j5, upd_ne _ _ j5]) q7 q8)
      · rw [h33 v hv]
        constructor
        · rintro ⟨u, a, b⟩; exact ⟨u, by omega, b⟩
        · rintro ⟨u, a, b, c1, c2⟩
          by_cases e : u = k
          · subst e; exact (hno ⟨b, c2⟩).elim
          · exact ⟨u, by omega, b, c1, c2⟩
      · rw [upd_ne _ _ (by decide), h4]
        constructor
        · rintro ⟨u, a, b⟩; exact ⟨u, by omega, b⟩
        · rintro ⟨u, a, b⟩
          by_cases e : u = k
          · subst e; exact (hno b).elim
          · exact ⟨u, by omega, b⟩
    rw [lo_go107]
    unfold f_M_longest_107
    rw [hD.hn, x5, if_neg (fun z => by have := (pn_le (a := n) (b := k) (by omega) (by omega)).mp z; omega), B_len hM]
    simp only [Option.bind_some]
    rw [x3, if_neg (fun z => by have := (pn_le (a := tn) (b := p) (by omega) (by omega)).mp z; omega), if_pos (pn_i160 (show k < 160 by omega)), n1]
    by_cases q : A 32 k = 0
    · rw [if_pos q]
      exact skip (fun z => inH_t.mp z.1 q)
    rw [if_neg q]
    have hkH : inH A k = true := inH_t.mpr q
    obtain ⟨c, hc, hcx⟩ := hM.t.ch p hp
    obtain ⟨b, eb, hb⟩ := B_takes hD hkn hp hc hcx
    rw [B_char hM hp]
    simp only [Option.bind_some]
    rw [hcx, eb]
    simp only [Option.bind_some]
    by_cases qb : b = 0
    · rw [if_pos qb]
      exact skip (fun z => hb.mpr z.2 qb)
    rw [if_neg qb, if_pos (pn_i160 (show k < 160 by omega))]
    have hl : lab k p (p + 1) := hb.mp qb
    obtain ⟨_, hne⟩ := hD.step (v := 0) hkn hl
    cases ho : on k with
    | none => exact (hne ho).elim
    | some w =>
      have hnd := hD.hon k hkn
      rw [ho] at hnd
      obtain ⟨hw, ew⟩ := hnd
      rw [ew, if_pos (pn_i160 (show w < 160 by omega)), pn_nat (show w < 2147483648 by omega)]
      simp only [wk_let]
      unfold f_M_longest_164
      have hF : HFr A (va_up A 33 (upd (A 33) w 1)) := fun j _ hj => va_up_ne _ _ hj
      have e32 : va_up A 33 (upd (A 33) w 1) 32 = A 32 := va_up_ne _ _ (by decide)
      have eH : ∀ u, inH (va_up A 33 (upd (A 33) w 1)) u = inH A u := fun u => by unfold inH; rw [e32]
      refine ih (k + 1) g _ _ (hF.done hD) (hF.txt hM) (ar_pred hd) (by omega) (by omega) (by rw [upd_ne _ _ (by decide), upd_ne _ _ (by decide)]; exact x3) (by rw [upd_self, upd_ne _ _ (by decide), x5]; exact pn_succ _) (fun v hv => ?_) ?_ (fun v hv => ?_) (fun fuel' A' X' q1 q2 q3 q4 q5 q6 q7 q8 => hQ fuel' A' X' q1 (hF.trans q2) (q3.trans e32) (fun v hv => by rw [q4 v hv]; simp only [eH]) (by rw [q5]; simp only [eH]) (fun j j4 j5 => by rw [q6 j j4 j5, upd_ne _ _ j5, upd_ne _ _ j4]) q7 q8)
      · rw [va_up_self]
        simp only [eH]
        by_cases e : v = w
        · rw [e, upd_self]
          refine ⟨fun _ => ⟨k, by omega, hkH, Or.inl ho, hl⟩, fun _ => h10⟩
        · rw [upd_ne _ _ e, h33 v hv]
          constructor
          · rintro ⟨u, a, b'⟩; exact ⟨u, by omega, b'⟩
          · rintro ⟨u, a, b1, c1, c2⟩
            by_cases eu : u = k
            · subst eu
              have := (hD.step (v := v) hkn c2).1.mp c1
              rw [ho] at this; cases this; exact (e rfl).elim
            · exact ⟨u, by omega, b1, c1, c2⟩
      · rw [upd_ne _ _ (by decide), upd_self]
        simp only [eH]
        exact ⟨fun _ => ⟨k, by omega, hkH, hl⟩, fun _ => h10⟩
      · rw [va_up_self]
        by_cases e : v = w
        · rw [e, upd_self]; exact Or.inr rfl
        · rw [upd_ne _ _ e]; exact h01 v hv
/-- the set that was made becomes the one that lives -/
theorem B_lo173 {I : MI} {n : Nat} (hn : I 17 = Int32.ofNat n) (hnb : n ≤ 160) {Q : Option (Int32 × MI × MA) → Prop} {B : Nat} : ∀ (d k fuel : Nat) (A : MA) (X : Nat → Int32), n - k = d → k ≤ n → d + 1 + B ≤ fuel → X 5 = Int32.ofNat k → (∀ v, v < n → A 33 v = 0 ∨ A 33 v = 1) → (∀ v, v < k → (A 32 v ≠ 0 ↔ A 33 v ≠ 0)) →
    (∀ (fuel' : Nat) (A' : MA) (X' : Nat → Int32), B ≤ fuel' → HFr A A' → (∀ v, v < n → (A' 32 v ≠ 0 ↔ A 33 v ≠ 0)) → (∀ j, j ≠ 3 → j ≠ 5 → X' j = X j) → X' 3 = X 3 + 1 → Q (f_M_longest_go fuel' 42 I A' X')) → Q (f_M_longest_go fuel 173 I A X) := by
  intro d
  induction d with
  | zero =>
    intro k fuel A X hd hk hf x5 h01 hz hQ
    obtain ⟨g, rfl⟩ : ∃ g, fuel = g + 1 := ⟨fuel - 1, by omega⟩
    rw [lo_go173]
    unfold f_M_longest_173
    rw [hn, x5, if_pos ((pn_le (by omega) (by omega)).mpr (by omega))]
    exact hQ g A _ (by omega) (HFr.refl A) (fun v hv => hz v (by omega)) (fun j hj _ => upd_ne _ _ hj) (upd_self _ _ _)
  | succ d ih =>
    intro k fuel A X hd hk hf x5 h01 hz hQ
    obtain ⟨g, rfl⟩ : ∃ g, fuel = g + 1 := ⟨fuel - 1, by omega⟩
    have hn01 : vp_nar .boolean (A 33 k) = A 33 k := by
      rcases h01 k (by omega) with z | z <;> (rw [z]; decide)
    rw [lo_go173]
    unfold f_M_longest_173
    rw [hn, x5, if_neg (fun z => by have := (pn_le (a := n) (b := k) (by omega) (by omega)).mp z; omega), if_pos (pn_i160 (show k < 160 by omega)), if_pos (pn_i160 (show k < 160 by omega)), pn_nat (show k < 2147483648 by omega), pn_succ, hn01]
    simp only [wk_let]
    have e33 : va_up A 32 (upd (A 32) k (A 33 k)) 33 = A 33 := va_up_ne _ _ (by decide)
    refine ih (k + 1) g _ _ (by omega) (by omega) (by omega) (upd_self _ _ _) (by rw [e33]; exact h01) (fun v hv => ?_) (fun fuel' A' X' h1 h2 h3 h4 h5 => hQ fuel' A' X' h1 (fun j q1 q2 => by rw [h2 j q1 q2, va_up_ne _ _ q1]) (fun v hv => by rw [h3 v hv, e33]) (fun j j3 j5 => by rw [h4 j j3 j5, upd_ne _ _ j5]) (by rw [h5, upd_ne _ _ (by decide)]))
    rw [e33, va_up_self]
    by_cases e : v = k
    · rw [e, upd_self]
    · rw [upd_ne _ _ e]; exact hz v (by omega)
