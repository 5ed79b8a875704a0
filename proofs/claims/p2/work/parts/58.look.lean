theorem B_lo2 {I : MI} {n fs : Nat} (hn : I 17 = Int32.ofNat n) (hnb : n ≤ 160) (hfs : I 23 = Int32.ofNat fs) (hfn : fs < n) {Q : Option (Int32 × MI × MA) → Prop} {B : Nat} : ∀ (d k fuel : Nat) (A : MA) (X : Nat → Int32), n - k = d → k ≤ n → d + 1 + B ≤ fuel → X 2 = Int32.ofNat k → (∀ v, v < k → (A 32 v ≠ 0 ↔ v = fs)) →
    (∀ (fuel' : Nat) (A' : MA) (X' : Nat → Int32), B ≤ fuel' → HFr A A' → (∀ v, v < n → (A' 32 v ≠ 0 ↔ v = fs)) → X' 1 = X 1 → X' 2 = -1 → X' 3 = X 1 → X' 4 = 1 → Q (f_M_longest_go fuel' 42 I A' X')) → Q (f_M_longest_go fuel 2 I A X) := by
  have h10 : ¬ (1 : Int32) = 0 := by decide
  intro d
  induction d with
  | zero =>
    intro k fuel A X hd hk hf x2 hz hQ
    obtain ⟨g, rfl⟩ : ∃ g, fuel = g + 1 := ⟨fuel - 1, by omega⟩
    rw [lo_go2]
    unfold f_M_longest_2
    rw [hn, x2, if_pos ((pn_le (by omega) (by omega)).mpr (by omega))]
    exact hQ g A _ (by omega) (HFr.refl A) (fun v hv => hz v (by omega)) (by rw [upd_ne _ _ (by decide), upd_ne _ _ (by decide), upd_ne _ _ (by decide)]) (by rw [upd_ne _ _ (by decide), upd_ne _ _ (by decide), upd_self]) (by rw [upd_ne _ _ (by decide), upd_self]) (upd_self _ _ _)
  | succ d ih =>
    intro k fuel A X hd hk hf x2 hz hQ
    obtain ⟨g, rfl⟩ : ∃ g, fuel = g + 1 := ⟨fuel - 1, by omega⟩
    have f28 : ∀ b : Bool, (b = true ↔ k = fs) → Q (f_M_longest_28 (f_M_longest_go g) I A X (g_flag b) (Int32.ofNat k)) := by
      intro b hb
      unfold f_M_longest_28
      rw [if_pos (pn_i160 (show k < 160 by omega)), pn_nat (show k < 2147483648 by omega), nar_flag, x2, pn_succ]
      simp only [wk_let]
      refine ih (k + 1) g _ _ (by omega) (by omega) (by omega) (upd_self _ _ _) (fun v hv => ?_) (fun fuel' A' X' h1 h2 h3 h4 h5 h6 h7 => hQ fuel' A' X' h1 (fun j q1 q2 => by rw [h2 j q1 q2, va_up_ne _ _ q1]) h3 (by rw [h4, upd_ne _ _ (by decide)]) h5 (by rw [h6, upd_ne _ _ (by decide)]) h7)
      rw [va_up_self]
      by_cases e : v = k
      · rw [e, upd_self, g_flag_ne]; exact hb
      · rw [upd_ne _ _ e]; exact hz v (by omega)
    rw [lo_go2]
    unfold f_M_longest_2
    rw [hn, x2, if_neg (fun z => by have := (pn_le (a := n) (b := k) (by omega) (by omega)).mp z; omega), hfs]
    by_cases q : k = fs
    · rw [if_pos ((pn_eq (by omega) (by omega)).mpr q)]
      exact f28 true ⟨fun _ => q, fun _ => rfl⟩
    · rw [if_neg (fun z => q ((pn_eq (by omega) (by omega)).mp z))]
      exact f28 false ⟨fun z => (Bool.false_ne_true z).elim, fun z => (q z).elim⟩
theorem B_longest {tn : Nat} {tx : Nat → Int32} {I : MI} {A : MA} {R : Rl} {ps f : Nat} (h : RMean tn tx I A R) (hM : MTxt I A tn tx ps) (hf : f ≤ tn) : ∃ x A', f_M_longest I A (Int32.ofNat f) = some (x, I, A') ∧ HFr A A' ∧ BestOut R f x := by
  obtain ⟨s, n, on, tw, lab0, fs, ls, h0⟩ := h
  obtain ⟨lab, hD, hP⟩ := h0.clean
  have hnb := hD.hnb
  have ht := hM.t.nb
  have fu := wk_FUEL_big
  have hfs := hD.fr.hU
  have hb1 : (tn + 1 - f + 1) * (3 * n + 6) ≤ 162 * 486 := Nat.mul_le_mul (by clear h0 hD hM; omega) (by clear h0 hD hM; omega)
  unfold f_M_longest f_M_longest_e
  generalize wk_FUEL = F at fu ⊢
  refine B_lo2 hD.hn hnb hD.hfs hfs (Q := fun o => ∃ x A', o = some (x, I, A') ∧ HFr A A' ∧ BestOut R f x) (B := (tn + 1 - f + 1) * (3 * n + 6)) n 0 F A _ rfl (Nat.zero_le _) (by clear h0 hD hM; omega) (upd_self _ _ _) (fun v hv => absurd hv (Nat.not_lt_zero _)) (fun fuel' A' X' k1 k2 k3 k4 k5 k6 k7 => ?_)
  have x1 : X' 1 = Int32.ofNat f := by rw [k4, upd_ne _ _ (by decide), upd_self]
  have x3 : X' 3 = Int32.ofNat f := by rw [k6, upd_ne _ _ (by decide), upd_self]
  obtain ⟨x, A2, e1, e2, e3⟩ := B_lo42 (R := R) (s := s) hP hf (tn + 1 - f) f fuel' A' X' (k2.done hD) (k2.txt hM) (Nat.le_refl _) k1 (Nat.le_refl _) (by clear h0 hD hM; omega) x1 x3 (Or.inr ⟨by rw [k7]; decide, hf, Or.inl ⟨rfl, k5, fun v hv => by rw [inH_t]; exact k3 v hv⟩⟩)
  exact ⟨x, A2, e1, k2.trans e2, e3⟩
theorem lk_go (g : Nat) (I : MI) (A : MA) (X : Nat → Int32) : f_M_look_go (g + 1) 7 I A X = f_M_look_7 (f_M_look_go g) I A X := rfl
theorem RMean.frame {tn : Nat} {tx : Nat → Int32} {I I' : MI} {A A' : MA} {R : Rl} (h : RMean tn tx I A R) (i17 : I' 17 = I 17) (i23 : I' 23 = I 23) (i24 : I' 24 = I 24) (ha : ∀ j, 16 ≤ j → j ≤ 22 → A' j = A j) : RMean tn tx I' A' R := by
  obtain ⟨s, n, on, tw, lab, fs, ls, h⟩ := h
  exact ⟨s, n, on, tw, lab, fs, ls, h.frame i17 i23 i24 ha⟩
theorem RMean.top {tn : Nat} {tx : Nat → Int32} {I : MI} {A : MA} {R : Rl} (h : RMean tn tx I A R) {i j : Nat} (hi : i ≤ tn) (hr : R i j) : j ≤ tn := by
  obtain ⟨s, n, on, tw, lab0, fs, ls, h0⟩ := h
  obtain ⟨lab, h, hP⟩ := h0.clean
  exact ((h.fr.iff h.hid i j).mp hr).top hP hi
/-- what looking leaves: nothing but the two sets and what was found -/
def LkFr (I I' : MI) (A A' : MA) : Prop := (∀ j, j ≠ 34 → j ≠ 35 → I' j = I j) ∧ HFr A A'
def LkOut (R : Rl) (tn p : Nat) (I : MI) (A : MA) (o : Option (Int32 × MI × MA)) : Prop :=
  (∃ I' A', o = some (0, I', A') ∧ LkFr I I' A A' ∧ NotFound R tn p) ∨ (∃ I' A' a b, o = some (1, I', A') ∧ LkFr I I' A A' ∧ I' 34 = Int32.ofNat a ∧ I' 35 = Int32.ofNat b ∧ Found R tn p a b)
theorem B_look_go {tn : Nat} {tx : Nat → Int32} {R : Rl} {ps p : Nat} {I0 : MI} {A0 : MA} (h0 : RMean tn tx I0 A0 R) (hM0 : MTxt I0 A0 tn tx ps) : ∀ (m q fuel : Nat) (I : MI) (A : MA) (X : Nat → Int32), tn + 1 - q ≤ m → m + 2 ≤ fuel → p ≤ q → q ≤ tn + 1 → LkFr I0 I A0 A → I 35 = -1 → X 2 = Int32.ofNat q → (∀ z, p ≤ z → z < q → NoBest R z) →
    LkOut R tn p I0 A0 (f_M_look_go fuel 7 I A X) := by
  have ht := hM0.t.nb
  have hm1 : (-1 : Int32) < 0 := by decide
  have hm2 : ¬ (0 : Int32) ≤ -1 := by decide
  -- nothing was found
  have none_ : ∀ (rc : Nat → MI → MA → (Nat → Int32) → Option (Int32 × MI × MA)) (q : Nat) (I : MI) (A : MA) (X : Nat → Int32), tn < q → LkFr I0 I A0 A → I 35 = -1 → (∀ z, p ≤ z → z < q → NoBest R z) → LkOut R tn p I0 A0 (f_M_look_42 rc I A X) := by
    intro rc q I A X hq hF i35 hno
    unfold f_M_look_42 f_M_look_54
    rw [i35, if_pos hm1, if_pos nar_bool0]
    exact Or.inl ⟨I, A, rfl, hF, fun z h1 h2 => hno z h1 (by omega)⟩
  intro m
  induction m with
  | zero =>
    intro q fuel I A X hm hf hpq hqn hF i35 x2 hno
    obtain ⟨g, rfl⟩ : ∃ g, fuel = g + 1 := ⟨fuel - 1, by omega⟩
    have hM : MTxt I A tn tx ps := hM0.fr (hF.1 4 (by decide) (by decide)) (hF.2 5 (by decide) (by decide)) (hF.2 6 (by decide) (by decide))
    rw [lk_go]
    unfold f_M_look_7
    rw [B_len hM]
    simp only [Option.bind_some]
    rw [x2, if_pos ((pn_lt (by clear hM hM0; omega) (by clear hM hM0; omega)).mpr (by clear hM hM0; omega))]
    exact none_ _ q I A X (by clear hM hM0; omega) hF i35 hno
  | succ m ih =>
    intro q fuel I A X hm hf hpq hqn hF i35 x2 hno
    obtain ⟨g, rfl⟩ : ∃ g, fuel = g + 1 := ⟨fuel - 1, by omega⟩
    have hM : MTxt I A tn tx ps := hM0.fr (hF.1 4 (by decide) (by decide)) (hF.2 5 (by decide) (by decide)) (hF.2 6 (by decide) (by decide))
    rw [lk_go]
    unfold f_M_look_7
    rw [B_len hM]
    simp only [Option.bind_some]
    rw [x2]
    by_cases qn : tn < q
    · rw [if_pos ((pn_lt (by clear hM hM0; omega) (by clear hM hM0; omega)).mpr qn)]
      exact none_ _ q I A X qn hF i35 hno
    rw [if_neg (fun z => qn ((pn_lt (by clear hM hM0; omega) (by clear hM hM0; omega)).mp z)), i35, if_neg hm2]
    simp only [wk_let]
    obtain ⟨I1, hI1⟩ : ∃ I1, I1 = upd I 34 (Int32.ofNat q) := ⟨_, rfl⟩
    have hF1 : LkFr I0 I1 A0 A := ⟨fun j h1 h2 => by rw [hI1, upd_ne _ _ h1]; exact hF.1 j h1 h2, hF.2⟩
    have hM1 : MTxt I1 A tn tx ps := hM0.fr (hF1.1 4 (by decide) (by decide)) (hF1.2 5 (by decide) (by decide)) (hF1.2 6 (by decide) (by decide))
    have hR1 : RMean tn tx I1 A R := h0.frame (hF1.1 17 (by decide) (by decide)) (hF1.1 23 (by decide) (by decide)) (hF1.1 24 (by decide) (by decide)) (fun j _ hj => hF1.2 j (by omega) (by omega))
    rw [← hI1]
    obtain ⟨x, A2, e1, e2, e3⟩ := B_longest hR1 hM1 (show q ≤ tn by clear hM hM0 hM1; omega)
    rw [e1]
    simp only [Option.bind_some, pn_succ]
    obtain ⟨I2, hI2⟩ : ∃ I2, I2 = upd I1 35 x := ⟨_, rfl⟩
    have hF2 : LkFr I0 I2 A0 A2 := ⟨fun j h1 h2 => by rw [hI2, upd_ne _ _ h2]; exact hF1.1 j h1 h2, hF1.2.trans e2⟩
    rw [← hI2]
    rcases e3 with ⟨j, ex, hj, hb⟩ | ⟨ex, hb⟩
    · -- found
      right
      have hM2 : MTxt I2 A2 tn tx ps := hM0.fr (hF2.1 4 (by decide) (by decide)) (hF2.2 5 (by decide) (by decide)) (hF2.2 6 (by decide) (by decide))
      have i35' : I2 35 = Int32.ofNat j := by rw [hI2, upd_self]; exact ex
      have i34' : I2 34 = Int32.ofNat q := by rw [hI2, upd_ne _ _ (by decide), hI1, upd_self]
      have hjt : j ≤ tn := hR1.top (by clear hM hM0 hM1 hM2; omega) hb.2.1
      have hlt := hb.1
      obtain ⟨g2, rfl⟩ : ∃ g2, g = g2 + 1 := ⟨g - 1, by clear hM hM0 hM1 hM2; omega⟩
      have f42 : ∀ X' : Nat → Int32, f_M_look_42 (f_M_look_go g2) I2 A2 X' = some (1, I2, A2) := by
        intro X'
        unfold f_M_look_42 f_M_look_54
        rw [i35', if_neg (pn_nneg (by clear hM hM0 hM1 hM2; omega)), if_pos nar_bool1]
      refine ⟨I2, A2, q, j, ?_, hF2, i34', i35', hpq, by clear hM hM0 hM1 hM2; omega, hjt, hb, hno⟩
      rw [lk_go]
      unfold f_M_look_7
      rw [B_len hM2]
      simp only [Option.bind_some]
      split
      · exact f42 _
      · rw [i35', if_pos (pn_0le (by clear hM hM0 hM1 hM2; omega))]
        exact f42 _
    · refine ih (q + 1) g I2 A2 _ (by clear hM hM0 hM1; omega) (by clear hM hM0 hM1; omega) (by clear hM hM0 hM1; omega) (by clear hM hM0 hM1; omega) hF2 (by rw [hI2, upd_self]; exact ex) (upd_self _ _ _) (fun z h1 h2 => ?_)
      by_cases e : z = q
      · rw [e]; exact hb
      · exact hno z h1 (by clear hM hM0 hM1; omega)
theorem B_look {tn : Nat} {tx : Nat → Int32} {R : Rl} {ps p : Nat} {I : MI} {A : MA} (h : RMean tn tx I A R) (hM : MTxt I A tn tx ps) (hp : p ≤ tn) : LkOut R tn p I A (f_M_look I A (Int32.ofNat p)) := by
  have fu := wk_FUEL_big
  have ht := hM.t.nb
  unfold f_M_look f_M_look_e
  simp only [wk_let]
  generalize wk_FUEL = F at fu ⊢
  exact B_look_go h hM (tn + 1 - p) p F (upd I 35 (-1)) A _ (Nat.le_refl _) (by clear hM; omega) (Nat.le_refl _) (by clear hM; omega) ⟨fun j _ h2 => upd_ne _ _ h2, HFr.refl A⟩ (upd_self _ _ _) (upd_self _ _ _) (fun z h1 h2 => by clear hM; omega)
