/-- the slip is copied, then the builder begins -/
theorem B_comp70 {tn : Nat} {tx : Nat → Int32} {s : Nat → Nat} {n : Nat} (hT : Txt tn tx) (hn24 : n ≤ 24) {st' : List RLv} (hrd : rd tn tx s n (n + 1) 0 (st_open []) = Rd.done st') (hs : ∀ k, k < 24 → s k < 128) : ∀ (m k fuel : Nat) (I : MI) (A : MA) (X : Nat → Int32), n - k ≤ m → n - k + n + 3 ≤ fuel → k ≤ n → (∀ j, j < n → A 2 j = Int32.ofNat (s j)) →
    (∀ j, j < 24 → (j < k ∨ n ≤ j) → A 16 j = Int32.ofNat (s j)) → I 1 = Int32.ofNat n → I 15 = Int32.ofNat n → X 3 = Int32.ofNat k →
    ∃ x, st' = [x] ∧ Res (f_M_compile_go fuel 70 I A X) (fun z => z.2.1 1 = 0 ∧ z.2.1 13 = 1 ∧ (∀ j, (j < 13 ∨ j = 14 ∨ j = 15 ∨ 29 ≤ j) → j ≠ 1 → z.2.1 j = I j) ∧ (∀ j, (j < 16 ∨ j = 17 ∨ 32 ≤ j) → z.2.2 j = A j) ∧ RMean tn tx z.2.1 z.2.2 (rl_all x)) := by
  -- the end of the copying
  have fin : ∀ (k g : Nat) (I : MI) (A : MA) (X : Nat → Int32), n ≤ k → k ≤ n → n + 2 ≤ g → (∀ j, j < 24 → A 16 j = Int32.ofNat (s j)) → I 1 = Int32.ofNat n → I 15 = Int32.ofNat n → X 3 = Int32.ofNat k →
      ∃ x, st' = [x] ∧ Res (f_M_compile_go (g + 1) 70 I A X) (fun z => z.2.1 1 = 0 ∧ z.2.1 13 = 1 ∧ (∀ j, (j < 13 ∨ j = 14 ∨ j = 15 ∨ 29 ≤ j) → j ≠ 1 → z.2.1 j = I j) ∧ (∀ j, (j < 16 ∨ j = 17 ∨ 32 ≤ j) → z.2.2 j = A j) ∧ RMean tn tx z.2.1 z.2.2 (rl_all x)) := by
    intro k g I A X h1 h2 hg hpat i1 i15 x3
    obtain ⟨I4, hI4⟩ : ∃ I4, I4 = upd (upd (upd (upd I 1 0) 17 0) 25 0) 28 0 := ⟨_, rfl⟩
    let r0 : RR := RR.mk 0 (fun _ => none) (fun _ => none) (fun _ => rl_no) 0 (fun _ => 0) (fun _ => 0) 0 (fun _ => none) (fun _ => 0) (fun _ => none)
    have hA0 : RAbs tn tx s I4 A r0 := by
      refine ⟨?_, by show 0 ≤ 160; omega, fun u hu => absurd hu (Nat.not_lt_zero _), fun u hu => absurd hu (Nat.not_lt_zero _), fun u hu => absurd hu (Nat.not_lt_zero _), ?_, by show 0 ≤ 160; omega, fun u hu => absurd hu (Nat.not_lt_zero _), fun u hu => absurd hu (Nat.not_lt_zero _), fun u hu => absurd hu (Nat.not_lt_zero _), fun u hu => absurd hu (Nat.not_lt_zero _), ?_, by show 0 ≤ 10; omega, fun u hu => absurd hu (Nat.not_lt_zero _), fun u hu => absurd hu (Nat.not_lt_zero _), fun u hu => absurd hu (Nat.not_lt_zero _), fun u hu => absurd hu (Nat.not_lt_zero _), fun u hu => absurd hu (Nat.not_lt_zero _)⟩
      · rw [hI4]; rfl
      · rw [hI4]; rfl
      · rw [hI4]; rfl
    obtain ⟨own0, hR0⟩ := r_start_inv (r := r0) rfl rfl
    obtain ⟨⟨y0, y1, y2⟩, ey, b1, b2⟩ := hA0.openG (by show 0 + 1 ≤ 10; omega) (by show 0 < 160; omega) (by show 0 < 160; omega)
    simp only at b1 b2
    obtain ⟨own1, hR1⟩ := r_open_inv hR0
    have i15' : y1 15 = Int32.ofNat n := by
      rw [b2.i 15 (by omega), hI4, upd_ne _ _ (by decide), upd_ne _ _ (by decide), upd_ne _ _ (by decide), upd_ne _ _ (by decide)]; exact i15
    obtain ⟨x, ex, hx⟩ := B_comp122 hT hn24 (n + 1) 0 g y1 y2 (upd X 3 0) (r_open r0) own1 (st_open []) st' (by omega) (by omega) (by omega) (fun j hj => by rw [b2.a 16 (by omega)]; exact ⟨hpat j hj, hs j hj⟩) b1 hR1 (List.cons_ne_nil _ _) (by show 1 ≤ 9; omega) (by show 0 + 1 ≤ _; omega) (by show 0 + 1 ≤ _; omega) i15' (upd_self _ _ _) hrd
    refine ⟨x, ex, ?_⟩
    have step : f_M_compile_go (g + 1) 70 I A X = f_M_compile_go g 122 y1 y2 (upd X 3 0) := by
      conv => lhs; unfold f_M_compile_go
      simp only [f_M_compile_70, if_true, i1, x3, wk_let]
      rw [if_pos ((pn_le (by omega) (by omega)).mpr h1), ← hI4, ey]
      rfl
    rw [step]
    refine hx.imp (fun z hz => ?_)
    obtain ⟨w1, w2, w3, w4⟩ := hz
    refine ⟨?_, w1, fun j hj hj1 => ?_, fun j hj => (w3 j (by omega)).trans (b2.a j (by omega)), w4⟩
    · rw [w2 1 (by omega), b2.i 1 (by omega), hI4]; rfl
    · rw [w2 j hj, b2.i j (by omega), hI4, upd_ne _ _ (by omega), upd_ne _ _ (by omega), upd_ne _ _ (by omega), upd_ne _ _ hj1]
  intro m
  induction m with
  | zero =>
    intro k fuel I A X hm hf hkn hsl hpat i1 i15 x3
    obtain ⟨g, rfl⟩ : ∃ g, fuel = g + 1 := ⟨fuel - 1, by omega⟩
    exact fin k g I A X (by omega) hkn (by omega) (fun j hj => hpat j hj (by omega)) i1 i15 x3
  | succ m ih =>
    intro k fuel I A X hm hf hkn hsl hpat i1 i15 x3
    obtain ⟨g, rfl⟩ : ∃ g, fuel = g + 1 := ⟨fuel - 1, by omega⟩
    by_cases q : n ≤ k
    · exact fin k g I A X q hkn (by omega) (fun j hj => hpat j hj (by omega)) i1 i15 x3
    · have e2 := hsl k (by omega)
      have cK := hs k (by omega)
      have step : f_M_compile_go (g + 1) 70 I A X = f_M_compile_go g 70 I (va_up A 16 (upd (A 16) k (Int32.ofNat (s k)))) (upd X 3 (Int32.ofNat (k + 1))) := by
        conv => lhs; unfold f_M_compile_go
        simp only [f_M_compile_70, if_true, i1, x3, wk_let, pn_nat (show k < 2147483648 by omega), pn_i24 (show k < 24 by omega), e2, nar_ch cK, pn_succ]
        rw [if_neg (fun z => q ((pn_le (by omega) (by omega)).mp z))]
      obtain ⟨x, ex, hx⟩ := ih (k + 1) g I (va_up A 16 (upd (A 16) k (Int32.ofNat (s k)))) (upd X 3 (Int32.ofNat (k + 1))) (by omega) (by omega) (by omega) (fun j hj => by rw [va_up_ne _ _ (by decide)]; exact hsl j hj)
        (fun j hj hj' => by
          rw [va_up_self]
          by_cases e : j = k
          · rw [e, upd_self]
          · rw [upd_ne _ _ e]; exact hpat j hj (by omega)) i1 i15 (upd_self _ _ _)
      refine ⟨x, ex, ?_⟩
      rw [step]
      refine hx.imp (fun z hz => ?_)
      obtain ⟨w1, w2, w3, w4, w5⟩ := hz
      exact ⟨w1, w2, w3, fun j hj => by rw [w4 j hj, va_up_ne _ _ (by omega)], w5⟩
theorem gm_neg {n : Nat} (h : n ≤ 24) : (-1 - Int32.ofNat n : Int32) < 0 := by
  have : ∀ n : Fin 25, (-1 - Int32.ofNat n.val : Int32) < 0 := by decide +kernel
  exact this ⟨n, by omega⟩
theorem gm_back {n : Nat} (h : n ≤ 24) : (-1 - (-1 - Int32.ofNat n) : Int32) = Int32.ofNat n := by
  have : ∀ n : Fin 25, (-1 - (-1 - Int32.ofNat n.val) : Int32) = Int32.ofNat n.val := by decide +kernel
  exact this ⟨n, by omega⟩
/-- what compile leaves in the reference -/
def MCOut (tn : Nat) (tx : Nat → Int32) (n : Nat) (I : MI) (A : MA) (o : Rd) (z : Int32 × MI × MA) : Prop := match o with
  | Sum.inl p => z.2.1 = upd (upd I 0 1) 14 (Int32.ofNat p) ∧ z.2.2 = A
  | Sum.inr st => z.2.1 0 = 0 ∧ z.2.1 1 = 0 ∧ z.2.1 13 = 1 ∧ z.2.1 14 = -1 ∧ (∀ j, ((1 < j ∧ j < 13) ∨ 29 ≤ j) → z.2.1 j = I j) ∧ (∀ j, (j < 16 ∨ j = 17 ∨ 32 ≤ j) → z.2.2 j = A j) ∧ ∃ x, st = [x] ∧ RMean tn tx z.2.1 z.2.2 (rl_all x)
theorem B_comp18 {tn : Nat} {tx : Nat → Int32} {s : Nat → Nat} {n : Nat} {I : MI} {A : MA} (hT : Txt tn tx) (hn24 : n ≤ 24) (hs : ∀ k, k < 24 → s k < 128) (hsl : ∀ j, j < n → A 2 j = Int32.ofNat (s j)) (hpat : ∀ j, j < 24 → n ≤ j → A 16 j = Int32.ofNat (s j)) (i1 : I 1 = Int32.ofNat n) {st : List RLv} (ho : rd tn tx s n (n + 1) 0 (st_open []) = Rd.done st) {F : Nat} (fu : 100000 < F) (X : Nat → Int32) :
    Res (f_M_compile_18 (f_M_compile_go F) I A X 1) (MCOut tn tx n I A (Rd.done st)) := by
  have h10 : ¬ (1 : Int32) = 0 := by decide
  have u2 : upd X 2 1 2 = 1 := upd_self _ _ _
  obtain ⟨I1, hI1⟩ : ∃ I1, I1 = upd I 0 0 := ⟨_, rfl⟩
  obtain ⟨I2, hI2⟩ : ∃ I2, I2 = upd I1 14 (-1) := ⟨_, rfl⟩
  have i1' : I2 1 = Int32.ofNat n := by rw [hI2, upd_ne _ _ (by decide), hI1, upd_ne _ _ (by decide)]; exact i1
  obtain ⟨I3, hI3⟩ : ∃ I3, I3 = upd I2 15 (Int32.ofNat n) := ⟨_, rfl⟩
  unfold f_M_compile_18
  rw [if_neg h10]
  unfold f_M_compile_29
  simp only [wk_let, u2, if_neg h10]
  rw [← hI1]
  unfold f_M_compile_52
  simp only [wk_let, u2, if_neg h10]
  rw [← hI2, i1', ← hI3]
  obtain ⟨y, ey, hy⟩ := B_comp70 hT hn24 ho hs n 0 F I3 A (upd (upd X 2 1) 3 0) (by omega) (by omega) (by omega) hsl (fun j hj hj' => hpat j hj (by omega)) (by rw [hI3, upd_ne _ _ (by decide)]; exact i1') (by rw [hI3, upd_self]) (upd_self _ _ _)
  refine hy.imp (fun z hz => ?_)
  obtain ⟨w1, w2, w3, w4, w5⟩ := hz
  refine ⟨?_, w1, w2, ?_, fun j hj => ?_, w4, y, ey, w5⟩
  · rw [w3 0 (by omega) (by omega), hI3, upd_ne _ _ (by decide), hI2, upd_ne _ _ (by decide), hI1, upd_self]
  · rw [w3 14 (by omega) (by omega), hI3, upd_ne _ _ (by decide), hI2, upd_self]
  · rw [w3 j (by omega) (by omega), hI3, upd_ne _ _ (by omega), hI2, upd_ne _ _ (by omega), hI1, upd_ne _ _ (by omega)]
theorem B_compile {tn : Nat} {tx : Nat → Int32} {s : Nat → Nat} {n : Nat} {I : MI} {A : MA} (hT : Txt tn tx) (hn24 : n ≤ 24) (hs : ∀ k, k < 24 → s k < 128) (hsl : ∀ j, j < n → A 2 j = Int32.ofNat (s j)) (hpat : ∀ j, j < 24 → n ≤ j → A 16 j = Int32.ofNat (s j)) (i1 : I 1 = Int32.ofNat n) :
    Res (f_M_compile I A) (MCOut tn tx n I A (rd tn tx s n (n + 1) 0 (st_open []))) := by
  have fu := wk_FUEL_big
  have hS : Slip (A 2) s n := ⟨hn24, fun j hj => ⟨hsl j hj, hs j (by omega)⟩⟩
  obtain ⟨x, ex, hx⟩ := B_good (tn := tn) (tx := tx) hS i1
  unfold f_M_compile f_M_compile_e
  generalize wk_FUEL = F at fu ⊢
  rw [ex]
  simp only [Option.bind_some]
  have h10 : ¬ (1 : Int32) = 0 := by decide
  rcases ho : rd tn tx s n (n + 1) 0 (st_open []) with p | st
  · rw [ho] at hx
    have hx' : (p < n ∧ x = Int32.ofNat p) ∨ (p = n ∧ x = -1 - Int32.ofNat n) := hx
    have hneg : (-1 - Int32.ofNat n : Int32) < 0 := gm_neg hn24
    have hback : (-1 - (-1 - Int32.ofNat n) : Int32) = Int32.ofNat n := gm_back hn24
    have hne : ¬ x = Int32.ofNat n := by
      rcases hx' with ⟨h1, e⟩ | ⟨_, e⟩
      · rw [e]; intro z; have := (pn_eq (by omega) (by omega)).mp z; omega
      · rw [e]; intro z; rw [z] at hneg; exact pn_nneg (by omega) hneg
    rw [i1, if_neg hne]
    have u1 : upd (upd (fun _ => (0 : Int32)) 1 x) 2 0 1 = x := by rw [upd_ne _ _ (by decide), upd_self]
    have u2 : upd (upd (fun _ => (0 : Int32)) 1 x) 2 0 2 = 0 := upd_self _ _ _
    simp only [f_M_compile_18, if_true, f_M_compile_29, wk_let, u1, u2, f_M_compile_52]
    rcases hx' with ⟨h1, e⟩ | ⟨h1, e⟩
    · rw [e, if_pos (pn_0le (by omega))]
      exact Res.mk ⟨rfl, rfl⟩
    · have hng : ¬ (0 : Int32) ≤ x := by
        rw [e, Int32.not_le]; exact hneg
      rw [if_neg hng, e, hback, ← h1]
      exact Res.mk ⟨rfl, rfl⟩
  · rw [ho] at hx
    have hx' : x = Int32.ofNat n := hx
    rw [i1, if_pos hx']
    exact B_comp18 hT hn24 hs hsl hpat i1 ho fu _
