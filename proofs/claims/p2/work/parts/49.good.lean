theorem pn_addm1 {d : Nat} (h : 0 < d) : Int32.ofNat d + (-1) = Int32.ofNat (d - 1) := by
  rw [← Int32.sub_eq_add_neg]; exact pn_sub (a := d) (b := 1) h
/-- has the open row a part -/
def st_has (st : List RLv) : Bool := match st with
  | (_, _, some _) :: _ => true
  | _ => false
def g_flag (b : Bool) : Int32 := if b then 1 else 0
/-- the reference's answer to a reading -/
def GRes (n : Nat) (o : Rd) (x : Int32) : Prop := match o with
  | Sum.inl p => (p < n ∧ x = Int32.ofNat p) ∨ (p = n ∧ x = -1 - Int32.ofNat n)
  | Sum.inr _ => x = Int32.ofNat n
theorem B_isPlain {c : Nat} (hc : c < 128) : f_M_isPlain (Int32.ofNat c) = some (if c = 40 ∨ c = 41 ∨ c = 91 ∨ c = 93 ∨ c = 124 ∨ c = 42 ∨ c = 43 ∨ c = 63 ∨ c = 46 ∨ c = 94 ∨ c = 36 ∨ c = 92 then 0 else 1) := by
  have h : ∀ c : Fin 128, f_M_isPlain (Int32.ofNat c.val) = some (if c.val = 40 ∨ c.val = 41 ∨ c.val = 91 ∨ c.val = 93 ∨ c.val = 124 ∨ c.val = 42 ∨ c.val = 43 ∨ c.val = 63 ∨ c.val = 46 ∨ c.val = 94 ∨ c.val = 36 ∨ c.val = 92 then 0 else 1) := by decide +kernel
  exact h ⟨c, hc⟩
/-- inside a set, behind its first character -/
theorem B_good5 {s : Nat → Nat} {n e : Nat} {I : MI} {A : MA} (hS : Slip (A 2) s n) (h1 : I 1 = Int32.ofNat n) (hen : e ≤ n) (hee : e = n ∨ s e = 93) :
    ∀ (m p fuel : Nat) (X : Nat → Int32), e - p ≤ m → p ≤ e → e - p + 1 ≤ fuel → (∀ j, p ≤ j → j < e → s j ≠ 93) → X 1 = 5 → X 3 = Int32.ofNat p →
      (e = n → f_M_good_go fuel 6 I A X = some (-1 - Int32.ofNat n, I, A)) ∧ (e < n → ∃ X', X' 1 = 1 ∧ X' 2 = X 2 ∧ X' 3 = Int32.ofNat (e + 1) ∧ f_M_good_go fuel 6 I A X = f_M_good_go (fuel - (e - p) - 1) 6 I A X') := by
  have hnb := hS.nb
  have h52 : ¬ (5 : Int32) = 2 := by decide
  have h53 : ¬ (5 : Int32) = 3 := by decide
  have h5le : ¬ (5 : Int32) ≤ 2 := by decide
  have h55 : (5 : Int32) ≤ 5 := by decide
  have h15 : (1 : Int32) < 5 := by decide
  intro m
  induction m with
  | zero =>
    intro p fuel X hm hp hf hno x1 x3
    obtain ⟨g, rfl⟩ : ∃ g, fuel = g + 1 := ⟨fuel - 1, by omega⟩
    have epe : p = e := by omega
    subst epe
    refine ⟨fun q => ?_, fun q => ?_⟩
    · simp only [f_M_good_go, f_M_good_6, if_true, h1, x3, x1]
      rw [if_pos ((pn_le (by omega) (by omega)).mpr (by omega)), if_pos h15]
      simp only [f_M_good_231, f_M_good_244, h1]
    · have h93 : s p = 93 := by
        rcases hee with z | z
        · omega
        · exact z
      obtain ⟨e0, c0⟩ := hS.ch p q
      refine ⟨upd (upd (upd X 4 (Int32.ofNat (s p))) 1 1) 3 (Int32.ofNat (p + 1)), ?_, ?_, upd_self _ _ _, ?_⟩
      · rw [upd_ne _ _ (by decide), upd_self]
      · rw [upd_ne _ _ (by decide), upd_ne _ _ (by decide), upd_ne _ _ (by decide)]
      · have eg : g + 1 - (p - p) - 1 = g := by omega
        rw [eg]
        have y1 : upd X 4 (Int32.ofNat (s p)) 1 = 5 := by rw [upd_ne _ _ (by decide)]; exact x1
        have y3 : upd X 4 (Int32.ofNat (s p)) 3 = Int32.ofNat p := by rw [upd_ne _ _ (by decide)]; exact x3
        have y4 : upd X 4 (Int32.ofNat (s p)) 4 = Int32.ofNat (s p) := upd_self _ _ _
        have e93 : Int32.ofNat (s p) = 93 := (pn_eqc 93 rfl (by omega) (by omega)).mpr h93
        conv => lhs; unfold f_M_good_go
        simp only [f_M_good_6, if_true, h1, x3, x1, pn_nat (show p < 2147483648 by omega), e0]
        rw [if_neg (fun z => by have := (pn_le (a := n) (b := p) (by omega) (by omega)).mp z; omega), if_pos (pn_i24 (show p < 24 by omega)), if_neg h52, if_neg h53]
        unfold f_M_good_49
        rw [y1, y4, if_neg h5le, if_pos e93, if_pos h55]
        unfold f_M_good_68
        rw [y4, if_pos e93]
        unfold f_M_good_80 f_M_good_216
        rw [upd_ne _ _ (by decide), y3, pn_succ]
  | succ m ih =>
    intro p fuel X hm hp hf hno x1 x3
    by_cases q0 : p = e
    · exact ih p fuel X (by omega) hp hf hno x1 x3
    · obtain ⟨g, rfl⟩ : ∃ g, fuel = g + 1 := ⟨fuel - 1, by omega⟩
      obtain ⟨e0, c0⟩ := hS.ch p (by omega)
      have hn93 := hno p (Nat.le_refl _) (by omega)
      have ne93 : ¬ Int32.ofNat (s p) = 93 := fun z => hn93 ((pn_eqc 93 rfl (by omega) (by omega)).mp z)
      have y1 : upd X 4 (Int32.ofNat (s p)) 1 = 5 := by rw [upd_ne _ _ (by decide)]; exact x1
      have y3 : upd X 4 (Int32.ofNat (s p)) 3 = Int32.ofNat p := by rw [upd_ne _ _ (by decide)]; exact x3
      have y4 : upd X 4 (Int32.ofNat (s p)) 4 = Int32.ofNat (s p) := upd_self _ _ _
      have step : f_M_good_go (g + 1) 6 I A X = f_M_good_go g 6 I A (upd (upd (upd X 4 (Int32.ofNat (s p))) 1 5) 3 (Int32.ofNat (p + 1))) := by
        conv => lhs; unfold f_M_good_go
        simp only [f_M_good_6, if_true, h1, x3, x1, pn_nat (show p < 2147483648 by omega), e0]
        rw [if_neg (fun z => by have := (pn_le (a := n) (b := p) (by omega) (by omega)).mp z; omega), if_pos (pn_i24 (show p < 24 by omega)), if_neg h52, if_neg h53]
        unfold f_M_good_49
        rw [y1, y4, if_neg h5le, if_neg ne93]
        unfold f_M_good_68
        rw [y4, if_neg ne93]
        unfold f_M_good_80 f_M_good_216
        rw [upd_ne _ _ (by decide), y3, pn_succ]
      obtain ⟨i1, i2⟩ := ih (p + 1) g (upd (upd (upd X 4 (Int32.ofNat (s p))) 1 5) 3 (Int32.ofNat (p + 1))) (by omega) (by omega) (by omega) (fun j h1 h2 => hno j (by omega) h2) (by rw [upd_ne _ _ (by decide), upd_self]) (upd_self _ _ _)
      refine ⟨fun q => by rw [step]; exact i1 q, fun q => ?_⟩
      obtain ⟨X', a1, a2, a3, a4⟩ := i2 q
      refine ⟨X', a1, ?_, a3, ?_⟩
      · rw [a2, upd_ne _ _ (by decide), upd_ne _ _ (by decide), upd_ne _ _ (by decide)]
      · rw [step, a4, show g + 1 - (e - p) - 1 = g - (e - (p + 1)) - 1 by omega]
/-- a set from its bracket on: its first character stands at b, the state is 3 or 4 -/
theorem B_goodB {s : Nat → Nat} {n b e : Nat} {I : MI} {A : MA} (hS : Slip (A 2) s n) (h1 : I 1 = Int32.ofNat n) (hb : b ≤ n) (he : e = fbr s (n - b) b) {fuel : Nat} (hf : n - b + 1 ≤ fuel) {X : Nat → Int32} (x1 : X 1 = 4 ∨ (X 1 = 3 ∧ (b < n → s b ≠ 94))) (x3 : X 3 = Int32.ofNat b) :
    (e = n → f_M_good_go fuel 6 I A X = some (-1 - Int32.ofNat n, I, A)) ∧ (e < n → e = b → f_M_good_go fuel 6 I A X = some (Int32.ofNat b, I, A)) ∧ (e < n → e ≠ b → ∃ X', X' 1 = 1 ∧ X' 2 = X 2 ∧ X' 3 = Int32.ofNat (e + 1) ∧ f_M_good_go fuel 6 I A X = f_M_good_go (fuel - (e - b) - 1) 6 I A X') := by
  have hnb := hS.nb
  obtain ⟨f1, f2, f3, f4⟩ := fbr_ok s (n - b) b
  rw [← he] at f1 f2 f3 f4
  have hen : e ≤ n := by omega
  have hee : e = n ∨ s e = 93 := by
    rcases f4 with z | z
    · exact Or.inl (by omega)
    · exact Or.inr z
  obtain ⟨g, rfl⟩ : ∃ g, fuel = g + 1 := ⟨fuel - 1, by omega⟩
  have k1 : (1 : Int32) < X 1 := by rcases x1 with z | ⟨z, _⟩ <;> (rw [z]; decide)
  have k2 : ¬ X 1 = 2 := by rcases x1 with z | ⟨z, _⟩ <;> (rw [z]; decide)
  have k3 : ¬ X 1 ≤ 2 := by rcases x1 with z | ⟨z, _⟩ <;> (rw [z]; decide)
  have k5 : ¬ (5 : Int32) ≤ X 1 := by rcases x1 with z | ⟨z, _⟩ <;> (rw [z]; decide)
  by_cases qn : b = n
  · have een : e = n := by omega
    refine ⟨fun _ => ?_, fun z => by omega, fun z => by omega⟩
    simp only [f_M_good_go, f_M_good_6, if_true, h1, x3]
    rw [if_pos ((pn_le (by omega) (by omega)).mpr (by omega)), if_pos k1]
    simp only [f_M_good_231, f_M_good_244, h1]
  · obtain ⟨e0, c0⟩ := hS.ch b (by omega)
    have y1 : upd X 4 (Int32.ofNat (s b)) 1 = X 1 := upd_ne _ _ (by decide)
    have y3 : upd X 4 (Int32.ofNat (s b)) 3 = Int32.ofNat b := by rw [upd_ne _ _ (by decide)]; exact x3
    have y4 : upd X 4 (Int32.ofNat (s b)) 4 = Int32.ofNat (s b) := upd_self _ _ _
    have to49 : f_M_good_go (g + 1) 6 I A X = f_M_good_49 (f_M_good_go g) I A (upd X 4 (Int32.ofNat (s b))) := by
      conv => lhs; unfold f_M_good_go
      simp only [f_M_good_6, if_true, h1, x3, pn_nat (show b < 2147483648 by omega), e0]
      rw [if_neg (fun z => by have := (pn_le (a := n) (b := b) (by omega) (by omega)).mp z; omega), if_pos (pn_i24 (show b < 24 by omega)), if_neg k2]
      rcases x1 with z | ⟨z, z2⟩
      · rw [if_neg (by rw [z]; decide)]
      · rw [if_pos z, if_neg (fun w => z2 (by omega) ((pn_eqc (x := 94) 94 rfl (by omega) (by omega)).mp w))]
    by_cases q93 : s b = 93
    · have eb : e = b := by
        by_cases w : b < e
        · exact (f3 b (Nat.le_refl _) w q93).elim
        · omega
      refine ⟨fun z => by omega, fun _ _ => ?_, fun _ z => (z eb).elim⟩
      rw [to49]
      unfold f_M_good_49
      rw [y1, y4, if_neg k3, if_pos ((pn_eqc (x := 93) 93 rfl (by omega) (by omega)).mpr q93), if_neg k5, y3]
    · have hbe : b < e := by
        by_cases w : e = b
        · rcases hee with z | z
          · omega
          · rw [w] at z; exact (q93 z).elim
        · omega
      have step : f_M_good_go (g + 1) 6 I A X = f_M_good_go g 6 I A (upd (upd (upd X 4 (Int32.ofNat (s b))) 1 5) 3 (Int32.ofNat (b + 1))) := by
        have ne93 : ¬ Int32.ofNat (s b) = 93 := fun z => q93 ((pn_eqc 93 rfl (by omega) (by omega)).mp z)
        rw [to49]
        unfold f_M_good_49
        rw [y1, y4, if_neg k3, if_neg ne93]
        unfold f_M_good_68
        rw [y4, if_neg ne93]
        unfold f_M_good_80 f_M_good_216
        rw [upd_ne _ _ (by decide), y3, pn_succ]
      obtain ⟨i1, i2⟩ := B_good5 hS h1 hen hee (e - (b + 1)) (b + 1) g (upd (upd (upd X 4 (Int32.ofNat (s b))) 1 5) 3 (Int32.ofNat (b + 1))) (Nat.le_refl _) hbe (by omega) (fun j h1 h2 => f3 j (by omega) h2) (by rw [upd_ne _ _ (by decide), upd_self]) (upd_self _ _ _)
      refine ⟨fun z => by rw [step]; exact i1 z, fun _ z => by omega, fun z _ => ?_⟩
      obtain ⟨X', a1, a2, a3, a4⟩ := i2 z
      refine ⟨X', a1, ?_, a3, ?_⟩
      · rw [a2, upd_ne _ _ (by decide), upd_ne _ _ (by decide), upd_ne _ _ (by decide)]
      · rw [step, a4, show g + 1 - (e - b) - 1 = g - (e - (b + 1)) - 1 by omega]
