theorem is_go (g : Nat) (I : MI) (A : MA) (X : Nat → Int32) : f_M_inSet_go (g + 1) 35 I A X = f_M_inSet_35 (f_M_inSet_go g) I A X := rfl
theorem g_flag_ne (b : Bool) : g_flag b ≠ 0 ↔ b = true := by cases b <;> decide
theorem g_flag_eq (a b : Bool) : g_flag a = g_flag b ↔ a = b := by cases a <;> cases b <;> decide
theorem nar_flag (b : Bool) : vp_nar .boolean (g_flag b) = g_flag b := by cases b <;> decide
theorem B_inSet_go {s : Nat → Nat} {I : MI} {A : MA} {e c : Nat} (hpat : ∀ k, k < 24 → A 16 k = Int32.ofNat (s k) ∧ s k < 128) (he : e ≤ 24) (hc : c < 128) (neg : Bool) :
    ∀ (m k fuel : Nat) (acc : Bool) (X : Nat → Int32), e - k ≤ m → m < fuel → X 1 = Int32.ofNat c → X 3 = Int32.ofNat e → X 4 = g_flag neg → X 5 = g_flag acc → X 6 = Int32.ofNat k → k < 100 → f_M_inSet_go fuel 35 I A X = some (g_flag ((acc || inset s e 24 k c) != neg), I, A) := by
  have h10 : ¬ (1 : Int32) = 0 := by decide
  -- the end
  have fin : ∀ (k g : Nat) (acc : Bool) (X : Nat → Int32), e ≤ k → X 3 = Int32.ofNat e → X 4 = g_flag neg → X 5 = g_flag acc → X 6 = Int32.ofNat k → k < 100 → f_M_inSet_go (g + 1) 35 I A X = some (g_flag ((acc || inset s e 24 k c) != neg), I, A) := by
    intro k g acc X hk x3 x4 x5 x6 hk1
    rw [is_go]
    unfold f_M_inSet_35
    rw [x3, x6, if_pos ((pn_le (by omega) (by omega)).mpr hk), inset_done 24 hk, Bool.or_false, x5, x4]
    by_cases q : acc = neg
    · rw [if_pos ((g_flag_eq _ _).mpr q)]
      unfold f_M_inSet_174
      rw [if_pos nar_bool0, q]
      cases neg <;> rfl
    · rw [if_neg (fun z => q ((g_flag_eq _ _).mp z))]
      unfold f_M_inSet_174
      rw [if_pos nar_bool1]
      cases acc <;> cases neg <;> first | rfl | exact (q rfl).elim
  intro m
  induction m with
  | zero =>
    intro k fuel acc X hm hf x1 x3 x4 x5 x6 hk1
    obtain ⟨g, rfl⟩ : ∃ g, fuel = g + 1 := ⟨fuel - 1, by omega⟩
    exact fin k g acc X (by omega) x3 x4 x5 x6 hk1
  | succ m ih =>
    intro k fuel acc X hm hf x1 x3 x4 x5 x6 hk1
    obtain ⟨g, rfl⟩ : ∃ g, fuel = g + 1 := ⟨fuel - 1, by omega⟩
    by_cases q : e ≤ k
    · exact fin k g acc X q x3 x4 x5 x6 hk1
    obtain ⟨p0, c0⟩ := hpat k (by omega)
    have nk : (Int32.ofNat k).toNatClampNeg = k := pn_nat (by omega)
    -- with the end of the range known
    have f113 : ∀ (rg : Bool) (hi : Nat) (X' : Nat → Int32), hi < 128 → X' 1 = Int32.ofNat c → X' 3 = Int32.ofNat e → X' 4 = g_flag neg → X' 5 = g_flag acc → X' 6 = Int32.ofNat k → X' 7 = g_flag rg → (inset s e 24 k c = (decide (s k ≤ c ∧ c ≤ hi) || inset s e 24 (if rg then k + 3 else k + 1) c)) →
        f_M_inSet_113 (f_M_inSet_go g) I A X' (Int32.ofNat hi) = some (g_flag ((acc || inset s e 24 k c) != neg), I, A) := by
      intro rg hi X' hhi y1 y3 y4 y5 y6 y7 hin
      have f142 : ∀ (acc' : Bool), (acc' = (acc || decide (s k ≤ c ∧ c ≤ hi))) → f_M_inSet_142 (f_M_inSet_go g) I A (upd X' 8 (Int32.ofNat hi)) (g_flag acc') = some (g_flag ((acc || inset s e 24 k c) != neg), I, A) := by
        intro acc' ha
        have z7 : upd X' 8 (Int32.ofNat hi) 7 = g_flag rg := by rw [upd_ne _ _ (by decide)]; exact y7
        have z6 : upd X' 8 (Int32.ofNat hi) 6 = Int32.ofNat k := by rw [upd_ne _ _ (by decide)]; exact y6
        unfold f_M_inSet_142 f_M_inSet_156
        rw [z7, z6, hin, ← Bool.or_assoc, ← ha]
        cases rg
        · rw [if_pos (show g_flag false = 0 from rfl), pn_succ]
          exact ih (k + 1) g acc' _ (by omega) (by omega) (by rw [upd_ne _ _ (by decide), upd_ne _ _ (by decide), upd_ne _ _ (by decide)]; exact y1) (by rw [upd_ne _ _ (by decide), upd_ne _ _ (by decide), upd_ne _ _ (by decide)]; exact y3) (by rw [upd_ne _ _ (by decide), upd_ne _ _ (by decide), upd_ne _ _ (by decide)]; exact y4) (by rw [upd_ne _ _ (by decide), upd_self]) (upd_self _ _ _) (by omega)
        · rw [if_neg (show ¬ g_flag true = 0 from h10), pn_add3]
          exact ih (k + 3) g acc' _ (by omega) (by omega) (by rw [upd_ne _ _ (by decide), upd_ne _ _ (by decide), upd_ne _ _ (by decide)]; exact y1) (by rw [upd_ne _ _ (by decide), upd_ne _ _ (by decide), upd_ne _ _ (by decide)]; exact y3) (by rw [upd_ne _ _ (by decide), upd_ne _ _ (by decide), upd_ne _ _ (by decide)]; exact y4) (by rw [upd_ne _ _ (by decide), upd_self]) (upd_self _ _ _) (by omega)
      unfold f_M_inSet_113 f_M_inSet_141 f_M_inSet_137
      rw [y5, y6, if_pos (pn_i24 (show k < 24 by omega)), nk, p0, y1]
      cases acc
      · rw [if_pos (show g_flag false = 0 from rfl)]
        by_cases q1 : c < s k
        · rw [if_pos ((pn_lt (by omega) (by omega)).mpr q1)]
          exact f142 false (by rw [Bool.false_or]; exact (decide_eq_false (by omega)).symm)
        · rw [if_neg (fun z => q1 ((pn_lt (by omega) (by omega)).mp z))]
          by_cases q2 : hi < c
          · rw [if_pos ((pn_lt (by omega) (by omega)).mpr q2)]
            exact f142 false (by rw [Bool.false_or]; exact (decide_eq_false (by omega)).symm)
          · rw [if_neg (fun z => q2 ((pn_lt (by omega) (by omega)).mp z))]
            exact f142 true (by rw [Bool.false_or]; exact (decide_eq_true (by omega)).symm)
      · rw [if_neg (show ¬ g_flag true = 0 from h10)]
        exact f142 true rfl
    -- a character alone
    have one : ¬ (k + 2 < e ∧ s (k + 1) = 45 ∧ s k ≤ s (k + 2)) → f_M_inSet_86 (f_M_inSet_go g) I A X = some (g_flag ((acc || inset s e 24 k c) != neg), I, A) := by
      intro hno
      unfold f_M_inSet_86 f_M_inSet_87
      rw [if_pos rfl, x6, if_pos (pn_i24 (show k < 24 by omega)), nk, p0]
      refine f113 false (s k) _ c0 (by rw [upd_ne _ _ (by decide)]; exact x1) (by rw [upd_ne _ _ (by decide)]; exact x3) (by rw [upd_ne _ _ (by decide)]; exact x4) (by rw [upd_ne _ _ (by decide)]; exact x5) (by rw [upd_ne _ _ (by decide)]; exact x6) (upd_self _ _ _) ?_
      rw [inset_step (by omega) (show e - k ≤ 24 by omega), if_neg hno]
      congr 1
      apply decide_eq_decide.mpr; omega
    rw [is_go]
    unfold f_M_inSet_35
    rw [x3, x6, if_neg (fun z => q ((pn_le (by omega) (by omega)).mp z)), pn_add2, pn_succ]
    by_cases q1 : e ≤ k + 2
    · rw [if_pos ((pn_le (by omega) (by omega)).mpr q1)]
      exact one (by omega)
    · rw [if_neg (fun z => q1 ((pn_le (by omega) (by omega)).mp z)), if_pos (pn_i24 (show k + 1 < 24 by omega)), pn_nat (show k + 1 < 2147483648 by omega)]
      obtain ⟨p1, c1⟩ := hpat (k + 1) (by omega)
      obtain ⟨p2, c2⟩ := hpat (k + 2) (by omega)
      rw [p1]
      by_cases q2 : s (k + 1) = 45
      · rw [if_pos ((pn_eqc (x := 45) 45 rfl (by omega) (by omega)).mpr q2), if_pos (pn_i24 (show k + 2 < 24 by omega)), if_pos (pn_i24 (show k < 24 by omega)), pn_nat (show k + 2 < 2147483648 by omega), p2, nk, p0]
        by_cases q3 : s (k + 2) < s k
        · rw [if_pos ((pn_lt (by omega) (by omega)).mpr q3)]
          exact one (by omega)
        · rw [if_neg (fun z => q3 ((pn_lt (by omega) (by omega)).mp z))]
          have hyes : k + 2 < e ∧ s (k + 1) = 45 ∧ s k ≤ s (k + 2) := ⟨by omega, q2, by omega⟩
          unfold f_M_inSet_87
          rw [if_neg h10, x6, pn_add2, if_pos (pn_i24 (show k + 2 < 24 by omega)), pn_nat (show k + 2 < 2147483648 by omega), p2]
          refine f113 true (s (k + 2)) _ c2 (by rw [upd_ne _ _ (by decide)]; exact x1) (by rw [upd_ne _ _ (by decide)]; exact x3) (by rw [upd_ne _ _ (by decide)]; exact x4) (by rw [upd_ne _ _ (by decide)]; exact x5) (by rw [upd_ne _ _ (by decide)]; exact x6) (upd_self _ _ _) ?_
          rw [inset_step (by omega) (show e - k ≤ 24 by omega), if_pos hyes]
          rfl
      · rw [if_neg (fun z => q2 ((pn_eqc (x := 45) 45 rfl (by omega) (by omega)).mp z))]
        exact one (by omega)
theorem B_inSet {s : Nat → Nat} {I : MI} {A : MA} {b e c : Nat} (hpat : ∀ k, k < 24 → A 16 k = Int32.ofNat (s k) ∧ s k < 128) (hbe : b < e) (he : e ≤ 24) (hc : c < 128) : f_M_inSet I A (Int32.ofNat c) (Int32.ofNat b) (Int32.ofNat e) = some (g_flag (m_set s b e c), I, A) := by
  have fu := wk_FUEL_big
  have h10 : ¬ (1 : Int32) = 0 := by decide
  obtain ⟨p0, c0⟩ := hpat b (by omega)
  have em : m_set s b e c = (inset s e 24 (if m_neg s b = true then b + 1 else b) c != m_neg s b) := rfl
  unfold f_M_inSet f_M_inSet_e f_M_inSet_16 f_M_inSet_33
  generalize wk_FUEL = F at fu ⊢
  rw [if_pos (pn_i24 (show b < 24 by omega)), pn_nat (show b < 2147483648 by omega), p0]
  by_cases q : s b = 94
  · have hneg : m_neg s b = true := decide_eq_true q
    have x2 : upd (upd (upd (fun _ => (0 : Int32)) 1 (Int32.ofNat c)) 2 (Int32.ofNat b)) 3 (Int32.ofNat e) 2 = Int32.ofNat b := rfl
    rw [hneg, if_pos rfl] at em
    rw [if_pos ((pn_eqc (x := 94) 94 rfl (by omega) (by omega)).mpr q), if_neg h10, x2, pn_succ, em]
    have hh := B_inSet_go (I := I) hpat he hc true (e - (b + 1)) (b + 1) F false (upd (upd (upd (upd (upd (upd (fun _ => 0) 1 (Int32.ofNat c)) 2 (Int32.ofNat b)) 3 (Int32.ofNat e)) 4 1) 5 0) 6 (Int32.ofNat (b + 1))) (Nat.le_refl _) (by omega) rfl rfl rfl rfl rfl (by omega)
    rw [Bool.false_or] at hh
    exact hh
  · have hneg : m_neg s b = false := decide_eq_false q
    have x2 : upd (upd (upd (fun _ => (0 : Int32)) 1 (Int32.ofNat c)) 2 (Int32.ofNat b)) 3 (Int32.ofNat e) 2 = Int32.ofNat b := rfl
    rw [hneg, if_neg (by decide)] at em
    rw [if_neg (fun z => q ((pn_eqc (x := 94) 94 rfl (by omega) (by omega)).mp z)), if_pos rfl, x2, em]
    have hh := B_inSet_go (I := I) hpat he hc false (e - b) b F false (upd (upd (upd (upd (upd (upd (fun _ => 0) 1 (Int32.ofNat c)) 2 (Int32.ofNat b)) 3 (Int32.ofNat e)) 4 0) 5 0) 6 (Int32.ofNat b)) (Nat.le_refl _) (by omega) rfl rfl rfl rfl rfl (by omega)
    rw [Bool.false_or] at hh
    exact hh
/-- does a node of the reference take a character -/
theorem B_takes {tn : Nat} {tx : Nat → Int32} {I : MI} {A : MA} {s : Nat → Nat} {n : Nat} {on tw : Nat → Option Nat} {lab : Nat → Rl} {fs ls : Nat} {R : Rl} (hD : RDone tn tx I A s n on tw lab fs ls R) {u p c : Nat} (hu : u < n) (hp : p < tn) (hc : c < 128) (hcx : tx p = Int32.ofNat c) :
    ∃ b, f_M_takes I A (Int32.ofNat u) (Int32.ofNat c) = some (b, I, A) ∧ (b ≠ 0 ↔ lab u p (p + 1)) := by
  have hnb := hD.hnb
  have h10 : ¬ (1 : Int32) = 0 := by decide
  have n1 : (Int32.ofNat u).toNatClampNeg = u := pn_nat (by omega)
  have i160 := pn_i160 (show u < 160 by omega)
  have hlab := hD.hlab u hu
  have y66 : ∀ X : Nat → Int32, f_M_takes_66 I A X = some (1, I, A) := fun X => by simp only [f_M_takes_66, f_M_takes_71, nar_bool1, if_true]
  have y70 : ∀ X : Nat → Int32, f_M_takes_70 I A X = some (0, I, A) := fun X => by simp only [f_M_takes_70, f_M_takes_71, nar_bool0, if_true]
  have yes : lab u p (p + 1) → ∀ X : Nat → Int32, ∃ b, f_M_takes_66 I A X = some (b, I, A) ∧ (b ≠ 0 ↔ lab u p (p + 1)) := fun hl X => ⟨1, y66 X, fun _ => hl, fun _ => h10⟩
  have no : ¬ lab u p (p + 1) → ∀ X : Nat → Int32, ∃ b, f_M_takes_70 I A X = some (b, I, A) ∧ (b ≠ 0 ↔ lab u p (p + 1)) := fun hl X => ⟨0, y70 X, fun z => (z rfl).elim, fun z => (hl z).elim⟩
  have f36 : ∀ X : Nat → Int32, X 1 = Int32.ofNat u → X 2 = Int32.ofNat c → (A 18 u ≠ 3 → ¬ lab u p (p + 1)) → ∃ b, f_M_takes_36 I A X = some (b, I, A) ∧ (b ≠ 0 ↔ lab u p (p + 1)) := by
    intro X x1 x2 hno
    unfold f_M_takes_36
    rw [x1, x2, if_pos i160, n1]
    by_cases q3 : A 18 u = 3
    · rw [if_pos q3, if_pos i160, if_pos i160]
      obtain ⟨b, e, eb, ee, hbe, he⟩ := hD.hse u hu q3
      have e1 : lab u = tl_con tn tx (fun x => m_set s (A 19 u).toNatClampNeg (A 20 u).toNatClampNeg x.toNatClampNeg = true) := by rw [hlab, q3]; rfl
      rw [eb, ee, B_inSet hD.hpat hbe he hc]
      simp only [Option.bind_some]
      have hl : lab u p (p + 1) ↔ m_set s b e c = true := by
        rw [e1, eb, ee, pn_nat (show b < 2147483648 by omega), pn_nat (show e < 2147483648 by omega)]
        constructor
        · rintro ⟨_, _, z⟩
          have z' : m_set s b e (tx p).toNatClampNeg = true := z
          rw [hcx, pn_nat (show c < 2147483648 by omega)] at z'; exact z'
        · intro z
          refine ⟨rfl, hp, ?_⟩
          show m_set s b e (tx p).toNatClampNeg = true
          rw [hcx, pn_nat (show c < 2147483648 by omega)]; exact z
      by_cases qm : m_set s b e c = true
      · rw [if_neg ((g_flag_ne _).mpr qm)]; exact yes (hl.mpr qm) X
      · rw [if_pos (by rw [Bool.not_eq_true] at qm; rw [qm]; rfl)]; exact no (fun z => qm (hl.mp z)) X
    · rw [if_neg q3]; exact no (hno q3) X
  have f20 : ∀ X : Nat → Int32, X 1 = Int32.ofNat u → X 2 = Int32.ofNat c → (A 18 u ≠ 2 → A 18 u ≠ 3 → ¬ lab u p (p + 1)) → ∃ b, f_M_takes_20 I A X = some (b, I, A) ∧ (b ≠ 0 ↔ lab u p (p + 1)) := by
    intro X x1 x2 hno
    unfold f_M_takes_20
    rw [x1, x2, if_pos i160, n1]
    by_cases q2 : A 18 u = 2
    · have e1 : lab u = tl_con tn tx (fun x => x ≠ 10) := by rw [hlab, q2]; rfl
      rw [if_pos q2]
      by_cases qc : Int32.ofNat c = 10
      · rw [if_pos qc]
        refine f36 X x1 x2 (fun _ z => ?_)
        rw [e1] at z
        exact z.2.2 (by rw [hcx]; exact qc)
      · rw [if_neg qc]
        exact yes (by rw [e1]; exact ⟨rfl, hp, by rw [hcx]; exact qc⟩) X
    · rw [if_neg q2]
      exact f36 X x1 x2 (fun q3 => hno q2 q3)
  have hother : A 18 u ≠ 1 → A 18 u ≠ 2 → A 18 u ≠ 3 → ¬ lab u p (p + 1) := by
    intro q1 q2 q3 z
    rw [hlab] at z
    unfold rLab at z
    rw [if_neg q1, if_neg q2, if_neg q3] at z
    split at z
    · have : p = p + 1 := z; omega
    · split at z
      · have := z.1; omega
      · split at z
        · have := z.1; omega
        · exact z
  unfold f_M_takes
  rw [if_pos i160, n1]
  by_cases q1 : A 18 u = 1
  · have e1 : lab u = tl_con tn tx (fun x => x = A 19 u) := by rw [hlab, q1]; rfl
    rw [if_pos q1, if_pos i160]
    by_cases qc : Int32.ofNat c = A 19 u
    · rw [if_pos qc]
      exact yes (by rw [e1]; exact ⟨rfl, hp, by rw [hcx]; exact qc⟩) _
    · rw [if_neg qc]
      refine f20 _ rfl rfl (fun _ _ z => ?_)
      rw [e1] at z
      exact qc (by have := z.2.2; rw [hcx] at this; exact this)
  · rw [if_neg q1]
    exact f20 _ rfl rfl (fun q2 q3 => hother q1 q2 q3)
