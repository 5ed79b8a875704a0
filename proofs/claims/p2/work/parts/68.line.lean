/-- breaks before a place; where a line begins; where it ends -/
def brk (tx : Nat → Int32) : Nat → Nat
  | 0 => 0
  | n + 1 => brk tx n + (if tx n = 10 then 1 else 0)
def lst (tx : Nat → Int32) (n : Nat) : Nat → Nat → Nat
  | 0, j => j
  | d + 1, j => if n ≤ brk tx j then j else lst tx n d (j + 1)
def eol (tx : Nat → Int32) : Nat → Nat → Nat
  | 0, j => j
  | d + 1, j => if tx j = 10 then j else eol tx d (j + 1)
theorem brk_le (tx : Nat → Int32) : ∀ n, brk tx n ≤ n
  | 0 => Nat.le_refl _
  | n + 1 => by
    have := brk_le tx n
    simp only [brk]; split <;> omega
theorem brk_mono (tx : Nat → Int32) (a : Nat) : ∀ d, brk tx a ≤ brk tx (a + d)
  | 0 => Nat.le_refl _
  | d + 1 => by
    have := brk_mono tx a d
    show brk tx a ≤ brk tx (a + d) + (if tx (a + d) = 10 then 1 else 0)
    omega
theorem lst_le (tx : Nat → Int32) (n : Nat) : ∀ d j, lst tx n d j ≤ j + d ∧ j ≤ lst tx n d j
  | 0, j => ⟨Nat.le_refl _, Nat.le_refl _⟩
  | d + 1, j => by
    have := lst_le tx n d (j + 1)
    simp only [lst]; split <;> omega
theorem eol_le (tx : Nat → Int32) : ∀ d j, eol tx d j ≤ j + d ∧ j ≤ eol tx d j
  | 0, j => ⟨Nat.le_refl _, Nat.le_refl _⟩
  | d + 1, j => by
    have := eol_le tx d (j + 1)
    simp only [eol]; split <;> omega
/-- line's answer: 0 a value, 2 no such place or line, 3 no such question -/
def okLn (k2 : Int32) (b : Nat) : Bool := !decide (k2 < 0) && decide (k2 < Int32.ofNat (b + 1))
def okP2 (k2 : Int32) (tn : Nat) : Bool := !decide (k2 < 0) && decide (k2 ≤ Int32.ofNat tn)
def l_tag (tn : Nat) (tx : Nat → Int32) (k1 k2 : Int32) : Nat := if k1 = 0 then 0 else if k1 = 1 then (if okP2 k2 tn = true then 0 else 2) else if k1 = 2 then (if okLn k2 (brk tx tn) = true then 0 else 2) else if k1 = 3 then (if okLn k2 (brk tx tn) = true then 0 else 2) else 3
def l_beg (tn : Nat) (tx : Nat → Int32) (k2 : Int32) : Nat := lst tx k2.toNatClampNeg tn 0
def l_val (tn : Nat) (tx : Nat → Int32) (k1 k2 : Int32) : Int32 := if k1 = 0 then Int32.ofNat (brk tx tn + 1) else if k1 = 1 then Int32.ofNat (brk tx k2.toNatClampNeg) else if k1 = 2 then Int32.ofNat (l_beg tn tx k2) else Int32.ofNat (eol tx (tn - l_beg tn tx k2) (l_beg tn tx k2) - l_beg tn tx k2)
theorem MTxt.i4 {I I' : MI} {A : MA} {tn : Nat} {tx : Nat → Int32} {ps : Nat} (h : MTxt I A tn tx ps) (e : I' 4 = I 4) : MTxt I' A tn tx ps := by
  obtain ⟨h1, h2, h3, h4, h5⟩ := h
  exact ⟨by rw [e]; exact h1, h2, h3, h4, h5⟩
theorem B_brk_go {tn p : Nat} {tx : Nat → Int32} {ps : Nat} {I : MI} {A : MA} (hM : MTxt I A tn tx ps) (hp : p ≤ tn) : ∀ (d i fuel : Nat) (X : Nat → Int32), p - i = d → i ≤ p → d < fuel → X 1 = Int32.ofNat p → X 2 = Int32.ofNat (brk tx i) → X 3 = Int32.ofNat i → f_M_breaks_go fuel 4 I A X = some (Int32.ofNat (brk tx p), I, A) := by
  have ht := hM.t.nb
  intro d
  induction d with
  | zero =>
    intro i fuel X hd hi hf x1 x2 x3
    obtain ⟨f, rfl⟩ : ∃ f, fuel = f + 1 := ⟨fuel - 1, by omega⟩
    have ei : i = p := by omega
    show f_M_breaks_4 (f_M_breaks_go f) I A X = _
    unfold f_M_breaks_4
    rw [x1, x3, if_pos ((pn_le (by clear hM; omega) (by clear hM; omega)).mpr (by clear hM; omega)), x2, ei]
  | succ d ih =>
    intro i fuel X hd hi hf x1 x2 x3
    obtain ⟨f, rfl⟩ : ∃ f, fuel = f + 1 := ⟨fuel - 1, by omega⟩
    have hb := brk_le tx i
    show f_M_breaks_4 (f_M_breaks_go f) I A X = _
    unfold f_M_breaks_4
    rw [x1, x3, if_neg (fun z => by have := (pn_le (a := p) (b := i) (by clear hM; omega) (by clear hM; omega)).mp z; clear hM; omega), B_char hM (by clear hM; omega)]
    simp only [Option.bind_some]
    have key : ∀ c : Nat, brk tx i + c = brk tx (i + 1) → f_M_breaks_25 (f_M_breaks_go f) I A X (Int32.ofNat c) (X 2) = some (Int32.ofNat (brk tx p), I, A) := by
      intro c hc
      unfold f_M_breaks_25
      refine ih (i + 1) f _ (by omega) (by omega) (by omega) ?_ ?_ ?_
      · rw [upd_ne _ _ (by decide), upd_ne _ _ (by decide)]; exact x1
      · rw [upd_ne _ _ (by decide), upd_self, x2, pn_add, hc]
      · rw [upd_self, x3, pn_succ]
    by_cases q : tx i = 10
    · rw [if_pos q]; exact key 1 (by simp only [brk]; rw [if_pos q])
    · rw [if_neg q]; exact key 0 (by simp only [brk]; rw [if_neg q])
theorem B_brk {tn p : Nat} {tx : Nat → Int32} {ps : Nat} {I : MI} {A : MA} (hM : MTxt I A tn tx ps) (hp : p ≤ tn) : f_M_breaks I A (Int32.ofNat p) = some (Int32.ofNat (brk tx p), I, A) := by
  have ht := hM.t.nb
  have fu := wk_FUEL_big
  unfold f_M_breaks f_M_breaks_e
  refine B_brk_go hM hp p 0 wk_FUEL _ (by omega) (Nat.zero_le _) (by clear hM; omega) ?_ ?_ (upd_self _ _ _)
  · rw [upd_ne _ _ (by decide), upd_ne _ _ (by decide), upd_self]
  · rw [upd_ne _ _ (by decide), upd_self]; rfl
theorem B_lst_go {tn n : Nat} {tx : Nat → Int32} {ps : Nat} {I : MI} {A : MA} (hM : MTxt I A tn tx ps) (hn : n ≤ brk tx tn) : ∀ (d j fuel : Nat) (X : Nat → Int32), tn - j = d → j ≤ tn → d < fuel → X 1 = Int32.ofNat n → X 2 = Int32.ofNat j → f_M_lineStart_go fuel 2 I A X = some (Int32.ofNat (lst tx n d j), I, A) := by
  have ht := hM.t.nb
  have hb := brk_le tx tn
  intro d
  induction d with
  | zero =>
    intro j fuel X hd hj hf x1 x2
    obtain ⟨f, rfl⟩ : ∃ f, fuel = f + 1 := ⟨fuel - 1, by omega⟩
    have ej : j = tn := by omega
    show f_M_lineStart_2 (f_M_lineStart_go f) I A X = _
    unfold f_M_lineStart_2
    rw [x2, B_brk hM hj]
    simp only [Option.bind_some]
    rw [x1, ej, if_pos ((pn_le (by clear hM; omega) (by clear hM; omega)).mpr hn)]
    rfl
  | succ d ih =>
    intro j fuel X hd hj hf x1 x2
    obtain ⟨f, rfl⟩ : ∃ f, fuel = f + 1 := ⟨fuel - 1, by omega⟩
    have hbj := brk_le tx j
    show f_M_lineStart_2 (f_M_lineStart_go f) I A X = _
    unfold f_M_lineStart_2
    rw [x2, B_brk hM hj]
    simp only [Option.bind_some, lst]
    rw [x1]
    by_cases q : n ≤ brk tx j
    · rw [if_pos ((pn_le (by clear hM; omega) (by clear hM; omega)).mpr q), if_pos q]
    · rw [if_neg (fun z => q ((pn_le (by clear hM; omega) (by clear hM; omega)).mp z)), if_neg q]
      refine ih (j + 1) f _ (by omega) (by omega) (by omega) ?_ ?_
      · rw [upd_ne _ _ (by decide)]; exact x1
      · rw [upd_self, pn_succ]
theorem B_lst {tn n : Nat} {tx : Nat → Int32} {ps : Nat} {I : MI} {A : MA} (hM : MTxt I A tn tx ps) (hn : n ≤ brk tx tn) : f_M_lineStart I A (Int32.ofNat n) = some (Int32.ofNat (lst tx n tn 0), I, A) := by
  have ht := hM.t.nb
  have fu := wk_FUEL_big
  unfold f_M_lineStart f_M_lineStart_e
  refine B_lst_go hM hn tn 0 wk_FUEL _ (by omega) (Nat.zero_le _) (by clear hM; omega) ?_ (upd_self _ _ _)
  rw [upd_ne _ _ (by decide), upd_self]
theorem B_eol_go {tn s : Nat} {tx : Nat → Int32} {ps : Nat} {I : MI} {A : MA} {k1 : Int32} (hM : MTxt I A tn tx ps) (hs : s ≤ tn) : ∀ (d j fuel : Nat) (X : Nat → Int32), tn - j = d → j ≤ tn → s ≤ j → d < fuel → X 1 = k1 → X 5 = Int32.ofNat s → X 6 = Int32.ofNat j → f_M_line_go fuel 117 I A X = some (if k1 = 2 then Int32.ofNat s else Int32.ofNat (eol tx d j - s), I, A) := by
  have ht := hM.t.nb
  intro d
  induction d with
  | zero =>
    intro j fuel X hd hj hsj hf x1 x5 x6
    obtain ⟨f, rfl⟩ : ∃ f, fuel = f + 1 := ⟨fuel - 1, by omega⟩
    show f_M_line_117 (f_M_line_go f) I A X = _
    unfold f_M_line_117 f_M_line_143 f_M_line_158
    rw [B_len hM]
    simp only [Option.bind_some]
    rw [x6, if_pos ((pn_le (by clear hM; omega) (by clear hM; omega)).mpr (by clear hM; omega)), x1, x5, pn_sub hsj]
    by_cases q : k1 = 2
    · rw [if_pos q, if_pos q]
    · rw [if_neg q, if_neg q]; rfl
  | succ d ih =>
    intro j fuel X hd hj hsj hf x1 x5 x6
    obtain ⟨f, rfl⟩ : ∃ f, fuel = f + 1 := ⟨fuel - 1, by omega⟩
    show f_M_line_117 (f_M_line_go f) I A X = _
    unfold f_M_line_117
    rw [B_len hM]
    simp only [Option.bind_some]
    rw [x6, if_neg (fun z => by have := (pn_le (a := tn) (b := j) (by clear hM; omega) (by clear hM; omega)).mp z; clear hM; omega), B_char hM (by clear hM; omega)]
    simp only [Option.bind_some, eol]
    by_cases q : tx j = 10
    · rw [if_pos q, if_pos q]
      unfold f_M_line_143 f_M_line_158
      rw [x1, x5, x6, pn_sub hsj]
      by_cases q : k1 = 2
      · rw [if_pos q, if_pos q]
      · rw [if_neg q, if_neg q]
    · rw [if_neg q, if_neg q]
      refine ih (j + 1) f _ (by omega) (by omega) (by omega) (by omega) ?_ ?_ ?_
      · rw [upd_ne _ _ (by decide)]; exact x1
      · rw [upd_ne _ _ (by decide)]; exact x5
      · rw [upd_self, pn_succ]
theorem okLn_nat {k2 : Int32} {b : Nat} (hb : b ≤ 160) (h : okLn k2 b = true) : ∃ n, n ≤ b ∧ k2 = Int32.ofNat n := by
  unfold okLn at h
  rw [Bool.and_eq_true] at h
  have a : ¬ k2 < 0 := by simpa using h.1
  have c : k2 < Int32.ofNat (b + 1) := of_decide_eq_true h.2
  have ek := pn_ofclamp a
  refine ⟨k2.toNatClampNeg, ?_, ek.symm⟩
  rw [← ek] at c
  have := (pn_lt (pn_clamp_lt k2) (by omega)).mp c
  omega
theorem okP2_nat {k2 : Int32} {tn : Nat} (hb : tn ≤ 160) (h : okP2 k2 tn = true) : ∃ n, n ≤ tn ∧ k2 = Int32.ofNat n := by
  unfold okP2 at h
  rw [Bool.and_eq_true] at h
  have a : ¬ k2 < 0 := by simpa using h.1
  have c : k2 ≤ Int32.ofNat tn := of_decide_eq_true h.2
  have ek := pn_ofclamp a
  refine ⟨k2.toNatClampNeg, ?_, ek.symm⟩
  rw [← ek] at c
  exact (pn_le (pn_clamp_lt k2) (by omega)).mp c
/-- code of an answer -/
def l_code (t : Nat) : Int32 := if t = 0 then 0 else if t = 2 then 2 else 1
theorem B_line {e : ES} {t : Nat} {cf : Nat → Nat} {I : MI} {A : MA} (h : MRel e t cf I A) (w : EWf e) (k1 k2 : Int32) : Res (f_M_line I A k1 k2) (fun z => z.2.1 0 = l_code (l_tag (e.tn e.p) (e.tx e.p) k1 k2) ∧ (l_tag (e.tn e.p) (e.tx e.p) k1 k2 = 0 → z.1 = l_val (e.tn e.p) (e.tx e.p) k1 k2) ∧ MRel e t cf z.2.1 z.2.2) := by
  have hM := h.txt w
  have ht := hM.t.nb
  have fu := wk_FUEL_big
  obtain ⟨tn, htn⟩ : ∃ z, z = e.tn e.p := ⟨_, rfl⟩
  obtain ⟨tx, htx⟩ : ∃ z, z = e.tx e.p := ⟨_, rfl⟩
  rw [← htn] at ht
  rw [← htn, ← htx] at hM ⊢
  have hb := brk_le tx tn
  obtain ⟨rc, hrc⟩ : ∃ rc, rc = f_M_line_go wk_FUEL := ⟨_, rfl⟩
  obtain ⟨X, hX⟩ : ∃ X, X = upd (upd (upd (fun _ => (0 : Int32)) 1 k1) 2 k2) 3 (Int32.ofNat (brk tx tn + 1)) := ⟨_, rfl⟩
  have x1 : X 1 = k1 := by rw [hX, upd_ne _ _ (by decide), upd_ne _ _ (by decide), upd_self]
  have x2 : X 2 = k2 := by rw [hX, upd_ne _ _ (by decide), upd_self]
  have x3 : X 3 = Int32.ofNat (brk tx tn + 1) := by rw [hX, upd_self]
  have h1le : ¬ (1 : Int32) ≤ 0 := by decide
  have h2le : ¬ (2 : Int32) ≤ 0 := by decide
  have h0le : (0 : Int32) ≤ 0 := by decide
  have h10 : ¬ (1 : Int32) = 0 := by decide
  have bad : ∀ (c : Int32) (Y : Nat → Int32), ¬ c ≤ 0 → f_M_line_75 rc I A Y c = some (0, upd I 0 c, A) := fun c Y hc => by
    unfold f_M_line_75
    simp only [wk_let, upd_self, if_neg hc]
  -- the questions that there are not
  have out : ∀ s0 : Int32, (k1 < 0 ∨ ¬ k1 ≤ 3) → f_M_line_49 rc I A X s0 = some (0, upd I 0 1, A) := fun s0 hk => by
    unfold f_M_line_49 f_M_line_61
    rw [x1]
    by_cases q : k1 < 0
    · rw [if_pos q, bad 1 _ h1le]
    · rw [if_neg q, if_neg (hk.resolve_left q), bad 1 _ h1le]
  have in0 : ¬ (k1 < 0 ∨ ¬ k1 ≤ 3) → f_M_line_49 rc I A X 0 = some (0, upd I 0 2, A) := fun hk => by
    have a : ¬ k1 < 0 := fun z => hk (Or.inl z)
    have b : k1 ≤ 3 := Classical.byContradiction (fun z => hk (Or.inr z))
    unfold f_M_line_49
    rw [x1, if_neg a, if_pos b, if_pos rfl, bad 2 _ h2le]
  have in1 : ¬ (k1 < 0 ∨ ¬ k1 ≤ 3) → f_M_line_49 rc I A X 1 = f_M_line_75 rc I A (upd X 4 1) 0 := fun hk => by
    have a : ¬ k1 < 0 := fun z => hk (Or.inl z)
    have b : k1 ≤ 3 := Classical.byContradiction (fun z => hk (Or.inr z))
    unfold f_M_line_49
    rw [x1, if_neg a, if_pos b, if_neg h10]
  have start : f_M_line I A k1 k2 = if k1 = 0 then f_M_line_44 rc I A X else if k1 = 1 then if k2 < 0 then f_M_line_48 rc I A X else (if Int32.ofNat tn < k2 then f_M_line_48 rc I A X else f_M_line_44 rc I A X) else if k2 < 0 then f_M_line_48 rc I A X else if Int32.ofNat (brk tx tn + 1) ≤ k2 then f_M_line_48 rc I A X else f_M_line_44 rc I A X := by
    unfold f_M_line f_M_line_e
    rw [← hrc, B_len hM]
    simp only [Option.bind_some]
    rw [B_brk hM (Nat.le_refl _)]
    simp only [Option.bind_some, pn_succ]
    rw [← hX, B_len hM]
    simp only [Option.bind_some]
  rw [start]
  unfold f_M_line_44 f_M_line_48
  have M4 : ∀ c, MTxt (upd I 0 c) A tn tx e.p := fun c => hM.i4 (show upd I 0 c 4 = I 4 from upd_ne _ _ (by decide))
  have res : ∀ (c r : Int32), c = l_code (l_tag tn tx k1 k2) → (l_tag tn tx k1 k2 = 0 → r = l_val tn tx k1 k2) → Res (some (r, upd I 0 c, A)) (fun z => z.2.1 0 = l_code (l_tag tn tx k1 k2) ∧ (l_tag tn tx k1 k2 = 0 → z.1 = l_val tn tx k1 k2) ∧ MRel e t cf z.2.1 z.2.2) := fun c r hc hr => Res.mk ⟨(upd_self I 0 c).trans hc, hr, h.i0 c⟩
  by_cases q0 : k1 = 0
  · rw [if_pos q0, in1 (by rw [q0]; decide)]
    unfold f_M_line_75 f_M_line_105
    simp only [wk_let, upd_self, if_pos h0le]
    have y1 : upd X 4 1 1 = 0 := by rw [upd_ne _ _ (by decide), x1, q0]
    have y3 : upd X 4 1 3 = Int32.ofNat (brk tx tn + 1) := by rw [upd_ne _ _ (by decide), x3]
    rw [y1, if_neg (show ¬ (2 : Int32) ≤ 0 by decide), if_pos rfl, y3]
    refine res 0 _ ?_ (fun _ => ?_)
    · unfold l_tag l_code; rw [if_pos q0, if_pos rfl]
    · unfold l_val; rw [if_pos q0]
  rw [if_neg q0]
  by_cases q1 : k1 = 1
  · rw [if_pos q1]
    have ki : ¬ (k1 < 0 ∨ ¬ k1 ≤ 3) := by rw [q1]; decide
    have ltag : ∀ b : Bool, okP2 k2 tn = b → l_tag tn tx k1 k2 = if b = true then 0 else 2 := fun b hb => by unfold l_tag; rw [if_neg q0, if_pos q1, hb]
    by_cases a : k2 < 0
    · rw [if_pos a, in0 ki]
      have := ltag false (by unfold okP2; rw [decide_eq_true a]; rfl)
      refine res 2 _ (by rw [this]; rfl) (fun z => by rw [this] at z; cases z)
    · rw [if_neg a]
      by_cases b : Int32.ofNat tn < k2
      · rw [if_pos b, in0 ki]
        have := ltag false (by unfold okP2; rw [decide_eq_false (fun z => (Int32.not_lt.mpr z) b), Bool.and_false])
        refine res 2 _ (by rw [this]; rfl) (fun z => by rw [this] at z; cases z)
      · rw [if_neg b, in1 ki]
        have okp : okP2 k2 tn = true := by unfold okP2; rw [decide_eq_false a, decide_eq_true (Int32.not_lt.mp b)]; rfl
        have := ltag true okp
        obtain ⟨n, hn, en⟩ := okP2_nat ht okp
        unfold f_M_line_75 f_M_line_105
        simp only [wk_let, upd_self, if_pos h0le]
        have y1 : upd X 4 1 1 = 1 := by rw [upd_ne _ _ (by decide), x1, q1]
        have y2 : upd X 4 1 2 = Int32.ofNat n := by rw [upd_ne _ _ (by decide), x2, en]
        rw [y1, if_neg (show ¬ (2 : Int32) ≤ 1 by decide), if_neg h10, y2, B_brk (M4 0) hn]
        simp only [Option.bind_some]
        refine res 0 _ (by rw [this]; rfl) (fun _ => ?_)
        unfold l_val
        rw [if_neg q0, if_pos q1, en, pn_nat (show n < 2147483648 by omega)]
  rw [if_neg q1]
  by_cases kk : k1 < 0 ∨ ¬ k1 ≤ 3
  · have n2 : ¬ k1 = 2 := fun z => by rw [z] at kk; revert kk; decide
    have n3 : ¬ k1 = 3 := fun z => by rw [z] at kk; revert kk; decide
    have tag : l_tag tn tx k1 k2 = 3 := by unfold l_tag; rw [if_neg q0, if_neg q1, if_neg n2, if_neg n3]
    have fin : ∀ r, Res (some (r, upd I 0 1, A)) (fun z => z.2.1 0 = l_code (l_tag tn tx k1 k2) ∧ (l_tag tn tx k1 k2 = 0 → z.1 = l_val tn tx k1 k2) ∧ MRel e t cf z.2.1 z.2.2) := fun r => res 1 r (by rw [tag]; rfl) (fun z => by rw [tag] at z; cases z)
    rw [out 0 kk, out 1 kk]
    split
    · exact fin 0
    · split <;> exact fin 0
  · have ki : ¬ k1 < 0 := fun z => kk (Or.inl z)
    have k3 : k1 ≤ 3 := Classical.byContradiction (fun z => kk (Or.inr z))
    have h23 : k1 = 2 ∨ k1 = 3 := by
      have ek := pn_ofclamp ki
      have hbk := pn_clamp_lt k1
      rw [← ek] at k3 q0 q1 ⊢
      have c3 := (pn_lec (x := 3) 3 rfl hbk (by omega)).mp k3
      have d0 : ¬ k1.toNatClampNeg = 0 := fun z => q0 ((pn_eqc (x := 0) 0 rfl hbk (by omega)).mpr z)
      have d1 : ¬ k1.toNatClampNeg = 1 := fun z => q1 ((pn_eqc (x := 1) 1 rfl hbk (by omega)).mpr z)
      rcases (show k1.toNatClampNeg = 2 ∨ k1.toNatClampNeg = 3 by omega) with z | z
      · left; rw [z]; rfl
      · right; rw [z]; rfl
    have ltag : ∀ b : Bool, okLn k2 (brk tx tn) = b → l_tag tn tx k1 k2 = if b = true then 0 else 2 := fun b hb => by
      unfold l_tag
      rw [if_neg q0, if_neg q1, hb]
      rcases h23 with z | z
      · rw [if_pos z]
      · rw [if_neg (by rw [z]; decide), if_pos z]
    by_cases a : k2 < 0
    · rw [if_pos a, in0 kk]
      have := ltag false (by unfold okLn; rw [decide_eq_true a]; rfl)
      refine res 2 _ (by rw [this]; rfl) (fun z => by rw [this] at z; cases z)
    · rw [if_neg a]
      by_cases b : Int32.ofNat (brk tx tn + 1) ≤ k2
      · rw [if_pos b, in0 kk]
        have := ltag false (by unfold okLn; rw [decide_eq_false (fun z => (Int32.not_lt.mpr b) z), Bool.and_false])
        refine res 2 _ (by rw [this]; rfl) (fun z => by rw [this] at z; cases z)
      · rw [if_neg b, in1 kk]
        have okl : okLn k2 (brk tx tn) = true := by unfold okLn; rw [decide_eq_false a, decide_eq_true (Int32.not_le.mp b)]; rfl
        have := ltag true okl
        obtain ⟨n, hn, en⟩ := okLn_nat (by omega) okl
        have hl := lst_le tx n tn 0
        unfold f_M_line_75
        simp only [wk_let, upd_self, if_pos h0le]
        have y1 : upd X 4 1 1 = k1 := by rw [upd_ne _ _ (by decide), x1]
        have y2 : upd X 4 1 2 = Int32.ofNat n := by rw [upd_ne _ _ (by decide), x2, en]
        have t2 : (2 : Int32) ≤ k1 := by rcases h23 with z | z <;> rw [z] <;> decide
        rw [y1, if_pos t2, y2, B_lst (M4 0) hn]
        simp only [Option.bind_some]
        rw [hrc, B_eol_go (k1 := k1) (s := lst tx n tn 0) (M4 0) (by omega) (tn - lst tx n tn 0) (lst tx n tn 0) wk_FUEL _ rfl (by omega) (Nat.le_refl _) (by clear h hM w; omega) (by rw [upd_ne _ _ (by decide), upd_ne _ _ (by decide)]; exact y1) (by rw [upd_ne _ _ (by decide), upd_self]) (upd_self _ _ _)]
        refine res 0 _ (by rw [this]; rfl) (fun _ => ?_)
        unfold l_val l_beg
        rw [if_neg q0, if_neg q1, en, pn_nat (show n < 2147483648 by omega)]
